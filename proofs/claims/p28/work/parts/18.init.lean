/-! ===== rows that make objects and arrays ===== -/
section JR10
variable {x : Cx} {l0 : Launch} {D0 : va_G} {Y : Nat → ClassId} {cc : ByteArray} {own : String} {Ts : List Cond} {nL0 : Nat} {R0 : Room} {ret : Option FieldType} {nm : String} {k n : Nat} {ws : va_W} {pc : Nat} {lv : List (Nat × Value)} {st : List Value}
theorem j_newa (G : jG x l0 D0 Y cc own Ts nL0 R0 ret nm) {t : ArrayType} {ty : FieldType} {N' : Nat} {v : Int} {a0 : vp_A} {nmA : String} (ci : Nat) (hty : newarray.typeOf t = ty) (hY : (TY Y)[ci]? = some (Y ci, ty)) (hRA : ∀ (U : State) (c : ClassId), va_RA U c ty → U.vm.findClass nmA = some c) (harr : Cond.arrayClass (newarray.typeOf t) ∈ Ts) (ha : ∀ cA : ClassId, vp_cell cA a0 = arrV cA N' (fun _ => defaultValue ty)) (h0 : ¬ jI v < 0) (h1 : (jI v).toNatClampNeg = N') (hb' : N' * componentBytes ty ≤ 536870912) (hc : k + 1 ≤ R0.cells) (hs : n + N' ≤ R0.slots) (hdg : decode cc pc = .ok (.newarray t, 2))
    (kk : ∀ q : Nat, J x (k + 1) (n + N') (ws ++ [(q, .inl (Y ci, a0))]) (pc + 2) lv (.ref q :: st)) : J x k n ws pc lv (.int (jI v) :: st) := by
  obtain ⟨p, l, e, R, s, m, args, below, meth, c, Q, D, A, nL⟩ := x
  obtain ⟨rfl, rfl, rfl, rfl, hx, hb, hml, hown, hts, hK, hN, hT', hA, hlk, hr, hnm⟩ := G
  intro H locs ls hP hD hS hl
  refine va_newa hx hb (hts _ harr) hty hK hP hD hS hA ha h0 h1 hb' hc hs hdg (fun q cA H1 hK1 hP1 hD1 hS1 => ?_)
  have e1 := hRA s cA (hK1.2 (TY Y).length (cA, ty) (by rw [List.getElem?_append_right (Nat.le_refl _), Nat.sub_self]; rfl)).2
  have e2 := hRA s (Y ci) (hK.2 ci _ hY).2
  have e3 : cA = Y ci := Option.some.inj (e1.symm.trans e2)
  subst e3
  exact kk q H1 locs ls hP1 hD1 hS1 hl
theorem j_newq (G : jG x l0 D0 Y cc own Ts nL0 R0 ret nm) {C : String} {index N' : Nat} {v : Int} (ci : Nat) (hY : (TY Y)[ci]? = some (Y ci, .object C)) (hcl : Cond.classLink own index C ∈ Ts) (hAO : ∀ s : State, NW s → va_AO C s) (h0 : ¬ jI v < 0) (h1 : (jI v).toNatClampNeg = N') (hb' : N' * 4 ≤ 536870912) (hc : k + 1 ≤ R0.cells) (hs : n + N' ≤ R0.slots) (hdg : decode cc pc = .ok (.anewarray index, 3))
    (kk : ∀ q : Nat, J x (k + 1) (n + N') (ws ++ [(q, .inl (Y ci, N', .inr (.inr (.inr (.inr (fun _ => none))))))]) (pc + 3) lv (.ref q :: st)) : J x k n ws pc lv (.int (jI v) :: st) := by
  obtain ⟨p, l, e, R, s, m, args, below, meth, c, Q, D, A, nL⟩ := x
  obtain ⟨rfl, rfl, rfl, rfl, hx, hb, hml, hown, hts, hK, hN, hT', hA, hlk, hr, hnm⟩ := G
  intro H locs ls hP hD hS hl
  refine va_newq hx hb hown (hts _ hcl) (hAO s hN) hK hP hD hS hA h0 h1 hb' hc hs hdg (fun q cA H1 hK1 hP1 hD1 hS1 => ?_)
  obtain ⟨_, _, _, _, _, e1⟩ := (hK1.2 (TY Y).length (cA, .object C) (by rw [List.getElem?_append_right (Nat.le_refl _), Nat.sub_self]; rfl)).2
  obtain ⟨_, _, _, _, _, e2⟩ := (hK.2 ci _ hY).2
  have e3 : cA = Y ci := Option.some.inj (e1.symm.trans e2)
  subst e3
  exact kk q H1 locs ls hP1 hD1 hS1 hl
theorem j_new (G : jG x l0 D0 Y cc own Ts nL0 R0 ret nm) {C : String} {T : u_T} {N ci index : Nat} {fs : List Value} (hin : ∀ w ∈ u_ws C T N, w ∈ Ts) (ty : Nat → FieldType) (hty : ∀ k, k < N → parseFieldDescriptor (T k).2.2.1 = some (ty k)) (hcl : Cond.classLink own index C ∈ Ts) (hinst : Cond.instantiable C N ∈ Ts) (hini : Cond.initialized C ∈ Ts) (hc : vwCl[ci]? = some (C, T, N)) (hfs : ∀ j, j < N → defaultValue (ty j) = vp_V fs j) (hce : k + 1 ≤ R0.cells) (hsl : n + N ≤ R0.slots) (hdg : decode cc pc = .ok (.new index, 3))
    (kk : ∀ q : Nat, J x (k + 1) (n + N) (ws ++ [(q, .inr (ci, fs))]) (pc + 3) lv (.ref q :: st)) : J x k n ws pc lv st := by
  obtain ⟨p, l, e, R, s, m, args, below, meth, c, Q, D, A, nL⟩ := x
  obtain ⟨rfl, rfl, rfl, rfl, hx, hb, hml, hown, hts, hK, hN, hT', hA, hlk, hr, hnm⟩ := G
  intro H locs ls hP hD hS hl
  exact va_new hx hb hts hin ty hty hown (hts _ hcl) (hts _ hinst) (hts _ hini) hK hP hD hS hA hc hfs hce hsl hdg (fun q H1 hP1 hD1 hS1 => kk q H1 locs ls hP1 hD1 hS1 hl)
end JR10
def r4o (a b c d : Option Nat) : Nat → Option Nat := fun j => if j = 0 then a else if j = 1 then b else if j = 2 then c else d
/-- the settings, and the state, at the beginning -/
def fSet (i : Int) : Int := if i = 0 then 8 else if i = 1 then 0 else 3
theorem fSet_t {i : Int} (h : 0 ≤ i ∧ i < 3) : sF 8 0 3 i.toNat = .int (jI (fSet i)) := by
  rcases (show i = 0 ∨ i = 1 ∨ i = 2 by omega) with e | e | e <;> subst e <;> rfl
def z0 : Int → Int := fun j => if j = 0 ∨ j = 16 ∨ j = 20 ∨ j = 24 then 8 else if j = 2 then 3 else if 7 ≤ j ∧ j < 15 then -5 else if j = 19 then 1 else if j = 23 then 2 else 0
def qOf (as : List Nat) : Nat → Nat := fun j => as.getD j 0
set_option maxHeartbeats 4000000 in
set_option maxRecDepth 100000 in
theorem c_X0_init (l : Launch) (D : va_G) (Y : Nat → ClassId) (h : Nat) : jM l yX0_init wsX0_init { frames := 1, cells := 1, slots := 60, locals := 12 } D Y [.ref h] [ob h 0 [.null, .int (jI 0), .int (jI 0), .int (jI 0), .int (jI 0), .int (jI 0)]] (fun v_ w_ => ∃ (q : Nat), v_ = none ∧ w_ = (dV Y h q (fun _ => 0) 0 0 0 0 0)) 1 60 := by
  refine jM_of (cc := cX0_init) (maxL := 1) (ret := none) (by decide) rfl (Nat.le_of_ble_eq_true rfl) (fun v w' h => by obtain ⟨_, h⟩ := h; exact Or.inl ⟨rfl, h.1⟩) ?_
  intro x G kr0
  have G : jG x l D Y cX0_init RX0 wsX0_init 1 ({ frames := 1, cells := 1, slots := 60, locals := 12 } : Room) none "<init>" := G
  have hinX0 : ∀ w ∈ wsX00, w ∈ wsX0_init := fun _ h => List.mem_cons_of_mem _ (List.mem_append_right _ h)
  show J x 0 0 ([ob h 0 [.null, .int (jI 0), .int (jI 0), .int (jI 0), .int (jI 0), .int (jI 0)]]) 0 [(0, .ref h)] []
  refine j_aload_n G 0 dX0_init_0 rfl ?_
  refine j_objInit G dX0_init_1 (by decide +kernel) (by decide +kernel) (by decide +kernel) (by decide) (Nat.le_of_ble_eq_true rfl) ?_
  refine j_aload_n G 0 dX0_init_4 rfl ?_
  refine j_bipush G dX0_init_5 (v := 60) rfl ?_
  refine j_newa (t := .char) (ty := .char) (N' := 60) (v := 60) (a0 := (60, .inl (aI (fun _ => 0)))) (nmA := "[" ++ FieldType.char.toString) G 2 rfl rfl (fun _ _ h => h) (List.mem_of_getElem? (i := 4) rfl) (fun _ => rfl) (by decide) (by decide) (Nat.le_of_ble_eq_true rfl) (Nat.le_of_ble_eq_true rfl) (Nat.le_of_ble_eq_true rfl) dX0_init_7 (fun a_1 => ?_)
  show J x 1 60 ([ob h 0 [.null, .int (jI 0), .int (jI 0), .int (jI 0), .int (jI 0), .int (jI 0)], aC Y a_1 60 (fun _ => 0)]) 9 [(0, .ref h)] [.ref a_1, .ref h]
  refine j_putF (q := 0) (C := RX0) (T := TX0) (N := 6) (ws' := [ob h 0 [.ref a_1, .int (jI 0), .int (jI 0), .int (jI 0), .int (jI 0), .int (jI 0)], aC Y a_1 60 (fun _ => 0)]) G 0 hinX0 tyX0 tyX0_ok nmX0 rfl dX0_init_9 rfl rfl (by decide) (by decide +kernel) rfl rfl rfl rfl rfl (Nat.le_of_ble_eq_true rfl) rfl ?_
  exact j_retv G dX0_init_12 (jLe.rf _) (kr0 _ _ ⟨a_1, rfl, rfl⟩)

set_option maxHeartbeats 4000000 in
set_option maxRecDepth 100000 in
theorem c_X2_init (l : Launch) (D : va_G) (Y : Nat → ClassId) (h : Nat) : jM l yX2_init wsX2_init { frames := 1, cells := 2, slots := 128, locals := 12 } D Y [.ref h] [ob h 2 [.null, .null, .int (jI 0)]] (fun v_ w_ => ∃ (q : Nat → Nat), v_ = none ∧ w_ = (pV Y h q (fun _ => 0) (fun _ => 0) 0)) 2 128 := by
  refine jM_of (cc := cX2_init) (maxL := 1) (ret := none) (by decide) rfl (Nat.le_of_ble_eq_true rfl) (fun v w' h => by obtain ⟨_, h⟩ := h; exact Or.inl ⟨rfl, h.1⟩) ?_
  intro x G kr0
  have G : jG x l D Y cX2_init RX2 wsX2_init 1 ({ frames := 1, cells := 2, slots := 128, locals := 12 } : Room) none "<init>" := G
  have hinX2 : ∀ w ∈ wsX20, w ∈ wsX2_init := fun _ h => List.mem_cons_of_mem _ (List.mem_append_right _ h)
  show J x 0 0 ([ob h 2 [.null, .null, .int (jI 0)]]) 0 [(0, .ref h)] []
  refine j_aload_n G 0 dX2_init_0 rfl ?_
  refine j_objInit G dX2_init_1 (by decide +kernel) (by decide +kernel) (by decide +kernel) (by decide) (Nat.le_of_ble_eq_true rfl) ?_
  refine j_aload_n G 0 dX2_init_4 rfl ?_
  refine j_bipush G dX2_init_5 (v := 64) rfl ?_
  refine j_newa (t := .int) (ty := .int) (N' := 64) (v := 64) (a0 := (64, .inl (aI (fun _ => 0)))) (nmA := "[" ++ FieldType.int.toString) G 0 rfl rfl (fun _ _ h => h) (List.mem_of_getElem? (i := 4) rfl) (fun _ => rfl) (by decide) (by decide) (Nat.le_of_ble_eq_true rfl) (Nat.le_of_ble_eq_true rfl) (Nat.le_of_ble_eq_true rfl) dX2_init_7 (fun a_1 => ?_)
  show J x 1 64 ([ob h 2 [.null, .null, .int (jI 0)], aN Y a_1 64 (fun _ => 0)]) 9 [(0, .ref h)] [.ref a_1, .ref h]
  refine j_putF (q := 0) (C := RX2) (T := TX2) (N := 3) (ws' := [ob h 2 [.ref a_1, .null, .int (jI 0)], aN Y a_1 64 (fun _ => 0)]) G 0 hinX2 tyX2 tyX2_ok nmX2 rfl dX2_init_9 rfl rfl (by decide) (by decide +kernel) rfl rfl rfl rfl rfl (Nat.le_of_ble_eq_true rfl) rfl ?_
  refine j_aload_n G 0 dX2_init_12 rfl ?_
  refine j_bipush G dX2_init_13 (v := 64) rfl ?_
  refine j_newa (t := .int) (ty := .int) (N' := 64) (v := 64) (a0 := (64, .inl (aI (fun _ => 0)))) (nmA := "[" ++ FieldType.int.toString) G 0 rfl rfl (fun _ _ h => h) (List.mem_of_getElem? (i := 4) rfl) (fun _ => rfl) (by decide) (by decide) (Nat.le_of_ble_eq_true rfl) (Nat.le_of_ble_eq_true rfl) (Nat.le_of_ble_eq_true rfl) dX2_init_15 (fun a_2 => ?_)
  show J x 2 128 ([ob h 2 [.ref a_1, .null, .int (jI 0)], aN Y a_1 64 (fun _ => 0), aN Y a_2 64 (fun _ => 0)]) 17 [(0, .ref h)] [.ref a_2, .ref h]
  refine j_putF (q := 1) (C := RX2) (T := TX2) (N := 3) (ws' := [ob h 2 [.ref a_1, .ref a_2, .int (jI 0)], aN Y a_1 64 (fun _ => 0), aN Y a_2 64 (fun _ => 0)]) G 0 hinX2 tyX2 tyX2_ok nmX2 rfl dX2_init_17 rfl rfl (by decide) (by decide +kernel) rfl rfl rfl rfl rfl (Nat.le_of_ble_eq_true rfl) rfl ?_
  exact j_retv G dX2_init_20 (jLe.rf _) (kr0 _ _ ⟨qOf [a_1, a_2], rfl, rfl⟩)

set_option maxHeartbeats 4000000 in
set_option maxRecDepth 100000 in
theorem c_X3_init (l : Launch) (D : va_G) (Y : Nat → ClassId) (h : Nat) : jM l yX3_init wsX3_init { frames := 1, cells := 8, slots := 151, locals := 12 } D Y [.ref h] [ob h 3 [.null, .null, .int (jI 0), .null, .null, .null, .null, .null, .null, .int (jI 0), .int (jI 0), .int (jI 0), .int (jI 0)]] (fun v_ w_ => ∃ (q : Nat → Nat), v_ = none ∧ w_ = (wZ Y h q z0)) 8 151 := by
  refine jM_of (cc := cX3_init) (maxL := 2) (ret := none) (by decide) rfl (Nat.le_of_ble_eq_true rfl) (fun v w' h => by obtain ⟨_, h⟩ := h; exact Or.inl ⟨rfl, h.1⟩) ?_
  intro x G kr0
  have G : jG x l D Y cX3_init RX3 wsX3_init 2 ({ frames := 1, cells := 8, slots := 151, locals := 12 } : Room) none "<init>" := G
  have hinX3 : ∀ w ∈ wsX30, w ∈ wsX3_init := fun _ h => List.mem_cons_of_mem _ (List.mem_append_right _ h)
  show J x 0 0 ([ob h 3 [.null, .null, .int (jI 0), .null, .null, .null, .null, .null, .null, .int (jI 0), .int (jI 0), .int (jI 0), .int (jI 0)]]) 0 [(0, .ref h)] []
  refine j_aload_n G 0 dX3_init_0 rfl ?_
  refine j_objInit G dX3_init_1 (by decide +kernel) (by decide +kernel) (by decide +kernel) (by decide) (Nat.le_of_ble_eq_true rfl) ?_
  refine j_aload_n G 0 dX3_init_4 rfl ?_
  refine j_bipush G dX3_init_5 (v := 64) rfl ?_
  refine j_newa (t := .int) (ty := .int) (N' := 64) (v := 64) (a0 := (64, .inl (aI (fun _ => 0)))) (nmA := "[" ++ FieldType.int.toString) G 0 rfl rfl (fun _ _ h => h) (List.mem_of_getElem? (i := 4) rfl) (fun _ => rfl) (by decide) (by decide) (Nat.le_of_ble_eq_true rfl) (Nat.le_of_ble_eq_true rfl) (Nat.le_of_ble_eq_true rfl) dX3_init_7 (fun a_1 => ?_)
  show J x 1 64 ([ob h 3 [.null, .null, .int (jI 0), .null, .null, .null, .null, .null, .null, .int (jI 0), .int (jI 0), .int (jI 0), .int (jI 0)], aN Y a_1 64 (fun _ => 0)]) 9 [(0, .ref h)] [.ref a_1, .ref h]
  refine j_putF (q := 0) (C := RX3) (T := TX3) (N := 13) (ws' := [ob h 3 [.ref a_1, .null, .int (jI 0), .null, .null, .null, .null, .null, .null, .int (jI 0), .int (jI 0), .int (jI 0), .int (jI 0)], aN Y a_1 64 (fun _ => 0)]) G 0 hinX3 tyX3 tyX3_ok nmX3 rfl dX3_init_9 rfl rfl (by decide) (by decide +kernel) rfl rfl rfl rfl rfl (Nat.le_of_ble_eq_true rfl) rfl ?_
  refine j_aload_n G 0 dX3_init_12 rfl ?_
  refine j_bipush G dX3_init_13 (v := 64) rfl ?_
  refine j_newa (t := .boolean) (ty := .boolean) (N' := 64) (v := 64) (a0 := (64, .inl (aI (fun _ => 0)))) (nmA := "[" ++ FieldType.boolean.toString) G 1 rfl rfl (fun _ _ h => h) (List.mem_of_getElem? (i := 6) rfl) (fun _ => rfl) (by decide) (by decide) (Nat.le_of_ble_eq_true rfl) (Nat.le_of_ble_eq_true rfl) (Nat.le_of_ble_eq_true rfl) dX3_init_15 (fun a_2 => ?_)
  show J x 2 128 ([ob h 3 [.ref a_1, .null, .int (jI 0), .null, .null, .null, .null, .null, .null, .int (jI 0), .int (jI 0), .int (jI 0), .int (jI 0)], aN Y a_1 64 (fun _ => 0), aZ Y a_2 64 (fun _ => 0)]) 17 [(0, .ref h)] [.ref a_2, .ref h]
  refine j_putF (q := 1) (C := RX3) (T := TX3) (N := 13) (ws' := [ob h 3 [.ref a_1, .ref a_2, .int (jI 0), .null, .null, .null, .null, .null, .null, .int (jI 0), .int (jI 0), .int (jI 0), .int (jI 0)], aN Y a_1 64 (fun _ => 0), aZ Y a_2 64 (fun _ => 0)]) G 0 hinX3 tyX3 tyX3_ok nmX3 rfl dX3_init_17 rfl rfl (by decide) (by decide +kernel) rfl rfl rfl rfl rfl (Nat.le_of_ble_eq_true rfl) rfl ?_
  refine j_aload_n G 0 dX3_init_20 rfl ?_
  refine j_iconst G dX3_init_21 (v := 3) rfl ?_
  refine j_newa (t := .int) (ty := .int) (N' := 3) (v := 3) (a0 := (3, .inl (aI (fun _ => 0)))) (nmA := "[" ++ FieldType.int.toString) G 0 rfl rfl (fun _ _ h => h) (List.mem_of_getElem? (i := 4) rfl) (fun _ => rfl) (by decide) (by decide) (Nat.le_of_ble_eq_true rfl) (Nat.le_of_ble_eq_true rfl) (Nat.le_of_ble_eq_true rfl) dX3_init_22 (fun a_3 => ?_)
  show J x 3 131 ([ob h 3 [.ref a_1, .ref a_2, .int (jI 0), .null, .null, .null, .null, .null, .null, .int (jI 0), .int (jI 0), .int (jI 0), .int (jI 0)], aN Y a_1 64 (fun _ => 0), aZ Y a_2 64 (fun _ => 0), aN Y a_3 3 (fun _ => 0)]) 24 [(0, .ref h)] [.ref a_3, .ref h]
  refine j_putF (q := 3) (C := RX3) (T := TX3) (N := 13) (ws' := [ob h 3 [.ref a_1, .ref a_2, .int (jI 0), .ref a_3, .null, .null, .null, .null, .null, .int (jI 0), .int (jI 0), .int (jI 0), .int (jI 0)], aN Y a_1 64 (fun _ => 0), aZ Y a_2 64 (fun _ => 0), aN Y a_3 3 (fun _ => 0)]) G 0 hinX3 tyX3 tyX3_ok nmX3 rfl dX3_init_24 rfl rfl (by decide) (by decide +kernel) rfl rfl rfl rfl rfl (Nat.le_of_ble_eq_true rfl) rfl ?_
  refine j_aload_n G 0 dX3_init_27 rfl ?_
  refine j_iconst G dX3_init_28 (v := 3) rfl ?_
  refine j_newa (t := .int) (ty := .int) (N' := 3) (v := 3) (a0 := (3, .inl (aI (fun _ => 0)))) (nmA := "[" ++ FieldType.int.toString) G 0 rfl rfl (fun _ _ h => h) (List.mem_of_getElem? (i := 4) rfl) (fun _ => rfl) (by decide) (by decide) (Nat.le_of_ble_eq_true rfl) (Nat.le_of_ble_eq_true rfl) (Nat.le_of_ble_eq_true rfl) dX3_init_29 (fun a_4 => ?_)
  show J x 4 134 ([ob h 3 [.ref a_1, .ref a_2, .int (jI 0), .ref a_3, .null, .null, .null, .null, .null, .int (jI 0), .int (jI 0), .int (jI 0), .int (jI 0)], aN Y a_1 64 (fun _ => 0), aZ Y a_2 64 (fun _ => 0), aN Y a_3 3 (fun _ => 0), aN Y a_4 3 (fun _ => 0)]) 31 [(0, .ref h)] [.ref a_4, .ref h]
  refine j_putF (q := 4) (C := RX3) (T := TX3) (N := 13) (ws' := [ob h 3 [.ref a_1, .ref a_2, .int (jI 0), .ref a_3, .ref a_4, .null, .null, .null, .null, .int (jI 0), .int (jI 0), .int (jI 0), .int (jI 0)], aN Y a_1 64 (fun _ => 0), aZ Y a_2 64 (fun _ => 0), aN Y a_3 3 (fun _ => 0), aN Y a_4 3 (fun _ => 0)]) G 0 hinX3 tyX3 tyX3_ok nmX3 rfl dX3_init_31 rfl rfl (by decide) (by decide +kernel) rfl rfl rfl rfl rfl (Nat.le_of_ble_eq_true rfl) rfl ?_
  refine j_aload_n G 0 dX3_init_34 rfl ?_
  refine j_iconst G dX3_init_35 (v := 3) rfl ?_
  refine j_newa (t := .int) (ty := .int) (N' := 3) (v := 3) (a0 := (3, .inl (aI (fun _ => 0)))) (nmA := "[" ++ FieldType.int.toString) G 0 rfl rfl (fun _ _ h => h) (List.mem_of_getElem? (i := 4) rfl) (fun _ => rfl) (by decide) (by decide) (Nat.le_of_ble_eq_true rfl) (Nat.le_of_ble_eq_true rfl) (Nat.le_of_ble_eq_true rfl) dX3_init_36 (fun a_5 => ?_)
  show J x 5 137 ([ob h 3 [.ref a_1, .ref a_2, .int (jI 0), .ref a_3, .ref a_4, .null, .null, .null, .null, .int (jI 0), .int (jI 0), .int (jI 0), .int (jI 0)], aN Y a_1 64 (fun _ => 0), aZ Y a_2 64 (fun _ => 0), aN Y a_3 3 (fun _ => 0), aN Y a_4 3 (fun _ => 0), aN Y a_5 3 (fun _ => 0)]) 38 [(0, .ref h)] [.ref a_5, .ref h]
  refine j_putF (q := 5) (C := RX3) (T := TX3) (N := 13) (ws' := [ob h 3 [.ref a_1, .ref a_2, .int (jI 0), .ref a_3, .ref a_4, .ref a_5, .null, .null, .null, .int (jI 0), .int (jI 0), .int (jI 0), .int (jI 0)], aN Y a_1 64 (fun _ => 0), aZ Y a_2 64 (fun _ => 0), aN Y a_3 3 (fun _ => 0), aN Y a_4 3 (fun _ => 0), aN Y a_5 3 (fun _ => 0)]) G 0 hinX3 tyX3 tyX3_ok nmX3 rfl dX3_init_38 rfl rfl (by decide) (by decide +kernel) rfl rfl rfl rfl rfl (Nat.le_of_ble_eq_true rfl) rfl ?_
  refine j_aload_n G 0 dX3_init_41 rfl ?_
  refine j_iconst G dX3_init_42 (v := 3) rfl ?_
  refine j_newa (t := .int) (ty := .int) (N' := 3) (v := 3) (a0 := (3, .inl (aI (fun _ => 0)))) (nmA := "[" ++ FieldType.int.toString) G 0 rfl rfl (fun _ _ h => h) (List.mem_of_getElem? (i := 4) rfl) (fun _ => rfl) (by decide) (by decide) (Nat.le_of_ble_eq_true rfl) (Nat.le_of_ble_eq_true rfl) (Nat.le_of_ble_eq_true rfl) dX3_init_43 (fun a_6 => ?_)
  show J x 6 140 ([ob h 3 [.ref a_1, .ref a_2, .int (jI 0), .ref a_3, .ref a_4, .ref a_5, .null, .null, .null, .int (jI 0), .int (jI 0), .int (jI 0), .int (jI 0)], aN Y a_1 64 (fun _ => 0), aZ Y a_2 64 (fun _ => 0), aN Y a_3 3 (fun _ => 0), aN Y a_4 3 (fun _ => 0), aN Y a_5 3 (fun _ => 0), aN Y a_6 3 (fun _ => 0)]) 45 [(0, .ref h)] [.ref a_6, .ref h]
  refine j_putF (q := 6) (C := RX3) (T := TX3) (N := 13) (ws' := [ob h 3 [.ref a_1, .ref a_2, .int (jI 0), .ref a_3, .ref a_4, .ref a_5, .ref a_6, .null, .null, .int (jI 0), .int (jI 0), .int (jI 0), .int (jI 0)], aN Y a_1 64 (fun _ => 0), aZ Y a_2 64 (fun _ => 0), aN Y a_3 3 (fun _ => 0), aN Y a_4 3 (fun _ => 0), aN Y a_5 3 (fun _ => 0), aN Y a_6 3 (fun _ => 0)]) G 0 hinX3 tyX3 tyX3_ok nmX3 rfl dX3_init_45 rfl rfl (by decide) (by decide +kernel) rfl rfl rfl rfl rfl (Nat.le_of_ble_eq_true rfl) rfl ?_
  refine j_aload_n G 0 dX3_init_48 rfl ?_
  refine j_bipush G dX3_init_49 (v := 8) rfl ?_
  refine j_newa (t := .int) (ty := .int) (N' := 8) (v := 8) (a0 := (8, .inl (aI (fun _ => 0)))) (nmA := "[" ++ FieldType.int.toString) G 0 rfl rfl (fun _ _ h => h) (List.mem_of_getElem? (i := 4) rfl) (fun _ => rfl) (by decide) (by decide) (Nat.le_of_ble_eq_true rfl) (Nat.le_of_ble_eq_true rfl) (Nat.le_of_ble_eq_true rfl) dX3_init_51 (fun a_7 => ?_)
  show J x 7 148 ([ob h 3 [.ref a_1, .ref a_2, .int (jI 0), .ref a_3, .ref a_4, .ref a_5, .ref a_6, .null, .null, .int (jI 0), .int (jI 0), .int (jI 0), .int (jI 0)], aN Y a_1 64 (fun _ => 0), aZ Y a_2 64 (fun _ => 0), aN Y a_3 3 (fun _ => 0), aN Y a_4 3 (fun _ => 0), aN Y a_5 3 (fun _ => 0), aN Y a_6 3 (fun _ => 0), aN Y a_7 8 (fun _ => 0)]) 53 [(0, .ref h)] [.ref a_7, .ref h]
  refine j_putF (q := 7) (C := RX3) (T := TX3) (N := 13) (ws' := [ob h 3 [.ref a_1, .ref a_2, .int (jI 0), .ref a_3, .ref a_4, .ref a_5, .ref a_6, .ref a_7, .null, .int (jI 0), .int (jI 0), .int (jI 0), .int (jI 0)], aN Y a_1 64 (fun _ => 0), aZ Y a_2 64 (fun _ => 0), aN Y a_3 3 (fun _ => 0), aN Y a_4 3 (fun _ => 0), aN Y a_5 3 (fun _ => 0), aN Y a_6 3 (fun _ => 0), aN Y a_7 8 (fun _ => 0)]) G 0 hinX3 tyX3 tyX3_ok nmX3 rfl dX3_init_53 rfl rfl (by decide) (by decide +kernel) rfl rfl rfl rfl rfl (Nat.le_of_ble_eq_true rfl) rfl ?_
  refine j_aload_n G 0 dX3_init_56 rfl ?_
  refine j_iconst G dX3_init_57 (v := 3) rfl ?_
  refine j_newa (t := .int) (ty := .int) (N' := 3) (v := 3) (a0 := (3, .inl (aI (fun _ => 0)))) (nmA := "[" ++ FieldType.int.toString) G 0 rfl rfl (fun _ _ h => h) (List.mem_of_getElem? (i := 4) rfl) (fun _ => rfl) (by decide) (by decide) (Nat.le_of_ble_eq_true rfl) (Nat.le_of_ble_eq_true rfl) (Nat.le_of_ble_eq_true rfl) dX3_init_58 (fun a_8 => ?_)
  show J x 8 151 ([ob h 3 [.ref a_1, .ref a_2, .int (jI 0), .ref a_3, .ref a_4, .ref a_5, .ref a_6, .ref a_7, .null, .int (jI 0), .int (jI 0), .int (jI 0), .int (jI 0)], aN Y a_1 64 (fun _ => 0), aZ Y a_2 64 (fun _ => 0), aN Y a_3 3 (fun _ => 0), aN Y a_4 3 (fun _ => 0), aN Y a_5 3 (fun _ => 0), aN Y a_6 3 (fun _ => 0), aN Y a_7 8 (fun _ => 0), aN Y a_8 3 (fun _ => 0)]) 60 [(0, .ref h)] [.ref a_8, .ref h]
  refine j_putF (q := 8) (C := RX3) (T := TX3) (N := 13) (ws' := [ob h 3 [.ref a_1, .ref a_2, .int (jI 0), .ref a_3, .ref a_4, .ref a_5, .ref a_6, .ref a_7, .ref a_8, .int (jI 0), .int (jI 0), .int (jI 0), .int (jI 0)], aN Y a_1 64 (fun _ => 0), aZ Y a_2 64 (fun _ => 0), aN Y a_3 3 (fun _ => 0), aN Y a_4 3 (fun _ => 0), aN Y a_5 3 (fun _ => 0), aN Y a_6 3 (fun _ => 0), aN Y a_7 8 (fun _ => 0), aN Y a_8 3 (fun _ => 0)]) G 0 hinX3 tyX3 tyX3_ok nmX3 rfl dX3_init_60 rfl rfl (by decide) (by decide +kernel) rfl rfl rfl rfl rfl (Nat.le_of_ble_eq_true rfl) rfl ?_
  refine j_iconst G dX3_init_63 (v := 0) rfl ?_
  refine j_istore_n (lv' := [(1, .int (jI 0)), (0, .ref h)]) G dX3_init_64 (by decide) rfl ?_
  refine j_iload_n G 0 dX3_init_65 rfl ?_
  refine j_iconst G dX3_init_66 (v := 3) rfl ?_
  refine j_icmp_ge (tgt := 87) G dX3_init_67 (by decide) (by omega) (by omega) (fun c67 => absurd c67 (by omega)) (fun c67 => ?_)
  refine j_aload_n G 1 dX3_init_70 rfl ?_
  refine j_get (q := 8) (C := RX3) (T := TX3) (N := 13) (v := .ref a_8) G 0 hinX3 dX3_init_71 rfl rfl (by decide) (by decide +kernel) rfl ?_
  refine j_iload_n G 0 dX3_init_74 rfl ?_
  refine j_sget (host := "StormFelling") G (jST_all G).2.1 dX3_init_75 (by decide +kernel) (fun t1 h_t1 => ?_)
  refine j_iload_n G 0 dX3_init_78 rfl ?_
  refine j_tald (v := fSet 0) G h_t1 dX3_init_79 (by omega) (fSet_t (by omega)) ?_
  refine j_iast (ws' := [ob h 3 [.ref a_1, .ref a_2, .int (jI 0), .ref a_3, .ref a_4, .ref a_5, .ref a_6, .ref a_7, .ref a_8, .int (jI 0), .int (jI 0), .int (jI 0), .int (jI 0)], aN Y a_1 64 (fun _ => 0), aZ Y a_2 64 (fun _ => 0), aN Y a_3 3 (fun _ => 0), aN Y a_4 3 (fun _ => 0), aN Y a_5 3 (fun _ => 0), aN Y a_6 3 (fun _ => 0), aN Y a_7 8 (fun _ => 0), aN Y a_8 3 (upZ (fun _ => 0) 0 (fSet 0))]) G 8 dX3_init_80 rfl (by omega) rfl ?_
  refine j_iinc (w := 1) (lv' := [(1, .int (jI 1)), (0, .ref h)]) G 0 dX3_init_81 rfl rfl (by decide) rfl ?_
  refine j_goto (tgt := 65) G dX3_init_84 (by decide) ?_
  refine j_iload_n G 0 dX3_init_65 rfl ?_
  refine j_iconst G dX3_init_66 (v := 3) rfl ?_
  refine j_icmp_ge (tgt := 87) G dX3_init_67 (by decide) (by omega) (by omega) (fun c67 => absurd c67 (by omega)) (fun c67 => ?_)
  refine j_aload_n G 1 dX3_init_70 rfl ?_
  refine j_get (q := 8) (C := RX3) (T := TX3) (N := 13) (v := .ref a_8) G 0 hinX3 dX3_init_71 rfl rfl (by decide) (by decide +kernel) rfl ?_
  refine j_iload_n G 0 dX3_init_74 rfl ?_
  refine j_sget (host := "StormFelling") G (jST_all G).2.1 dX3_init_75 (by decide +kernel) (fun t1 h_t1 => ?_)
  refine j_iload_n G 0 dX3_init_78 rfl ?_
  refine j_tald (v := fSet 1) G h_t1 dX3_init_79 (by omega) (fSet_t (by omega)) ?_
  refine j_iast (ws' := [ob h 3 [.ref a_1, .ref a_2, .int (jI 0), .ref a_3, .ref a_4, .ref a_5, .ref a_6, .ref a_7, .ref a_8, .int (jI 0), .int (jI 0), .int (jI 0), .int (jI 0)], aN Y a_1 64 (fun _ => 0), aZ Y a_2 64 (fun _ => 0), aN Y a_3 3 (fun _ => 0), aN Y a_4 3 (fun _ => 0), aN Y a_5 3 (fun _ => 0), aN Y a_6 3 (fun _ => 0), aN Y a_7 8 (fun _ => 0), aN Y a_8 3 (upZ (upZ (fun _ => 0) 0 (fSet 0)) 1 (fSet 1))]) G 8 dX3_init_80 rfl (by omega) rfl ?_
  refine j_iinc (w := 2) (lv' := [(1, .int (jI 2)), (0, .ref h)]) G 0 dX3_init_81 rfl rfl (by decide) rfl ?_
  refine j_goto (tgt := 65) G dX3_init_84 (by decide) ?_
  refine j_iload_n G 0 dX3_init_65 rfl ?_
  refine j_iconst G dX3_init_66 (v := 3) rfl ?_
  refine j_icmp_ge (tgt := 87) G dX3_init_67 (by decide) (by omega) (by omega) (fun c67 => absurd c67 (by omega)) (fun c67 => ?_)
  refine j_aload_n G 1 dX3_init_70 rfl ?_
  refine j_get (q := 8) (C := RX3) (T := TX3) (N := 13) (v := .ref a_8) G 0 hinX3 dX3_init_71 rfl rfl (by decide) (by decide +kernel) rfl ?_
  refine j_iload_n G 0 dX3_init_74 rfl ?_
  refine j_sget (host := "StormFelling") G (jST_all G).2.1 dX3_init_75 (by decide +kernel) (fun t1 h_t1 => ?_)
  refine j_iload_n G 0 dX3_init_78 rfl ?_
  refine j_tald (v := fSet 2) G h_t1 dX3_init_79 (by omega) (fSet_t (by omega)) ?_
  refine j_iast (ws' := [ob h 3 [.ref a_1, .ref a_2, .int (jI 0), .ref a_3, .ref a_4, .ref a_5, .ref a_6, .ref a_7, .ref a_8, .int (jI 0), .int (jI 0), .int (jI 0), .int (jI 0)], aN Y a_1 64 (fun _ => 0), aZ Y a_2 64 (fun _ => 0), aN Y a_3 3 (fun _ => 0), aN Y a_4 3 (fun _ => 0), aN Y a_5 3 (fun _ => 0), aN Y a_6 3 (fun _ => 0), aN Y a_7 8 (fun _ => 0), aN Y a_8 3 (upZ (upZ (upZ (fun _ => 0) 0 (fSet 0)) 1 (fSet 1)) 2 (fSet 2))]) G 8 dX3_init_80 rfl (by omega) rfl ?_
  refine j_iinc (w := 3) (lv' := [(1, .int (jI 3)), (0, .ref h)]) G 0 dX3_init_81 rfl rfl (by decide) rfl ?_
  refine j_goto (tgt := 65) G dX3_init_84 (by decide) ?_
  refine j_iload_n G 0 dX3_init_65 rfl ?_
  refine j_iconst G dX3_init_66 (v := 3) rfl ?_
  refine j_icmp_ge (tgt := 87) G dX3_init_67 (by decide) (by omega) (by omega) (fun c67 => ?_) (fun c67 => absurd c67 (by omega))
  refine j_iconst G dX3_init_87 (v := 0) rfl ?_
  refine j_istore_n (lv' := [(1, .int (jI 0)), (0, .ref h)]) G dX3_init_88 (by decide) rfl ?_
  refine j_iload_n G 0 dX3_init_89 rfl ?_
  refine j_iconst G dX3_init_90 (v := 3) rfl ?_
  refine j_icmp_ge (tgt := 119) G dX3_init_91 (by decide) (by omega) (by omega) (fun c91 => absurd c91 (by omega)) (fun c91 => ?_)
  refine j_aload_n G 1 dX3_init_94 rfl ?_
  refine j_get (q := 3) (C := RX3) (T := TX3) (N := 13) (v := .ref a_3) G 0 hinX3 dX3_init_95 rfl rfl (by decide) (by decide +kernel) rfl ?_
  refine j_iload_n G 0 dX3_init_98 rfl ?_
  refine j_iload_n G 0 dX3_init_99 rfl ?_
  refine j_iast (ws' := [ob h 3 [.ref a_1, .ref a_2, .int (jI 0), .ref a_3, .ref a_4, .ref a_5, .ref a_6, .ref a_7, .ref a_8, .int (jI 0), .int (jI 0), .int (jI 0), .int (jI 0)], aN Y a_1 64 (fun _ => 0), aZ Y a_2 64 (fun _ => 0), aN Y a_3 3 (upZ (fun _ => 0) 0 0), aN Y a_4 3 (fun _ => 0), aN Y a_5 3 (fun _ => 0), aN Y a_6 3 (fun _ => 0), aN Y a_7 8 (fun _ => 0), aN Y a_8 3 (upZ (upZ (upZ (fun _ => 0) 0 (fSet 0)) 1 (fSet 1)) 2 (fSet 2))]) G 3 dX3_init_100 rfl (by omega) rfl ?_
  refine j_aload_n G 1 dX3_init_101 rfl ?_
  refine j_get (q := 4) (C := RX3) (T := TX3) (N := 13) (v := .ref a_4) G 0 hinX3 dX3_init_102 rfl rfl (by decide) (by decide +kernel) rfl ?_
  refine j_iload_n G 0 dX3_init_105 rfl ?_
  refine j_aload_n G 1 dX3_init_106 rfl ?_
  refine j_get (q := 8) (C := RX3) (T := TX3) (N := 13) (v := .ref a_8) G 0 hinX3 dX3_init_107 rfl rfl (by decide) (by decide +kernel) rfl ?_
  refine j_iconst G dX3_init_110 (v := 0) rfl ?_
  refine j_iald (v := (upZ (upZ (upZ (fun _ => 0) 0 (fSet 0)) 1 (fSet 1)) 2 (fSet 2)) 0) G 8 dX3_init_111 rfl (by omega) rfl ?_
  refine j_iast (ws' := [ob h 3 [.ref a_1, .ref a_2, .int (jI 0), .ref a_3, .ref a_4, .ref a_5, .ref a_6, .ref a_7, .ref a_8, .int (jI 0), .int (jI 0), .int (jI 0), .int (jI 0)], aN Y a_1 64 (fun _ => 0), aZ Y a_2 64 (fun _ => 0), aN Y a_3 3 (upZ (fun _ => 0) 0 0), aN Y a_4 3 (upZ (fun _ => 0) 0 ((upZ (upZ (upZ (fun _ => 0) 0 (fSet 0)) 1 (fSet 1)) 2 (fSet 2)) 0)), aN Y a_5 3 (fun _ => 0), aN Y a_6 3 (fun _ => 0), aN Y a_7 8 (fun _ => 0), aN Y a_8 3 (upZ (upZ (upZ (fun _ => 0) 0 (fSet 0)) 1 (fSet 1)) 2 (fSet 2))]) G 4 dX3_init_112 rfl (by omega) rfl ?_
  refine j_iinc (w := 1) (lv' := [(1, .int (jI 1)), (0, .ref h)]) G 0 dX3_init_113 rfl rfl (by decide) rfl ?_
  refine j_goto (tgt := 89) G dX3_init_116 (by decide) ?_
  refine j_iload_n G 0 dX3_init_89 rfl ?_
  refine j_iconst G dX3_init_90 (v := 3) rfl ?_
  refine j_icmp_ge (tgt := 119) G dX3_init_91 (by decide) (by omega) (by omega) (fun c91 => absurd c91 (by omega)) (fun c91 => ?_)
  refine j_aload_n G 1 dX3_init_94 rfl ?_
  refine j_get (q := 3) (C := RX3) (T := TX3) (N := 13) (v := .ref a_3) G 0 hinX3 dX3_init_95 rfl rfl (by decide) (by decide +kernel) rfl ?_
  refine j_iload_n G 0 dX3_init_98 rfl ?_
  refine j_iload_n G 0 dX3_init_99 rfl ?_
  refine j_iast (ws' := [ob h 3 [.ref a_1, .ref a_2, .int (jI 0), .ref a_3, .ref a_4, .ref a_5, .ref a_6, .ref a_7, .ref a_8, .int (jI 0), .int (jI 0), .int (jI 0), .int (jI 0)], aN Y a_1 64 (fun _ => 0), aZ Y a_2 64 (fun _ => 0), aN Y a_3 3 (upZ (upZ (fun _ => 0) 0 0) 1 1), aN Y a_4 3 (upZ (fun _ => 0) 0 ((upZ (upZ (upZ (fun _ => 0) 0 (fSet 0)) 1 (fSet 1)) 2 (fSet 2)) 0)), aN Y a_5 3 (fun _ => 0), aN Y a_6 3 (fun _ => 0), aN Y a_7 8 (fun _ => 0), aN Y a_8 3 (upZ (upZ (upZ (fun _ => 0) 0 (fSet 0)) 1 (fSet 1)) 2 (fSet 2))]) G 3 dX3_init_100 rfl (by omega) rfl ?_
  refine j_aload_n G 1 dX3_init_101 rfl ?_
  refine j_get (q := 4) (C := RX3) (T := TX3) (N := 13) (v := .ref a_4) G 0 hinX3 dX3_init_102 rfl rfl (by decide) (by decide +kernel) rfl ?_
  refine j_iload_n G 0 dX3_init_105 rfl ?_
  refine j_aload_n G 1 dX3_init_106 rfl ?_
  refine j_get (q := 8) (C := RX3) (T := TX3) (N := 13) (v := .ref a_8) G 0 hinX3 dX3_init_107 rfl rfl (by decide) (by decide +kernel) rfl ?_
  refine j_iconst G dX3_init_110 (v := 0) rfl ?_
  refine j_iald (v := (upZ (upZ (upZ (fun _ => 0) 0 (fSet 0)) 1 (fSet 1)) 2 (fSet 2)) 0) G 8 dX3_init_111 rfl (by omega) rfl ?_
  refine j_iast (ws' := [ob h 3 [.ref a_1, .ref a_2, .int (jI 0), .ref a_3, .ref a_4, .ref a_5, .ref a_6, .ref a_7, .ref a_8, .int (jI 0), .int (jI 0), .int (jI 0), .int (jI 0)], aN Y a_1 64 (fun _ => 0), aZ Y a_2 64 (fun _ => 0), aN Y a_3 3 (upZ (upZ (fun _ => 0) 0 0) 1 1), aN Y a_4 3 (upZ (upZ (fun _ => 0) 0 ((upZ (upZ (upZ (fun _ => 0) 0 (fSet 0)) 1 (fSet 1)) 2 (fSet 2)) 0)) 1 ((upZ (upZ (upZ (fun _ => 0) 0 (fSet 0)) 1 (fSet 1)) 2 (fSet 2)) 0)), aN Y a_5 3 (fun _ => 0), aN Y a_6 3 (fun _ => 0), aN Y a_7 8 (fun _ => 0), aN Y a_8 3 (upZ (upZ (upZ (fun _ => 0) 0 (fSet 0)) 1 (fSet 1)) 2 (fSet 2))]) G 4 dX3_init_112 rfl (by omega) rfl ?_
  refine j_iinc (w := 2) (lv' := [(1, .int (jI 2)), (0, .ref h)]) G 0 dX3_init_113 rfl rfl (by decide) rfl ?_
  refine j_goto (tgt := 89) G dX3_init_116 (by decide) ?_
  refine j_iload_n G 0 dX3_init_89 rfl ?_
  refine j_iconst G dX3_init_90 (v := 3) rfl ?_
  refine j_icmp_ge (tgt := 119) G dX3_init_91 (by decide) (by omega) (by omega) (fun c91 => absurd c91 (by omega)) (fun c91 => ?_)
  refine j_aload_n G 1 dX3_init_94 rfl ?_
  refine j_get (q := 3) (C := RX3) (T := TX3) (N := 13) (v := .ref a_3) G 0 hinX3 dX3_init_95 rfl rfl (by decide) (by decide +kernel) rfl ?_
  refine j_iload_n G 0 dX3_init_98 rfl ?_
  refine j_iload_n G 0 dX3_init_99 rfl ?_
  refine j_iast (ws' := [ob h 3 [.ref a_1, .ref a_2, .int (jI 0), .ref a_3, .ref a_4, .ref a_5, .ref a_6, .ref a_7, .ref a_8, .int (jI 0), .int (jI 0), .int (jI 0), .int (jI 0)], aN Y a_1 64 (fun _ => 0), aZ Y a_2 64 (fun _ => 0), aN Y a_3 3 (upZ (upZ (upZ (fun _ => 0) 0 0) 1 1) 2 2), aN Y a_4 3 (upZ (upZ (fun _ => 0) 0 ((upZ (upZ (upZ (fun _ => 0) 0 (fSet 0)) 1 (fSet 1)) 2 (fSet 2)) 0)) 1 ((upZ (upZ (upZ (fun _ => 0) 0 (fSet 0)) 1 (fSet 1)) 2 (fSet 2)) 0)), aN Y a_5 3 (fun _ => 0), aN Y a_6 3 (fun _ => 0), aN Y a_7 8 (fun _ => 0), aN Y a_8 3 (upZ (upZ (upZ (fun _ => 0) 0 (fSet 0)) 1 (fSet 1)) 2 (fSet 2))]) G 3 dX3_init_100 rfl (by omega) rfl ?_
  refine j_aload_n G 1 dX3_init_101 rfl ?_
  refine j_get (q := 4) (C := RX3) (T := TX3) (N := 13) (v := .ref a_4) G 0 hinX3 dX3_init_102 rfl rfl (by decide) (by decide +kernel) rfl ?_
  refine j_iload_n G 0 dX3_init_105 rfl ?_
  refine j_aload_n G 1 dX3_init_106 rfl ?_
  refine j_get (q := 8) (C := RX3) (T := TX3) (N := 13) (v := .ref a_8) G 0 hinX3 dX3_init_107 rfl rfl (by decide) (by decide +kernel) rfl ?_
  refine j_iconst G dX3_init_110 (v := 0) rfl ?_
  refine j_iald (v := (upZ (upZ (upZ (fun _ => 0) 0 (fSet 0)) 1 (fSet 1)) 2 (fSet 2)) 0) G 8 dX3_init_111 rfl (by omega) rfl ?_
  refine j_iast (ws' := [ob h 3 [.ref a_1, .ref a_2, .int (jI 0), .ref a_3, .ref a_4, .ref a_5, .ref a_6, .ref a_7, .ref a_8, .int (jI 0), .int (jI 0), .int (jI 0), .int (jI 0)], aN Y a_1 64 (fun _ => 0), aZ Y a_2 64 (fun _ => 0), aN Y a_3 3 (upZ (upZ (upZ (fun _ => 0) 0 0) 1 1) 2 2), aN Y a_4 3 (upZ (upZ (upZ (fun _ => 0) 0 ((upZ (upZ (upZ (fun _ => 0) 0 (fSet 0)) 1 (fSet 1)) 2 (fSet 2)) 0)) 1 ((upZ (upZ (upZ (fun _ => 0) 0 (fSet 0)) 1 (fSet 1)) 2 (fSet 2)) 0)) 2 ((upZ (upZ (upZ (fun _ => 0) 0 (fSet 0)) 1 (fSet 1)) 2 (fSet 2)) 0)), aN Y a_5 3 (fun _ => 0), aN Y a_6 3 (fun _ => 0), aN Y a_7 8 (fun _ => 0), aN Y a_8 3 (upZ (upZ (upZ (fun _ => 0) 0 (fSet 0)) 1 (fSet 1)) 2 (fSet 2))]) G 4 dX3_init_112 rfl (by omega) rfl ?_
  refine j_iinc (w := 3) (lv' := [(1, .int (jI 3)), (0, .ref h)]) G 0 dX3_init_113 rfl rfl (by decide) rfl ?_
  refine j_goto (tgt := 89) G dX3_init_116 (by decide) ?_
  refine j_iload_n G 0 dX3_init_89 rfl ?_
  refine j_iconst G dX3_init_90 (v := 3) rfl ?_
  refine j_icmp_ge (tgt := 119) G dX3_init_91 (by decide) (by omega) (by omega) (fun c91 => ?_) (fun c91 => absurd c91 (by omega))
  refine j_iconst G dX3_init_119 (v := 0) rfl ?_
  refine j_istore_n (lv' := [(1, .int (jI 0)), (0, .ref h)]) G dX3_init_120 (by decide) rfl ?_
  refine j_iload_n G 0 dX3_init_121 rfl ?_
  refine j_bipush G dX3_init_122 (v := 8) rfl ?_
  refine j_icmp_ge (tgt := 141) G dX3_init_124 (by decide) (by omega) (by omega) (fun c124 => absurd c124 (by omega)) (fun c124 => ?_)
  refine j_aload_n G 1 dX3_init_127 rfl ?_
  refine j_get (q := 7) (C := RX3) (T := TX3) (N := 13) (v := .ref a_7) G 0 hinX3 dX3_init_128 rfl rfl (by decide) (by decide +kernel) rfl ?_
  refine j_iload_n G 0 dX3_init_131 rfl ?_
  refine j_bipush G dX3_init_132 (v := (-5)) rfl ?_
  refine j_iast (ws' := [ob h 3 [.ref a_1, .ref a_2, .int (jI 0), .ref a_3, .ref a_4, .ref a_5, .ref a_6, .ref a_7, .ref a_8, .int (jI 0), .int (jI 0), .int (jI 0), .int (jI 0)], aN Y a_1 64 (fun _ => 0), aZ Y a_2 64 (fun _ => 0), aN Y a_3 3 (upZ (upZ (upZ (fun _ => 0) 0 0) 1 1) 2 2), aN Y a_4 3 (upZ (upZ (upZ (fun _ => 0) 0 ((upZ (upZ (upZ (fun _ => 0) 0 (fSet 0)) 1 (fSet 1)) 2 (fSet 2)) 0)) 1 ((upZ (upZ (upZ (fun _ => 0) 0 (fSet 0)) 1 (fSet 1)) 2 (fSet 2)) 0)) 2 ((upZ (upZ (upZ (fun _ => 0) 0 (fSet 0)) 1 (fSet 1)) 2 (fSet 2)) 0)), aN Y a_5 3 (fun _ => 0), aN Y a_6 3 (fun _ => 0), aN Y a_7 8 (upZ (fun _ => 0) 0 (-5)), aN Y a_8 3 (upZ (upZ (upZ (fun _ => 0) 0 (fSet 0)) 1 (fSet 1)) 2 (fSet 2))]) G 7 dX3_init_134 rfl (by omega) rfl ?_
  refine j_iinc (w := 1) (lv' := [(1, .int (jI 1)), (0, .ref h)]) G 0 dX3_init_135 rfl rfl (by decide) rfl ?_
  refine j_goto (tgt := 121) G dX3_init_138 (by decide) ?_
  refine j_iload_n G 0 dX3_init_121 rfl ?_
  refine j_bipush G dX3_init_122 (v := 8) rfl ?_
  refine j_icmp_ge (tgt := 141) G dX3_init_124 (by decide) (by omega) (by omega) (fun c124 => absurd c124 (by omega)) (fun c124 => ?_)
  refine j_aload_n G 1 dX3_init_127 rfl ?_
  refine j_get (q := 7) (C := RX3) (T := TX3) (N := 13) (v := .ref a_7) G 0 hinX3 dX3_init_128 rfl rfl (by decide) (by decide +kernel) rfl ?_
  refine j_iload_n G 0 dX3_init_131 rfl ?_
  refine j_bipush G dX3_init_132 (v := (-5)) rfl ?_
  refine j_iast (ws' := [ob h 3 [.ref a_1, .ref a_2, .int (jI 0), .ref a_3, .ref a_4, .ref a_5, .ref a_6, .ref a_7, .ref a_8, .int (jI 0), .int (jI 0), .int (jI 0), .int (jI 0)], aN Y a_1 64 (fun _ => 0), aZ Y a_2 64 (fun _ => 0), aN Y a_3 3 (upZ (upZ (upZ (fun _ => 0) 0 0) 1 1) 2 2), aN Y a_4 3 (upZ (upZ (upZ (fun _ => 0) 0 ((upZ (upZ (upZ (fun _ => 0) 0 (fSet 0)) 1 (fSet 1)) 2 (fSet 2)) 0)) 1 ((upZ (upZ (upZ (fun _ => 0) 0 (fSet 0)) 1 (fSet 1)) 2 (fSet 2)) 0)) 2 ((upZ (upZ (upZ (fun _ => 0) 0 (fSet 0)) 1 (fSet 1)) 2 (fSet 2)) 0)), aN Y a_5 3 (fun _ => 0), aN Y a_6 3 (fun _ => 0), aN Y a_7 8 (upZ (upZ (fun _ => 0) 0 (-5)) 1 (-5)), aN Y a_8 3 (upZ (upZ (upZ (fun _ => 0) 0 (fSet 0)) 1 (fSet 1)) 2 (fSet 2))]) G 7 dX3_init_134 rfl (by omega) rfl ?_
  refine j_iinc (w := 2) (lv' := [(1, .int (jI 2)), (0, .ref h)]) G 0 dX3_init_135 rfl rfl (by decide) rfl ?_
  refine j_goto (tgt := 121) G dX3_init_138 (by decide) ?_
  refine j_iload_n G 0 dX3_init_121 rfl ?_
  refine j_bipush G dX3_init_122 (v := 8) rfl ?_
  refine j_icmp_ge (tgt := 141) G dX3_init_124 (by decide) (by omega) (by omega) (fun c124 => absurd c124 (by omega)) (fun c124 => ?_)
  refine j_aload_n G 1 dX3_init_127 rfl ?_
  refine j_get (q := 7) (C := RX3) (T := TX3) (N := 13) (v := .ref a_7) G 0 hinX3 dX3_init_128 rfl rfl (by decide) (by decide +kernel) rfl ?_
  refine j_iload_n G 0 dX3_init_131 rfl ?_
  refine j_bipush G dX3_init_132 (v := (-5)) rfl ?_
  refine j_iast (ws' := [ob h 3 [.ref a_1, .ref a_2, .int (jI 0), .ref a_3, .ref a_4, .ref a_5, .ref a_6, .ref a_7, .ref a_8, .int (jI 0), .int (jI 0), .int (jI 0), .int (jI 0)], aN Y a_1 64 (fun _ => 0), aZ Y a_2 64 (fun _ => 0), aN Y a_3 3 (upZ (upZ (upZ (fun _ => 0) 0 0) 1 1) 2 2), aN Y a_4 3 (upZ (upZ (upZ (fun _ => 0) 0 ((upZ (upZ (upZ (fun _ => 0) 0 (fSet 0)) 1 (fSet 1)) 2 (fSet 2)) 0)) 1 ((upZ (upZ (upZ (fun _ => 0) 0 (fSet 0)) 1 (fSet 1)) 2 (fSet 2)) 0)) 2 ((upZ (upZ (upZ (fun _ => 0) 0 (fSet 0)) 1 (fSet 1)) 2 (fSet 2)) 0)), aN Y a_5 3 (fun _ => 0), aN Y a_6 3 (fun _ => 0), aN Y a_7 8 (upZ (upZ (upZ (fun _ => 0) 0 (-5)) 1 (-5)) 2 (-5)), aN Y a_8 3 (upZ (upZ (upZ (fun _ => 0) 0 (fSet 0)) 1 (fSet 1)) 2 (fSet 2))]) G 7 dX3_init_134 rfl (by omega) rfl ?_
  refine j_iinc (w := 3) (lv' := [(1, .int (jI 3)), (0, .ref h)]) G 0 dX3_init_135 rfl rfl (by decide) rfl ?_
  refine j_goto (tgt := 121) G dX3_init_138 (by decide) ?_
  refine j_iload_n G 0 dX3_init_121 rfl ?_
  refine j_bipush G dX3_init_122 (v := 8) rfl ?_
  refine j_icmp_ge (tgt := 141) G dX3_init_124 (by decide) (by omega) (by omega) (fun c124 => absurd c124 (by omega)) (fun c124 => ?_)
  refine j_aload_n G 1 dX3_init_127 rfl ?_
  refine j_get (q := 7) (C := RX3) (T := TX3) (N := 13) (v := .ref a_7) G 0 hinX3 dX3_init_128 rfl rfl (by decide) (by decide +kernel) rfl ?_
  refine j_iload_n G 0 dX3_init_131 rfl ?_
  refine j_bipush G dX3_init_132 (v := (-5)) rfl ?_
  refine j_iast (ws' := [ob h 3 [.ref a_1, .ref a_2, .int (jI 0), .ref a_3, .ref a_4, .ref a_5, .ref a_6, .ref a_7, .ref a_8, .int (jI 0), .int (jI 0), .int (jI 0), .int (jI 0)], aN Y a_1 64 (fun _ => 0), aZ Y a_2 64 (fun _ => 0), aN Y a_3 3 (upZ (upZ (upZ (fun _ => 0) 0 0) 1 1) 2 2), aN Y a_4 3 (upZ (upZ (upZ (fun _ => 0) 0 ((upZ (upZ (upZ (fun _ => 0) 0 (fSet 0)) 1 (fSet 1)) 2 (fSet 2)) 0)) 1 ((upZ (upZ (upZ (fun _ => 0) 0 (fSet 0)) 1 (fSet 1)) 2 (fSet 2)) 0)) 2 ((upZ (upZ (upZ (fun _ => 0) 0 (fSet 0)) 1 (fSet 1)) 2 (fSet 2)) 0)), aN Y a_5 3 (fun _ => 0), aN Y a_6 3 (fun _ => 0), aN Y a_7 8 (upZ (upZ (upZ (upZ (fun _ => 0) 0 (-5)) 1 (-5)) 2 (-5)) 3 (-5)), aN Y a_8 3 (upZ (upZ (upZ (fun _ => 0) 0 (fSet 0)) 1 (fSet 1)) 2 (fSet 2))]) G 7 dX3_init_134 rfl (by omega) rfl ?_
  refine j_iinc (w := 4) (lv' := [(1, .int (jI 4)), (0, .ref h)]) G 0 dX3_init_135 rfl rfl (by decide) rfl ?_
  refine j_goto (tgt := 121) G dX3_init_138 (by decide) ?_
  refine j_iload_n G 0 dX3_init_121 rfl ?_
  refine j_bipush G dX3_init_122 (v := 8) rfl ?_
  refine j_icmp_ge (tgt := 141) G dX3_init_124 (by decide) (by omega) (by omega) (fun c124 => absurd c124 (by omega)) (fun c124 => ?_)
  refine j_aload_n G 1 dX3_init_127 rfl ?_
  refine j_get (q := 7) (C := RX3) (T := TX3) (N := 13) (v := .ref a_7) G 0 hinX3 dX3_init_128 rfl rfl (by decide) (by decide +kernel) rfl ?_
  refine j_iload_n G 0 dX3_init_131 rfl ?_
  refine j_bipush G dX3_init_132 (v := (-5)) rfl ?_
  refine j_iast (ws' := [ob h 3 [.ref a_1, .ref a_2, .int (jI 0), .ref a_3, .ref a_4, .ref a_5, .ref a_6, .ref a_7, .ref a_8, .int (jI 0), .int (jI 0), .int (jI 0), .int (jI 0)], aN Y a_1 64 (fun _ => 0), aZ Y a_2 64 (fun _ => 0), aN Y a_3 3 (upZ (upZ (upZ (fun _ => 0) 0 0) 1 1) 2 2), aN Y a_4 3 (upZ (upZ (upZ (fun _ => 0) 0 ((upZ (upZ (upZ (fun _ => 0) 0 (fSet 0)) 1 (fSet 1)) 2 (fSet 2)) 0)) 1 ((upZ (upZ (upZ (fun _ => 0) 0 (fSet 0)) 1 (fSet 1)) 2 (fSet 2)) 0)) 2 ((upZ (upZ (upZ (fun _ => 0) 0 (fSet 0)) 1 (fSet 1)) 2 (fSet 2)) 0)), aN Y a_5 3 (fun _ => 0), aN Y a_6 3 (fun _ => 0), aN Y a_7 8 (upZ (upZ (upZ (upZ (upZ (fun _ => 0) 0 (-5)) 1 (-5)) 2 (-5)) 3 (-5)) 4 (-5)), aN Y a_8 3 (upZ (upZ (upZ (fun _ => 0) 0 (fSet 0)) 1 (fSet 1)) 2 (fSet 2))]) G 7 dX3_init_134 rfl (by omega) rfl ?_
  refine j_iinc (w := 5) (lv' := [(1, .int (jI 5)), (0, .ref h)]) G 0 dX3_init_135 rfl rfl (by decide) rfl ?_
  refine j_goto (tgt := 121) G dX3_init_138 (by decide) ?_
  refine j_iload_n G 0 dX3_init_121 rfl ?_
  refine j_bipush G dX3_init_122 (v := 8) rfl ?_
  refine j_icmp_ge (tgt := 141) G dX3_init_124 (by decide) (by omega) (by omega) (fun c124 => absurd c124 (by omega)) (fun c124 => ?_)
  refine j_aload_n G 1 dX3_init_127 rfl ?_
  refine j_get (q := 7) (C := RX3) (T := TX3) (N := 13) (v := .ref a_7) G 0 hinX3 dX3_init_128 rfl rfl (by decide) (by decide +kernel) rfl ?_
  refine j_iload_n G 0 dX3_init_131 rfl ?_
  refine j_bipush G dX3_init_132 (v := (-5)) rfl ?_
  refine j_iast (ws' := [ob h 3 [.ref a_1, .ref a_2, .int (jI 0), .ref a_3, .ref a_4, .ref a_5, .ref a_6, .ref a_7, .ref a_8, .int (jI 0), .int (jI 0), .int (jI 0), .int (jI 0)], aN Y a_1 64 (fun _ => 0), aZ Y a_2 64 (fun _ => 0), aN Y a_3 3 (upZ (upZ (upZ (fun _ => 0) 0 0) 1 1) 2 2), aN Y a_4 3 (upZ (upZ (upZ (fun _ => 0) 0 ((upZ (upZ (upZ (fun _ => 0) 0 (fSet 0)) 1 (fSet 1)) 2 (fSet 2)) 0)) 1 ((upZ (upZ (upZ (fun _ => 0) 0 (fSet 0)) 1 (fSet 1)) 2 (fSet 2)) 0)) 2 ((upZ (upZ (upZ (fun _ => 0) 0 (fSet 0)) 1 (fSet 1)) 2 (fSet 2)) 0)), aN Y a_5 3 (fun _ => 0), aN Y a_6 3 (fun _ => 0), aN Y a_7 8 (upZ (upZ (upZ (upZ (upZ (upZ (fun _ => 0) 0 (-5)) 1 (-5)) 2 (-5)) 3 (-5)) 4 (-5)) 5 (-5)), aN Y a_8 3 (upZ (upZ (upZ (fun _ => 0) 0 (fSet 0)) 1 (fSet 1)) 2 (fSet 2))]) G 7 dX3_init_134 rfl (by omega) rfl ?_
  refine j_iinc (w := 6) (lv' := [(1, .int (jI 6)), (0, .ref h)]) G 0 dX3_init_135 rfl rfl (by decide) rfl ?_
  refine j_goto (tgt := 121) G dX3_init_138 (by decide) ?_
  refine j_iload_n G 0 dX3_init_121 rfl ?_
  refine j_bipush G dX3_init_122 (v := 8) rfl ?_
  refine j_icmp_ge (tgt := 141) G dX3_init_124 (by decide) (by omega) (by omega) (fun c124 => absurd c124 (by omega)) (fun c124 => ?_)
  refine j_aload_n G 1 dX3_init_127 rfl ?_
  refine j_get (q := 7) (C := RX3) (T := TX3) (N := 13) (v := .ref a_7) G 0 hinX3 dX3_init_128 rfl rfl (by decide) (by decide +kernel) rfl ?_
  refine j_iload_n G 0 dX3_init_131 rfl ?_
  refine j_bipush G dX3_init_132 (v := (-5)) rfl ?_
  refine j_iast (ws' := [ob h 3 [.ref a_1, .ref a_2, .int (jI 0), .ref a_3, .ref a_4, .ref a_5, .ref a_6, .ref a_7, .ref a_8, .int (jI 0), .int (jI 0), .int (jI 0), .int (jI 0)], aN Y a_1 64 (fun _ => 0), aZ Y a_2 64 (fun _ => 0), aN Y a_3 3 (upZ (upZ (upZ (fun _ => 0) 0 0) 1 1) 2 2), aN Y a_4 3 (upZ (upZ (upZ (fun _ => 0) 0 ((upZ (upZ (upZ (fun _ => 0) 0 (fSet 0)) 1 (fSet 1)) 2 (fSet 2)) 0)) 1 ((upZ (upZ (upZ (fun _ => 0) 0 (fSet 0)) 1 (fSet 1)) 2 (fSet 2)) 0)) 2 ((upZ (upZ (upZ (fun _ => 0) 0 (fSet 0)) 1 (fSet 1)) 2 (fSet 2)) 0)), aN Y a_5 3 (fun _ => 0), aN Y a_6 3 (fun _ => 0), aN Y a_7 8 (upZ (upZ (upZ (upZ (upZ (upZ (upZ (fun _ => 0) 0 (-5)) 1 (-5)) 2 (-5)) 3 (-5)) 4 (-5)) 5 (-5)) 6 (-5)), aN Y a_8 3 (upZ (upZ (upZ (fun _ => 0) 0 (fSet 0)) 1 (fSet 1)) 2 (fSet 2))]) G 7 dX3_init_134 rfl (by omega) rfl ?_
  refine j_iinc (w := 7) (lv' := [(1, .int (jI 7)), (0, .ref h)]) G 0 dX3_init_135 rfl rfl (by decide) rfl ?_
  refine j_goto (tgt := 121) G dX3_init_138 (by decide) ?_
  refine j_iload_n G 0 dX3_init_121 rfl ?_
  refine j_bipush G dX3_init_122 (v := 8) rfl ?_
  refine j_icmp_ge (tgt := 141) G dX3_init_124 (by decide) (by omega) (by omega) (fun c124 => absurd c124 (by omega)) (fun c124 => ?_)
  refine j_aload_n G 1 dX3_init_127 rfl ?_
  refine j_get (q := 7) (C := RX3) (T := TX3) (N := 13) (v := .ref a_7) G 0 hinX3 dX3_init_128 rfl rfl (by decide) (by decide +kernel) rfl ?_
  refine j_iload_n G 0 dX3_init_131 rfl ?_
  refine j_bipush G dX3_init_132 (v := (-5)) rfl ?_
  refine j_iast (ws' := [ob h 3 [.ref a_1, .ref a_2, .int (jI 0), .ref a_3, .ref a_4, .ref a_5, .ref a_6, .ref a_7, .ref a_8, .int (jI 0), .int (jI 0), .int (jI 0), .int (jI 0)], aN Y a_1 64 (fun _ => 0), aZ Y a_2 64 (fun _ => 0), aN Y a_3 3 (upZ (upZ (upZ (fun _ => 0) 0 0) 1 1) 2 2), aN Y a_4 3 (upZ (upZ (upZ (fun _ => 0) 0 ((upZ (upZ (upZ (fun _ => 0) 0 (fSet 0)) 1 (fSet 1)) 2 (fSet 2)) 0)) 1 ((upZ (upZ (upZ (fun _ => 0) 0 (fSet 0)) 1 (fSet 1)) 2 (fSet 2)) 0)) 2 ((upZ (upZ (upZ (fun _ => 0) 0 (fSet 0)) 1 (fSet 1)) 2 (fSet 2)) 0)), aN Y a_5 3 (fun _ => 0), aN Y a_6 3 (fun _ => 0), aN Y a_7 8 (upZ (upZ (upZ (upZ (upZ (upZ (upZ (upZ (fun _ => 0) 0 (-5)) 1 (-5)) 2 (-5)) 3 (-5)) 4 (-5)) 5 (-5)) 6 (-5)) 7 (-5)), aN Y a_8 3 (upZ (upZ (upZ (fun _ => 0) 0 (fSet 0)) 1 (fSet 1)) 2 (fSet 2))]) G 7 dX3_init_134 rfl (by omega) rfl ?_
  refine j_iinc (w := 8) (lv' := [(1, .int (jI 8)), (0, .ref h)]) G 0 dX3_init_135 rfl rfl (by decide) rfl ?_
  refine j_goto (tgt := 121) G dX3_init_138 (by decide) ?_
  refine j_iload_n G 0 dX3_init_121 rfl ?_
  refine j_bipush G dX3_init_122 (v := 8) rfl ?_
  refine j_icmp_ge (tgt := 141) G dX3_init_124 (by decide) (by omega) (by omega) (fun c124 => ?_) (fun c124 => absurd c124 (by omega))
  exact j_retv G dX3_init_141 (wV_le (q := qOf [a_1, a_2, a_3, a_4, a_5, a_6, a_7, a_8]) (fun j h0 h1 => by show (0 : Int) = z0 (28 + j); unfold z0; rw [if_neg (by omega), if_neg (by omega), if_neg (by omega), if_neg (by omega), if_neg (by omega)]) (fun j h0 h1 => by show (0 : Int) = z0 (156 + j); unfold z0; rw [if_neg (by omega), if_neg (by omega), if_neg (by omega), if_neg (by omega), if_neg (by omega)]) rfl (fun j h0 h1 => by rcases (show j = 0 ∨ j = 1 ∨ j = 2 by omega) with e | e | e <;> subst e <;> rfl) (fun j h0 h1 => by rcases (show j = 0 ∨ j = 1 ∨ j = 2 by omega) with e | e | e <;> subst e <;> rfl) (fun j h0 h1 => by rcases (show j = 0 ∨ j = 1 ∨ j = 2 by omega) with e | e | e <;> subst e <;> rfl) (fun j h0 h1 => by rcases (show j = 0 ∨ j = 1 ∨ j = 2 by omega) with e | e | e <;> subst e <;> rfl) (fun j h0 h1 => by rcases (show j = 0 ∨ j = 1 ∨ j = 2 ∨ j = 3 ∨ j = 4 ∨ j = 5 ∨ j = 6 ∨ j = 7 by omega) with e | e | e | e | e | e | e | e <;> subst e <;> rfl) (fun j h0 h1 => by rcases (show j = 0 ∨ j = 1 ∨ j = 2 by omega) with e | e | e <;> subst e <;> rfl) rfl rfl rfl rfl).le (kr0 _ _ ⟨qOf [a_1, a_2, a_3, a_4, a_5, a_6, a_7, a_8], rfl, rfl⟩)

set_option maxHeartbeats 4000000 in
set_option maxRecDepth 100000 in
theorem c_X1_init (l : Launch) (D : va_G) (Y : Nat → ClassId) (h : Nat) : jM l yX1_init wsX1_init { frames := 2, cells := 37, slots := 660, locals := 33 } D Y [.ref h] [ob h 1 [.null, .int (jI 0)]] (fun v_ w_ => ∃ (q : Nat) (A : Nat → Nat) (Q : Nat → Nat → Nat), v_ = none ∧ w_ = (gV Y h q 0 (r4 (A 0) (A 1) (A 2) (A 3)) ++ (wZ Y (A 0) (Q 0) z0 ++ (wZ Y (A 1) (Q 1) z0 ++ (wZ Y (A 2) (Q 2) z0 ++ (wZ Y (A 3) (Q 3) z0)))))) 37 660 := by
  refine jM_of (cc := cX1_init) (maxL := 2) (ret := none) (by decide) rfl (Nat.le_of_ble_eq_true rfl) (fun v w' h => by obtain ⟨_, _, _, h⟩ := h; exact Or.inl ⟨rfl, h.1⟩) ?_
  intro x G kr0
  have G : jG x l D Y cX1_init RX1 wsX1_init 2 ({ frames := 2, cells := 37, slots := 660, locals := 33 } : Room) none "<init>" := G
  have hinX1 : ∀ w ∈ wsX10, w ∈ wsX1_init := fun _ h => List.mem_cons_of_mem _ (List.mem_append_left _ (List.mem_append_right _ h))
  have hinX3 : ∀ w ∈ wsX30, w ∈ wsX1_init := fun _ h => List.mem_cons_of_mem _ (List.mem_append_right _ h)
  show J x 0 0 ([ob h 1 [.null, .int (jI 0)]]) 0 [(0, .ref h)] []
  refine j_aload_n G 0 dX1_init_0 rfl ?_
  refine j_objInit G dX1_init_1 (by decide +kernel) (by decide +kernel) (by decide +kernel) (by decide) (Nat.le_of_ble_eq_true rfl) ?_
  refine j_aload_n G 0 dX1_init_4 rfl ?_
  refine j_iconst G dX1_init_5 (v := 4) rfl ?_
  refine j_newq (N' := 4) (v := 4) G 3 rfl (List.mem_of_getElem? (i := 4) rfl) (fun _ h => h.2.2) (by decide) (by decide) (Nat.le_of_ble_eq_true rfl) (Nat.le_of_ble_eq_true rfl) (Nat.le_of_ble_eq_true rfl) dX1_init_6 (fun a_1 => ?_)
  refine j_conv (ws' := [ob h 1 [.null, .int (jI 0)]] ++ [aQ Y a_1 4 (r4o none none none none)]) (wLe.app (wLe.rf _) (wLe.cons (cLe.aq _ _ _ (by intro j hj; rcases (show j = 0 ∨ j = 1 ∨ j = 2 ∨ j = 3 by omega) with e | e | e | e <;> subst e <;> rfl)) wLe.nil)).le ?_
  show J x 1 4 ([ob h 1 [.null, .int (jI 0)], aQ Y a_1 4 (r4o none none none none)]) 9 [(0, .ref h)] [.ref a_1, .ref h]
  refine j_putF (q := 0) (C := RX1) (T := TX1) (N := 2) (ws' := [ob h 1 [.ref a_1, .int (jI 0)], aQ Y a_1 4 (r4o none none none none)]) G 0 hinX1 tyX1 tyX1_ok nmX1 rfl dX1_init_9 rfl rfl (by decide) (by decide +kernel) rfl rfl rfl rfl rfl (Nat.le_of_ble_eq_true rfl) rfl ?_
  refine j_iconst G dX1_init_12 (v := 0) rfl ?_
  refine j_istore_n (lv' := [(1, .int (jI 0)), (0, .ref h)]) G dX1_init_13 (by decide) rfl ?_
  refine j_iload_n G 0 dX1_init_14 rfl ?_
  refine j_iconst G dX1_init_15 (v := 4) rfl ?_
  refine j_icmp_ge (tgt := 38) G dX1_init_16 (by decide) (by omega) (by omega) (fun c16 => absurd c16 (by omega)) (fun c16 => ?_)
  refine j_aload_n G 1 dX1_init_19 rfl ?_
  refine j_get (q := 0) (C := RX1) (T := TX1) (N := 2) (v := .ref a_1) G 0 hinX1 dX1_init_20 rfl rfl (by decide) (by decide +kernel) rfl ?_
  refine j_iload_n G 0 dX1_init_23 rfl ?_
  refine j_new (C := RX3) (T := TX3) (N := 13) (ci := 3) (fs := [.null, .null, .int (jI 0), .null, .null, .null, .null, .null, .null, .int (jI 0), .int (jI 0), .int (jI 0), .int (jI 0)]) G hinX3 tyX3 tyX3_ok (List.mem_of_getElem? (i := 4) rfl) (List.mem_of_getElem? (i := 6) rfl) (List.mem_of_getElem? (i := 7) rfl) rfl (fun j hj => by rcases (show j = 0 ∨ j = 1 ∨ j = 2 ∨ j = 3 ∨ j = 4 ∨ j = 5 ∨ j = 6 ∨ j = 7 ∨ j = 8 ∨ j = 9 ∨ j = 10 ∨ j = 11 ∨ j = 12 by omega) with e | e | e | e | e | e | e | e | e | e | e | e | e <;> subst e <;> rfl) (Nat.le_of_ble_eq_true rfl) (Nat.le_of_ble_eq_true rfl) dX1_init_24 (fun a_2 => ?_)
  refine j_conv (ws' := [ob h 1 [.ref a_1, .int (jI 0)], aQ Y a_1 4 (r4o none none none none)] ++ ([ob a_2 3 [.null, .null, .int (jI 0), .null, .null, .null, .null, .null, .null, .int (jI 0), .int (jI 0), .int (jI 0), .int (jI 0)]])) (jLe.pos [0, 1, 2] rfl rfl) ?_
  show J x 2 17 ([ob h 1 [.ref a_1, .int (jI 0)], aQ Y a_1 4 (r4o none none none none)] ++ ([ob a_2 3 [.null, .null, .int (jI 0), .null, .null, .null, .null, .null, .null, .int (jI 0), .int (jI 0), .int (jI 0), .int (jI 0)]])) 27 [(1, .int (jI 0)), (0, .ref h)] [.ref a_2, .int (jI 0), .ref a_1]
  refine j_dup G dX1_init_27 rfl ?_
  refine j_callI (nA := 0) (As := []) (st := [.ref a_2, .int (jI 0), .ref a_1]) (wc := [ob a_2 3 [.null, .null, .int (jI 0), .null, .null, .null, .null, .null, .null, .int (jI 0), .int (jI 0), .int (jI 0), .int (jI 0)]]) (wr := ([ob h 1 [.ref a_1, .int (jI 0)], aQ Y a_1 4 (r4o none none none none)])) G (c_X3_init l D Y a_2) dX1_init_28 rfl gX1_init_X3_init rfl rfl rfl (List.mem_of_getElem? (i := 7) rfl) (List.mem_of_getElem? (i := 8) rfl) (List.mem_of_getElem? (i := 9) rfl) rfl ⟨by decide, by decide, by decide +kernel⟩ ⟨by decide, by decide⟩ rfl (jLe.pos [2, 0, 1] rfl rfl) (Nat.le_of_ble_eq_true rfl) ⟨(Nat.le_of_ble_eq_true rfl), (Nat.le_of_ble_eq_true rfl)⟩ (fun v_ w_ hp_ => ?_)
  obtain ⟨q_3, rfl, rfl⟩ := hp_
  refine j_conv (ws' := [ob h 1 [.ref a_1, .int (jI 0)], aQ Y a_1 4 (r4o none none none none)] ++ (wZ Y a_2 q_3 z0)) (jLe.pos [9, 10, 0, 1, 2, 3, 4, 5, 6, 7, 8] rfl rfl) ?_
  show J x 10 168 ([ob h 1 [.ref a_1, .int (jI 0)], aQ Y a_1 4 (r4o none none none none)] ++ (wZ Y a_2 q_3 z0)) 31 [(1, .int (jI 0)), (0, .ref h)] [.ref a_2, .int (jI 0), .ref a_1]
  refine j_aast4 (g := r4o (some a_2) none none none) (ws' := [ob h 1 [.ref a_1, .int (jI 0)], aQ Y a_1 4 (r4o (some a_2) none none none)] ++ (wZ Y a_2 q_3 z0)) G 1 2 dX1_init_31 rfl rfl (by omega) (by intro j hj; rcases (show j = 0 ∨ j = 1 ∨ j = 2 ∨ j = 3 by omega) with e | e | e | e <;> subst e <;> rfl) rfl ?_
  refine j_iinc (w := 1) (lv' := [(1, .int (jI 1)), (0, .ref h)]) G 0 dX1_init_32 rfl rfl (by decide) rfl ?_
  refine j_goto (tgt := 14) G dX1_init_35 (by decide) ?_
  refine j_iload_n G 0 dX1_init_14 rfl ?_
  refine j_iconst G dX1_init_15 (v := 4) rfl ?_
  refine j_icmp_ge (tgt := 38) G dX1_init_16 (by decide) (by omega) (by omega) (fun c16 => absurd c16 (by omega)) (fun c16 => ?_)
  refine j_aload_n G 1 dX1_init_19 rfl ?_
  refine j_get (q := 0) (C := RX1) (T := TX1) (N := 2) (v := .ref a_1) G 0 hinX1 dX1_init_20 rfl rfl (by decide) (by decide +kernel) rfl ?_
  refine j_iload_n G 0 dX1_init_23 rfl ?_
  refine j_new (C := RX3) (T := TX3) (N := 13) (ci := 3) (fs := [.null, .null, .int (jI 0), .null, .null, .null, .null, .null, .null, .int (jI 0), .int (jI 0), .int (jI 0), .int (jI 0)]) G hinX3 tyX3 tyX3_ok (List.mem_of_getElem? (i := 4) rfl) (List.mem_of_getElem? (i := 6) rfl) (List.mem_of_getElem? (i := 7) rfl) rfl (fun j hj => by rcases (show j = 0 ∨ j = 1 ∨ j = 2 ∨ j = 3 ∨ j = 4 ∨ j = 5 ∨ j = 6 ∨ j = 7 ∨ j = 8 ∨ j = 9 ∨ j = 10 ∨ j = 11 ∨ j = 12 by omega) with e | e | e | e | e | e | e | e | e | e | e | e | e <;> subst e <;> rfl) (Nat.le_of_ble_eq_true rfl) (Nat.le_of_ble_eq_true rfl) dX1_init_24 (fun a_4 => ?_)
  refine j_conv (ws' := [ob h 1 [.ref a_1, .int (jI 0)], aQ Y a_1 4 (r4o (some a_2) none none none)] ++ (wZ Y a_2 q_3 z0 ++ ([ob a_4 3 [.null, .null, .int (jI 0), .null, .null, .null, .null, .null, .null, .int (jI 0), .int (jI 0), .int (jI 0), .int (jI 0)]]))) (jLe.pos [0, 1, 2, 3, 4, 5, 6, 7, 8, 9, 10, 11] rfl rfl) ?_
  show J x 11 181 ([ob h 1 [.ref a_1, .int (jI 0)], aQ Y a_1 4 (r4o (some a_2) none none none)] ++ (wZ Y a_2 q_3 z0 ++ ([ob a_4 3 [.null, .null, .int (jI 0), .null, .null, .null, .null, .null, .null, .int (jI 0), .int (jI 0), .int (jI 0), .int (jI 0)]]))) 27 [(1, .int (jI 1)), (0, .ref h)] [.ref a_4, .int (jI 1), .ref a_1]
  refine j_dup G dX1_init_27 rfl ?_
  refine j_callI (nA := 0) (As := []) (st := [.ref a_4, .int (jI 1), .ref a_1]) (wc := [ob a_4 3 [.null, .null, .int (jI 0), .null, .null, .null, .null, .null, .null, .int (jI 0), .int (jI 0), .int (jI 0), .int (jI 0)]]) (wr := ([ob h 1 [.ref a_1, .int (jI 0)], aQ Y a_1 4 (r4o (some a_2) none none none)] ++ (wZ Y a_2 q_3 z0))) G (c_X3_init l D Y a_4) dX1_init_28 rfl gX1_init_X3_init rfl rfl rfl (List.mem_of_getElem? (i := 7) rfl) (List.mem_of_getElem? (i := 8) rfl) (List.mem_of_getElem? (i := 9) rfl) rfl ⟨by decide, by decide, by decide +kernel⟩ ⟨by decide, by decide⟩ rfl (jLe.pos [11, 0, 1, 2, 3, 4, 5, 6, 7, 8, 9, 10] rfl rfl) (Nat.le_of_ble_eq_true rfl) ⟨(Nat.le_of_ble_eq_true rfl), (Nat.le_of_ble_eq_true rfl)⟩ (fun v_ w_ hp_ => ?_)
  obtain ⟨q_5, rfl, rfl⟩ := hp_
  refine j_conv (ws' := [ob h 1 [.ref a_1, .int (jI 0)], aQ Y a_1 4 (r4o (some a_2) none none none)] ++ (wZ Y a_2 q_3 z0 ++ (wZ Y a_4 q_5 z0))) (jLe.pos [9, 10, 11, 12, 13, 14, 15, 16, 17, 18, 19, 0, 1, 2, 3, 4, 5, 6, 7, 8] rfl rfl) ?_
  show J x 19 332 ([ob h 1 [.ref a_1, .int (jI 0)], aQ Y a_1 4 (r4o (some a_2) none none none)] ++ (wZ Y a_2 q_3 z0 ++ (wZ Y a_4 q_5 z0))) 31 [(1, .int (jI 1)), (0, .ref h)] [.ref a_4, .int (jI 1), .ref a_1]
  refine j_aast4 (g := r4o (some a_2) (some a_4) none none) (ws' := [ob h 1 [.ref a_1, .int (jI 0)], aQ Y a_1 4 (r4o (some a_2) (some a_4) none none)] ++ (wZ Y a_2 q_3 z0 ++ (wZ Y a_4 q_5 z0))) G 1 11 dX1_init_31 rfl rfl (by omega) (by intro j hj; rcases (show j = 0 ∨ j = 1 ∨ j = 2 ∨ j = 3 by omega) with e | e | e | e <;> subst e <;> rfl) rfl ?_
  refine j_iinc (w := 2) (lv' := [(1, .int (jI 2)), (0, .ref h)]) G 0 dX1_init_32 rfl rfl (by decide) rfl ?_
  refine j_goto (tgt := 14) G dX1_init_35 (by decide) ?_
  refine j_iload_n G 0 dX1_init_14 rfl ?_
  refine j_iconst G dX1_init_15 (v := 4) rfl ?_
  refine j_icmp_ge (tgt := 38) G dX1_init_16 (by decide) (by omega) (by omega) (fun c16 => absurd c16 (by omega)) (fun c16 => ?_)
  refine j_aload_n G 1 dX1_init_19 rfl ?_
  refine j_get (q := 0) (C := RX1) (T := TX1) (N := 2) (v := .ref a_1) G 0 hinX1 dX1_init_20 rfl rfl (by decide) (by decide +kernel) rfl ?_
  refine j_iload_n G 0 dX1_init_23 rfl ?_
  refine j_new (C := RX3) (T := TX3) (N := 13) (ci := 3) (fs := [.null, .null, .int (jI 0), .null, .null, .null, .null, .null, .null, .int (jI 0), .int (jI 0), .int (jI 0), .int (jI 0)]) G hinX3 tyX3 tyX3_ok (List.mem_of_getElem? (i := 4) rfl) (List.mem_of_getElem? (i := 6) rfl) (List.mem_of_getElem? (i := 7) rfl) rfl (fun j hj => by rcases (show j = 0 ∨ j = 1 ∨ j = 2 ∨ j = 3 ∨ j = 4 ∨ j = 5 ∨ j = 6 ∨ j = 7 ∨ j = 8 ∨ j = 9 ∨ j = 10 ∨ j = 11 ∨ j = 12 by omega) with e | e | e | e | e | e | e | e | e | e | e | e | e <;> subst e <;> rfl) (Nat.le_of_ble_eq_true rfl) (Nat.le_of_ble_eq_true rfl) dX1_init_24 (fun a_6 => ?_)
  refine j_conv (ws' := [ob h 1 [.ref a_1, .int (jI 0)], aQ Y a_1 4 (r4o (some a_2) (some a_4) none none)] ++ (wZ Y a_2 q_3 z0 ++ (wZ Y a_4 q_5 z0 ++ ([ob a_6 3 [.null, .null, .int (jI 0), .null, .null, .null, .null, .null, .null, .int (jI 0), .int (jI 0), .int (jI 0), .int (jI 0)]])))) (jLe.pos [0, 1, 2, 3, 4, 5, 6, 7, 8, 9, 10, 11, 12, 13, 14, 15, 16, 17, 18, 19, 20] rfl rfl) ?_
  show J x 20 345 ([ob h 1 [.ref a_1, .int (jI 0)], aQ Y a_1 4 (r4o (some a_2) (some a_4) none none)] ++ (wZ Y a_2 q_3 z0 ++ (wZ Y a_4 q_5 z0 ++ ([ob a_6 3 [.null, .null, .int (jI 0), .null, .null, .null, .null, .null, .null, .int (jI 0), .int (jI 0), .int (jI 0), .int (jI 0)]])))) 27 [(1, .int (jI 2)), (0, .ref h)] [.ref a_6, .int (jI 2), .ref a_1]
  refine j_dup G dX1_init_27 rfl ?_
  refine j_callI (nA := 0) (As := []) (st := [.ref a_6, .int (jI 2), .ref a_1]) (wc := [ob a_6 3 [.null, .null, .int (jI 0), .null, .null, .null, .null, .null, .null, .int (jI 0), .int (jI 0), .int (jI 0), .int (jI 0)]]) (wr := ([ob h 1 [.ref a_1, .int (jI 0)], aQ Y a_1 4 (r4o (some a_2) (some a_4) none none)] ++ (wZ Y a_2 q_3 z0 ++ (wZ Y a_4 q_5 z0)))) G (c_X3_init l D Y a_6) dX1_init_28 rfl gX1_init_X3_init rfl rfl rfl (List.mem_of_getElem? (i := 7) rfl) (List.mem_of_getElem? (i := 8) rfl) (List.mem_of_getElem? (i := 9) rfl) rfl ⟨by decide, by decide, by decide +kernel⟩ ⟨by decide, by decide⟩ rfl (jLe.pos [20, 0, 1, 2, 3, 4, 5, 6, 7, 8, 9, 10, 11, 12, 13, 14, 15, 16, 17, 18, 19] rfl rfl) (Nat.le_of_ble_eq_true rfl) ⟨(Nat.le_of_ble_eq_true rfl), (Nat.le_of_ble_eq_true rfl)⟩ (fun v_ w_ hp_ => ?_)
  obtain ⟨q_7, rfl, rfl⟩ := hp_
  refine j_conv (ws' := [ob h 1 [.ref a_1, .int (jI 0)], aQ Y a_1 4 (r4o (some a_2) (some a_4) none none)] ++ (wZ Y a_2 q_3 z0 ++ (wZ Y a_4 q_5 z0 ++ (wZ Y a_6 q_7 z0)))) (jLe.pos [9, 10, 11, 12, 13, 14, 15, 16, 17, 18, 19, 20, 21, 22, 23, 24, 25, 26, 27, 28, 0, 1, 2, 3, 4, 5, 6, 7, 8] rfl rfl) ?_
  show J x 28 496 ([ob h 1 [.ref a_1, .int (jI 0)], aQ Y a_1 4 (r4o (some a_2) (some a_4) none none)] ++ (wZ Y a_2 q_3 z0 ++ (wZ Y a_4 q_5 z0 ++ (wZ Y a_6 q_7 z0)))) 31 [(1, .int (jI 2)), (0, .ref h)] [.ref a_6, .int (jI 2), .ref a_1]
  refine j_aast4 (g := r4o (some a_2) (some a_4) (some a_6) none) (ws' := [ob h 1 [.ref a_1, .int (jI 0)], aQ Y a_1 4 (r4o (some a_2) (some a_4) (some a_6) none)] ++ (wZ Y a_2 q_3 z0 ++ (wZ Y a_4 q_5 z0 ++ (wZ Y a_6 q_7 z0)))) G 1 20 dX1_init_31 rfl rfl (by omega) (by intro j hj; rcases (show j = 0 ∨ j = 1 ∨ j = 2 ∨ j = 3 by omega) with e | e | e | e <;> subst e <;> rfl) rfl ?_
  refine j_iinc (w := 3) (lv' := [(1, .int (jI 3)), (0, .ref h)]) G 0 dX1_init_32 rfl rfl (by decide) rfl ?_
  refine j_goto (tgt := 14) G dX1_init_35 (by decide) ?_
  refine j_iload_n G 0 dX1_init_14 rfl ?_
  refine j_iconst G dX1_init_15 (v := 4) rfl ?_
  refine j_icmp_ge (tgt := 38) G dX1_init_16 (by decide) (by omega) (by omega) (fun c16 => absurd c16 (by omega)) (fun c16 => ?_)
  refine j_aload_n G 1 dX1_init_19 rfl ?_
  refine j_get (q := 0) (C := RX1) (T := TX1) (N := 2) (v := .ref a_1) G 0 hinX1 dX1_init_20 rfl rfl (by decide) (by decide +kernel) rfl ?_
  refine j_iload_n G 0 dX1_init_23 rfl ?_
  refine j_new (C := RX3) (T := TX3) (N := 13) (ci := 3) (fs := [.null, .null, .int (jI 0), .null, .null, .null, .null, .null, .null, .int (jI 0), .int (jI 0), .int (jI 0), .int (jI 0)]) G hinX3 tyX3 tyX3_ok (List.mem_of_getElem? (i := 4) rfl) (List.mem_of_getElem? (i := 6) rfl) (List.mem_of_getElem? (i := 7) rfl) rfl (fun j hj => by rcases (show j = 0 ∨ j = 1 ∨ j = 2 ∨ j = 3 ∨ j = 4 ∨ j = 5 ∨ j = 6 ∨ j = 7 ∨ j = 8 ∨ j = 9 ∨ j = 10 ∨ j = 11 ∨ j = 12 by omega) with e | e | e | e | e | e | e | e | e | e | e | e | e <;> subst e <;> rfl) (Nat.le_of_ble_eq_true rfl) (Nat.le_of_ble_eq_true rfl) dX1_init_24 (fun a_8 => ?_)
  refine j_conv (ws' := [ob h 1 [.ref a_1, .int (jI 0)], aQ Y a_1 4 (r4o (some a_2) (some a_4) (some a_6) none)] ++ (wZ Y a_2 q_3 z0 ++ (wZ Y a_4 q_5 z0 ++ (wZ Y a_6 q_7 z0 ++ ([ob a_8 3 [.null, .null, .int (jI 0), .null, .null, .null, .null, .null, .null, .int (jI 0), .int (jI 0), .int (jI 0), .int (jI 0)]]))))) (jLe.pos [0, 1, 2, 3, 4, 5, 6, 7, 8, 9, 10, 11, 12, 13, 14, 15, 16, 17, 18, 19, 20, 21, 22, 23, 24, 25, 26, 27, 28, 29] rfl rfl) ?_
  show J x 29 509 ([ob h 1 [.ref a_1, .int (jI 0)], aQ Y a_1 4 (r4o (some a_2) (some a_4) (some a_6) none)] ++ (wZ Y a_2 q_3 z0 ++ (wZ Y a_4 q_5 z0 ++ (wZ Y a_6 q_7 z0 ++ ([ob a_8 3 [.null, .null, .int (jI 0), .null, .null, .null, .null, .null, .null, .int (jI 0), .int (jI 0), .int (jI 0), .int (jI 0)]]))))) 27 [(1, .int (jI 3)), (0, .ref h)] [.ref a_8, .int (jI 3), .ref a_1]
  refine j_dup G dX1_init_27 rfl ?_
  refine j_callI (nA := 0) (As := []) (st := [.ref a_8, .int (jI 3), .ref a_1]) (wc := [ob a_8 3 [.null, .null, .int (jI 0), .null, .null, .null, .null, .null, .null, .int (jI 0), .int (jI 0), .int (jI 0), .int (jI 0)]]) (wr := ([ob h 1 [.ref a_1, .int (jI 0)], aQ Y a_1 4 (r4o (some a_2) (some a_4) (some a_6) none)] ++ (wZ Y a_2 q_3 z0 ++ (wZ Y a_4 q_5 z0 ++ (wZ Y a_6 q_7 z0))))) G (c_X3_init l D Y a_8) dX1_init_28 rfl gX1_init_X3_init rfl rfl rfl (List.mem_of_getElem? (i := 7) rfl) (List.mem_of_getElem? (i := 8) rfl) (List.mem_of_getElem? (i := 9) rfl) rfl ⟨by decide, by decide, by decide +kernel⟩ ⟨by decide, by decide⟩ rfl (jLe.pos [29, 0, 1, 2, 3, 4, 5, 6, 7, 8, 9, 10, 11, 12, 13, 14, 15, 16, 17, 18, 19, 20, 21, 22, 23, 24, 25, 26, 27, 28] rfl rfl) (Nat.le_of_ble_eq_true rfl) ⟨(Nat.le_of_ble_eq_true rfl), (Nat.le_of_ble_eq_true rfl)⟩ (fun v_ w_ hp_ => ?_)
  obtain ⟨q_9, rfl, rfl⟩ := hp_
  refine j_conv (ws' := [ob h 1 [.ref a_1, .int (jI 0)], aQ Y a_1 4 (r4o (some a_2) (some a_4) (some a_6) none)] ++ (wZ Y a_2 q_3 z0 ++ (wZ Y a_4 q_5 z0 ++ (wZ Y a_6 q_7 z0 ++ (wZ Y a_8 q_9 z0))))) (jLe.pos [9, 10, 11, 12, 13, 14, 15, 16, 17, 18, 19, 20, 21, 22, 23, 24, 25, 26, 27, 28, 29, 30, 31, 32, 33, 34, 35, 36, 37, 0, 1, 2, 3, 4, 5, 6, 7, 8] rfl rfl) ?_
  show J x 37 660 ([ob h 1 [.ref a_1, .int (jI 0)], aQ Y a_1 4 (r4o (some a_2) (some a_4) (some a_6) none)] ++ (wZ Y a_2 q_3 z0 ++ (wZ Y a_4 q_5 z0 ++ (wZ Y a_6 q_7 z0 ++ (wZ Y a_8 q_9 z0))))) 31 [(1, .int (jI 3)), (0, .ref h)] [.ref a_8, .int (jI 3), .ref a_1]
  refine j_aast4 (g := r4o (some a_2) (some a_4) (some a_6) (some a_8)) (ws' := [ob h 1 [.ref a_1, .int (jI 0)], aQ Y a_1 4 (r4o (some a_2) (some a_4) (some a_6) (some a_8))] ++ (wZ Y a_2 q_3 z0 ++ (wZ Y a_4 q_5 z0 ++ (wZ Y a_6 q_7 z0 ++ (wZ Y a_8 q_9 z0))))) G 1 29 dX1_init_31 rfl rfl (by omega) (by intro j hj; rcases (show j = 0 ∨ j = 1 ∨ j = 2 ∨ j = 3 by omega) with e | e | e | e <;> subst e <;> rfl) rfl ?_
  refine j_iinc (w := 4) (lv' := [(1, .int (jI 4)), (0, .ref h)]) G 0 dX1_init_32 rfl rfl (by decide) rfl ?_
  refine j_goto (tgt := 14) G dX1_init_35 (by decide) ?_
  refine j_iload_n G 0 dX1_init_14 rfl ?_
  refine j_iconst G dX1_init_15 (v := 4) rfl ?_
  refine j_icmp_ge (tgt := 38) G dX1_init_16 (by decide) (by omega) (by omega) (fun c16 => ?_) (fun c16 => absurd c16 (by omega))
  exact j_retv G dX1_init_38 (jLe.rf _) (kr0 _ _ ⟨a_1, qOf [a_2, a_4, a_6, a_8], fun j => ([q_3, q_5, q_7, q_9] : List (Nat → Nat)).getD j (fun _ => 0), rfl, rfl⟩)

set_option maxHeartbeats 4000000 in
set_option maxRecDepth 100000 in
theorem c_X4_init (l : Launch) (D : va_G) (Y : Nat → ClassId) (h : Nat) : jM l yX4_init wsX4_init { frames := 3, cells := 70, slots := 1351, locals := 54 } D Y [.ref h] [ob h 4 [.null, .null, .null, .int (jI 0), .null, .null, .null, .int (jI 0), .int (jI 0)]] (fun v_ w_ => ∃ (hw : Nat) (hb : Nat) (hs : Nat) (hh : Nat) (hp : Nat) (hd : Nat) (qw : Nat → Nat) (qb : Nat → Nat) (qs : Nat → Nat) (qh : Nat) (A : Nat → Nat) (Q : Nat → Nat → Nat) (qp : Nat → Nat) (qd : Nat), v_ = none ∧ w_ = (sV Y h hw hb hs hh hp hd 0 0 0 ++ (wZ Y hw qw z0 ++ (wZ Y hb qb z0 ++ (wZ Y hs qs z0 ++ (gV Y hh qh 0 (r4 (A 0) (A 1) (A 2) (A 3)) ++ (wZ Y (A 0) (Q 0) z0 ++ (wZ Y (A 1) (Q 1) z0 ++ (wZ Y (A 2) (Q 2) z0 ++ (wZ Y (A 3) (Q 3) z0 ++ (pV Y hp qp (fun _ => 0) (fun _ => 0) 0 ++ (dV Y hd qd (fun _ => 0) 0 0 0 0 0)))))))))))) 70 1351 := by
  refine jM_of (cc := cX4_init) (maxL := 1) (ret := none) (by decide) rfl (Nat.le_of_ble_eq_true rfl) (fun v w' h => by obtain ⟨_, _, _, _, _, _, _, _, _, _, _, _, _, _, h⟩ := h; exact Or.inl ⟨rfl, h.1⟩) ?_
  intro x G kr0
  have G : jG x l D Y cX4_init RX4 wsX4_init 1 ({ frames := 3, cells := 70, slots := 1351, locals := 54 } : Room) none "<init>" := G
  have hinX0 : ∀ w ∈ wsX00, w ∈ wsX4_init := fun _ h => List.mem_cons_of_mem _ (List.mem_append_right _ h)
  have hinX1 : ∀ w ∈ wsX10, w ∈ wsX4_init := fun _ h => List.mem_cons_of_mem _ (List.mem_append_left _ (List.mem_append_left _ (List.mem_append_right _ h)))
  have hinX2 : ∀ w ∈ wsX20, w ∈ wsX4_init := fun _ h => List.mem_cons_of_mem _ (List.mem_append_left _ (List.mem_append_right _ h))
  have hinX3 : ∀ w ∈ wsX30, w ∈ wsX4_init := fun _ h => List.mem_cons_of_mem _ (List.mem_append_left _ (List.mem_append_left _ (List.mem_append_left _ (List.mem_append_left _ (List.mem_append_right _ h)))))
  have hinX4 : ∀ w ∈ wsX40, w ∈ wsX4_init := fun _ h => List.mem_cons_of_mem _ (List.mem_append_left _ (List.mem_append_left _ (List.mem_append_left _ (List.mem_append_right _ h))))
  show J x 0 0 ([ob h 4 [.null, .null, .null, .int (jI 0), .null, .null, .null, .int (jI 0), .int (jI 0)]]) 0 [(0, .ref h)] []
  refine j_aload_n G 0 dX4_init_0 rfl ?_
  refine j_objInit G dX4_init_1 (by decide +kernel) (by decide +kernel) (by decide +kernel) (by decide) (Nat.le_of_ble_eq_true rfl) ?_
  refine j_aload_n G 0 dX4_init_4 rfl ?_
  refine j_new (C := RX3) (T := TX3) (N := 13) (ci := 3) (fs := [.null, .null, .int (jI 0), .null, .null, .null, .null, .null, .null, .int (jI 0), .int (jI 0), .int (jI 0), .int (jI 0)]) G hinX3 tyX3 tyX3_ok (List.mem_of_getElem? (i := 4) rfl) (List.mem_of_getElem? (i := 5) rfl) (List.mem_of_getElem? (i := 6) rfl) rfl (fun j hj => by rcases (show j = 0 ∨ j = 1 ∨ j = 2 ∨ j = 3 ∨ j = 4 ∨ j = 5 ∨ j = 6 ∨ j = 7 ∨ j = 8 ∨ j = 9 ∨ j = 10 ∨ j = 11 ∨ j = 12 by omega) with e | e | e | e | e | e | e | e | e | e | e | e | e <;> subst e <;> rfl) (Nat.le_of_ble_eq_true rfl) (Nat.le_of_ble_eq_true rfl) dX4_init_5 (fun a_1 => ?_)
  refine j_conv (ws' := [ob h 4 [.null, .null, .null, .int (jI 0), .null, .null, .null, .int (jI 0), .int (jI 0)]] ++ ([ob a_1 3 [.null, .null, .int (jI 0), .null, .null, .null, .null, .null, .null, .int (jI 0), .int (jI 0), .int (jI 0), .int (jI 0)]])) (jLe.pos [0, 1] rfl rfl) ?_
  show J x 1 13 ([ob h 4 [.null, .null, .null, .int (jI 0), .null, .null, .null, .int (jI 0), .int (jI 0)]] ++ ([ob a_1 3 [.null, .null, .int (jI 0), .null, .null, .null, .null, .null, .null, .int (jI 0), .int (jI 0), .int (jI 0), .int (jI 0)]])) 8 [(0, .ref h)] [.ref a_1, .ref h]
  refine j_dup G dX4_init_8 rfl ?_
  refine j_callI (nA := 0) (As := []) (st := [.ref a_1, .ref h]) (wc := [ob a_1 3 [.null, .null, .int (jI 0), .null, .null, .null, .null, .null, .null, .int (jI 0), .int (jI 0), .int (jI 0), .int (jI 0)]]) (wr := ([ob h 4 [.null, .null, .null, .int (jI 0), .null, .null, .null, .int (jI 0), .int (jI 0)]])) G (c_X3_init l D Y a_1) dX4_init_9 rfl gX4_init_X3_init rfl rfl rfl (List.mem_of_getElem? (i := 6) rfl) (List.mem_of_getElem? (i := 22) rfl) (List.mem_of_getElem? (i := 23) rfl) rfl ⟨by decide, by decide, by decide +kernel⟩ ⟨by decide, by decide⟩ rfl (jLe.pos [1, 0] rfl rfl) (Nat.le_of_ble_eq_true rfl) ⟨(Nat.le_of_ble_eq_true rfl), (Nat.le_of_ble_eq_true rfl)⟩ (fun v_ w_ hp_ => ?_)
  obtain ⟨q_2, rfl, rfl⟩ := hp_
  refine j_conv (ws' := [ob h 4 [.null, .null, .null, .int (jI 0), .null, .null, .null, .int (jI 0), .int (jI 0)]] ++ (wZ Y a_1 q_2 z0)) (jLe.pos [9, 0, 1, 2, 3, 4, 5, 6, 7, 8] rfl rfl) ?_
  show J x 9 164 ([ob h 4 [.null, .null, .null, .int (jI 0), .null, .null, .null, .int (jI 0), .int (jI 0)]] ++ (wZ Y a_1 q_2 z0)) 12 [(0, .ref h)] [.ref a_1, .ref h]
  refine j_putF (q := 0) (C := RX4) (T := TX4) (N := 9) (ws' := [ob h 4 [.ref a_1, .null, .null, .int (jI 0), .null, .null, .null, .int (jI 0), .int (jI 0)]] ++ (wZ Y a_1 q_2 z0)) G 0 hinX4 tyX4 tyX4_ok nmX4 rfl dX4_init_12 rfl rfl (by decide) (by decide +kernel) rfl rfl rfl rfl rfl (Nat.le_of_ble_eq_true rfl) rfl ?_
  refine j_aload_n G 0 dX4_init_15 rfl ?_
  refine j_new (C := RX3) (T := TX3) (N := 13) (ci := 3) (fs := [.null, .null, .int (jI 0), .null, .null, .null, .null, .null, .null, .int (jI 0), .int (jI 0), .int (jI 0), .int (jI 0)]) G hinX3 tyX3 tyX3_ok (List.mem_of_getElem? (i := 4) rfl) (List.mem_of_getElem? (i := 5) rfl) (List.mem_of_getElem? (i := 6) rfl) rfl (fun j hj => by rcases (show j = 0 ∨ j = 1 ∨ j = 2 ∨ j = 3 ∨ j = 4 ∨ j = 5 ∨ j = 6 ∨ j = 7 ∨ j = 8 ∨ j = 9 ∨ j = 10 ∨ j = 11 ∨ j = 12 by omega) with e | e | e | e | e | e | e | e | e | e | e | e | e <;> subst e <;> rfl) (Nat.le_of_ble_eq_true rfl) (Nat.le_of_ble_eq_true rfl) dX4_init_16 (fun a_3 => ?_)
  refine j_conv (ws' := [ob h 4 [.ref a_1, .null, .null, .int (jI 0), .null, .null, .null, .int (jI 0), .int (jI 0)]] ++ (wZ Y a_1 q_2 z0 ++ ([ob a_3 3 [.null, .null, .int (jI 0), .null, .null, .null, .null, .null, .null, .int (jI 0), .int (jI 0), .int (jI 0), .int (jI 0)]]))) (jLe.pos [0, 1, 2, 3, 4, 5, 6, 7, 8, 9, 10] rfl rfl) ?_
  show J x 10 177 ([ob h 4 [.ref a_1, .null, .null, .int (jI 0), .null, .null, .null, .int (jI 0), .int (jI 0)]] ++ (wZ Y a_1 q_2 z0 ++ ([ob a_3 3 [.null, .null, .int (jI 0), .null, .null, .null, .null, .null, .null, .int (jI 0), .int (jI 0), .int (jI 0), .int (jI 0)]]))) 19 [(0, .ref h)] [.ref a_3, .ref h]
  refine j_dup G dX4_init_19 rfl ?_
  refine j_callI (nA := 0) (As := []) (st := [.ref a_3, .ref h]) (wc := [ob a_3 3 [.null, .null, .int (jI 0), .null, .null, .null, .null, .null, .null, .int (jI 0), .int (jI 0), .int (jI 0), .int (jI 0)]]) (wr := ([ob h 4 [.ref a_1, .null, .null, .int (jI 0), .null, .null, .null, .int (jI 0), .int (jI 0)]] ++ (wZ Y a_1 q_2 z0))) G (c_X3_init l D Y a_3) dX4_init_20 rfl gX4_init_X3_init rfl rfl rfl (List.mem_of_getElem? (i := 6) rfl) (List.mem_of_getElem? (i := 22) rfl) (List.mem_of_getElem? (i := 23) rfl) rfl ⟨by decide, by decide, by decide +kernel⟩ ⟨by decide, by decide⟩ rfl (jLe.pos [10, 0, 1, 2, 3, 4, 5, 6, 7, 8, 9] rfl rfl) (Nat.le_of_ble_eq_true rfl) ⟨(Nat.le_of_ble_eq_true rfl), (Nat.le_of_ble_eq_true rfl)⟩ (fun v_ w_ hp_ => ?_)
  obtain ⟨q_4, rfl, rfl⟩ := hp_
  refine j_conv (ws' := [ob h 4 [.ref a_1, .null, .null, .int (jI 0), .null, .null, .null, .int (jI 0), .int (jI 0)]] ++ (wZ Y a_1 q_2 z0 ++ (wZ Y a_3 q_4 z0))) (jLe.pos [9, 10, 11, 12, 13, 14, 15, 16, 17, 18, 0, 1, 2, 3, 4, 5, 6, 7, 8] rfl rfl) ?_
  show J x 18 328 ([ob h 4 [.ref a_1, .null, .null, .int (jI 0), .null, .null, .null, .int (jI 0), .int (jI 0)]] ++ (wZ Y a_1 q_2 z0 ++ (wZ Y a_3 q_4 z0))) 23 [(0, .ref h)] [.ref a_3, .ref h]
  refine j_putF (q := 1) (C := RX4) (T := TX4) (N := 9) (ws' := [ob h 4 [.ref a_1, .ref a_3, .null, .int (jI 0), .null, .null, .null, .int (jI 0), .int (jI 0)]] ++ (wZ Y a_1 q_2 z0 ++ (wZ Y a_3 q_4 z0))) G 0 hinX4 tyX4 tyX4_ok nmX4 rfl dX4_init_23 rfl rfl (by decide) (by decide +kernel) rfl rfl rfl rfl rfl (Nat.le_of_ble_eq_true rfl) rfl ?_
  refine j_aload_n G 0 dX4_init_26 rfl ?_
  refine j_new (C := RX3) (T := TX3) (N := 13) (ci := 3) (fs := [.null, .null, .int (jI 0), .null, .null, .null, .null, .null, .null, .int (jI 0), .int (jI 0), .int (jI 0), .int (jI 0)]) G hinX3 tyX3 tyX3_ok (List.mem_of_getElem? (i := 4) rfl) (List.mem_of_getElem? (i := 5) rfl) (List.mem_of_getElem? (i := 6) rfl) rfl (fun j hj => by rcases (show j = 0 ∨ j = 1 ∨ j = 2 ∨ j = 3 ∨ j = 4 ∨ j = 5 ∨ j = 6 ∨ j = 7 ∨ j = 8 ∨ j = 9 ∨ j = 10 ∨ j = 11 ∨ j = 12 by omega) with e | e | e | e | e | e | e | e | e | e | e | e | e <;> subst e <;> rfl) (Nat.le_of_ble_eq_true rfl) (Nat.le_of_ble_eq_true rfl) dX4_init_27 (fun a_5 => ?_)
  refine j_conv (ws' := [ob h 4 [.ref a_1, .ref a_3, .null, .int (jI 0), .null, .null, .null, .int (jI 0), .int (jI 0)]] ++ (wZ Y a_1 q_2 z0 ++ (wZ Y a_3 q_4 z0 ++ ([ob a_5 3 [.null, .null, .int (jI 0), .null, .null, .null, .null, .null, .null, .int (jI 0), .int (jI 0), .int (jI 0), .int (jI 0)]])))) (jLe.pos [0, 1, 2, 3, 4, 5, 6, 7, 8, 9, 10, 11, 12, 13, 14, 15, 16, 17, 18, 19] rfl rfl) ?_
  show J x 19 341 ([ob h 4 [.ref a_1, .ref a_3, .null, .int (jI 0), .null, .null, .null, .int (jI 0), .int (jI 0)]] ++ (wZ Y a_1 q_2 z0 ++ (wZ Y a_3 q_4 z0 ++ ([ob a_5 3 [.null, .null, .int (jI 0), .null, .null, .null, .null, .null, .null, .int (jI 0), .int (jI 0), .int (jI 0), .int (jI 0)]])))) 30 [(0, .ref h)] [.ref a_5, .ref h]
  refine j_dup G dX4_init_30 rfl ?_
  refine j_callI (nA := 0) (As := []) (st := [.ref a_5, .ref h]) (wc := [ob a_5 3 [.null, .null, .int (jI 0), .null, .null, .null, .null, .null, .null, .int (jI 0), .int (jI 0), .int (jI 0), .int (jI 0)]]) (wr := ([ob h 4 [.ref a_1, .ref a_3, .null, .int (jI 0), .null, .null, .null, .int (jI 0), .int (jI 0)]] ++ (wZ Y a_1 q_2 z0 ++ (wZ Y a_3 q_4 z0)))) G (c_X3_init l D Y a_5) dX4_init_31 rfl gX4_init_X3_init rfl rfl rfl (List.mem_of_getElem? (i := 6) rfl) (List.mem_of_getElem? (i := 22) rfl) (List.mem_of_getElem? (i := 23) rfl) rfl ⟨by decide, by decide, by decide +kernel⟩ ⟨by decide, by decide⟩ rfl (jLe.pos [19, 0, 1, 2, 3, 4, 5, 6, 7, 8, 9, 10, 11, 12, 13, 14, 15, 16, 17, 18] rfl rfl) (Nat.le_of_ble_eq_true rfl) ⟨(Nat.le_of_ble_eq_true rfl), (Nat.le_of_ble_eq_true rfl)⟩ (fun v_ w_ hp_ => ?_)
  obtain ⟨q_6, rfl, rfl⟩ := hp_
  refine j_conv (ws' := [ob h 4 [.ref a_1, .ref a_3, .null, .int (jI 0), .null, .null, .null, .int (jI 0), .int (jI 0)]] ++ (wZ Y a_1 q_2 z0 ++ (wZ Y a_3 q_4 z0 ++ (wZ Y a_5 q_6 z0)))) (jLe.pos [9, 10, 11, 12, 13, 14, 15, 16, 17, 18, 19, 20, 21, 22, 23, 24, 25, 26, 27, 0, 1, 2, 3, 4, 5, 6, 7, 8] rfl rfl) ?_
  show J x 27 492 ([ob h 4 [.ref a_1, .ref a_3, .null, .int (jI 0), .null, .null, .null, .int (jI 0), .int (jI 0)]] ++ (wZ Y a_1 q_2 z0 ++ (wZ Y a_3 q_4 z0 ++ (wZ Y a_5 q_6 z0)))) 34 [(0, .ref h)] [.ref a_5, .ref h]
  refine j_putF (q := 2) (C := RX4) (T := TX4) (N := 9) (ws' := [ob h 4 [.ref a_1, .ref a_3, .ref a_5, .int (jI 0), .null, .null, .null, .int (jI 0), .int (jI 0)]] ++ (wZ Y a_1 q_2 z0 ++ (wZ Y a_3 q_4 z0 ++ (wZ Y a_5 q_6 z0)))) G 0 hinX4 tyX4 tyX4_ok nmX4 rfl dX4_init_34 rfl rfl (by decide) (by decide +kernel) rfl rfl rfl rfl rfl (Nat.le_of_ble_eq_true rfl) rfl ?_
  refine j_aload_n G 0 dX4_init_37 rfl ?_
  refine j_new (C := RX1) (T := TX1) (N := 2) (ci := 1) (fs := [.null, .int (jI 0)]) G hinX1 tyX1 tyX1_ok (List.mem_of_getElem? (i := 10) rfl) (List.mem_of_getElem? (i := 11) rfl) (List.mem_of_getElem? (i := 12) rfl) rfl (fun j hj => by rcases (show j = 0 ∨ j = 1 by omega) with e | e <;> subst e <;> rfl) (Nat.le_of_ble_eq_true rfl) (Nat.le_of_ble_eq_true rfl) dX4_init_38 (fun a_7 => ?_)
  refine j_conv (ws' := [ob h 4 [.ref a_1, .ref a_3, .ref a_5, .int (jI 0), .null, .null, .null, .int (jI 0), .int (jI 0)]] ++ (wZ Y a_1 q_2 z0 ++ (wZ Y a_3 q_4 z0 ++ (wZ Y a_5 q_6 z0 ++ ([ob a_7 1 [.null, .int (jI 0)]]))))) (jLe.pos [0, 1, 2, 3, 4, 5, 6, 7, 8, 9, 10, 11, 12, 13, 14, 15, 16, 17, 18, 19, 20, 21, 22, 23, 24, 25, 26, 27, 28] rfl rfl) ?_
  show J x 28 494 ([ob h 4 [.ref a_1, .ref a_3, .ref a_5, .int (jI 0), .null, .null, .null, .int (jI 0), .int (jI 0)]] ++ (wZ Y a_1 q_2 z0 ++ (wZ Y a_3 q_4 z0 ++ (wZ Y a_5 q_6 z0 ++ ([ob a_7 1 [.null, .int (jI 0)]]))))) 41 [(0, .ref h)] [.ref a_7, .ref h]
  refine j_dup G dX4_init_41 rfl ?_
  refine j_callI (nA := 0) (As := []) (st := [.ref a_7, .ref h]) (wc := [ob a_7 1 [.null, .int (jI 0)]]) (wr := ([ob h 4 [.ref a_1, .ref a_3, .ref a_5, .int (jI 0), .null, .null, .null, .int (jI 0), .int (jI 0)]] ++ (wZ Y a_1 q_2 z0 ++ (wZ Y a_3 q_4 z0 ++ (wZ Y a_5 q_6 z0))))) G (c_X1_init l D Y a_7) dX4_init_42 rfl gX4_init_X1_init rfl rfl rfl (List.mem_of_getElem? (i := 12) rfl) (List.mem_of_getElem? (i := 36) rfl) (List.mem_of_getElem? (i := 37) rfl) rfl ⟨by decide, by decide, by decide +kernel⟩ ⟨by decide, by decide⟩ rfl (jLe.pos [28, 0, 1, 2, 3, 4, 5, 6, 7, 8, 9, 10, 11, 12, 13, 14, 15, 16, 17, 18, 19, 20, 21, 22, 23, 24, 25, 26, 27] rfl rfl) (Nat.le_of_ble_eq_true rfl) ⟨(Nat.le_of_ble_eq_true rfl), (Nat.le_of_ble_eq_true rfl)⟩ (fun v_ w_ hp_ => ?_)
  obtain ⟨q_8, A_9, Q_10, rfl, rfl⟩ := hp_
  refine j_conv (ws' := [ob h 4 [.ref a_1, .ref a_3, .ref a_5, .int (jI 0), .null, .null, .null, .int (jI 0), .int (jI 0)]] ++ (wZ Y a_1 q_2 z0 ++ (wZ Y a_3 q_4 z0 ++ (wZ Y a_5 q_6 z0 ++ (gV Y a_7 q_8 0 (r4 (A_9 0) (A_9 1) (A_9 2) (A_9 3)) ++ (wZ Y (A_9 0) (Q_10 0) z0 ++ (wZ Y (A_9 1) (Q_10 1) z0 ++ (wZ Y (A_9 2) (Q_10 2) z0 ++ (wZ Y (A_9 3) (Q_10 3) z0))))))))) (jLe.pos [38, 39, 40, 41, 42, 43, 44, 45, 46, 47, 48, 49, 50, 51, 52, 53, 54, 55, 56, 57, 58, 59, 60, 61, 62, 63, 64, 65, 0, 1, 2, 3, 4, 5, 6, 7, 8, 9, 10, 11, 12, 13, 14, 15, 16, 17, 18, 19, 20, 21, 22, 23, 24, 25, 26, 27, 28, 29, 30, 31, 32, 33, 34, 35, 36, 37] rfl rfl) ?_
  show J x 65 1154 ([ob h 4 [.ref a_1, .ref a_3, .ref a_5, .int (jI 0), .null, .null, .null, .int (jI 0), .int (jI 0)]] ++ (wZ Y a_1 q_2 z0 ++ (wZ Y a_3 q_4 z0 ++ (wZ Y a_5 q_6 z0 ++ (gV Y a_7 q_8 0 (r4 (A_9 0) (A_9 1) (A_9 2) (A_9 3)) ++ (wZ Y (A_9 0) (Q_10 0) z0 ++ (wZ Y (A_9 1) (Q_10 1) z0 ++ (wZ Y (A_9 2) (Q_10 2) z0 ++ (wZ Y (A_9 3) (Q_10 3) z0))))))))) 45 [(0, .ref h)] [.ref a_7, .ref h]
  refine j_putF (q := 4) (C := RX4) (T := TX4) (N := 9) (ws' := [ob h 4 [.ref a_1, .ref a_3, .ref a_5, .int (jI 0), .ref a_7, .null, .null, .int (jI 0), .int (jI 0)]] ++ (wZ Y a_1 q_2 z0 ++ (wZ Y a_3 q_4 z0 ++ (wZ Y a_5 q_6 z0 ++ (gV Y a_7 q_8 0 (r4 (A_9 0) (A_9 1) (A_9 2) (A_9 3)) ++ (wZ Y (A_9 0) (Q_10 0) z0 ++ (wZ Y (A_9 1) (Q_10 1) z0 ++ (wZ Y (A_9 2) (Q_10 2) z0 ++ (wZ Y (A_9 3) (Q_10 3) z0))))))))) G 0 hinX4 tyX4 tyX4_ok nmX4 rfl dX4_init_45 rfl rfl (by decide) (by decide +kernel) rfl rfl rfl rfl rfl (Nat.le_of_ble_eq_true rfl) rfl ?_
  refine j_aload_n G 0 dX4_init_48 rfl ?_
  refine j_new (C := RX2) (T := TX2) (N := 3) (ci := 2) (fs := [.null, .null, .int (jI 0)]) G hinX2 tyX2 tyX2_ok (List.mem_of_getElem? (i := 14) rfl) (List.mem_of_getElem? (i := 15) rfl) (List.mem_of_getElem? (i := 16) rfl) rfl (fun j hj => by rcases (show j = 0 ∨ j = 1 ∨ j = 2 by omega) with e | e | e <;> subst e <;> rfl) (Nat.le_of_ble_eq_true rfl) (Nat.le_of_ble_eq_true rfl) dX4_init_49 (fun a_11 => ?_)
  refine j_conv (ws' := [ob h 4 [.ref a_1, .ref a_3, .ref a_5, .int (jI 0), .ref a_7, .null, .null, .int (jI 0), .int (jI 0)]] ++ (wZ Y a_1 q_2 z0 ++ (wZ Y a_3 q_4 z0 ++ (wZ Y a_5 q_6 z0 ++ (gV Y a_7 q_8 0 (r4 (A_9 0) (A_9 1) (A_9 2) (A_9 3)) ++ (wZ Y (A_9 0) (Q_10 0) z0 ++ (wZ Y (A_9 1) (Q_10 1) z0 ++ (wZ Y (A_9 2) (Q_10 2) z0 ++ (wZ Y (A_9 3) (Q_10 3) z0 ++ ([ob a_11 2 [.null, .null, .int (jI 0)]])))))))))) (jLe.pos [0, 1, 2, 3, 4, 5, 6, 7, 8, 9, 10, 11, 12, 13, 14, 15, 16, 17, 18, 19, 20, 21, 22, 23, 24, 25, 26, 27, 28, 29, 30, 31, 32, 33, 34, 35, 36, 37, 38, 39, 40, 41, 42, 43, 44, 45, 46, 47, 48, 49, 50, 51, 52, 53, 54, 55, 56, 57, 58, 59, 60, 61, 62, 63, 64, 65, 66] rfl rfl) ?_
  show J x 66 1157 ([ob h 4 [.ref a_1, .ref a_3, .ref a_5, .int (jI 0), .ref a_7, .null, .null, .int (jI 0), .int (jI 0)]] ++ (wZ Y a_1 q_2 z0 ++ (wZ Y a_3 q_4 z0 ++ (wZ Y a_5 q_6 z0 ++ (gV Y a_7 q_8 0 (r4 (A_9 0) (A_9 1) (A_9 2) (A_9 3)) ++ (wZ Y (A_9 0) (Q_10 0) z0 ++ (wZ Y (A_9 1) (Q_10 1) z0 ++ (wZ Y (A_9 2) (Q_10 2) z0 ++ (wZ Y (A_9 3) (Q_10 3) z0 ++ ([ob a_11 2 [.null, .null, .int (jI 0)]])))))))))) 52 [(0, .ref h)] [.ref a_11, .ref h]
  refine j_dup G dX4_init_52 rfl ?_
  refine j_callIN (host := "StormFelling") (nA := 0) (As := []) (st := [.ref a_11, .ref h]) (wc := [ob a_11 2 [.null, .null, .int (jI 0)]]) (wr := ([ob h 4 [.ref a_1, .ref a_3, .ref a_5, .int (jI 0), .ref a_7, .null, .null, .int (jI 0), .int (jI 0)]] ++ (wZ Y a_1 q_2 z0 ++ (wZ Y a_3 q_4 z0 ++ (wZ Y a_5 q_6 z0 ++ (gV Y a_7 q_8 0 (r4 (A_9 0) (A_9 1) (A_9 2) (A_9 3)) ++ (wZ Y (A_9 0) (Q_10 0) z0 ++ (wZ Y (A_9 1) (Q_10 1) z0 ++ (wZ Y (A_9 2) (Q_10 2) z0 ++ (wZ Y (A_9 3) (Q_10 3) z0)))))))))) G (c_X2_init l D Y a_11) dX4_init_53 rfl gX4_init_X2_init_n31 rfl rfl rfl (by decide +kernel) (List.mem_of_getElem? (i := 16) rfl) (List.mem_of_getElem? (i := 43) rfl) rfl ⟨by decide, by decide, by decide +kernel⟩ ⟨by decide, by decide⟩ rfl (jLe.pos [66, 0, 1, 2, 3, 4, 5, 6, 7, 8, 9, 10, 11, 12, 13, 14, 15, 16, 17, 18, 19, 20, 21, 22, 23, 24, 25, 26, 27, 28, 29, 30, 31, 32, 33, 34, 35, 36, 37, 38, 39, 40, 41, 42, 43, 44, 45, 46, 47, 48, 49, 50, 51, 52, 53, 54, 55, 56, 57, 58, 59, 60, 61, 62, 63, 64, 65] rfl rfl) (Nat.le_of_ble_eq_true rfl) ⟨(Nat.le_of_ble_eq_true rfl), (Nat.le_of_ble_eq_true rfl)⟩ (fun v_ w_ hp_ => ?_)
  obtain ⟨q_12, rfl, rfl⟩ := hp_
  refine j_conv (ws' := [ob h 4 [.ref a_1, .ref a_3, .ref a_5, .int (jI 0), .ref a_7, .null, .null, .int (jI 0), .int (jI 0)]] ++ (wZ Y a_1 q_2 z0 ++ (wZ Y a_3 q_4 z0 ++ (wZ Y a_5 q_6 z0 ++ (gV Y a_7 q_8 0 (r4 (A_9 0) (A_9 1) (A_9 2) (A_9 3)) ++ (wZ Y (A_9 0) (Q_10 0) z0 ++ (wZ Y (A_9 1) (Q_10 1) z0 ++ (wZ Y (A_9 2) (Q_10 2) z0 ++ (wZ Y (A_9 3) (Q_10 3) z0 ++ (pV Y a_11 q_12 (fun _ => 0) (fun _ => 0) 0)))))))))) (jLe.pos [3, 4, 5, 6, 7, 8, 9, 10, 11, 12, 13, 14, 15, 16, 17, 18, 19, 20, 21, 22, 23, 24, 25, 26, 27, 28, 29, 30, 31, 32, 33, 34, 35, 36, 37, 38, 39, 40, 41, 42, 43, 44, 45, 46, 47, 48, 49, 50, 51, 52, 53, 54, 55, 56, 57, 58, 59, 60, 61, 62, 63, 64, 65, 66, 67, 68, 0, 1, 2] rfl rfl) ?_
  show J x 68 1285 ([ob h 4 [.ref a_1, .ref a_3, .ref a_5, .int (jI 0), .ref a_7, .null, .null, .int (jI 0), .int (jI 0)]] ++ (wZ Y a_1 q_2 z0 ++ (wZ Y a_3 q_4 z0 ++ (wZ Y a_5 q_6 z0 ++ (gV Y a_7 q_8 0 (r4 (A_9 0) (A_9 1) (A_9 2) (A_9 3)) ++ (wZ Y (A_9 0) (Q_10 0) z0 ++ (wZ Y (A_9 1) (Q_10 1) z0 ++ (wZ Y (A_9 2) (Q_10 2) z0 ++ (wZ Y (A_9 3) (Q_10 3) z0 ++ (pV Y a_11 q_12 (fun _ => 0) (fun _ => 0) 0)))))))))) 56 [(0, .ref h)] [.ref a_11, .ref h]
  refine j_putF (q := 5) (C := RX4) (T := TX4) (N := 9) (ws' := [ob h 4 [.ref a_1, .ref a_3, .ref a_5, .int (jI 0), .ref a_7, .ref a_11, .null, .int (jI 0), .int (jI 0)]] ++ (wZ Y a_1 q_2 z0 ++ (wZ Y a_3 q_4 z0 ++ (wZ Y a_5 q_6 z0 ++ (gV Y a_7 q_8 0 (r4 (A_9 0) (A_9 1) (A_9 2) (A_9 3)) ++ (wZ Y (A_9 0) (Q_10 0) z0 ++ (wZ Y (A_9 1) (Q_10 1) z0 ++ (wZ Y (A_9 2) (Q_10 2) z0 ++ (wZ Y (A_9 3) (Q_10 3) z0 ++ (pV Y a_11 q_12 (fun _ => 0) (fun _ => 0) 0)))))))))) G 0 hinX4 tyX4 tyX4_ok nmX4 rfl dX4_init_56 rfl rfl (by decide) (by decide +kernel) rfl rfl rfl rfl rfl (Nat.le_of_ble_eq_true rfl) rfl ?_
  refine j_aload_n G 0 dX4_init_59 rfl ?_
  refine j_new (C := RX0) (T := TX0) (N := 6) (ci := 0) (fs := [.null, .int (jI 0), .int (jI 0), .int (jI 0), .int (jI 0), .int (jI 0)]) G hinX0 tyX0 tyX0_ok (List.mem_of_getElem? (i := 18) rfl) (List.mem_of_getElem? (i := 19) rfl) (List.mem_of_getElem? (i := 20) rfl) rfl (fun j hj => by rcases (show j = 0 ∨ j = 1 ∨ j = 2 ∨ j = 3 ∨ j = 4 ∨ j = 5 by omega) with e | e | e | e | e | e <;> subst e <;> rfl) (Nat.le_of_ble_eq_true rfl) (Nat.le_of_ble_eq_true rfl) dX4_init_60 (fun a_13 => ?_)
  refine j_conv (ws' := [ob h 4 [.ref a_1, .ref a_3, .ref a_5, .int (jI 0), .ref a_7, .ref a_11, .null, .int (jI 0), .int (jI 0)]] ++ (wZ Y a_1 q_2 z0 ++ (wZ Y a_3 q_4 z0 ++ (wZ Y a_5 q_6 z0 ++ (gV Y a_7 q_8 0 (r4 (A_9 0) (A_9 1) (A_9 2) (A_9 3)) ++ (wZ Y (A_9 0) (Q_10 0) z0 ++ (wZ Y (A_9 1) (Q_10 1) z0 ++ (wZ Y (A_9 2) (Q_10 2) z0 ++ (wZ Y (A_9 3) (Q_10 3) z0 ++ (pV Y a_11 q_12 (fun _ => 0) (fun _ => 0) 0 ++ ([ob a_13 0 [.null, .int (jI 0), .int (jI 0), .int (jI 0), .int (jI 0), .int (jI 0)]]))))))))))) (jLe.pos [0, 1, 2, 3, 4, 5, 6, 7, 8, 9, 10, 11, 12, 13, 14, 15, 16, 17, 18, 19, 20, 21, 22, 23, 24, 25, 26, 27, 28, 29, 30, 31, 32, 33, 34, 35, 36, 37, 38, 39, 40, 41, 42, 43, 44, 45, 46, 47, 48, 49, 50, 51, 52, 53, 54, 55, 56, 57, 58, 59, 60, 61, 62, 63, 64, 65, 66, 67, 68, 69] rfl rfl) ?_
  show J x 69 1291 ([ob h 4 [.ref a_1, .ref a_3, .ref a_5, .int (jI 0), .ref a_7, .ref a_11, .null, .int (jI 0), .int (jI 0)]] ++ (wZ Y a_1 q_2 z0 ++ (wZ Y a_3 q_4 z0 ++ (wZ Y a_5 q_6 z0 ++ (gV Y a_7 q_8 0 (r4 (A_9 0) (A_9 1) (A_9 2) (A_9 3)) ++ (wZ Y (A_9 0) (Q_10 0) z0 ++ (wZ Y (A_9 1) (Q_10 1) z0 ++ (wZ Y (A_9 2) (Q_10 2) z0 ++ (wZ Y (A_9 3) (Q_10 3) z0 ++ (pV Y a_11 q_12 (fun _ => 0) (fun _ => 0) 0 ++ ([ob a_13 0 [.null, .int (jI 0), .int (jI 0), .int (jI 0), .int (jI 0), .int (jI 0)]]))))))))))) 63 [(0, .ref h)] [.ref a_13, .ref h]
  refine j_dup G dX4_init_63 rfl ?_
  refine j_callIN (host := "StormFelling") (nA := 0) (As := []) (st := [.ref a_13, .ref h]) (wc := [ob a_13 0 [.null, .int (jI 0), .int (jI 0), .int (jI 0), .int (jI 0), .int (jI 0)]]) (wr := ([ob h 4 [.ref a_1, .ref a_3, .ref a_5, .int (jI 0), .ref a_7, .ref a_11, .null, .int (jI 0), .int (jI 0)]] ++ (wZ Y a_1 q_2 z0 ++ (wZ Y a_3 q_4 z0 ++ (wZ Y a_5 q_6 z0 ++ (gV Y a_7 q_8 0 (r4 (A_9 0) (A_9 1) (A_9 2) (A_9 3)) ++ (wZ Y (A_9 0) (Q_10 0) z0 ++ (wZ Y (A_9 1) (Q_10 1) z0 ++ (wZ Y (A_9 2) (Q_10 2) z0 ++ (wZ Y (A_9 3) (Q_10 3) z0 ++ (pV Y a_11 q_12 (fun _ => 0) (fun _ => 0) 0))))))))))) G (c_X0_init l D Y a_13) dX4_init_64 rfl gX4_init_X0_init_n38 rfl rfl rfl (by decide +kernel) (List.mem_of_getElem? (i := 20) rfl) (List.mem_of_getElem? (i := 48) rfl) rfl ⟨by decide, by decide, by decide +kernel⟩ ⟨by decide, by decide⟩ rfl (jLe.pos [69, 0, 1, 2, 3, 4, 5, 6, 7, 8, 9, 10, 11, 12, 13, 14, 15, 16, 17, 18, 19, 20, 21, 22, 23, 24, 25, 26, 27, 28, 29, 30, 31, 32, 33, 34, 35, 36, 37, 38, 39, 40, 41, 42, 43, 44, 45, 46, 47, 48, 49, 50, 51, 52, 53, 54, 55, 56, 57, 58, 59, 60, 61, 62, 63, 64, 65, 66, 67, 68] rfl rfl) (Nat.le_of_ble_eq_true rfl) ⟨(Nat.le_of_ble_eq_true rfl), (Nat.le_of_ble_eq_true rfl)⟩ (fun v_ w_ hp_ => ?_)
  obtain ⟨q_14, rfl, rfl⟩ := hp_
  refine j_conv (ws' := [ob h 4 [.ref a_1, .ref a_3, .ref a_5, .int (jI 0), .ref a_7, .ref a_11, .null, .int (jI 0), .int (jI 0)]] ++ (wZ Y a_1 q_2 z0 ++ (wZ Y a_3 q_4 z0 ++ (wZ Y a_5 q_6 z0 ++ (gV Y a_7 q_8 0 (r4 (A_9 0) (A_9 1) (A_9 2) (A_9 3)) ++ (wZ Y (A_9 0) (Q_10 0) z0 ++ (wZ Y (A_9 1) (Q_10 1) z0 ++ (wZ Y (A_9 2) (Q_10 2) z0 ++ (wZ Y (A_9 3) (Q_10 3) z0 ++ (pV Y a_11 q_12 (fun _ => 0) (fun _ => 0) 0 ++ (dV Y a_13 q_14 (fun _ => 0) 0 0 0 0 0))))))))))) (jLe.pos [2, 3, 4, 5, 6, 7, 8, 9, 10, 11, 12, 13, 14, 15, 16, 17, 18, 19, 20, 21, 22, 23, 24, 25, 26, 27, 28, 29, 30, 31, 32, 33, 34, 35, 36, 37, 38, 39, 40, 41, 42, 43, 44, 45, 46, 47, 48, 49, 50, 51, 52, 53, 54, 55, 56, 57, 58, 59, 60, 61, 62, 63, 64, 65, 66, 67, 68, 69, 70, 0, 1] rfl rfl) ?_
  show J x 70 1351 ([ob h 4 [.ref a_1, .ref a_3, .ref a_5, .int (jI 0), .ref a_7, .ref a_11, .null, .int (jI 0), .int (jI 0)]] ++ (wZ Y a_1 q_2 z0 ++ (wZ Y a_3 q_4 z0 ++ (wZ Y a_5 q_6 z0 ++ (gV Y a_7 q_8 0 (r4 (A_9 0) (A_9 1) (A_9 2) (A_9 3)) ++ (wZ Y (A_9 0) (Q_10 0) z0 ++ (wZ Y (A_9 1) (Q_10 1) z0 ++ (wZ Y (A_9 2) (Q_10 2) z0 ++ (wZ Y (A_9 3) (Q_10 3) z0 ++ (pV Y a_11 q_12 (fun _ => 0) (fun _ => 0) 0 ++ (dV Y a_13 q_14 (fun _ => 0) 0 0 0 0 0))))))))))) 67 [(0, .ref h)] [.ref a_13, .ref h]
  refine j_putF (q := 6) (C := RX4) (T := TX4) (N := 9) (ws' := [ob h 4 [.ref a_1, .ref a_3, .ref a_5, .int (jI 0), .ref a_7, .ref a_11, .ref a_13, .int (jI 0), .int (jI 0)]] ++ (wZ Y a_1 q_2 z0 ++ (wZ Y a_3 q_4 z0 ++ (wZ Y a_5 q_6 z0 ++ (gV Y a_7 q_8 0 (r4 (A_9 0) (A_9 1) (A_9 2) (A_9 3)) ++ (wZ Y (A_9 0) (Q_10 0) z0 ++ (wZ Y (A_9 1) (Q_10 1) z0 ++ (wZ Y (A_9 2) (Q_10 2) z0 ++ (wZ Y (A_9 3) (Q_10 3) z0 ++ (pV Y a_11 q_12 (fun _ => 0) (fun _ => 0) 0 ++ (dV Y a_13 q_14 (fun _ => 0) 0 0 0 0 0))))))))))) G 0 hinX4 tyX4 tyX4_ok nmX4 rfl dX4_init_67 rfl rfl (by decide) (by decide +kernel) rfl rfl rfl rfl rfl (Nat.le_of_ble_eq_true rfl) rfl ?_
  exact j_retv G dX4_init_70 (jLe.rf _) (kr0 _ _ ⟨a_1, a_3, a_5, a_7, a_11, a_13, q_2, q_4, q_6, q_8, A_9, Q_10, q_12, q_14, rfl, rfl⟩)
