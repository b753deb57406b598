/-! ===== whole numbers for ints ===== -/
def jI (z : Int) : Int32 := Int32.ofInt z
def inR (z : Int) : Prop := -2147483648 ≤ z ∧ z < 2147483648
theorem jI_T {a : Int} (h : -2147483648 ≤ a ∧ a < 2147483648) : (jI a).toInt = a := Int32.toInt_ofInt_of_le (by omega) (by omega)
theorem jI_of (x : Int32) : x = jI x.toInt := (Int32.ofInt_toInt x).symm
theorem jI_rng (x : Int32) : -2147483648 ≤ x.toInt ∧ x.toInt < 2147483648 := by
  have h1 := Int32.le_toInt x
  have h2 := Int32.toInt_lt x
  omega
theorem jI_add (a b : Int) : jI a + jI b = jI (a + b) := (Int32.ofInt_add a b).symm
theorem jI_sub (a b : Int) : jI a - jI b = jI (a - b) := (Int32.ofInt_sub a b).symm
theorem jI_mul (a b : Int) : jI a * jI b = jI (a * b) := (Int32.ofInt_mul a b).symm
theorem jI_neg (a : Int) : -jI a = jI (-a) := (Int32.ofInt_neg a).symm
theorem jI_eq {a b : Int} (ha : -2147483648 ≤ a ∧ a < 2147483648) (hb : -2147483648 ≤ b ∧ b < 2147483648) : jI a = jI b ↔ a = b := by
  rw [← Int32.toInt_inj, jI_T ha, jI_T hb]
theorem jI_lt {a b : Int} (ha : -2147483648 ≤ a ∧ a < 2147483648) (hb : -2147483648 ≤ b ∧ b < 2147483648) : jI a < jI b ↔ a < b := by
  rw [Int32.lt_iff_toInt_lt, jI_T ha, jI_T hb]
theorem jI_le {a b : Int} (ha : -2147483648 ≤ a ∧ a < 2147483648) (hb : -2147483648 ≤ b ∧ b < 2147483648) : jI a ≤ jI b ↔ a ≤ b := by
  rw [Int32.le_iff_toInt_le, jI_T ha, jI_T hb]
theorem jI_div {a b : Int} (ha : 0 ≤ a ∧ a < 2147483648) (hb : 0 < b ∧ b < 2147483648) : jI a / jI b = jI (a / b) := by
  have h1 : a / b ≤ a := Int.ediv_le_self b ha.1
  have h2 : 0 ≤ a / b := Int.ediv_nonneg ha.1 (by omega)
  apply Int32.toInt_inj.mp
  rw [lg_idiv_nonneg (by rw [jI_T (by omega)]; omega) (by rw [jI_T (by omega)]; omega), jI_T (by omega), jI_T (by omega), jI_T (by omega)]
theorem jI_rem {a b : Int} (ha : 0 ≤ a ∧ a < 2147483648) (hb : 0 < b ∧ b < 2147483648) : jI a - jI a / jI b * jI b = jI (a % b) := by
  rw [jI_div ha hb, jI_mul, jI_sub, Int.emod_def, Int.mul_comm]
theorem jI_in {a : Int} {n : Nat} (h : 0 ≤ a ∧ a < n) (hn : (n : Int) < 2147483648) : vp_in (jI a) n := by
  rw [vp_in_iff, jI_T (by omega)]
  exact h
theorem jI_cl {a : Int} (h : 0 ≤ a ∧ a < 2147483648) : (jI a).toNatClampNeg = a.toNat := by
  show (jI a).toInt.toNat = _
  rw [jI_T (by omega)]
theorem jI_nI (n : Nat) : nI n = jI (n : Int) := rfl
def aI (f : Int → Int) : Nat → Int32 := fun j => jI (f (j : Int))
def upZ (f : Int → Int) (k v : Int) : Int → Int := fun j => if j = k then v else f j
theorem upZ_eq (f : Int → Int) (k v : Int) {j : Int} (h : j = k) : upZ f k v j = v := if_pos h
theorem upZ_ne (f : Int → Int) (k v : Int) {j : Int} (h : ¬ j = k) : upZ f k v j = f j := if_neg h
theorem aI_at (f : Int → Int) {a : Int} (h : 0 ≤ a ∧ a < 2147483648) : aI f (jI a).toNatClampNeg = jI (f a) := by
  rw [jI_cl h]
  show jI (f (a.toNat : Int)) = _
  rw [Int.toNat_of_nonneg h.1]
theorem aI_upd (f : Int → Int) {a : Int} (h : 0 ≤ a ∧ a < 2147483648) (v : Int) : upd (aI f) (jI a).toNatClampNeg (jI v) = aI (upZ f a v) := by
  rw [jI_cl h]
  funext j
  show (if j = a.toNat then jI v else jI (f (j : Int))) = jI (if (j : Int) = a then v else f (j : Int))
  by_cases hj : j = a.toNat
  · rw [if_pos hj, if_pos (by omega)]
  · rw [if_neg hj, if_neg (by omega)]
theorem jI_z {v : Int} (h : v = 0 ∨ v = 1) : narrow .boolean (.int (jI v)) = .int (jI v) := by rcases h with rfl | rfl <;> rfl
theorem jI_nz {v : Int} (h : v = 0 ∨ v = 1) : vp_nar .boolean (jI v) = jI v := by rcases h with rfl | rfl <;> rfl
theorem jI_c {v : Int} (h : 0 ≤ v ∧ v < 65536) : narrow .char (.int (jI v)) = .int (jI v) ∧ fits .char (.int (jI v)) = true := by
  have h1 := pk_charN (q := v.toNat) (by omega)
  rw [jI_nI, Int.toNat_of_nonneg h.1] at h1
  exact h1
theorem jI_nc {v : Int} (h : 0 ≤ v ∧ v < 65536) : vp_nar .char (jI v) = jI v := by
  unfold vp_nar
  rw [(jI_c h).1]
/-! longs -/
def jL (z : Int) : Int64 := Int64.ofInt z
theorem jL_T {a : Int} (h : -9223372036854775808 ≤ a ∧ a < 9223372036854775808) : (jL a).toInt = a := Int64.toInt_ofInt_of_le (by omega) (by omega)
theorem jL_of {a : Int} (h : -2147483648 ≤ a ∧ a < 2147483648) : (jI a).toInt64 = jL a := by
  apply Int64.toInt_inj.mp
  rw [Int32.toInt_toInt64, jI_T h, jL_T (by omega)]
theorem jL_mul (a b : Int) : jL a * jL b = jL (a * b) := (Int64.ofInt_mul a b).symm
theorem jL_div {a b : Int} (ha : 0 ≤ a ∧ a < 9223372036854775808) (hb : 0 < b ∧ b < 9223372036854775808) : jL a / jL b = jL (a / b) := by
  have h1 : a / b ≤ a := Int.ediv_le_self b ha.1
  have h2 : 0 ≤ a / b := Int.ediv_nonneg ha.1 (by omega)
  have e1 : a = ((a.toNat : Nat) : Int) := by omega
  have e2 : b = ((b.toNat : Nat) : Int) := by omega
  have h3 := pk_lDiv (a := a.toNat) (b := b.toNat) (by omega) (by omega) (by omega)
  have e3 : ((a.toNat : Nat) : Int) / ((b.toNat : Nat) : Int) = ((a.toNat / b.toNat : Nat) : Int) := by first | rfl | exact (Int.natCast_ediv _ _).symm
  rw [e1, e2, e3]
  exact h3
theorem jL_i {a : Int} (h : 0 ≤ a ∧ a < 2147483648) : (jL a).toInt32 = jI a := by
  have e1 : a = ((a.toNat : Nat) : Int) := by omega
  rw [e1]
  exact lN_i a.toNat
/-! truth values -/
theorem ite_T {P : Prop} [Decidable P] (h : P) : (1 : Int) = if P then 1 else 0 := (if_pos h).symm
theorem ite_F {P : Prop} [Decidable P] (h : ¬ P) : (0 : Int) = if P then 1 else 0 := (if_neg h).symm
theorem ite_0 {P : Prop} [Decidable P] (h : (if P then (1 : Int) else 0) = 0) : ¬ P := fun q => by rw [if_pos q] at h; cases h
theorem ite_1 {P : Prop} [Decidable P] (h : ¬ (if P then (1 : Int) else 0) = 0) : P := by
  by_cases q : P
  · exact q
  · rw [if_neg q] at h; exact absurd rfl h
/-! ===== links to a nest mate's private members ===== -/
def nwF : List (String × Nat × String × String × String × String) := [("StormFelling$Wood", 37, "StormFelling", "FIRST_SETTINGS", "[I", "StormFelling"), ("StormFelling", 135, "StormFelling$Wood", "worths", "[I", "StormFelling"), ("StormFelling", 155, "StormFelling$Wood", "felled", "[Z", "StormFelling"), ("StormFelling", 139, "StormFelling$Wood", "mud", "I", "StormFelling"), ("StormFelling", 159, "StormFelling$Wood", "places", "[I", "StormFelling"), ("StormFelling", 162, "StormFelling$Wood", "steps", "[I", "StormFelling"), ("StormFelling", 165, "StormFelling$Wood", "saved", "[I", "StormFelling"), ("StormFelling", 168, "StormFelling$Wood", "fellings", "[I", "StormFelling"), ("StormFelling", 171, "StormFelling$Wood", "told", "[I", "StormFelling"), ("StormFelling", 228, "StormFelling$Wood", "settings", "[I", "StormFelling"), ("StormFelling", 132, "StormFelling$Wood", "day", "I", "StormFelling"), ("StormFelling", 216, "StormFelling$Wood", "lost", "I", "StormFelling"), ("StormFelling", 219, "StormFelling$Wood", "regretted", "I", "StormFelling"), ("StormFelling", 222, "StormFelling$Wood", "storms", "I", "StormFelling"), ("StormFelling", 125, "StormFelling$History", "size", "I", "StormFelling"), ("StormFelling$Wood", 94, "StormFelling$Paths", "all", "I", "StormFelling"), ("StormFelling", 207, "StormFelling$Paths", "all", "I", "StormFelling"), ("StormFelling", 231, "StormFelling$Days", "length", "I", "StormFelling"), ("StormFelling", 247, "StormFelling$Days", "kind", "C", "StormFelling"), ("StormFelling", 241, "StormFelling$Days", "first", "I", "StormFelling"), ("StormFelling", 244, "StormFelling$Days", "second", "I", "StormFelling"), ("StormFelling$Wood", 75, "StormFelling", "LEAST_SETTINGS", "[I", "StormFelling"), ("StormFelling$Wood", 78, "StormFelling", "GREATEST_SETTINGS", "[I", "StormFelling")]
def nwM : List (String × Nat × MethodName × String) := [("StormFelling", 31, ⟨"StormFelling$Paths", "<init>", "()V"⟩, "StormFelling"), ("StormFelling", 38, ⟨"StormFelling$Days", "<init>", "()V"⟩, "StormFelling"), ("StormFelling$Wood", 62, ⟨"StormFelling", "isIn", "(III)Z"⟩, "StormFelling"), ("StormFelling$Days", 62, ⟨"StormFelling", "isIn", "(III)Z"⟩, "StormFelling")]
def NW (U : State) : Prop := (∀ q ∈ nwF, va_Nw (.fieldLinkNest q.1 q.2.1 q.2.2.1 q.2.2.2.1 q.2.2.2.2.1 q.2.2.2.2.2) U) ∧ (∀ q ∈ nwM, va_Nw (.methodLinkNest q.1 q.2.1 q.2.2.1 q.2.2.2) U) ∧ va_AO RX3 U
theorem NW.warm {s U : State} (hW : s.WarmedH U.vm) (h : NW s) : NW U := ⟨fun q hq => va_Nw.warmF hW (h.1 q hq), fun q hq => va_Nw.warmM hW (h.2.1 q hq), va_AO.moved hW.alike h.2.2⟩
theorem NW.same {u U : State} (e : u.vm = U.vm) (h : NW u) : NW U := ⟨fun q hq => va_Nw.same rfl e (h.1 q hq), fun q hq => va_Nw.same rfl e (h.2.1 q hq), va_AO.moved (by rw [← e]; exact Vm.Alike.refl _) h.2.2⟩
/-! the three static arrays: nobody writes them -/
def sF (a b c : Int) (j : Nat) : Value := if j = 0 then .int (jI a) else if j = 1 then .int (jI b) else .int (jI c)
def ST1 (n : String) (f : Nat → Value) (A : Nat → Prop) (U : State) (H : Heap) : Prop := ∃ t : Nat, va_Z "StormFelling" n "[I" (.ref t) A U H ∧ va_T .int t 3 f A U H
def ST (A : Nat → Prop) (U : State) (H : Heap) : Prop := ST1 "LEAST_SETTINGS" (sF 1 0 1) A U H ∧ ST1 "FIRST_SETTINGS" (sF 8 0 3) A U H ∧ ST1 "GREATEST_SETTINGS" (sF 30 2 9) A U H
theorem ST1.go {n : String} {f : Nat → Value} {A B : Nat → Prop} {u U : State} {H H1 : Heap} (h : ST1 n f A u H) (hvm : u.vm.Alike U.vm) (hq : ∀ a : Nat, a < H.size → ¬ A a → H1[a]? = H[a]?) (hAB : ∀ q, B q → A q) : ST1 n f B U H1 := by
  obtain ⟨t, h1, h2⟩ := h
  exact ⟨t, ((va_Z.moved hvm h1).kept hq).narrow hAB, ((va_T.moved hvm h2).kept hq).narrow hAB⟩
theorem ST.go {A B : Nat → Prop} {u U : State} {H H1 : Heap} (h : ST A u H) (hvm : u.vm.Alike U.vm) (hq : ∀ a : Nat, a < H.size → ¬ A a → H1[a]? = H[a]?) (hAB : ∀ q, B q → A q) : ST B U H1 :=
  ⟨h.1.go hvm hq hAB, h.2.1.go hvm hq hAB, h.2.2.go hvm hq hAB⟩
/-! ===== worlds ===== -/
def TY (Y : Nat → ClassId) : List (ClassId × FieldType) := [(Y 0, .int), (Y 1, .boolean), (Y 2, .char), (Y 3, .object RX3)]
abbrev aN (Y : Nat → ClassId) (q n : Nat) (f : Int → Int) : Nat × va_E := (q, .inl (Y 0, n, .inl (aI f)))
abbrev aZ (Y : Nat → ClassId) (q n : Nat) (f : Int → Int) : Nat × va_E := (q, .inl (Y 1, n, .inl (aI f)))
abbrev aC (Y : Nat → ClassId) (q n : Nat) (f : Int → Int) : Nat × va_E := (q, .inl (Y 2, n, .inl (aI f)))
abbrev aQ (Y : Nat → ClassId) (q n : Nat) (f : Nat → Option Nat) : Nat × va_E := (q, .inl (Y 3, n, .inr (.inr (.inr (.inr f)))))
abbrev ob (q c : Nat) (fs : List Value) : Nat × va_E := (q, .inr (c, fs))
/-- a world told in another way (its cells in another order, fewer of them, arrays that agree within) -/
def jLe (ws ws' : va_W) : Prop := (∀ (D : va_G) (H : Heap), va_P D vwCl ws H → va_P D vwCl ws' H) ∧ ∀ A : Nat → Prop, va_D A ws → va_D A ws'
theorem jLe.rf (ws : va_W) : jLe ws ws := ⟨fun _ _ h => h, fun _ h => h⟩
theorem jLe.tr {a b c : va_W} (h : jLe a b) (g : jLe b c) : jLe a c := ⟨fun D H q => g.1 D H (h.1 D H q), fun A q => g.2 A (h.2 A q)⟩
theorem fm_some {α β : Type} (f : α → Option β) : ∀ (is : List α) (l : List β), is.map f = l.map some → is.filterMap f = l
  | [], [], _ => rfl
  | [], b :: l, h => by simp at h
  | a :: is, [], h => by simp at h
  | a :: is, b :: l, h => by
    simp only [List.map_cons, List.cons.injEq] at h
    rw [List.filterMap_cons_some h.1, fm_some f is l h.2]
theorem jLe.pos {ws ws' : va_W} (is : List Nat) (hn : va_nd is = true) (hs : is.map (fun i => ws[i]?) = ws'.map some) : jLe ws ws' :=
  ⟨fun D H h => h.sub is (fm_some _ _ _ hs), fun A h => h.sub is hn hs⟩
/-- cells that hold the same, within -/
def cLe (p q : Nat × va_E) : Prop := p.1 = q.1 ∧ ∀ (D : va_G) (H : Heap), va_at D vwCl p H → va_at D vwCl q H
theorem cLe.rf (p : Nat × va_E) : cLe p p := ⟨rfl, fun _ _ h => h⟩
theorem cLe.ar (c : ClassId) (q n : Nat) {f g : Int → Int} (h : ∀ j : Int, 0 ≤ j → j < n → f j = g j) : cLe (q, .inl (c, n, .inl (aI f))) (q, .inl (c, n, .inl (aI g))) := by
  refine ⟨rfl, fun D H hq => ?_⟩
  have e : vp_cell c (n, .inl (aI f)) = vp_cell c (n, .inl (aI g)) := by
    rw [vp_cell_i, vp_cell_i]
    unfold arrV
    congr 2
    funext j
    show Value.int (jI (f ((j.val : Nat) : Int))) = Value.int (jI (g ((j.val : Nat) : Int)))
    rw [h _ (by omega) (by have := j.isLt; omega)]
  show H[q]? = some (vp_cell c (n, .inl (aI g)))
  rw [← e]
  exact hq
theorem cLe.aq (c : ClassId) (q n : Nat) {f g : Nat → Option Nat} (h : ∀ j : Nat, j < n → f j = g j) : cLe (q, .inl (c, n, .inr (.inr (.inr (.inr f))))) (q, .inl (c, n, .inr (.inr (.inr (.inr g))))) := by
  refine ⟨rfl, fun D H hq => ?_⟩
  have e : vp_cell c (n, .inr (.inr (.inr (.inr f)))) = vp_cell c (n, .inr (.inr (.inr (.inr g)))) := by
    rw [vp_cell_q, vp_cell_q]
    unfold arrV
    congr 2
    funext j
    show va_rf (f j.val) = va_rf (g j.val)
    rw [h _ j.isLt]
  show H[q]? = some (vp_cell c (n, .inr (.inr (.inr (.inr g)))))
  rw [← e]
  exact hq
theorem cLe.eq {p q : Nat × va_E} (h : p = q) : cLe p q := h ▸ cLe.rf p
def wLe (ws ws' : va_W) : Prop := ws.map (fun p => p.1) = ws'.map (fun p => p.1) ∧ ∀ (D : va_G) (H : Heap), va_P D vwCl ws H → va_P D vwCl ws' H
theorem wLe.nil : wLe [] [] := ⟨rfl, fun _ _ h => h⟩
theorem wLe.rf (ws : va_W) : wLe ws ws := ⟨rfl, fun _ _ h => h⟩
theorem wLe.app {a b c d : va_W} (h : wLe a b) (g : wLe c d) : wLe (a ++ c) (b ++ d) := by
  refine ⟨by rw [List.map_append, List.map_append, h.1, g.1], fun D H q => ?_⟩
  have q1 : va_P D vwCl a H := fun k x hx => q k x (by
    have hl := (List.getElem?_eq_some_iff.mp hx).1
    rw [List.getElem?_append_left hl]; exact hx)
  have q2 : va_P D vwCl c H := fun k x hx => q (a.length + k) x (by
    rw [List.getElem?_append_right (by omega), show a.length + k - a.length = k by omega]; exact hx)
  exact (h.2 D H q1).app (g.2 D H q2)
theorem wLe.cons {p q : Nat × va_E} {ws ws' : va_W} (h : cLe p q) (g : wLe ws ws') : wLe (p :: ws) (q :: ws') := by
  have h1 : wLe [p] [q] := ⟨by simp [h.1], fun D H hp k x hx => by
    have hz := (List.getElem?_eq_some_iff.mp hx).1
    have hk : k = 0 := by simp at hz; omega
    subst hk
    cases hx
    exact h.2 D H (hp 0 _ rfl)⟩
  exact h1.app g
theorem wLe.le {ws ws' : va_W} (h : wLe ws ws') : jLe ws ws' := by
  refine ⟨h.2, fun A hD => ?_⟩
  have key : ∀ (k : Nat) (q : Nat × va_E), ws'[k]? = some q → ∃ p, ws[k]? = some p ∧ p.1 = q.1 := by
    intro k q hk
    have e : (ws.map (fun p => p.1))[k]? = (ws'.map (fun p => p.1))[k]? := by rw [h.1]
    rw [List.getElem?_map, List.getElem?_map, hk] at e
    cases hp : ws[k]? with
    | none => rw [hp] at e; cases e
    | some p => rw [hp] at e; exact ⟨p, rfl, Option.some.inj e⟩
  refine ⟨fun i j x y hi hj hxy => ?_, fun k q hk => ?_⟩
  · obtain ⟨x0, a1, a2⟩ := key i x hi
    obtain ⟨y0, b1, b2⟩ := key j y hj
    exact hD.1 i j x0 y0 a1 b1 (a2.trans (hxy.trans b2.symm))
  · obtain ⟨p, a1, a2⟩ := key k q hk
    rw [← a2]
    exact hD.2 k p a1
/-! ===== the judgement: from this place, with this world, these locals and this stack, the method comes to its end ===== -/
abbrev Cx : Type := Program × Launch × Env × Room × State × MethodId × Array Value × List Frame × Method × Code × (State → Prop) × va_G × (Nat → Prop) × Nat
def J (x : Cx) (k n : Nat) (ws : va_W) (pc : Nat) (lv : List (Nat × Value)) (st : List Value) : Prop :=
  match x with
  | (p, l, e, R, s, m, args, below, meth, c, Q, D, A, nL) => ∀ (H : Heap) (locs : List Loc) (ls : Array Slot), va_P D vwCl ws H → va_D A ws → va_S A s.heap H locs → lv_has ls nL lv → W p l e R s m args below meth c H locs k n Q (F0 m pc ls st)
def jG (x : Cx) (l0 : Launch) (D0 : va_G) (Y : Nat → ClassId) (cc : ByteArray) (own : String) (Ts : List Cond) (nL0 : Nat) (R0 : Room) (ret : Option FieldType) (nm : String) : Prop :=
  match x with
  | (p, l, _, R, s, m, args, _, meth, c, _, D, A, nL) => l = l0 ∧ D = D0 ∧ nL = nL0 ∧ R = R0 ∧ p.tables.exec = Jvm.exec ∧ c.code = cc ∧ c.maxLocals = nL ∧ s.vm.findClass own = some m.cls ∧ (∀ w ∈ Ts, w.before args s = true) ∧ va_K D vwCl (TY Y) s ∧ NW s ∧ ST A s s.heap ∧ (∀ q, s.heap.size ≤ q → A q) ∧ meth.locks = false ∧ meth.sig.returnType = ret ∧ meth.name = nm
def retOp : Option Value → Instr
  | none => .return_
  | some (.int _) => .ireturn
  | some _ => .areturn
/-- the method's end: it may return v in the world w -/
def jE (x : Cx) (k n : Nat) (cc : ByteArray) (w : va_W) (v : Option Value) : Prop := ∀ (pc : Nat) (lv : List (Nat × Value)), decode cc pc = .ok (retOp v, 1) → J x k n w pc lv v.toList
def jFit (ret : Option FieldType) (v : Option Value) : Prop := (ret = none ∧ v = none) ∨ (∃ (ty : FieldType) (i : Int32), ret = some ty ∧ v = some (.int i) ∧ narrow ty (.int i) = .int i) ∨ ∃ (n : String) (a : Nat), ret = some (.object n) ∧ v = some (.ref a)
def jQ (post : Option Value → va_W → Prop) (D : va_G) (A : Nat → Prop) : Array Value → State → Outcome → State → Prop := fun _ st oc t => ∃ (v : Option Value) (w' : va_W), oc = .returned v ∧ post v w' ∧ va_P D vwCl w' t.heap ∧ va_D A w' ∧ va_F A st t
def jP (D : va_G) (Y : Nat → ClassId) (w : va_W) (sz : Nat) (as : List Value) : Array Value → State → Prop := va_Pc as (fun U => U.heap.size = sz ∧ va_P D vwCl w U.heap ∧ va_K D vwCl (TY Y) U ∧ NW U ∧ ST (va_A w sz) U U.heap ∧ va_D (fun _ => True) w)
/-- A CONTRACT: called with these arguments in the world w, the method returns; what it answers and the world behind it are as 'post' says; nothing else is touched -/
def jM (l : Launch) (y : MethodName) (wsl : List Cond) (rm : Room) (D : va_G) (Y : Nat → ClassId) (as : List Value) (w : va_W) (post : Option Value → va_W → Prop) (mc ms : Nat) : Prop :=
  ∀ sz : Nat, Met l y wsl rm (jP D Y w sz as) (jQ post D (va_A w sz)) mc ms (va_A w sz)
theorem jM_of {l : Launch} {y : MethodName} {wsl ws' : List Cond} {rm : Room} {D : va_G} {Y : Nat → ClassId} {as : List Value} {w : va_W} {post : Option Value → va_W → Prop} {mc ms : Nat} {cc : ByteArray} {maxL : Nat} {ret : Option FieldType}
    (hy : plainFor y = true) (hw : wsl = Cond.code y cc maxL ret :: ws') (hlen : (lg_sl as).length ≤ maxL) (hfit : ∀ v w', post v w' → jFit ret v)
    (body : ∀ x : Cx, jG x l D Y cc y.cls wsl maxL (headSpec wsl rm).room ret y.name → (∀ v w', post v w' → jE x mc ms cc w' v) → J x 0 0 w 0 (lv_args 0 as) []) : jM l y wsl rm D Y as w post mc ms := by
  intro sz
  refine va_MetF (cc := cc) (maxL := maxL) (ret := ret) hy hw ?_
  intro p e s m args below meth c s₁ B hml hv
  obtain ⟨rfl, hsz, hP, hK, hN, hT, hD0⟩ := hv
  have hts := atoms_spec (ws := wsl) B.pre
  have hown : s.vm.findClass y.cls = some m.cls := findClass_of_methodNamed B.named
  have hin : meth.name = y.name := (name_of_methodNamed B.named B.method).1
  subst hsz
  have hl := lv_entry as (n := maxL) hlen
  rw [lg_entry_eq]
  refine body (p, l, e, (headSpec wsl rm).room, s, m, as.toArray, below, meth, c, _, D, va_A w s.heap.size, maxL) ⟨rfl, rfl, rfl, rfl, B.exec, B.bytes, hml, hown, hts, hK, hN, hT, fun q h => Or.inr h, B.notSynchronized, B.returns, hin⟩ ?_ s.heap [] _ hP hD0.self va_S.rf hl
  intro v w' hpost pc lv hdg H locs ls hP' hD' hS' hl'
  have hq : ∀ t : State, t.heap = H → s.WarmedH t.vm → jQ post D (va_A w s.heap.size) as.toArray s (.returned v) t := fun t ht _ => ⟨v, w', rfl, hpost, by rw [ht]; exact hP', hD', hS'.F ht⟩
  have hlk : meth.locks = false := B.notSynchronized
  rcases hfit v w' hpost with ⟨hr, hv⟩ | ⟨ty, i, hr, hv, hn⟩ | ⟨nm, a, hr, hv⟩
  · subst hv
    exact W.vret B.exec B.bytes (B.returns.trans hr) hq hS'.2.2 hdg hlk
  · subst hv
    exact W.zret B.exec B.bytes (B.returns.trans hr) hn hq hS'.2.2 hdg hlk
  · subst hv
    exact W.aret B.exec B.bytes (B.returns.trans hr) (Or.inl ⟨nm, rfl⟩) (Or.inr ⟨a, rfl⟩) hq hS'.2.2 hdg hlk
section JR
variable {x : Cx} {l0 : Launch} {D0 : va_G} {Y : Nat → ClassId} {cc : ByteArray} {own : String} {Ts : List Cond} {nL0 : Nat} {R0 : Room} {ret : Option FieldType} {nm : String} {k n : Nat} {ws : va_W} {pc : Nat} {lv : List (Nat × Value)} {st : List Value}
theorem j_iconst (G : jG x l0 D0 Y cc own Ts nL0 R0 ret nm) {i : Int} {v : Int} (hdg : decode cc pc = .ok (.iconst i, 1)) (hv : Int32.ofInt i = jI v) (kk : J x k n ws (pc + 1) lv (.int (jI v) :: st)) : J x k n ws pc lv st := by
  obtain ⟨p, l, e, R, s, m, args, below, meth, c, Q, D, A, nL⟩ := x
  obtain ⟨rfl, rfl, rfl, rfl, hx, hb, hml, hown, hts, hK, hN, hT, hA, hlk, hr, hnm⟩ := G
  intro H locs ls hP hD hS hl
  exact lv_iconst hx hb hdg hv (kk H locs ls hP hD hS hl)
theorem j_bipush (G : jG x l0 D0 Y cc own Ts nL0 R0 ret nm) {i : Int} {v : Int} (hdg : decode cc pc = .ok (.bipush i, 2)) (hv : (Int8.ofInt i).toInt32 = jI v) (kk : J x k n ws (pc + 2) lv (.int (jI v) :: st)) : J x k n ws pc lv st := by
  obtain ⟨p, l, e, R, s, m, args, below, meth, c, Q, D, A, nL⟩ := x
  obtain ⟨rfl, rfl, rfl, rfl, hx, hb, hml, hown, hts, hK, hN, hT, hA, hlk, hr, hnm⟩ := G
  intro H locs ls hP hD hS hl
  exact lv_bipush hx hb hdg hv (kk H locs ls hP hD hS hl)
theorem j_sipush (G : jG x l0 D0 Y cc own Ts nL0 R0 ret nm) {i : Int} {v : Int} (hdg : decode cc pc = .ok (.sipush i, 3)) (hv : (Int16.ofInt i).toInt32 = jI v) (kk : J x k n ws (pc + 3) lv (.int (jI v) :: st)) : J x k n ws pc lv st := by
  obtain ⟨p, l, e, R, s, m, args, below, meth, c, Q, D, A, nL⟩ := x
  obtain ⟨rfl, rfl, rfl, rfl, hx, hb, hml, hown, hts, hK, hN, hT, hA, hlk, hr, hnm⟩ := G
  intro H locs ls hP hD hS hl
  exact lv_sipush hx hb hdg hv (kk H locs ls hP hD hS hl)
theorem j_iload_n (G : jG x l0 D0 Y cc own Ts nL0 R0 ret nm) {q : Fin 4} {v : Int32} (i : Nat) (hdg : decode cc pc = .ok (.iload_n q, 1)) (hi : lv[i]? = some ((q : Nat), .int v)) (kk : J x k n ws (pc + 1) lv (.int v :: st)) : J x k n ws pc lv st := by
  obtain ⟨p, l, e, R, s, m, args, below, meth, c, Q, D, A, nL⟩ := x
  obtain ⟨rfl, rfl, rfl, rfl, hx, hb, hml, hown, hts, hK, hN, hT, hA, hlk, hr, hnm⟩ := G
  intro H locs ls hP hD hS hl
  exact lv_iload_n hx hb hdg rfl (lv_at hl i hi) (kk H locs ls hP hD hS hl)
theorem j_iload (G : jG x l0 D0 Y cc own Ts nL0 R0 ret nm) {q : Nat} {v : Int32} (i : Nat) (hdg : decode cc pc = .ok (.iload q, 2)) (hi : lv[i]? = some (q, .int v)) (kk : J x k n ws (pc + 2) lv (.int v :: st)) : J x k n ws pc lv st := by
  obtain ⟨p, l, e, R, s, m, args, below, meth, c, Q, D, A, nL⟩ := x
  obtain ⟨rfl, rfl, rfl, rfl, hx, hb, hml, hown, hts, hK, hN, hT, hA, hlk, hr, hnm⟩ := G
  intro H locs ls hP hD hS hl
  exact lv_iload hx hb hdg (lv_at hl i hi) (kk H locs ls hP hD hS hl)
theorem j_aload_n (G : jG x l0 D0 Y cc own Ts nL0 R0 ret nm) {q : Fin 4} {v : Nat} (i : Nat) (hdg : decode cc pc = .ok (.aload_n q, 1)) (hi : lv[i]? = some ((q : Nat), .ref v)) (kk : J x k n ws (pc + 1) lv (.ref v :: st)) : J x k n ws pc lv st := by
  obtain ⟨p, l, e, R, s, m, args, below, meth, c, Q, D, A, nL⟩ := x
  obtain ⟨rfl, rfl, rfl, rfl, hx, hb, hml, hown, hts, hK, hN, hT, hA, hlk, hr, hnm⟩ := G
  intro H locs ls hP hD hS hl
  exact lv_aload_n hx hb hdg rfl (lv_at hl i hi) (kk H locs ls hP hD hS hl)
theorem j_aload (G : jG x l0 D0 Y cc own Ts nL0 R0 ret nm) {q : Nat} {v : Nat} (i : Nat) (hdg : decode cc pc = .ok (.aload q, 2)) (hi : lv[i]? = some (q, .ref v)) (kk : J x k n ws (pc + 2) lv (.ref v :: st)) : J x k n ws pc lv st := by
  obtain ⟨p, l, e, R, s, m, args, below, meth, c, Q, D, A, nL⟩ := x
  obtain ⟨rfl, rfl, rfl, rfl, hx, hb, hml, hown, hts, hK, hN, hT, hA, hlk, hr, hnm⟩ := G
  intro H locs ls hP hD hS hl
  exact lv_aload hx hb hdg (lv_at hl i hi) (kk H locs ls hP hD hS hl)
theorem j_istore_n (G : jG x l0 D0 Y cc own Ts nL0 R0 ret nm) {q : Fin 4} {v : Int32} {lv' : List (Nat × Value)} (hdg : decode cc pc = .ok (.istore_n q, 1)) (hn : (q : Nat) < nL0) (hl' : ((q : Nat), Value.int v) :: lv.filter (fun r => !(r.1 == (q : Nat)) && !(r.1 + 1 == (q : Nat) && r.2.category == 2)) = lv') (kk : J x k n ws (pc + 1) lv' st) : J x k n ws pc lv (.int v :: st) := by
  obtain ⟨p, l, e, R, s, m, args, below, meth, c, Q, D, A, nL⟩ := x
  obtain ⟨rfl, rfl, rfl, rfl, hx, hb, hml, hown, hts, hK, hN, hT, hA, hlk, hr, hnm⟩ := G
  intro H locs ls hP hD hS hl
  exact lv_istore_n hx hb hdg rfl hl hn hl' (fun ls' hl2 => kk H locs ls' hP hD hS hl2)
theorem j_astore_n (G : jG x l0 D0 Y cc own Ts nL0 R0 ret nm) {q : Fin 4} {v : Nat} {lv' : List (Nat × Value)} (hdg : decode cc pc = .ok (.astore_n q, 1)) (hn : (q : Nat) < nL0) (hl' : ((q : Nat), Value.ref v) :: lv.filter (fun r => !(r.1 == (q : Nat)) && !(r.1 + 1 == (q : Nat) && r.2.category == 2)) = lv') (kk : J x k n ws (pc + 1) lv' st) : J x k n ws pc lv (.ref v :: st) := by
  obtain ⟨p, l, e, R, s, m, args, below, meth, c, Q, D, A, nL⟩ := x
  obtain ⟨rfl, rfl, rfl, rfl, hx, hb, hml, hown, hts, hK, hN, hT, hA, hlk, hr, hnm⟩ := G
  intro H locs ls hP hD hS hl
  exact lv_astore_n hx hb hdg rfl hl hn hl' (fun ls' hl2 => kk H locs ls' hP hD hS hl2)
theorem j_istore (G : jG x l0 D0 Y cc own Ts nL0 R0 ret nm) {q : Nat} {v : Int32} {lv' : List (Nat × Value)} (hdg : decode cc pc = .ok (.istore q, 2)) (hn : q < nL0) (hl' : (q, Value.int v) :: lv.filter (fun r => !(r.1 == q) && !(r.1 + 1 == q && r.2.category == 2)) = lv') (kk : J x k n ws (pc + 2) lv' st) : J x k n ws pc lv (.int v :: st) := by
  obtain ⟨p, l, e, R, s, m, args, below, meth, c, Q, D, A, nL⟩ := x
  obtain ⟨rfl, rfl, rfl, rfl, hx, hb, hml, hown, hts, hK, hN, hT, hA, hlk, hr, hnm⟩ := G
  intro H locs ls hP hD hS hl
  exact lv_istore hx hb hdg hl hn hl' (fun ls' hl2 => kk H locs ls' hP hD hS hl2)
theorem j_astore (G : jG x l0 D0 Y cc own Ts nL0 R0 ret nm) {q : Nat} {v : Nat} {lv' : List (Nat × Value)} (hdg : decode cc pc = .ok (.astore q, 2)) (hn : q < nL0) (hl' : (q, Value.ref v) :: lv.filter (fun r => !(r.1 == q) && !(r.1 + 1 == q && r.2.category == 2)) = lv') (kk : J x k n ws (pc + 2) lv' st) : J x k n ws pc lv (.ref v :: st) := by
  obtain ⟨p, l, e, R, s, m, args, below, meth, c, Q, D, A, nL⟩ := x
  obtain ⟨rfl, rfl, rfl, rfl, hx, hb, hml, hown, hts, hK, hN, hT, hA, hlk, hr, hnm⟩ := G
  intro H locs ls hP hD hS hl
  exact lv_astore hx hb hdg hl hn hl' (fun ls' hl2 => kk H locs ls' hP hD hS hl2)
theorem j_iinc (G : jG x l0 D0 Y cc own Ts nL0 R0 ret nm) {q : Nat} {d : Int} {v w : Int} {lv' : List (Nat × Value)} (i : Nat) (hdg : decode cc pc = .ok (.iinc q d, 3)) (hi : lv[i]? = some (q, .int (jI v))) (hw : v + d = w) (hn : q < nL0) (hl' : (q, Value.int (jI w)) :: lv.filter (fun r => !(r.1 == q) && !(r.1 + 1 == q && r.2.category == 2)) = lv') (kk : J x k n ws (pc + 3) lv' st) : J x k n ws pc lv st := by
  obtain ⟨p, l, e, R, s, m, args, below, meth, c, Q, D, A, nL⟩ := x
  obtain ⟨rfl, rfl, rfl, rfl, hx, hb, hml, hown, hts, hK, hN, hT, hA, hlk, hr, hnm⟩ := G
  intro H locs ls hP hD hS hl
  exact lv_iinc hx hb hdg hl hi (by rw [← hw]; exact jI_add v d) hn hl' (fun ls' hl2 => kk H locs ls' hP hD hS hl2)
theorem j_iadd (G : jG x l0 D0 Y cc own Ts nL0 R0 ret nm) {a b : Int} (hdg : decode cc pc = .ok (.iadd, 1)) (kk : J x k n ws (pc + 1) lv (.int (jI (a + b)) :: st)) : J x k n ws pc lv (.int (jI b) :: .int (jI a) :: st) := by
  obtain ⟨p, l, e, R, s, m, args, below, meth, c, Q, D, A, nL⟩ := x
  obtain ⟨rfl, rfl, rfl, rfl, hx, hb, hml, hown, hts, hK, hN, hT, hA, hlk, hr, hnm⟩ := G
  intro H locs ls hP hD hS hl
  exact lv_iadd hx hb hdg (by rw [jI_add a b]; exact kk H locs ls hP hD hS hl)
theorem j_isub (G : jG x l0 D0 Y cc own Ts nL0 R0 ret nm) {a b : Int} (hdg : decode cc pc = .ok (.isub, 1)) (kk : J x k n ws (pc + 1) lv (.int (jI (a - b)) :: st)) : J x k n ws pc lv (.int (jI b) :: .int (jI a) :: st) := by
  obtain ⟨p, l, e, R, s, m, args, below, meth, c, Q, D, A, nL⟩ := x
  obtain ⟨rfl, rfl, rfl, rfl, hx, hb, hml, hown, hts, hK, hN, hT, hA, hlk, hr, hnm⟩ := G
  intro H locs ls hP hD hS hl
  exact lv_isub hx hb hdg (by rw [jI_sub a b]; exact kk H locs ls hP hD hS hl)
theorem j_imul (G : jG x l0 D0 Y cc own Ts nL0 R0 ret nm) {a b : Int} (hdg : decode cc pc = .ok (.imul, 1)) (kk : J x k n ws (pc + 1) lv (.int (jI (a * b)) :: st)) : J x k n ws pc lv (.int (jI b) :: .int (jI a) :: st) := by
  obtain ⟨p, l, e, R, s, m, args, below, meth, c, Q, D, A, nL⟩ := x
  obtain ⟨rfl, rfl, rfl, rfl, hx, hb, hml, hown, hts, hK, hN, hT, hA, hlk, hr, hnm⟩ := G
  intro H locs ls hP hD hS hl
  exact lv_imul hx hb hdg (by rw [jI_mul a b]; exact kk H locs ls hP hD hS hl)
theorem j_ineg (G : jG x l0 D0 Y cc own Ts nL0 R0 ret nm) {a : Int} (hdg : decode cc pc = .ok (.ineg, 1)) (kk : J x k n ws (pc + 1) lv (.int (jI (-a)) :: st)) : J x k n ws pc lv (.int (jI a) :: st) := by
  obtain ⟨p, l, e, R, s, m, args, below, meth, c, Q, D, A, nL⟩ := x
  obtain ⟨rfl, rfl, rfl, rfl, hx, hb, hml, hown, hts, hK, hN, hT, hA, hlk, hr, hnm⟩ := G
  intro H locs ls hP hD hS hl
  exact lv_ineg hx hb hdg (by rw [jI_neg a]; exact kk H locs ls hP hD hS hl)
theorem j_idiv (G : jG x l0 D0 Y cc own Ts nL0 R0 ret nm) {a b : Int} (hdg : decode cc pc = .ok (.idiv, 1)) (ha : 0 ≤ a ∧ a < 2147483648) (hb' : 0 < b ∧ b < 2147483648) (kk : J x k n ws (pc + 1) lv (.int (jI (a / b)) :: st)) : J x k n ws pc lv (.int (jI b) :: .int (jI a) :: st) := by
  obtain ⟨p, l, e, R, s, m, args, below, meth, c, Q, D, A, nL⟩ := x
  obtain ⟨rfl, rfl, rfl, rfl, hx, hb, hml, hown, hts, hK, hN, hT, hA, hlk, hr, hnm⟩ := G
  intro H locs ls hP hD hS hl
  exact lv_idiv hx hb hdg (fun q => by have h1 := jI_T (a := b) (by omega); rw [q, Int32.toInt_zero] at h1; omega) (by rw [jI_div ha hb']; exact kk H locs ls hP hD hS hl)
theorem j_irem (G : jG x l0 D0 Y cc own Ts nL0 R0 ret nm) {a b : Int} (hdg : decode cc pc = .ok (.irem, 1)) (ha : 0 ≤ a ∧ a < 2147483648) (hb' : 0 < b ∧ b < 2147483648) (kk : J x k n ws (pc + 1) lv (.int (jI (a % b)) :: st)) : J x k n ws pc lv (.int (jI b) :: .int (jI a) :: st) := by
  obtain ⟨p, l, e, R, s, m, args, below, meth, c, Q, D, A, nL⟩ := x
  obtain ⟨rfl, rfl, rfl, rfl, hx, hb, hml, hown, hts, hK, hN, hT, hA, hlk, hr, hnm⟩ := G
  intro H locs ls hP hD hS hl
  exact lv_irem hx hb hdg (fun q => by have h1 := jI_T (a := b) (by omega); rw [q, Int32.toInt_zero] at h1; omega) (by rw [jI_rem ha hb']; exact kk H locs ls hP hD hS hl)
theorem j_dup (G : jG x l0 D0 Y cc own Ts nL0 R0 ret nm) {v : Value} (hdg : decode cc pc = .ok (.dup, 1)) (hc : v.category = 1) (kk : J x k n ws (pc + 1) lv (v :: v :: st)) : J x k n ws pc lv (v :: st) := by
  obtain ⟨p, l, e, R, s, m, args, below, meth, c, Q, D, A, nL⟩ := x
  obtain ⟨rfl, rfl, rfl, rfl, hx, hb, hml, hown, hts, hK, hN, hT, hA, hlk, hr, hnm⟩ := G
  intro H locs ls hP hD hS hl
  exact lv_dup hx hb hdg hc (kk H locs ls hP hD hS hl)
theorem j_pop (G : jG x l0 D0 Y cc own Ts nL0 R0 ret nm) {v : Value} (hdg : decode cc pc = .ok (.pop, 1)) (hc : v.category = 1) (kk : J x k n ws (pc + 1) lv st) : J x k n ws pc lv (v :: st) := by
  obtain ⟨p, l, e, R, s, m, args, below, meth, c, Q, D, A, nL⟩ := x
  obtain ⟨rfl, rfl, rfl, rfl, hx, hb, hml, hown, hts, hK, hN, hT, hA, hlk, hr, hnm⟩ := G
  intro H locs ls hP hD hS hl
  exact lv_pop hx hb hdg hc (kk H locs ls hP hD hS hl)
theorem j_dup2 (G : jG x l0 D0 Y cc own Ts nL0 R0 ret nm) {v w : Value} (hdg : decode cc pc = .ok (.dup2, 1)) (hc : v.category = 1) (hc2 : w.category = 1) (kk : J x k n ws (pc + 1) lv (v :: w :: v :: w :: st)) : J x k n ws pc lv (v :: w :: st) := by
  obtain ⟨p, l, e, R, s, m, args, below, meth, c, Q, D, A, nL⟩ := x
  obtain ⟨rfl, rfl, rfl, rfl, hx, hb, hml, hown, hts, hK, hN, hT, hA, hlk, hr, hnm⟩ := G
  intro H locs ls hP hD hS hl
  exact lv_dup2_11 hx hb hdg hc hc2 (kk H locs ls hP hD hS hl)
theorem j_goto (G : jG x l0 D0 Y cc own Ts nL0 R0 ret nm) {off : Int} {tgt : Nat} (hdg : decode cc pc = .ok (.goto off, 3)) (ht : (pc : Int) + off = (tgt : Int)) (kk : J x k n ws tgt lv st) : J x k n ws pc lv st := by
  obtain ⟨p, l, e, R, s, m, args, below, meth, c, Q, D, A, nL⟩ := x
  obtain ⟨rfl, rfl, rfl, rfl, hx, hb, hml, hown, hts, hK, hN, hT, hA, hlk, hr, hnm⟩ := G
  intro H locs ls hP hD hS hl
  exact lv_goto hx hb hdg ht (kk H locs ls hP hD hS hl)
theorem j_icmp_eq (G : jG x l0 D0 Y cc own Ts nL0 R0 ret nm) {a b off : Int} {tgt : Nat} (hdg : decode cc pc = .ok (.if_icmp .eq off, 3)) (ht : (pc : Int) + off = (tgt : Int)) (ha : -2147483648 ≤ a ∧ a < 2147483648) (hb' : -2147483648 ≤ b ∧ b < 2147483648) (kt : a = b → J x k n ws tgt lv st) (kf : ¬ a = b → J x k n ws (pc + 3) lv st) : J x k n ws pc lv (.int (jI b) :: .int (jI a) :: st) := by
  obtain ⟨p, l, e, R, s, m, args, below, meth, c, Q, D, A, nL⟩ := x
  obtain ⟨rfl, rfl, rfl, rfl, hx, hb, hml, hown, hts, hK, hN, hT, hA, hlk, hr, hnm⟩ := G
  intro H locs ls hP hD hS hl
  exact lv_icmp_eq hx hb hdg ht (fun q => kt ((jI_eq ha hb').mp q) H locs ls hP hD hS hl) (fun q => kf (fun z => q ((jI_eq ha hb').mpr z)) H locs ls hP hD hS hl)
theorem j_if_eq (G : jG x l0 D0 Y cc own Ts nL0 R0 ret nm) {a off : Int} {tgt : Nat} (hdg : decode cc pc = .ok (.ifCond .eq off, 3)) (ht : (pc : Int) + off = (tgt : Int)) (ha : -2147483648 ≤ a ∧ a < 2147483648) (kt : a = 0 → J x k n ws tgt lv st) (kf : ¬ a = 0 → J x k n ws (pc + 3) lv st) : J x k n ws pc lv (.int (jI a) :: st) := by
  obtain ⟨p, l, e, R, s, m, args, below, meth, c, Q, D, A, nL⟩ := x
  obtain ⟨rfl, rfl, rfl, rfl, hx, hb, hml, hown, hts, hK, hN, hT, hA, hlk, hr, hnm⟩ := G
  intro H locs ls hP hD hS hl
  have h0 : -2147483648 ≤ (0 : Int) ∧ (0 : Int) < 2147483648 := by omega
  have e0 : (0 : Int32) = jI 0 := rfl
  refine lv_if_eq hx hb hdg ht (fun q => ?_) (fun q => ?_)
  · rw [e0] at q
    exact (fun q => kt ((jI_eq ha h0).mp q) H locs ls hP hD hS hl) q
  · rw [e0] at q
    exact (fun q => kf (fun z => q ((jI_eq ha h0).mpr z)) H locs ls hP hD hS hl) q
theorem j_icmp_ne (G : jG x l0 D0 Y cc own Ts nL0 R0 ret nm) {a b off : Int} {tgt : Nat} (hdg : decode cc pc = .ok (.if_icmp .ne off, 3)) (ht : (pc : Int) + off = (tgt : Int)) (ha : -2147483648 ≤ a ∧ a < 2147483648) (hb' : -2147483648 ≤ b ∧ b < 2147483648) (kt : ¬ a = b → J x k n ws tgt lv st) (kf : a = b → J x k n ws (pc + 3) lv st) : J x k n ws pc lv (.int (jI b) :: .int (jI a) :: st) := by
  obtain ⟨p, l, e, R, s, m, args, below, meth, c, Q, D, A, nL⟩ := x
  obtain ⟨rfl, rfl, rfl, rfl, hx, hb, hml, hown, hts, hK, hN, hT, hA, hlk, hr, hnm⟩ := G
  intro H locs ls hP hD hS hl
  exact lv_icmp_ne hx hb hdg ht (fun q => kt (fun z => q ((jI_eq ha hb').mpr z)) H locs ls hP hD hS hl) (fun q => kf ((jI_eq ha hb').mp q) H locs ls hP hD hS hl)
theorem j_if_ne (G : jG x l0 D0 Y cc own Ts nL0 R0 ret nm) {a off : Int} {tgt : Nat} (hdg : decode cc pc = .ok (.ifCond .ne off, 3)) (ht : (pc : Int) + off = (tgt : Int)) (ha : -2147483648 ≤ a ∧ a < 2147483648) (kt : ¬ a = 0 → J x k n ws tgt lv st) (kf : a = 0 → J x k n ws (pc + 3) lv st) : J x k n ws pc lv (.int (jI a) :: st) := by
  obtain ⟨p, l, e, R, s, m, args, below, meth, c, Q, D, A, nL⟩ := x
  obtain ⟨rfl, rfl, rfl, rfl, hx, hb, hml, hown, hts, hK, hN, hT, hA, hlk, hr, hnm⟩ := G
  intro H locs ls hP hD hS hl
  have h0 : -2147483648 ≤ (0 : Int) ∧ (0 : Int) < 2147483648 := by omega
  have e0 : (0 : Int32) = jI 0 := rfl
  refine lv_if_ne hx hb hdg ht (fun q => ?_) (fun q => ?_)
  · rw [e0] at q
    exact (fun q => kt (fun z => q ((jI_eq ha h0).mpr z)) H locs ls hP hD hS hl) q
  · rw [e0] at q
    exact (fun q => kf ((jI_eq ha h0).mp q) H locs ls hP hD hS hl) q
theorem j_icmp_lt (G : jG x l0 D0 Y cc own Ts nL0 R0 ret nm) {a b off : Int} {tgt : Nat} (hdg : decode cc pc = .ok (.if_icmp .lt off, 3)) (ht : (pc : Int) + off = (tgt : Int)) (ha : -2147483648 ≤ a ∧ a < 2147483648) (hb' : -2147483648 ≤ b ∧ b < 2147483648) (kt : a < b → J x k n ws tgt lv st) (kf : b ≤ a → J x k n ws (pc + 3) lv st) : J x k n ws pc lv (.int (jI b) :: .int (jI a) :: st) := by
  obtain ⟨p, l, e, R, s, m, args, below, meth, c, Q, D, A, nL⟩ := x
  obtain ⟨rfl, rfl, rfl, rfl, hx, hb, hml, hown, hts, hK, hN, hT, hA, hlk, hr, hnm⟩ := G
  intro H locs ls hP hD hS hl
  exact lv_icmp_lt hx hb hdg ht (fun q => kt ((jI_lt ha hb').mp q) H locs ls hP hD hS hl) (fun q => kf (by have z : ¬ a < b := fun w => q ((jI_lt ha hb').mpr w); omega) H locs ls hP hD hS hl)
theorem j_if_lt (G : jG x l0 D0 Y cc own Ts nL0 R0 ret nm) {a off : Int} {tgt : Nat} (hdg : decode cc pc = .ok (.ifCond .lt off, 3)) (ht : (pc : Int) + off = (tgt : Int)) (ha : -2147483648 ≤ a ∧ a < 2147483648) (kt : a < 0 → J x k n ws tgt lv st) (kf : 0 ≤ a → J x k n ws (pc + 3) lv st) : J x k n ws pc lv (.int (jI a) :: st) := by
  obtain ⟨p, l, e, R, s, m, args, below, meth, c, Q, D, A, nL⟩ := x
  obtain ⟨rfl, rfl, rfl, rfl, hx, hb, hml, hown, hts, hK, hN, hT, hA, hlk, hr, hnm⟩ := G
  intro H locs ls hP hD hS hl
  have h0 : -2147483648 ≤ (0 : Int) ∧ (0 : Int) < 2147483648 := by omega
  have e0 : (0 : Int32) = jI 0 := rfl
  refine lv_if_lt hx hb hdg ht (fun q => ?_) (fun q => ?_)
  · rw [e0] at q
    exact (fun q => kt ((jI_lt ha h0).mp q) H locs ls hP hD hS hl) q
  · rw [e0] at q
    exact (fun q => kf (by have z : ¬ a < 0 := fun w => q ((jI_lt ha h0).mpr w); omega) H locs ls hP hD hS hl) q
theorem j_icmp_ge (G : jG x l0 D0 Y cc own Ts nL0 R0 ret nm) {a b off : Int} {tgt : Nat} (hdg : decode cc pc = .ok (.if_icmp .ge off, 3)) (ht : (pc : Int) + off = (tgt : Int)) (ha : -2147483648 ≤ a ∧ a < 2147483648) (hb' : -2147483648 ≤ b ∧ b < 2147483648) (kt : b ≤ a → J x k n ws tgt lv st) (kf : a < b → J x k n ws (pc + 3) lv st) : J x k n ws pc lv (.int (jI b) :: .int (jI a) :: st) := by
  obtain ⟨p, l, e, R, s, m, args, below, meth, c, Q, D, A, nL⟩ := x
  obtain ⟨rfl, rfl, rfl, rfl, hx, hb, hml, hown, hts, hK, hN, hT, hA, hlk, hr, hnm⟩ := G
  intro H locs ls hP hD hS hl
  exact lv_icmp_ge hx hb hdg ht (fun q => kt ((jI_le hb' ha).mp q) H locs ls hP hD hS hl) (fun q => kf (by have z : ¬ b ≤ a := fun w => q ((jI_le hb' ha).mpr w); omega) H locs ls hP hD hS hl)
theorem j_if_ge (G : jG x l0 D0 Y cc own Ts nL0 R0 ret nm) {a off : Int} {tgt : Nat} (hdg : decode cc pc = .ok (.ifCond .ge off, 3)) (ht : (pc : Int) + off = (tgt : Int)) (ha : -2147483648 ≤ a ∧ a < 2147483648) (kt : 0 ≤ a → J x k n ws tgt lv st) (kf : a < 0 → J x k n ws (pc + 3) lv st) : J x k n ws pc lv (.int (jI a) :: st) := by
  obtain ⟨p, l, e, R, s, m, args, below, meth, c, Q, D, A, nL⟩ := x
  obtain ⟨rfl, rfl, rfl, rfl, hx, hb, hml, hown, hts, hK, hN, hT, hA, hlk, hr, hnm⟩ := G
  intro H locs ls hP hD hS hl
  have h0 : -2147483648 ≤ (0 : Int) ∧ (0 : Int) < 2147483648 := by omega
  have e0 : (0 : Int32) = jI 0 := rfl
  refine lv_if_ge hx hb hdg ht (fun q => ?_) (fun q => ?_)
  · rw [e0] at q
    exact (fun q => kt ((jI_le h0 ha).mp q) H locs ls hP hD hS hl) q
  · rw [e0] at q
    exact (fun q => kf (by have z : ¬ 0 ≤ a := fun w => q ((jI_le h0 ha).mpr w); omega) H locs ls hP hD hS hl) q
theorem j_icmp_gt (G : jG x l0 D0 Y cc own Ts nL0 R0 ret nm) {a b off : Int} {tgt : Nat} (hdg : decode cc pc = .ok (.if_icmp .gt off, 3)) (ht : (pc : Int) + off = (tgt : Int)) (ha : -2147483648 ≤ a ∧ a < 2147483648) (hb' : -2147483648 ≤ b ∧ b < 2147483648) (kt : b < a → J x k n ws tgt lv st) (kf : a ≤ b → J x k n ws (pc + 3) lv st) : J x k n ws pc lv (.int (jI b) :: .int (jI a) :: st) := by
  obtain ⟨p, l, e, R, s, m, args, below, meth, c, Q, D, A, nL⟩ := x
  obtain ⟨rfl, rfl, rfl, rfl, hx, hb, hml, hown, hts, hK, hN, hT, hA, hlk, hr, hnm⟩ := G
  intro H locs ls hP hD hS hl
  exact lv_icmp_gt hx hb hdg ht (fun q => kt ((jI_lt hb' ha).mp q) H locs ls hP hD hS hl) (fun q => kf (by have z : ¬ b < a := fun w => q ((jI_lt hb' ha).mpr w); omega) H locs ls hP hD hS hl)
theorem j_if_gt (G : jG x l0 D0 Y cc own Ts nL0 R0 ret nm) {a off : Int} {tgt : Nat} (hdg : decode cc pc = .ok (.ifCond .gt off, 3)) (ht : (pc : Int) + off = (tgt : Int)) (ha : -2147483648 ≤ a ∧ a < 2147483648) (kt : 0 < a → J x k n ws tgt lv st) (kf : a ≤ 0 → J x k n ws (pc + 3) lv st) : J x k n ws pc lv (.int (jI a) :: st) := by
  obtain ⟨p, l, e, R, s, m, args, below, meth, c, Q, D, A, nL⟩ := x
  obtain ⟨rfl, rfl, rfl, rfl, hx, hb, hml, hown, hts, hK, hN, hT, hA, hlk, hr, hnm⟩ := G
  intro H locs ls hP hD hS hl
  have h0 : -2147483648 ≤ (0 : Int) ∧ (0 : Int) < 2147483648 := by omega
  have e0 : (0 : Int32) = jI 0 := rfl
  refine lv_if_gt hx hb hdg ht (fun q => ?_) (fun q => ?_)
  · rw [e0] at q
    exact (fun q => kt ((jI_lt h0 ha).mp q) H locs ls hP hD hS hl) q
  · rw [e0] at q
    exact (fun q => kf (by have z : ¬ 0 < a := fun w => q ((jI_lt h0 ha).mpr w); omega) H locs ls hP hD hS hl) q
theorem j_icmp_le (G : jG x l0 D0 Y cc own Ts nL0 R0 ret nm) {a b off : Int} {tgt : Nat} (hdg : decode cc pc = .ok (.if_icmp .le off, 3)) (ht : (pc : Int) + off = (tgt : Int)) (ha : -2147483648 ≤ a ∧ a < 2147483648) (hb' : -2147483648 ≤ b ∧ b < 2147483648) (kt : a ≤ b → J x k n ws tgt lv st) (kf : b < a → J x k n ws (pc + 3) lv st) : J x k n ws pc lv (.int (jI b) :: .int (jI a) :: st) := by
  obtain ⟨p, l, e, R, s, m, args, below, meth, c, Q, D, A, nL⟩ := x
  obtain ⟨rfl, rfl, rfl, rfl, hx, hb, hml, hown, hts, hK, hN, hT, hA, hlk, hr, hnm⟩ := G
  intro H locs ls hP hD hS hl
  exact lv_icmp_le hx hb hdg ht (fun q => kt ((jI_le ha hb').mp q) H locs ls hP hD hS hl) (fun q => kf (by have z : ¬ a ≤ b := fun w => q ((jI_le ha hb').mpr w); omega) H locs ls hP hD hS hl)
theorem j_if_le (G : jG x l0 D0 Y cc own Ts nL0 R0 ret nm) {a off : Int} {tgt : Nat} (hdg : decode cc pc = .ok (.ifCond .le off, 3)) (ht : (pc : Int) + off = (tgt : Int)) (ha : -2147483648 ≤ a ∧ a < 2147483648) (kt : a ≤ 0 → J x k n ws tgt lv st) (kf : 0 < a → J x k n ws (pc + 3) lv st) : J x k n ws pc lv (.int (jI a) :: st) := by
  obtain ⟨p, l, e, R, s, m, args, below, meth, c, Q, D, A, nL⟩ := x
  obtain ⟨rfl, rfl, rfl, rfl, hx, hb, hml, hown, hts, hK, hN, hT, hA, hlk, hr, hnm⟩ := G
  intro H locs ls hP hD hS hl
  have h0 : -2147483648 ≤ (0 : Int) ∧ (0 : Int) < 2147483648 := by omega
  have e0 : (0 : Int32) = jI 0 := rfl
  refine lv_if_le hx hb hdg ht (fun q => ?_) (fun q => ?_)
  · rw [e0] at q
    exact (fun q => kt ((jI_le ha h0).mp q) H locs ls hP hD hS hl) q
  · rw [e0] at q
    exact (fun q => kf (by have z : ¬ a ≤ 0 := fun w => q ((jI_le ha h0).mpr w); omega) H locs ls hP hD hS hl) q
theorem j_ifz_eq (G : jG x l0 D0 Y cc own Ts nL0 R0 ret nm) {P : Prop} {hd : Decidable P} {off : Int} {tgt : Nat} (hdg : decode cc pc = .ok (.ifCond .eq off, 3)) (ht : (pc : Int) + off = (tgt : Int)) (kt : ¬ P → J x k n ws tgt lv st) (kf : P → J x k n ws (pc + 3) lv st) : J x k n ws pc lv (.int (jI (if P then 1 else 0)) :: st) := by
  obtain ⟨p, l, e, R, s, m, args, below, meth, c, Q, D, A, nL⟩ := x
  obtain ⟨rfl, rfl, rfl, rfl, hx, hb, hml, hown, hts, hK, hN, hT, hA, hlk, hr, hnm⟩ := G
  intro H locs ls hP hD hS hl
  have e1 : P → ¬ (jI (if P then 1 else 0)) = 0 := fun q => by rw [if_pos q]; decide
  have e0 : ¬ P → (jI (if P then 1 else 0)) = 0 := fun q => by rw [if_neg q]; decide
  exact lv_if_eq hx hb hdg ht (fun q => kt (fun z => e1 z q) H locs ls hP hD hS hl) (fun q => kf (Classical.byContradiction fun z => q (e0 z)) H locs ls hP hD hS hl)
theorem j_ifz_ne (G : jG x l0 D0 Y cc own Ts nL0 R0 ret nm) {P : Prop} {hd : Decidable P} {off : Int} {tgt : Nat} (hdg : decode cc pc = .ok (.ifCond .ne off, 3)) (ht : (pc : Int) + off = (tgt : Int)) (kt : P → J x k n ws tgt lv st) (kf : ¬ P → J x k n ws (pc + 3) lv st) : J x k n ws pc lv (.int (jI (if P then 1 else 0)) :: st) := by
  obtain ⟨p, l, e, R, s, m, args, below, meth, c, Q, D, A, nL⟩ := x
  obtain ⟨rfl, rfl, rfl, rfl, hx, hb, hml, hown, hts, hK, hN, hT, hA, hlk, hr, hnm⟩ := G
  intro H locs ls hP hD hS hl
  have e1 : P → ¬ (jI (if P then 1 else 0)) = 0 := fun q => by rw [if_pos q]; decide
  have e0 : ¬ P → (jI (if P then 1 else 0)) = 0 := fun q => by rw [if_neg q]; decide
  exact lv_if_ne hx hb hdg ht (fun q => kt (Classical.byContradiction fun z => q (e0 z)) H locs ls hP hD hS hl) (fun q => kf (fun z => e1 z q) H locs ls hP hD hS hl)
theorem j_iald (G : jG x l0 D0 Y cc own Ts nL0 R0 ret nm) {a : Nat} {N : Nat} {f : Int → Int} {i v : Int} (q0 : Nat) (hdg : decode cc pc = .ok (.iaload, 1)) (ha : ws[q0]? = some (a, .inl (Y 0, N, .inl (aI f)))) (hi : 0 ≤ i ∧ i < N ∧ N < 2147483648) (hv : f i = v) (kk : J x k n ws (pc + 1) lv (.int (jI v) :: st)) : J x k n ws pc lv (.int (jI i) :: .ref a :: st) := by
  obtain ⟨p, l, e, R, s, m, args, below, meth, c, Q, D, A, nL⟩ := x
  obtain ⟨rfl, rfl, rfl, rfl, hx, hb, hml, hown, hts, hK, hN, hT, hA, hlk, hr, hnm⟩ := G
  intro H locs ls hP hD hS hl
  refine va_iald hx hb hK hP q0 0 ha rfl (jI_in (by omega) (by omega)) hdg ?_
  rw [aI_at f (by omega), hv]
  exact kk H locs ls hP hD hS hl
theorem j_zald (G : jG x l0 D0 Y cc own Ts nL0 R0 ret nm) {a : Nat} {N : Nat} {f : Int → Int} {i v : Int} (q0 : Nat) (hdg : decode cc pc = .ok (.baload, 1)) (ha : ws[q0]? = some (a, .inl (Y 1, N, .inl (aI f)))) (hi : 0 ≤ i ∧ i < N ∧ N < 2147483648) (hv : f i = v) (kk : J x k n ws (pc + 1) lv (.int (jI v) :: st)) : J x k n ws pc lv (.int (jI i) :: .ref a :: st) := by
  obtain ⟨p, l, e, R, s, m, args, below, meth, c, Q, D, A, nL⟩ := x
  obtain ⟨rfl, rfl, rfl, rfl, hx, hb, hml, hown, hts, hK, hN, hT, hA, hlk, hr, hnm⟩ := G
  intro H locs ls hP hD hS hl
  refine va_zald hx hb hK hP q0 1 ha rfl (jI_in (by omega) (by omega)) hdg ?_
  rw [aI_at f (by omega), hv]
  exact kk H locs ls hP hD hS hl
theorem j_cald (G : jG x l0 D0 Y cc own Ts nL0 R0 ret nm) {a : Nat} {N : Nat} {f : Int → Int} {i v : Int} (q0 : Nat) (hdg : decode cc pc = .ok (.caload, 1)) (ha : ws[q0]? = some (a, .inl (Y 2, N, .inl (aI f)))) (hi : 0 ≤ i ∧ i < N ∧ N < 2147483648) (hv : f i = v) (kk : J x k n ws (pc + 1) lv (.int (jI v) :: st)) : J x k n ws pc lv (.int (jI i) :: .ref a :: st) := by
  obtain ⟨p, l, e, R, s, m, args, below, meth, c, Q, D, A, nL⟩ := x
  obtain ⟨rfl, rfl, rfl, rfl, hx, hb, hml, hown, hts, hK, hN, hT, hA, hlk, hr, hnm⟩ := G
  intro H locs ls hP hD hS hl
  refine va_cald hx hb hK hP q0 2 ha rfl (jI_in (by omega) (by omega)) hdg ?_
  rw [aI_at f (by omega), hv]
  exact kk H locs ls hP hD hS hl
theorem j_aald (G : jG x l0 D0 Y cc own Ts nL0 R0 ret nm) {a r : Nat} {N : Nat} {f : Nat → Option Nat} {i : Int} (q0 : Nat) (hdg : decode cc pc = .ok (.aaload, 1)) (ha : ws[q0]? = some (a, .inl (Y 3, N, .inr (.inr (.inr (.inr f)))))) (hi : 0 ≤ i ∧ i < N ∧ N < 2147483648) (hv : f i.toNat = some r) (kk : J x k n ws (pc + 1) lv (.ref r :: st)) : J x k n ws pc lv (.int (jI i) :: .ref a :: st) := by
  obtain ⟨p, l, e, R, s, m, args, below, meth, c, Q, D, A, nL⟩ := x
  obtain ⟨rfl, rfl, rfl, rfl, hx, hb, hml, hown, hts, hK, hN, hT, hA, hlk, hr, hnm⟩ := G
  intro H locs ls hP hD hS hl
  refine va_aldq (C := RX3) hx hb hK hP q0 3 ha rfl (jI_in (by omega) (by omega)) hdg ?_
  rw [jI_cl (by omega), hv]
  exact kk H locs ls hP hD hS hl
theorem j_iast (G : jG x l0 D0 Y cc own Ts nL0 R0 ret nm) {a : Nat} {N : Nat} {f : Int → Int} {i v : Int} {ws' : va_W} (q0 : Nat) (hdg : decode cc pc = .ok (.iastore, 1)) (ha : ws[q0]? = some (a, .inl (Y 0, N, .inl (aI f)))) (hi : 0 ≤ i ∧ i < N ∧ N < 2147483648) (hw : ws.set q0 (a, .inl (Y 0, N, .inl (aI (upZ f i v)))) = ws') (kk : J x k n ws' (pc + 1) lv st) : J x k n ws pc lv (.int (jI v) :: .int (jI i) :: .ref a :: st) := by
  obtain ⟨p, l, e, R, s, m, args, below, meth, c, Q, D, A, nL⟩ := x
  obtain ⟨rfl, rfl, rfl, rfl, hx, hb, hml, hown, hts, hK, hN, hT, hA, hlk, hr, hnm⟩ := G
  intro H locs ls hP hD hS hl
  refine va_iast hx hb hK hP hD hS q0 0 ha rfl (jI_in (by omega) (by omega)) hdg (fun H1 locs1 hP1 hD1 hS1 => ?_)
  rw [aI_upd f (by omega) v, hw] at hP1 hD1
  exact kk H1 locs1 ls hP1 hD1 hS1 hl
theorem j_zast (G : jG x l0 D0 Y cc own Ts nL0 R0 ret nm) {a : Nat} {N : Nat} {f : Int → Int} {i v : Int} {ws' : va_W} (q0 : Nat) (hdg : decode cc pc = .ok (.bastore, 1)) (ha : ws[q0]? = some (a, .inl (Y 1, N, .inl (aI f)))) (hi : 0 ≤ i ∧ i < N ∧ N < 2147483648) (hz : v = 0 ∨ v = 1) (hw : ws.set q0 (a, .inl (Y 1, N, .inl (aI (upZ f i v)))) = ws') (kk : J x k n ws' (pc + 1) lv st) : J x k n ws pc lv (.int (jI v) :: .int (jI i) :: .ref a :: st) := by
  obtain ⟨p, l, e, R, s, m, args, below, meth, c, Q, D, A, nL⟩ := x
  obtain ⟨rfl, rfl, rfl, rfl, hx, hb, hml, hown, hts, hK, hN, hT, hA, hlk, hr, hnm⟩ := G
  intro H locs ls hP hD hS hl
  refine va_zast hx hb hK hP hD hS q0 1 ha rfl (jI_in (by omega) (by omega)) hdg (fun H1 locs1 hP1 hD1 hS1 => ?_)
  rw [jI_nz hz, aI_upd f (by omega) v, hw] at hP1 hD1
  exact kk H1 locs1 ls hP1 hD1 hS1 hl
theorem j_cast (G : jG x l0 D0 Y cc own Ts nL0 R0 ret nm) {a : Nat} {N : Nat} {f : Int → Int} {i v : Int} {ws' : va_W} (q0 : Nat) (hdg : decode cc pc = .ok (.castore, 1)) (ha : ws[q0]? = some (a, .inl (Y 2, N, .inl (aI f)))) (hi : 0 ≤ i ∧ i < N ∧ N < 2147483648) (hz : 0 ≤ v ∧ v < 65536) (hw : ws.set q0 (a, .inl (Y 2, N, .inl (aI (upZ f i v)))) = ws') (kk : J x k n ws' (pc + 1) lv st) : J x k n ws pc lv (.int (jI v) :: .int (jI i) :: .ref a :: st) := by
  obtain ⟨p, l, e, R, s, m, args, below, meth, c, Q, D, A, nL⟩ := x
  obtain ⟨rfl, rfl, rfl, rfl, hx, hb, hml, hown, hts, hK, hN, hT, hA, hlk, hr, hnm⟩ := G
  intro H locs ls hP hD hS hl
  refine va_cast hx hb hK hP hD hS q0 2 ha rfl (jI_in (by omega) (by omega)) hdg (fun H1 locs1 hP1 hD1 hS1 => ?_)
  rw [jI_nc hz, aI_upd f (by omega) v, hw] at hP1 hD1
  exact kk H1 locs1 ls hP1 hD1 hS1 hl
theorem j_aast (G : jG x l0 D0 Y cc own Ts nL0 R0 ret nm) {a v : Nat} {N : Nat} {vs : List Value} {f : Nat → Option Nat} {i : Int} {ws' : va_W} (q0 q1 : Nat) (hdg : decode cc pc = .ok (.aastore, 1)) (ha : ws[q0]? = some (a, .inl (Y 3, N, .inr (.inr (.inr (.inr f)))))) (hv : ws[q1]? = some (v, .inr (3, vs))) (hi : 0 ≤ i ∧ i < N ∧ N < 2147483648) (hw : ws.set q0 (a, .inl (Y 3, N, .inr (.inr (.inr (.inr (va_up f i.toNat (some v))))))) = ws') (kk : J x k n ws' (pc + 1) lv st) : J x k n ws pc lv (.ref v :: .int (jI i) :: .ref a :: st) := by
  obtain ⟨p, l, e, R, s, m, args, below, meth, c, Q, D, A, nL⟩ := x
  obtain ⟨rfl, rfl, rfl, rfl, hx, hb, hml, hown, hts, hK, hN, hT, hA, hlk, hr, hnm⟩ := G
  intro H locs ls hP hD hS hl
  refine va_astq (r := (RX3, TX3, 13)) hx hb hK hP hD hS q0 3 q1 3 ha rfl hv rfl (jI_in (by omega) (by omega)) hdg (fun H1 locs1 hP1 hD1 hS1 => ?_)
  rw [jI_cl (by omega), hw] at hP1 hD1
  exact kk H1 locs1 ls hP1 hD1 hS1 hl
theorem j_get (G : jG x l0 D0 Y cc own Ts nL0 R0 ret nm) {a ci N q index : Nat} {C : String} {T : u_T} {fs : List Value} {v : Value} (q0 : Nat) (hin : ∀ w ∈ u_ws C T N, w ∈ Ts) (hdg : decode cc pc = .ok (.getfield index, 3)) (he : ws[q0]? = some (a, .inr (ci, fs))) (hc : vwCl[ci]? = some (C, T, N)) (hk : q < N) (hlink : Cond.fieldLink own index (T q).1 (T q).2.1 (T q).2.2.1 ∈ Ts) (hv : fs[q]? = some v) (kk : J x k n ws (pc + 3) lv (v :: st)) : J x k n ws pc lv (.ref a :: st) := by
  obtain ⟨p, l, e, R, s, m, args, below, meth, c, Q, D, A, nL⟩ := x
  obtain ⟨rfl, rfl, rfl, rfl, hx, hb, hml, hown, hts, hK, hN, hT, hA, hlk, hr, hnm⟩ := G
  intro H locs ls hP hD hS hl
  exact va_get hx hb hts hin hown hK hP q0 he hc q hk (hts _ hlink) (fun _ h => h) hv hdg (kk H locs ls hP hD hS hl)
theorem j_getN (G : jG x l0 D0 Y cc own Ts nL0 R0 ret nm) {a ci N q index : Nat} {C host : String} {T : u_T} {fs : List Value} {v : Value} (q0 : Nat) (hin : ∀ w ∈ u_ws C T N, w ∈ Ts) (hdg : decode cc pc = .ok (.getfield index, 3)) (he : ws[q0]? = some (a, .inr (ci, fs))) (hc : vwCl[ci]? = some (C, T, N)) (hk : q < N) (hlink : (own, index, (T q).1, (T q).2.1, (T q).2.2.1, host) ∈ nwF) (hv : fs[q]? = some v) (kk : J x k n ws (pc + 3) lv (v :: st)) : J x k n ws pc lv (.ref a :: st) := by
  obtain ⟨p, l, e, R, s, m, args, below, meth, c, Q, D, A, nL⟩ := x
  obtain ⟨rfl, rfl, rfl, rfl, hx, hb, hml, hown, hts, hK, hN, hT, hA, hlk, hr, hnm⟩ := G
  intro H locs ls hP hD hS hl
  exact va_getN hx hb hts hin hown hK hP q0 he hc q hk (va_Nw.use rfl (hN.1 _ hlink)) (fun _ h => h) hv hdg (kk H locs ls hP hD hS hl)
theorem j_put (G : jG x l0 D0 Y cc own Ts nL0 R0 ret nm) {a ci N q index : Nat} {C : String} {T : u_T} {fs : List Value} {v : Value} {ty : FieldType} {ws' : va_W} (q0 : Nat) (hin : ∀ w ∈ u_ws C T N, w ∈ Ts) (ty0 : Nat → FieldType) (hty : ∀ k, k < N → parseFieldDescriptor (T k).2.2.1 = some (ty0 k)) (hnm' : ∀ a, a < N → ∀ b, b < N → a ≠ b → (T a).2.1 ≠ (T b).2.1) (hdg : decode cc pc = .ok (.putfield index, 3)) (he : ws[q0]? = some (a, .inr (ci, fs))) (hc : vwCl[ci]? = some (C, T, N)) (hk : q < N) (hlink : Cond.fieldLink own index (T q).1 (T q).2.1 (T q).2.2.1 ∈ Ts) (hfin : (T q).2.2.2 = false) (hd : ty0 q = ty) (hn : narrow ty v = v) (hfit : fits ty v = true) (hlen : q < fs.length) (hw : ws.set q0 (a, .inr (ci, fs.set q v)) = ws') (kk : J x k n ws' (pc + 3) lv st) : J x k n ws pc lv (v :: .ref a :: st) := by
  obtain ⟨p, l, e, R, s, m, args, below, meth, c, Q, D, A, nL⟩ := x
  obtain ⟨rfl, rfl, rfl, rfl, hx, hb, hml, hown, hts, hK, hN, hT, hA, hlk, hr, hnm⟩ := G
  intro H locs ls hP hD hS hl
  subst hw
  exact va_put hx hb hts hin ty0 hty hnm' hown hK hP hD hS q0 he hc q hk (hts _ hlink) (fun _ h => h) hfin (ty := ty) (by rw [← hd]; exact hty q hk) hn hfit hlen hdg (fun H1 locs1 hP1 hD1 hS1 => kk H1 locs1 ls hP1 hD1 hS1 hl)
theorem j_putF (G : jG x l0 D0 Y cc own Ts nL0 R0 ret nm) {a ci N q index : Nat} {C : String} {T : u_T} {fs : List Value} {v : Value} {ty : FieldType} {ws' : va_W} (q0 : Nat) (hin : ∀ w ∈ u_ws C T N, w ∈ Ts) (ty0 : Nat → FieldType) (hty : ∀ k, k < N → parseFieldDescriptor (T k).2.2.1 = some (ty0 k)) (hnm' : ∀ a, a < N → ∀ b, b < N → a ≠ b → (T a).2.1 ≠ (T b).2.1) (hnmi : nm = "<init>") (hdg : decode cc pc = .ok (.putfield index, 3)) (he : ws[q0]? = some (a, .inr (ci, fs))) (hc : vwCl[ci]? = some (C, T, N)) (hk : q < N) (hlink : Cond.fieldLink own index (T q).1 (T q).2.1 (T q).2.2.1 ∈ Ts) (hfin : (T q).2.2.2 = true) (hdecl : (T q).1 = own) (hd : ty0 q = ty) (hn : narrow ty v = v) (hfit : fits ty v = true) (hlen : q < fs.length) (hw : ws.set q0 (a, .inr (ci, fs.set q v)) = ws') (kk : J x k n ws' (pc + 3) lv st) : J x k n ws pc lv (v :: .ref a :: st) := by
  obtain ⟨p, l, e, R, s, m, args, below, meth, c, Q, D, A, nL⟩ := x
  obtain ⟨rfl, rfl, rfl, rfl, hx, hb, hml, hown, hts, hK, hN, hT, hA, hlk, hr, hnm⟩ := G
  intro H locs ls hP hD hS hl
  subst hw
  exact va_putF hx hb hts hin ty0 hty hnm' hown hK hP hD hS q0 he hc q hk (hts _ hlink) (fun _ h => h) hfin (hnm.trans hnmi) hdecl (ty := ty) (by rw [← hd]; exact hty q hk) hn hfit hlen hdg (fun H1 locs1 hP1 hD1 hS1 => kk H1 locs1 ls hP1 hD1 hS1 hl)
theorem j_ret (G : jG x l0 D0 Y cc own Ts nL0 R0 ret nm) {v : Value} (hdg : decode cc pc = .ok (retOp (some v), 1)) (kr : jE x k n cc ws (some v)) : J x k n ws pc lv [v] := by
  obtain ⟨p, l, e, R, s, m, args, below, meth, c, Q, D, A, nL⟩ := x
  obtain ⟨rfl, rfl, rfl, rfl, hx, hb, hml, hown, hts, hK, hN, hT, hA, hlk, hr, hnm⟩ := G
  intro H locs ls hP hD hS hl
  exact kr pc lv hdg H locs ls hP hD hS hl
theorem j_vret (G : jG x l0 D0 Y cc own Ts nL0 R0 ret nm)  (hdg : decode cc pc = .ok (retOp none, 1)) (kr : jE x k n cc ws none) : J x k n ws pc lv [] := by
  obtain ⟨p, l, e, R, s, m, args, below, meth, c, Q, D, A, nL⟩ := x
  obtain ⟨rfl, rfl, rfl, rfl, hx, hb, hml, hown, hts, hK, hN, hT, hA, hlk, hr, hnm⟩ := G
  intro H locs ls hP hD hS hl
  exact kr pc lv hdg H locs ls hP hD hS hl
theorem j_conv {ws' : va_W} (hw : jLe ws ws') (kk : J x k n ws' pc lv st) : J x k n ws pc lv st := by
  obtain ⟨p, l, e, R, s, m, args, below, meth, c, Q, D, A, nL⟩ := x
  intro H locs ls hP hD hS hl
  exact kk H locs ls (hw.1 D H hP) (hw.2 A hD) hS hl
theorem j_lv {lv' : List (Nat × Value)} (ks : List Nat) (h : lv_pick lv ks = lv') (kk : J x k n ws pc lv' st) : J x k n ws pc lv st := by
  obtain ⟨p, l, e, R, s, m, args, below, meth, c, Q, D, A, nL⟩ := x
  intro H locs ls hP hD hS hl
  exact kk H locs ls hP hD hS (lv_sub hl ks h)
theorem j_wide {k' n' : Nat} (h1 : k ≤ k') (h2 : n ≤ n') (kk : J x k' n' ws pc lv st) : J x k n ws pc lv st := by
  obtain ⟨p, l, e, R, s, m, args, below, meth, c, Q, D, A, nL⟩ := x
  intro H locs ls hP hD hS hl
  exact W.widen h1 h2 (kk H locs ls hP hD hS hl)
theorem jE_conv {ws' : va_W} {v : Option Value} (hw : jLe ws ws') (kr : jE x k n cc ws' v) : jE x k n cc ws v := fun pc lv hdg => j_conv hw (kr pc lv hdg)
end JR
section JC
variable {p : Program} {l : Launch} {e : Env} {R : Room} {s : State} {m : MethodId} {args : Array Value} {below : List Frame} {meth : Method} {c : Code} {H : Heap} {locs : List Loc} {cells slots : Nat} {Q : State → Prop}
variable {pc : Nat} {ls : Array Slot} {rest st0 : List Value} {a : Array Value} {A : Nat → Prop} {mc ms : Nat} {D : va_G} {post : Option Value → va_W → Prop} {wc wr : va_W}
theorem jcall_W (hr : va_Run p l e R s m args below meth c H locs cells slots mc ms (F0 m pc ls st0) rest (jQ post D (va_A wc H.size) a) (va_A wc H.size)) (hS : va_S A s.heap H locs) (hA : ∀ q, s.heap.size ≤ q → A q) (hP : va_P D vwCl (wc ++ wr) H) (hD : va_D A (wc ++ wr))
    (kk : ∀ (v : Option Value) (w' : va_W) (H1 : Heap) (locs1 : List Loc), post v w' → va_P D vwCl (w' ++ wr) H1 → va_D A (w' ++ wr) → va_S A s.heap H1 locs1 → W p l e R s m args below meth c H1 locs1 (cells + mc) (slots + ms) Q (F0 m (pc + 3) ls (v.toList ++ rest))) : W p l e R s m args below meth c H locs cells slots Q (F0 m pc ls st0) := by
  have hfree : ∀ q, va_A wc H.size q → A q := by
    intro q h
    rcases h with ⟨k, e', h⟩ | h
    · have hk := (List.getElem?_eq_some_iff.mp h).1
      exact hD.2 k (q, e') (by rw [List.getElem?_append_left hk]; exact h)
    · exact hA q (Nat.le_trans hS.1 h)
  have apart : ∀ (k : Nat) (q : Nat × va_E), wr[k]? = some q → q.1 < H.size ∧ ¬ va_A wc H.size q.1 := by
    intro k q hq
    have h2 : (wc ++ wr)[wc.length + k]? = some q := by
      rw [List.getElem?_append_right (by omega), show wc.length + k - wc.length = k by omega]
      exact hq
    have hl := (hP _ q h2).lt
    refine ⟨hl, fun h => ?_⟩
    rcases h with ⟨k2, e', h⟩ | h
    · have hk := (List.getElem?_eq_some_iff.mp h).1
      have hij := hD.1 (wc.length + k) k2 q (q.1, e') h2 (by rw [List.getElem?_append_left hk]; exact h) rfl
      omega
    · omega
  intro T hT X
  obtain ⟨v, st₀, t, T', L, h0, X', hL, e1, e2, ⟨v', w', hv, hpost, hP1, hD1, hz, hk⟩, st⟩ := hr T hT X
  cases hv
  rw [h0] at hz hk
  have hS1 : va_S A s.heap T'.heap (locs ++ L) := ⟨Nat.le_trans hS.1 (by rw [e1]; exact hz), fun q h1 h2 => by rw [e1, hk q (Nat.lt_of_lt_of_le h1 hS.1) (fun z => h2 (hfree q z))]; exact hS.2.1 q h1 h2, fun q hq => by
      rcases List.mem_append.mp hq with h | h
      · exact hS.2.2 q h
      · exact hfree _ (hL q h)⟩
  have hPr : va_P D vwCl wr T'.heap := fun k q hq => by
    obtain ⟨g1, g2⟩ := apart k q hq
    have h2 : (wc ++ wr)[wc.length + k]? = some q := by
      rw [List.getElem?_append_right (by omega), show wc.length + k - wc.length = k by omega]
      exact hq
    exact (hP _ q h2).kept (by rw [e1]; exact hk q.1 g1 g2)
  have hDr : va_D A wr := ⟨fun i j x y hi hj hxy => by
      have := hD.1 (wc.length + i) (wc.length + j) x y (by rw [List.getElem?_append_right (by omega), show wc.length + i - wc.length = i by omega]; exact hi) (by rw [List.getElem?_append_right (by omega), show wc.length + j - wc.length = j by omega]; exact hj) hxy
      omega, fun k q hq => hD.2 (wc.length + k) q (by rw [List.getElem?_append_right (by omega), show wc.length + k - wc.length = k by omega]; exact hq)⟩
  obtain ⟨t2, a1, b1⟩ := kk v w' T'.heap (locs ++ L) hpost (va_P.app (by rw [e1]; exact hP1) hPr)
    (va_D.app (hD1.weaken (fun k q _ h => hfree q.1 h)) hDr (fun i j x y hx hy hxy => (apart j y hy).2 (by rw [← hxy]; exact hD1.2 i x hx))) hS1 T' rfl X'
  exact ⟨t2, st t2 a1, b1⟩
end JC
theorem jP_blind (D : va_G) (Y : Nat → ClassId) (w : va_W) (sz : Nat) (as : List Value) : FrameBlind (jP D Y w sz as) := fun a U g mk q => by
  obtain ⟨h0, h1, h2, h3, h4, h5, h6⟩ := q
  exact ⟨h0, h1, h2, va_K.moved (u := U) (U := U.calling g mk a) (Vm.Alike.refl U.vm) h3, NW.same (u := U) (U := U.calling g mk a) rfl h4, ST.go (u := U) (U := U.calling g mk a) h5 (Vm.Alike.refl U.vm) (fun _ _ _ => rfl) (fun _ h => h), h6⟩
theorem jP_at {D : va_G} {Y : Nat → ClassId} {A : Nat → Prop} {s : State} {H : Heap} {locs : List Loc} {wc wr : va_W} (hP : va_P D vwCl (wc ++ wr) H) (hD : va_D A (wc ++ wr)) (hS : va_S A s.heap H locs) (hA : ∀ q, s.heap.size ≤ q → A q) (hK : va_K D vwCl (TY Y) s) (hN : NW s) (hT : ST A s s.heap) (as : List Value) :
    ∀ U : State, U.heap = H → s.WarmedH U.vm → jP D Y wc H.size as as.toArray U := by
  intro U hU hW
  have hPc : va_P D vwCl wc H := fun k q hq => hP k q (by rw [List.getElem?_append_left (List.getElem?_eq_some_iff.mp hq).1]; exact hq)
  have hDc : va_D A wc := ⟨fun i j x y hi hj hxy => hD.1 i j x y (by rw [List.getElem?_append_left (List.getElem?_eq_some_iff.mp hi).1]; exact hi) (by rw [List.getElem?_append_left (List.getElem?_eq_some_iff.mp hj).1]; exact hj) hxy, fun k q hq => hD.2 k q (by rw [List.getElem?_append_left (List.getElem?_eq_some_iff.mp hq).1]; exact hq)⟩
  refine ⟨rfl, by rw [hU], by rw [hU]; exact hPc, va_K.moved hW.alike hK, NW.warm hW hN, ?_, hDc.weaken (fun _ _ _ _ => trivial)⟩
  rw [hU]
  refine ST.go hT hW.alike (fun q h1 h2 => hS.2.1 q h1 h2) (fun q h => ?_)
  rcases h with ⟨k, e', h⟩ | h
  · exact hDc.2 k (q, e') h
  · exact hA q (Nat.le_trans hS.1 h)
section JR2
variable {x : Cx} {l0 : Launch} {D0 : va_G} {Y : Nat → ClassId} {cc : ByteArray} {own : String} {Ts : List Cond} {nL0 : Nat} {R0 : Room} {ret : Option FieldType} {nm : String} {k n : Nat} {ws : va_W} {pc : Nat} {lv : List (Nat × Value)} {st st0 : List Value}
variable {y : MethodName} {wsl ws' : List Cond} {rm : Room} {post : Option Value → va_W → Prop} {mc ms index nA maxL : Nat} {cb : ByteArray} {rt : Option FieldType} {wc wr : va_W} {As : List Value} {b : Nat}
theorem j_callV (G : jG x l0 D0 Y cc own Ts nL0 R0 ret nm) {C : String} {ci : Nat} {qc : vw_C} {fs : List Value} (hM : jM l0 y wsl rm D0 Y (.ref b :: As) wc post mc ms) (hdg : decode cc pc = .ok (.invokevirtual index, 3)) (hst : st0 = As.reverse ++ .ref b :: st) (hT : GoodIn Ts (wsV own index C y wsl)) (hw : wsl = Cond.code y cb maxL rt :: ws') (hrc : rm.cells = mc) (hrs : rm.slots = ms)
    (hd : y.cls = C ∧ y.cls ≠ "java/lang/invoke/MethodHandle" ∧ y.cls ≠ "java/lang/invoke/VarHandle" ∧ (parseMethodDescriptor y.desc).map (fun d => d.parameters.length) = some nA) (hR : rm.frames + 1 ≤ R0.frames ∧ 8 + (maxL + 11) + rm.locals ≤ R0.locals) (hn : As.length = nA) (q0 : Nat) (he : wc[q0]? = some (b, .inr (ci, fs))) (hc : vwCl[ci]? = some qc) (hC : qc.1 = C) (sp : jLe ws (wc ++ wr)) (hW : (st.map fun v => v.category).sum ≤ 8) (hf : k + mc ≤ R0.cells ∧ n + ms ≤ R0.slots)
    (kk : ∀ v w', post v w' → J x (k + mc) (n + ms) (w' ++ wr) (pc + 3) lv (v.toList ++ st)) : J x k n ws pc lv st0 := by
  obtain ⟨p, l, e, R, s, m, args, below, meth, c, Q, D, A, nL⟩ := x
  obtain ⟨rfl, rfl, rfl, rfl, hx, hb, hml, hown, hts, hK, hN, hT', hA, hlk, hr, hnm⟩ := G
  intro H locs ls hP0 hD0 hS hl
  have hP := sp.1 D H hP0
  have hD := sp.2 A hD0
  subst hst
  subst hC
  have hrecv := va_recv hK (fun k q hq => hP k q (by rw [List.getElem?_append_left (List.getElem?_eq_some_iff.mp hq).1]; exact hq) : va_P D vwCl wc H) hc he
  exact jcall_W (va_runV (As := As) (rest := st) ⟨hx, hb, hml, hown, hts⟩ (hM H.size) (cwV nA hts hT hw hrc hrs hd hR) ⟨jP_blind _ _ _ _ _, hrecv, jP_at hP hD hS hA hK hN hT' (.ref b :: As)⟩ rfl hn hl.1 rfl (lv_room hW) hdg hf) hS hA hP hD
    (fun v w' H1 locs1 hp h1 h2 h3 => kk v w' hp H1 locs1 ls h1 h2 h3 hl)
theorem j_callS (G : jG x l0 D0 Y cc own Ts nL0 R0 ret nm) (hM : jM l0 y wsl rm D0 Y As wc post mc ms) (hdg : decode cc pc = .ok (.invokestatic index, 3)) (hst : st0 = As.reverse ++ st) (hT : GoodIn Ts (va_wsS own index y wsl)) (hw : wsl = Cond.code y cb maxL rt :: ws') (hrc : rm.cells = mc) (hrs : rm.slots = ms)
    (hd : y.cls ≠ "java/lang/invoke/MethodHandle" ∧ y.cls ≠ "java/lang/invoke/VarHandle" ∧ (parseMethodDescriptor y.desc).map (fun d => d.parameters.length) = some nA) (hR : rm.frames + 1 ≤ R0.frames ∧ 8 + (maxL + 11) + rm.locals ≤ R0.locals) (hn : As.length = nA) (sp : jLe ws (wc ++ wr)) (hW : (st.map fun v => v.category).sum ≤ 8) (hf : k + mc ≤ R0.cells ∧ n + ms ≤ R0.slots)
    (kk : ∀ v w', post v w' → J x (k + mc) (n + ms) (w' ++ wr) (pc + 3) lv (v.toList ++ st)) : J x k n ws pc lv st0 := by
  obtain ⟨p, l, e, R, s, m, args, below, meth, c, Q, D, A, nL⟩ := x
  obtain ⟨rfl, rfl, rfl, rfl, hx, hb, hml, hown, hts, hK, hN, hT', hA, hlk, hr, hnm⟩ := G
  intro H locs ls hP0 hD0 hS hl
  have hP := sp.1 D H hP0
  have hD := sp.2 A hD0
  subst hst
  exact jcall_W (va_runS (As := As) (rest := st) ⟨hx, hb, hml, hown, hts⟩ (hM H.size) (va_cwS nA hts hT hw hrc hrs hd hR) ⟨jP_blind _ _ _ _ _, jP_at hP hD hS hA hK hN hT' As⟩ rfl hn hl.1 rfl (lv_room hW) hdg hf) hS hA hP hD
    (fun v w' H1 locs1 hp h1 h2 h3 => kk v w' hp H1 locs1 ls h1 h2 h3 hl)
theorem j_callSN (G : jG x l0 D0 Y cc own Ts nL0 R0 ret nm) {host : String} (hM : jM l0 y wsl rm D0 Y As wc post mc ms) (hdg : decode cc pc = .ok (.invokestatic index, 3)) (hst : st0 = As.reverse ++ st) (hT : GoodIn Ts wsl) (hw : wsl = Cond.code y cb maxL rt :: ws') (hrc : rm.cells = mc) (hrs : rm.slots = ms) (hmem : (own, index, y, host) ∈ nwM) (hini : Cond.initialized y.cls ∈ Ts) (hsta : Cond.static y ∈ Ts)
    (hd : y.cls ≠ "java/lang/invoke/MethodHandle" ∧ y.cls ≠ "java/lang/invoke/VarHandle" ∧ (parseMethodDescriptor y.desc).map (fun d => d.parameters.length) = some nA) (hR : rm.frames + 1 ≤ R0.frames ∧ 8 + (maxL + 11) + rm.locals ≤ R0.locals) (hn : As.length = nA) (sp : jLe ws (wc ++ wr)) (hW : (st.map fun v => v.category).sum ≤ 8) (hf : k + mc ≤ R0.cells ∧ n + ms ≤ R0.slots)
    (kk : ∀ v w', post v w' → J x (k + mc) (n + ms) (w' ++ wr) (pc + 3) lv (v.toList ++ st)) : J x k n ws pc lv st0 := by
  obtain ⟨p, l, e, R, s, m, args, below, meth, c, Q, D, A, nL⟩ := x
  obtain ⟨rfl, rfl, rfl, rfl, hx, hb, hml, hown, hts, hK, hN, hT', hA, hlk, hr, hnm⟩ := G
  intro H locs ls hP0 hD0 hS hl
  have hP := sp.1 D H hP0
  have hD := sp.2 A hD0
  subst hst
  exact jcall_W (va_runSN (host := host) (As := As) (rest := st) ⟨hx, hb, hml, hown, hts⟩ (hM H.size) ⟨va_cnB nA hts hT hw hrc hrs (hN.2.1 _ hmem) (hts _ hini) hd hR, hts _ hsta, trivial⟩ ⟨jP_blind _ _ _ _ _, jP_at hP hD hS hA hK hN hT' As⟩ rfl hn hl.1 rfl (lv_room hW) hdg hf) hS hA hP hD
    (fun v w' H1 locs1 hp h1 h2 h3 => kk v w' hp H1 locs1 ls h1 h2 h3 hl)
theorem j_callI (G : jG x l0 D0 Y cc own Ts nL0 R0 ret nm) (hM : jM l0 y wsl rm D0 Y (.ref b :: As) wc post mc ms) (hdg : decode cc pc = .ok (.invokespecial index, 3)) (hst : st0 = As.reverse ++ .ref b :: st) (hT : GoodIn Ts wsl) (hw : wsl = Cond.code y cb maxL none :: ws') (hrc : rm.cells = mc) (hrs : rm.slots = ms) (hini : Cond.initialized y.cls ∈ Ts) (hlink : Cond.methodLink own index y ∈ Ts) (hinst : Cond.instanceMethod y ∈ Ts) (hy1 : y.name = "<init>")
    (hd : y.cls ≠ "java/lang/invoke/MethodHandle" ∧ y.cls ≠ "java/lang/invoke/VarHandle" ∧ (parseMethodDescriptor y.desc).map (fun d => d.parameters.length) = some nA) (hR : rm.frames + 1 ≤ R0.frames ∧ 8 + (maxL + 11) + rm.locals ≤ R0.locals) (hn : As.length = nA) (sp : jLe ws (wc ++ wr)) (hW : (st.map fun v => v.category).sum ≤ 8) (hf : k + mc ≤ R0.cells ∧ n + ms ≤ R0.slots)
    (kk : ∀ v w', post v w' → J x (k + mc) (n + ms) (w' ++ wr) (pc + 3) lv (v.toList ++ st)) : J x k n ws pc lv st0 := by
  obtain ⟨p, l, e, R, s, m, args, below, meth, c, Q, D, A, nL⟩ := x
  obtain ⟨rfl, rfl, rfl, rfl, hx, hb, hml, hown, hts, hK, hN, hT', hA, hlk, hr, hnm⟩ := G
  intro H locs ls hP0 hD0 hS hl
  have hP := sp.1 D H hP0
  have hD := sp.2 A hD0
  subst hst
  exact jcall_W (va_runI (As := As) (rest := st) ⟨hx, hb, hml, hown, hts⟩ (hM H.size) (cwI nA hts hT hw hrc hrs (hts _ hini) (hts _ hlink) (hts _ hinst) hy1 hd hR) ⟨jP_blind _ _ _ _ _, jP_at hP hD hS hA hK hN hT' (.ref b :: As)⟩ rfl hn hl.1 rfl (lv_room hW) hdg hf) hS hA hP hD
    (fun v w' H1 locs1 hp h1 h2 h3 => kk v w' hp H1 locs1 ls h1 h2 h3 hl)
theorem j_callIN (G : jG x l0 D0 Y cc own Ts nL0 R0 ret nm) {host : String} (hM : jM l0 y wsl rm D0 Y (.ref b :: As) wc post mc ms) (hdg : decode cc pc = .ok (.invokespecial index, 3)) (hst : st0 = As.reverse ++ .ref b :: st) (hT : GoodIn Ts wsl) (hw : wsl = Cond.code y cb maxL none :: ws') (hrc : rm.cells = mc) (hrs : rm.slots = ms) (hmem : (own, index, y, host) ∈ nwM) (hini : Cond.initialized y.cls ∈ Ts) (hinst : Cond.instanceMethod y ∈ Ts) (hy1 : y.name = "<init>")
    (hd : y.cls ≠ "java/lang/invoke/MethodHandle" ∧ y.cls ≠ "java/lang/invoke/VarHandle" ∧ (parseMethodDescriptor y.desc).map (fun d => d.parameters.length) = some nA) (hR : rm.frames + 1 ≤ R0.frames ∧ 8 + (maxL + 11) + rm.locals ≤ R0.locals) (hn : As.length = nA) (sp : jLe ws (wc ++ wr)) (hW : (st.map fun v => v.category).sum ≤ 8) (hf : k + mc ≤ R0.cells ∧ n + ms ≤ R0.slots)
    (kk : ∀ v w', post v w' → J x (k + mc) (n + ms) (w' ++ wr) (pc + 3) lv (v.toList ++ st)) : J x k n ws pc lv st0 := by
  obtain ⟨p, l, e, R, s, m, args, below, meth, c, Q, D, A, nL⟩ := x
  obtain ⟨rfl, rfl, rfl, rfl, hx, hb, hml, hown, hts, hK, hN, hT', hA, hlk, hr, hnm⟩ := G
  intro H locs ls hP0 hD0 hS hl
  have hP := sp.1 D H hP0
  have hD := sp.2 A hD0
  subst hst
  exact jcall_W (va_runIN (host := host) (As := As) (rest := st) ⟨hx, hb, hml, hown, hts⟩ (hM H.size) ⟨va_cnB nA hts hT hw hrc hrs (hN.2.1 _ hmem) (hts _ hini) hd hR, hy1, hts _ hinst⟩ ⟨jP_blind _ _ _ _ _, jP_at hP hD hS hA hK hN hT' (.ref b :: As)⟩ rfl hn hl.1 rfl (lv_room hW) hdg hf) hS hA hP hD
    (fun v w' H1 locs1 hp h1 h2 h3 => kk v w' hp H1 locs1 ls h1 h2 h3 hl)
theorem j_objInit (G : jG x l0 D0 Y cc own Ts nL0 R0 ret nm) (hdg : decode cc pc = .ok (.invokespecial index, 3)) (hlink : Cond.methodLink own index objectInit ∈ Ts) (hinst : Cond.instanceMethod objectInit ∈ Ts) (hcode : Cond.code objectInit ⟨#[0xb1]⟩ 1 none ∈ Ts) (h1 : 1 ≤ R0.frames) (h2 : (st.map fun v => v.category).sum + 12 ≤ R0.locals)
    (kk : J x k n ws (pc + 3) lv st) : J x k n ws pc lv (.ref b :: st) := by
  obtain ⟨p, l, e, R, s, m, args, below, meth, c, Q, D, A, nL⟩ := x
  obtain ⟨rfl, rfl, rfl, rfl, hx, hb, hml, hown, hts, hK, hN, hT', hA, hlk, hr, hnm⟩ := G
  intro H locs ls hP hD hS hl
  exact W.objInit hx hb hown (hts _ hlink) (hts _ hinst) (hts _ hcode) rfl (by rw [hml]; exact hl.1) rfl hdg h1 (by show 2 * 0 + _ + 12 ≤ _; omega) (kk H locs ls hP hD hS hl)
theorem j_mmin (G : jG x l0 D0 Y cc own Ts nL0 R0 ret nm) {u v : Int} (hdg : decode cc pc = .ok (.invokestatic index, 3)) (hlink : Cond.methodLink own index Lib.Math.min.name ∈ Ts) (hstat : Cond.static Lib.Math.min.name ∈ Ts) (hini : Cond.initialized "java/lang/Math" ∈ Ts) (hcode : Cond.code Lib.Math.min.name Lib.Math.min.code 2 (some .int) ∈ Ts) (h1 : 1 ≤ R0.frames) (h2 : (st.map fun v => v.category).sum + 13 ≤ R0.locals) (h3 : k ≤ R0.cells ∧ n ≤ R0.slots) (hu : -2147483648 ≤ u ∧ u < 2147483648) (hv : -2147483648 ≤ v ∧ v < 2147483648)
    (kk : J x k n ws (pc + 3) lv (.int (jI (if v < u then v else u)) :: st)) : J x k n ws pc lv (.int (jI v) :: .int (jI u) :: st) := by
  obtain ⟨p, l, e, R, s, m, args, below, meth, c, Q, D, A, nL⟩ := x
  obtain ⟨rfl, rfl, rfl, rfl, hx, hb, hml, hown, hts, hK, hN, hT', hA, hlk, hr, hnm⟩ := G
  intro H locs ls hP hD hS hl
  refine va_mmin hx hb (hml.trans hl.1.symm) hown (hts _ hlink) (hts _ hstat) (hts _ hini) (hts _ hcode) h1 h2 h3.1 h3.2 hdg ?_
  have e : (if jI v < jI u then jI v else jI u) = jI (if v < u then v else u) := by
    by_cases h : v < u
    · rw [if_pos h, if_pos ((jI_lt hv hu).mpr h)]
    · rw [if_neg h, if_neg (fun z => h ((jI_lt hv hu).mp z))]
  rw [e]
  exact kk H locs ls hP hD hS hl
theorem j_mmax (G : jG x l0 D0 Y cc own Ts nL0 R0 ret nm) {u v : Int} (hdg : decode cc pc = .ok (.invokestatic index, 3)) (hlink : Cond.methodLink own index Lib.Math.max.name ∈ Ts) (hstat : Cond.static Lib.Math.max.name ∈ Ts) (hini : Cond.initialized "java/lang/Math" ∈ Ts) (hcode : Cond.code Lib.Math.max.name Lib.Math.max.code 2 (some .int) ∈ Ts) (h1 : 1 ≤ R0.frames) (h2 : (st.map fun v => v.category).sum + 13 ≤ R0.locals) (h3 : k ≤ R0.cells ∧ n ≤ R0.slots) (hu : -2147483648 ≤ u ∧ u < 2147483648) (hv : -2147483648 ≤ v ∧ v < 2147483648)
    (kk : J x k n ws (pc + 3) lv (.int (jI (if u < v then v else u)) :: st)) : J x k n ws pc lv (.int (jI v) :: .int (jI u) :: st) := by
  obtain ⟨p, l, e, R, s, m, args, below, meth, c, Q, D, A, nL⟩ := x
  obtain ⟨rfl, rfl, rfl, rfl, hx, hb, hml, hown, hts, hK, hN, hT', hA, hlk, hr, hnm⟩ := G
  intro H locs ls hP hD hS hl
  refine va_mmax hx hb (hml.trans hl.1.symm) hown (hts _ hlink) (hts _ hstat) (hts _ hini) (hts _ hcode) h1 h2 h3.1 h3.2 hdg ?_
  have e : (if jI u < jI v then jI v else jI u) = jI (if u < v then v else u) := by
    by_cases h : u < v
    · rw [if_pos h, if_pos ((jI_lt hu hv).mpr h)]
    · rw [if_neg h, if_neg (fun z => h ((jI_lt hu hv).mp z))]
  rw [e]
  exact kk H locs ls hP hD hS hl
theorem j_mabs (G : jG x l0 D0 Y cc own Ts nL0 R0 ret nm) {u : Int} (hdg : decode cc pc = .ok (.invokestatic index, 3)) (hlink : Cond.methodLink own index Lib.Math.abs.name ∈ Ts) (hstat : Cond.static Lib.Math.abs.name ∈ Ts) (hini : Cond.initialized "java/lang/Math" ∈ Ts) (hcode : Cond.code Lib.Math.abs.name Lib.Math.abs.code 1 (some .int) ∈ Ts) (h1 : 1 ≤ R0.frames) (h2 : (st.map fun v => v.category).sum + 13 ≤ R0.locals) (h3 : k ≤ R0.cells ∧ n ≤ R0.slots) (hu : -2147483648 ≤ u ∧ u < 2147483648)
    (kk : J x k n ws (pc + 3) lv (.int (jI (if 0 ≤ u then u else 0 - u)) :: st)) : J x k n ws pc lv (.int (jI u) :: st) := by
  obtain ⟨p, l, e, R, s, m, args, below, meth, c, Q, D, A, nL⟩ := x
  obtain ⟨rfl, rfl, rfl, rfl, hx, hb, hml, hown, hts, hK, hN, hT', hA, hlk, hr, hnm⟩ := G
  intro H locs ls hP hD hS hl
  refine va_mabs hx hb (hml.trans hl.1.symm) hown (hts _ hlink) (hts _ hstat) (hts _ hini) (hts _ hcode) h1 h2 h3.1 h3.2 hdg ?_
  have e0 : (0 : Int32) = jI 0 := rfl
  have e : (if 0 ≤ jI u then jI u else 0 - jI u) = jI (if 0 ≤ u then u else 0 - u) := by
    rw [e0, jI_sub]
    by_cases h : 0 ≤ u
    · rw [if_pos h, if_pos ((jI_le (by omega) hu).mpr h)]
    · rw [if_neg h, if_neg (fun z => h ((jI_le (by omega) hu).mp z))]
  rw [e]
  exact kk H locs ls hP hD hS hl
/-- a whole array over another of the same length and kind -/
theorem j_copy (G : jG x l0 D0 Y cc own Ts nL0 R0 ret nm) {a a0 N t : Nat} {f g : Int → Int} {ty : FieldType} {z0 z1 z2 : Int} {w2 : va_W} (q0 q1 : Nat) (ht : (TY Y)[t]? = some (Y t, ty)) (hprim : refKind ty = false) (hdg : decode cc pc = .ok (.invokestatic index, 3)) (hlink : Cond.methodLink own index arraycopyName ∈ Ts) (hnat : Cond.native arraycopyName ∈ Ts) (hstat : Cond.static arraycopyName ∈ Ts) (hini : Cond.initialized "java/lang/System" ∈ Ts) (ha0 : ws[q0]? = some (a0, .inl (Y t, N, .inl (aI f)))) (ha1 : ws[q1]? = some (a, .inl (Y t, N, .inl (aI g)))) (e0 : z0 = 0) (e1 : z1 = 0) (e2 : z2 = N) (hN' : N < 2147483648) (hfit : ∀ i : Int, 0 ≤ i → i < N → fits ty (.int (jI (f i))) = true) (h1 : 1 ≤ R0.frames) (h2 : (st.map fun v => v.category).sum + 18 ≤ R0.locals) (hw : ws.set q1 (a, .inl (Y t, N, .inl (aI f))) = w2)
    (kk : J x k n w2 (pc + 3) lv st) : J x k n ws pc lv (.int (jI z2) :: .int (jI z1) :: .ref a :: .int (jI z0) :: .ref a0 :: st) := by
  obtain ⟨p, l, e, R, s, m, args, below, meth, c, Q, D, A, nL⟩ := x
  obtain ⟨rfl, rfl, rfl, rfl, hx, hb, hml, hown, hts, hK, hN, hT', hA, hlk, hr, hnm⟩ := G
  intro H locs ls hP hD hS hl
  subst e0; subst e1; subst e2
  have n0 : ¬ jI 0 < 0 := by decide
  have c0 : (jI 0).toNatClampNeg = 0 := rfl
  have cN : (jI (N : Int)).toNatClampNeg = N := by rw [jI_cl (by omega)]; omega
  have nN : ¬ jI (N : Int) < 0 := fun z => by
    have e0 : (0 : Int32) = jI 0 := rfl
    rw [e0] at z
    have := (jI_lt (by omega) (by omega)).mp z
    omega
  refine va_copyi hx hb (hml.trans hl.1.symm) hown (hts _ hlink) (hts _ hnat) (hts _ hstat) (hts _ hini) hK hP hD hS q0 q1 t t ha0 ha1 ht ht hprim n0 n0 nN (by rw [c0, cN]; omega) (by rw [c0, cN]; omega) (fun i hi => ?_) h1 (by show _ + (7 + 11) ≤ _; omega) hdg (fun H1 locs1 hP1 hD1 hS1 => ?_)
  · rw [c0, cN] at *
    have := hfit ((0 + i : Nat) : Int) (by omega) (by omega)
    exact this
  · rw [c0, cN] at hP1 hD1
    have hq1 := (List.getElem?_eq_some_iff.mp ha1).1
    have hcell : vp_cell (Y t) (N, .inl (va_cpy (aI f) (aI g) 0 0 N)) = vp_cell (Y t) (N, .inl (aI f)) := by
      rw [vp_cell_i, vp_cell_i]
      unfold arrV
      congr 2
      funext j
      show Value.int (va_cpy (aI f) (aI g) 0 0 N j.val) = _
      rw [show va_cpy (aI f) (aI g) 0 0 N j.val = aI f (0 + (j.val - 0)) from if_pos ⟨Nat.zero_le _, by have := j.isLt; omega⟩]
      rw [show 0 + (j.val - 0) = j.val by omega]
    subst hw
    refine kk H1 locs1 ls (fun i q hi => ?_) (hD.set ha1) hS1 hl
    by_cases hiq : i = q1
    · subst hiq
      rw [List.getElem?_set_self hq1] at hi
      cases hi
      have h3 := hP1 i (a, .inl (Y t, N, .inl (va_cpy (aI f) (aI g) 0 0 N))) (by rw [List.getElem?_set_self hq1])
      show H1[a]? = some (vp_cell (Y t) (N, .inl (aI f)))
      rw [← hcell]
      exact h3
    · rw [List.getElem?_set_ne (Ne.symm hiq)] at hi
      exact hP1 i q (by rw [List.getElem?_set_ne (Ne.symm hiq)]; exact hi)
def jTb (x : Cx) (t : Nat) (f : Nat → Value) : Prop := match x with
  | (_, _, _, _, s, _, _, _, _, _, _, _, A, _) => va_T .int t 3 f A s s.heap
def jST (x : Cx) (nf : String) (f : Nat → Value) : Prop := match x with
  | (_, _, _, _, s, _, _, _, _, _, _, _, A, _) => ST1 nf f A s s.heap
theorem jST_all (G : jG x l0 D0 Y cc own Ts nL0 R0 ret nm) : jST x "LEAST_SETTINGS" (sF 1 0 1) ∧ jST x "FIRST_SETTINGS" (sF 8 0 3) ∧ jST x "GREATEST_SETTINGS" (sF 30 2 9) := by
  obtain ⟨p, l, e, R, s, m, args, below, meth, c, Q, D, A, nL⟩ := x
  obtain ⟨rfl, rfl, rfl, rfl, hx, hb, hml, hown, hts, hK, hN, hT', hA, hlk, hr, hnm⟩ := G
  exact ⟨hT'.1, hT'.2.1, hT'.2.2⟩
theorem j_sget (G : jG x l0 D0 Y cc own Ts nL0 R0 ret nm) {nf host : String} {f : Nat → Value} (hs : jST x nf f) (hdg : decode cc pc = .ok (.getstatic index, 3)) (hmem : (own, index, "StormFelling", nf, "[I", host) ∈ nwF) (kk : ∀ t : Nat, jTb x t f → J x k n ws (pc + 3) lv (.ref t :: st)) : J x k n ws pc lv st := by
  obtain ⟨p, l, e, R, s, m, args, below, meth, c, Q, D, A, nL⟩ := x
  obtain ⟨rfl, rfl, rfl, rfl, hx, hb, hml, hown, hts, hK, hN, hT', hA, hlk, hr, hnm⟩ := G
  obtain ⟨t, h1, h2⟩ := hs
  intro H locs ls hP hD hS hl
  exact va_getsN hx hb h1 hS hown (va_Nw.use rfl (hN.1 _ hmem)) (fun _ h => h) hdg (kk t h2 H locs ls hP hD hS hl)
theorem j_tald (G : jG x l0 D0 Y cc own Ts nL0 R0 ret nm) {f : Nat → Value} {t : Nat} {i v : Int} (ht : jTb x t f) (hdg : decode cc pc = .ok (.iaload, 1)) (hi : 0 ≤ i ∧ i < 3) (hv : f i.toNat = .int (jI v)) (kk : J x k n ws (pc + 1) lv (.int (jI v) :: st)) : J x k n ws pc lv (.int (jI i) :: .ref t :: st) := by
  obtain ⟨p, l, e, R, s, m, args, below, meth, c, Q, D, A, nL⟩ := x
  obtain ⟨rfl, rfl, rfl, rfl, hx, hb, hml, hown, hts, hK, hN, hT', hA, hlk, hr, hnm⟩ := G
  intro H locs ls hP hD hS hl
  exact va_ti hx hb ht hS (jI_in (by omega) (by omega)) (by rw [jI_cl (by omega)]; exact hv) hdg (kk H locs ls hP hD hS hl)
/-! switches, longs, chars -/
theorem j_tblOut (G : jG x l0 D0 Y cc own Ts nL0 R0 ret nm) {a dflt lo hi : Int} {offs : Array Int} {len tgt : Nat} (hdg : decode cc pc = .ok (.tableswitch dflt lo hi offs, len)) (ha : -2147483648 ≤ a ∧ a < 2147483648) (h : a < lo ∨ hi < a) (ht : (pc : Int) + dflt = (tgt : Int)) (kk : J x k n ws tgt lv st) : J x k n ws pc lv (.int (jI a) :: st) := by
  obtain ⟨p, l, e, R, s, m, args, below, meth, c, Q, D, A, nL⟩ := x
  obtain ⟨rfl, rfl, rfl, rfl, hx, hb, hml, hown, hts, hK, hN, hT', hA, hlk, hr, hnm⟩ := G
  intro H locs ls hP hD hS hl
  exact lv_tableOut hx hb hdg (by rw [jI_T ha]; exact h) ht (kk H locs ls hP hD hS hl)
theorem j_tblIn (G : jG x l0 D0 Y cc own Ts nL0 R0 ret nm) {a dflt lo hi off : Int} {offs : Array Int} {len tgt : Nat} (i : Nat) (hdg : decode cc pc = .ok (.tableswitch dflt lo hi offs, len)) (ha : -2147483648 ≤ a ∧ a < 2147483648) (h1 : a = lo + i) (h2 : a ≤ hi) (ho : offs[i]? = some off) (ht : (pc : Int) + off = (tgt : Int)) (kk : J x k n ws tgt lv st) : J x k n ws pc lv (.int (jI a) :: st) := by
  obtain ⟨p, l, e, R, s, m, args, below, meth, c, Q, D, A, nL⟩ := x
  obtain ⟨rfl, rfl, rfl, rfl, hx, hb, hml, hown, hts, hK, hN, hT', hA, hlk, hr, hnm⟩ := G
  intro H locs ls hP hD hS hl
  exact lv_tableIn hx hb hdg (by rw [jI_T ha]; omega) (by rw [jI_T ha]; omega) (by rw [jI_T ha, show (a - lo).toNat = i by omega]; exact ho) ht (kk H locs ls hP hD hS hl)
theorem lkp_d (a d : Int) : ∀ ps : List (Int × Int), (∀ q ∈ ps, ¬ q.1 = a) → Op.lookupswitch.offset ps d a = d
  | [], _ => rfl
  | q :: r, h => by
    rw [show q = (q.1, q.2) from rfl, Op.lookupswitch.offset_cons, if_neg (h q List.mem_cons_self)]
    exact lkp_d a d r (fun z hz => h z (List.mem_cons_of_mem _ hz))
theorem j_lkp (G : jG x l0 D0 Y cc own Ts nL0 R0 ret nm) {a dflt off : Int} {ps : Array (Int × Int)} {len tgt : Nat} (hdg : decode cc pc = .ok (.lookupswitch dflt ps, len)) (ha : -2147483648 ≤ a ∧ a < 2147483648) (hp : (ps.toList.zip (ps.toList.drop 1)).all (fun (a, next) => a.1 < next.1) = true) (ho : Op.lookupswitch.offset ps.toList dflt a = off) (ht : (pc : Int) + off = (tgt : Int)) (kk : J x k n ws tgt lv st) : J x k n ws pc lv (.int (jI a) :: st) := by
  obtain ⟨p, l, e, R, s, m, args, below, meth, c, Q, D, A, nL⟩ := x
  obtain ⟨rfl, rfl, rfl, rfl, hx, hb, hml, hown, hts, hK, hN, hT', hA, hlk, hr, hnm⟩ := G
  intro H locs ls hP hD hS hl
  exact lv_lookup hx hb hdg hp (by rw [jI_T ha]; exact ho) ht (kk H locs ls hP hD hS hl)
theorem j_i2l (G : jG x l0 D0 Y cc own Ts nL0 R0 ret nm) {a : Int} (hdg : decode cc pc = .ok (.i2l, 1)) (ha : -2147483648 ≤ a ∧ a < 2147483648) (kk : J x k n ws (pc + 1) lv (.long (jL a) :: st)) : J x k n ws pc lv (.int (jI a) :: st) := by
  obtain ⟨p, l, e, R, s, m, args, below, meth, c, Q, D, A, nL⟩ := x
  obtain ⟨rfl, rfl, rfl, rfl, hx, hb, hml, hown, hts, hK, hN, hT', hA, hlk, hr, hnm⟩ := G
  intro H locs ls hP hD hS hl
  exact lv_i2l hx hb hdg (jL_of ha) (kk H locs ls hP hD hS hl)
theorem j_lmul (G : jG x l0 D0 Y cc own Ts nL0 R0 ret nm) {a b : Int} (hdg : decode cc pc = .ok (.lmul, 1)) (kk : J x k n ws (pc + 1) lv (.long (jL (a * b)) :: st)) : J x k n ws pc lv (.long (jL b) :: .long (jL a) :: st) := by
  obtain ⟨p, l, e, R, s, m, args, below, meth, c, Q, D, A, nL⟩ := x
  obtain ⟨rfl, rfl, rfl, rfl, hx, hb, hml, hown, hts, hK, hN, hT', hA, hlk, hr, hnm⟩ := G
  intro H locs ls hP hD hS hl
  exact lv_lmul hx hb hdg (by rw [jL_mul]; exact kk H locs ls hP hD hS hl)
theorem j_ldiv (G : jG x l0 D0 Y cc own Ts nL0 R0 ret nm) {a b : Int} (hdg : decode cc pc = .ok (.ldiv, 1)) (ha : 0 ≤ a ∧ a < 9223372036854775808) (hb' : 0 < b ∧ b < 9223372036854775808) (kk : J x k n ws (pc + 1) lv (.long (jL (a / b)) :: st)) : J x k n ws pc lv (.long (jL b) :: .long (jL a) :: st) := by
  obtain ⟨p, l, e, R, s, m, args, below, meth, c, Q, D, A, nL⟩ := x
  obtain ⟨rfl, rfl, rfl, rfl, hx, hb, hml, hown, hts, hK, hN, hT', hA, hlk, hr, hnm⟩ := G
  intro H locs ls hP hD hS hl
  exact lv_ldiv hx hb hdg (fun q => by have h1 := jL_T (a := b) (by omega); rw [q, show (0 : Int64).toInt = 0 from rfl] at h1; omega) (by rw [jL_div ha hb']; exact kk H locs ls hP hD hS hl)
theorem j_l2i (G : jG x l0 D0 Y cc own Ts nL0 R0 ret nm) {a : Int} (hdg : decode cc pc = .ok (.l2i, 1)) (ha : 0 ≤ a ∧ a < 2147483648) (kk : J x k n ws (pc + 1) lv (.int (jI a) :: st)) : J x k n ws pc lv (.long (jL a) :: st) := by
  obtain ⟨p, l, e, R, s, m, args, below, meth, c, Q, D, A, nL⟩ := x
  obtain ⟨rfl, rfl, rfl, rfl, hx, hb, hml, hown, hts, hK, hN, hT', hA, hlk, hr, hnm⟩ := G
  intro H locs ls hP hD hS hl
  exact lv_l2i hx hb hdg (jL_i ha) (kk H locs ls hP hD hS hl)
end JR2
theorem jLe.nil {a b : va_W} (h : jLe a b) : jLe a (b ++ []) := by rw [List.append_nil]; exact h
theorem ite_01 (P : Prop) [Decidable P] : (if P then (1 : Int) else 0) = 0 ∨ (if P then (1 : Int) else 0) = 1 := by
  by_cases h : P
  · exact Or.inr (if_pos h)
  · exact Or.inl (if_neg h)
section JR3
variable {x : Cx} {l0 : Launch} {D0 : va_G} {Y : Nat → ClassId} {cc : ByteArray} {own : String} {Ts : List Cond} {nL0 : Nat} {R0 : Room} {ret : Option FieldType} {nm : String} {k n : Nat} {ws W' : va_W} {pc : Nat} {lv : List (Nat × Value)} {st : List Value}
theorem j_reti (G : jG x l0 D0 Y cc own Ts nL0 R0 ret nm) {e r : Int} (hdg : decode cc pc = .ok (.ireturn, 1)) (he : e = r) (hw : jLe ws W') (kr : jE x k n cc W' (some (.int (jI r)))) : J x k n ws pc lv [.int (jI e)] := by
  subst he
  exact jE_conv hw kr pc lv hdg
theorem j_retv (G : jG x l0 D0 Y cc own Ts nL0 R0 ret nm) (hdg : decode cc pc = .ok (.return_, 1)) (hw : jLe ws W') (kr : jE x k n cc W' none) : J x k n ws pc lv [] := jE_conv hw kr pc lv hdg
theorem j_reta (G : jG x l0 D0 Y cc own Ts nL0 R0 ret nm) {a : Nat} (hdg : decode cc pc = .ok (.areturn, 1)) (hw : jLe ws W') (kr : jE x k n cc W' (some (.ref a))) : J x k n ws pc lv [.ref a] := jE_conv hw kr pc lv hdg
end JR3
