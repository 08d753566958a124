
/-! ===== THE SMALL MACHINE: memory as functions, a judgement V over it, its rules out of the kit's rows ===== -/
abbrev Shp : Type := Nat × Nat
abbrev RefM : Type := Nat → Nat → Option Nat
abbrev IntM : Type := Nat → Nat → Int32
abbrev LngM : Type := Nat → Nat → Int64
abbrev PostV : Type := Option Value → List Shp → RefM → IntM → LngM → Prop
def tr (b : Nat) : Value → Value := fun v => match v with
  | .ref a => .ref (b + a)
  | w => w
theorem tr_cat (b : Nat) (v : Value) : (tr b v).category = v.category := by cases v <;> rfl
def fk : Nat → List Nat := fun c => match c with

  | 0 => [2, 2, 2, 0, 0, 0]
  | 1 => [2, 2, 2, 2, 1, 0]
  | 2 => [2, 2, 3, 0, 0, 1, 0]
  | 3 => [2, 0]
  | 4 => [2]
  | 5 => [2, 2, 2]
  | 6 => [2, 2, 0, 0, 0]
  | 7 => [2, 2, 2, 2, 2, 2, 0, 0, 0]
  | 8 => [2, 0, 0, 0, 0, 0]
  | 9 => [2, 2, 2, 2, 2, 2, 2, 2, 2, 2, 2, 2, 0, 0, 1, 1]
  | 10 => [0, 2, 0, 1, 1, 2, 2, 2, 2, 0, 0, 0, 0, 0, 0, 2, 2, 0, 0, 0, 2, 2, 2, 1, 1, 2, 2, 2, 1, 1, 0, 2, 0, 2, 2, 1, 1, 2, 2, 2, 2, 2, 2, 2, 2, 2, 2, 0, 0, 0, 0, 2, 2]
  | _ => []

def fval (b : Nat) (R : RefM) (I : IntM) (J : LngM) (a k t : Nat) : Value :=
  if t = 1 then .long (J a k) else if t = 2 then va_rf ((R a k).map (fun q => b + q)) else .int (I a k)
def flds (b : Nat) (R : RefM) (I : IntM) (J : LngM) (a : Nat) : List Nat → Nat → List Value := fun ts => match ts with
  | [] => fun _ => []
  | t :: ts => fun k => fval b R I J a k t :: flds b R I J a ts (k + 1)
theorem flds_get {b : Nat} {R : RefM} {I : IntM} {J : LngM} {a : Nat} : ∀ {ts : List Nat} {k0 k t : Nat}, ts[k]? = some t → (flds b R I J a ts k0)[k]? = some (fval b R I J a (k0 + k) t)
  | [], k0, k, t, h => by simp at h
  | t0 :: ts, k0, 0, t, h => by
    simp at h
    subst h
    simp [flds]
  | t0 :: ts, k0, k + 1, t, h => by
    have h1 : ts[k]? = some t := by simpa using h
    have h2 := flds_get (b := b) (R := R) (I := I) (J := J) (a := a) (k0 := k0 + 1) h1
    show (flds b R I J a ts (k0 + 1))[k]? = _
    rw [h2, show k0 + 1 + k = k0 + (k + 1) by omega]
theorem flds_len {b : Nat} {R : RefM} {I : IntM} {J : LngM} {a : Nat} : ∀ (ts : List Nat) (k0 : Nat), (flds b R I J a ts k0).length = ts.length
  | [], k0 => rfl
  | t0 :: ts, k0 => by
    show (flds b R I J a ts (k0 + 1)).length + 1 = ts.length + 1
    rw [flds_len ts]
/-- one field of another value -/
theorem flds_set {b : Nat} {R R' : RefM} {I I' : IntM} {J J' : LngM} {a : Nat} {ts : List Nat} {k t : Nat} (hk : ts[k]? = some t) (hv : ∀ j u, ts[j]? = some u → j ≠ k → fval b R' I' J' a j u = fval b R I J a j u) :
    flds b R' I' J' a ts 0 = (flds b R I J a ts 0).set k (fval b R' I' J' a k t) := by
  apply List.ext_getElem?
  intro j
  by_cases hj : j < ts.length
  · have e : ts[j]? = some ts[j] := List.getElem?_eq_getElem hj
    rw [flds_get e, Nat.zero_add]
    by_cases hjk : j = k
    · subst hjk
      rw [List.getElem?_set_self (by rw [flds_len]; exact hj)]
      rw [e] at hk
      cases hk
      rfl
    · rw [List.getElem?_set_ne (Ne.symm hjk), flds_get e, Nat.zero_add, hv j _ e hjk]
  · rw [List.getElem?_eq_none (by rw [flds_len]; omega), List.getElem?_eq_none (by rw [List.length_set, flds_len]; omega)]
def cellE (b : Nat) (cA : Nat → ClassId) (R : RefM) (I : IntM) (J : LngM) (a : Nat) (s : Shp) : va_E :=
  if s.1 = 0 then .inr (s.2, flds b R I J a (fk s.2) 0)
  else if s.1 = 1 then .inl (cA 1, s.2, .inl (I a))
  else if s.1 = 2 then .inl (cA 2, s.2, .inr (.inl (J a)))
  else .inl (cA s.1, s.2, .inr (.inr (.inr (.inr (fun j => (R a j).map (fun q => b + q))))))
def wsOf (b : Nat) (cA : Nat → ClassId) (sh : List Shp) (R : RefM) (I : IntM) (J : LngM) : va_W := sh.mapIdx (fun a s => (b + a, cellE b cA R I J a s))
theorem ws_get {b : Nat} {cA : Nat → ClassId} {sh : List Shp} {R : RefM} {I : IntM} {J : LngM} {a : Nat} {s : Shp} (h : sh[a]? = some s) : (wsOf b cA sh R I J)[a]? = some (b + a, cellE b cA R I J a s) := by
  unfold wsOf
  rw [List.getElem?_mapIdx, h]
  rfl
theorem ws_inv {b : Nat} {cA : Nat → ClassId} {sh : List Shp} {R : RefM} {I : IntM} {J : LngM} {k : Nat} {q : Nat × va_E} (h : (wsOf b cA sh R I J)[k]? = some q) : ∃ s, sh[k]? = some s ∧ q = (b + k, cellE b cA R I J k s) := by
  unfold wsOf at h
  rw [List.getElem?_mapIdx] at h
  cases hs : sh[k]? with
  | none => rw [hs] at h; cases h
  | some s => rw [hs] at h; exact ⟨s, rfl, (Option.some.inj h).symm⟩
theorem ws_D {b : Nat} {cA : Nat → ClassId} {sh : List Shp} {R : RefM} {I : IntM} {J : LngM} : va_D (fun q => b ≤ q) (wsOf b cA sh R I J) := by
  refine ⟨fun i j p q hi hj hpq => ?_, fun k q hk => ?_⟩
  · obtain ⟨s, -, rfl⟩ := ws_inv hi
    obtain ⟨t, -, rfl⟩ := ws_inv hj
    dsimp only at hpq
    omega
  · obtain ⟨s, -, rfl⟩ := ws_inv hk
    exact Nat.le_add_right _ _
theorem ws_len {b : Nat} {cA : Nat → ClassId} {sh : List Shp} {R : RefM} {I : IntM} {J : LngM} : (wsOf b cA sh R I J).length = sh.length := by
  unfold wsOf
  exact List.length_mapIdx
theorem ws_set {b : Nat} {cA : Nat → ClassId} {sh : List Shp} {R R' : RefM} {I I' : IntM} {J J' : LngM} {a : Nat} {s : Shp} (h : sh[a]? = some s) (hc : ∀ a' s', a' ≠ a → cellE b cA R' I' J' a' s' = cellE b cA R I J a' s') {e : va_E} (he : cellE b cA R' I' J' a s = e) :
    (wsOf b cA sh R I J).set a (b + a, e) = wsOf b cA sh R' I' J' := by
  subst he
  apply List.ext_getElem?
  intro j
  have hal := (List.getElem?_eq_some_iff.mp h).1
  by_cases hj : j < sh.length
  · have ej : sh[j]? = some sh[j] := List.getElem?_eq_getElem hj
    rw [ws_get ej]
    by_cases hja : j = a
    · subst hja
      rw [List.getElem?_set_self (by rw [ws_len]; exact hj)]
      rw [ej] at h
      rw [Option.some.inj h]
    · rw [List.getElem?_set_ne (Ne.symm hja), ws_get ej, hc j _ hja]
  · rw [List.getElem?_eq_none (by rw [List.length_set, ws_len]; omega), List.getElem?_eq_none (by rw [ws_len]; omega)]
theorem ws_push {b : Nat} {cA : Nat → ClassId} {sh : List Shp} {R R' : RefM} {I I' : IntM} {J J' : LngM} {s : Shp} (hc : ∀ a' s', a' ≠ sh.length → cellE b cA R' I' J' a' s' = cellE b cA R I J a' s') {e : va_E} (he : cellE b cA R' I' J' sh.length s = e) :
    wsOf b cA sh R I J ++ [(b + sh.length, e)] = wsOf b cA (sh ++ [s]) R' I' J' := by
  subst he
  apply List.ext_getElem?
  intro j
  rcases Nat.lt_trichotomy j sh.length with hj | hj | hj
  · have ej : sh[j]? = some sh[j] := List.getElem?_eq_getElem hj
    rw [List.getElem?_append_left (by rw [ws_len]; exact hj), ws_get ej, ws_get (s := sh[j]) (by rw [List.getElem?_append_left hj]; exact ej), hc j _ (by omega)]
  · subst hj
    rw [List.getElem?_append_right (by rw [ws_len]; omega), ws_len, Nat.sub_self, ws_get (s := s) (by simp)]
    rfl
  · rw [List.getElem?_eq_none (by simp [ws_len]; omega), List.getElem?_eq_none (by simp [ws_len]; omega)]
def tysOf (cA : Nat → ClassId) : List (ClassId × FieldType) := [(cA 1, .int), (cA 2, .long), (cA 3, .object "ThirdLeft$Ints"), (cA 4, .object "ThirdLeft$Evening")]
/-- the world's cells, from the base b on, and nothing behind them -/
def WOK (b : Nat) (D : va_G) (cA : Nat → ClassId) (sh : List Shp) (R : RefM) (I : IntM) (J : LngM) (s : State) (H : Heap) : Prop := va_P D vwCl (wsOf b cA sh R I J) H ∧ va_K D vwCl (tysOf cA) s
theorem WOK.moved {b : Nat} {D : va_G} {cA : Nat → ClassId} {sh : List Shp} {R : RefM} {I : IntM} {J : LngM} {s t : State} {H : Heap} (hvm : s.vm.Alike t.vm) (h : WOK b D cA sh R I J s H) : WOK b D cA sh R I J t H := ⟨h.1, va_K.moved hvm h.2⟩
/-- the letters' static array, below the base: nobody writes it -/
def ltr : Nat → Int32 := fun j => match j with
  | 0 => 101
  | 1 => 103
  | 2 => 99
  | 3 => 110
  | 4 => 100
  | _ => 107
def LT (b : Nat) (s : State) (H : Heap) : Prop := ∃ t : Nat, va_Z "ThirdLeft$Reader" "LETTERS" "[C" (.ref t) (fun q => b ≤ q) s H ∧ va_T .char t 6 (fun j => .int (ltr j)) (fun q => b ≤ q) s H
theorem LT.kept {b : Nat} {s : State} {H0 H : Heap} {locs : List Loc} (h : LT b s H0) (hS : va_S (fun q => b ≤ q) H0 H locs) : LT b s H := by
  obtain ⟨t, h1, h2⟩ := h
  exact ⟨t, h1.kept (fun a h3 h4 => hS.2.1 a h3 h4), h2.kept (fun a h3 h4 => hS.2.1 a h3 h4)⟩
theorem LT.moved {b : Nat} {s t : State} {H : Heap} (hvm : s.vm.Alike t.vm) (h : LT b s H) : LT b t H := by
  obtain ⟨x, h1, h2⟩ := h
  exact ⟨x, h1.moved hvm, h2.moved hvm⟩
def nws : List Cond := [(Jvm.Cond.methodLinkNest "ThirdLeft" (20 : Nat) ({ cls := "ThirdLeft$Reader", name := "<init>", desc := "()V" } : Jvm.MethodName) "ThirdLeft"), (Jvm.Cond.methodLinkNest "ThirdLeft" (27 : Nat) ({ cls := "ThirdLeft$Company", name := "<init>", desc := "()V" } : Jvm.MethodName) "ThirdLeft"), (Jvm.Cond.methodLinkNest "ThirdLeft" (34 : Nat) ({ cls := "ThirdLeft$Evening", name := "<init>", desc := "()V" } : Jvm.MethodName) "ThirdLeft"), (Jvm.Cond.methodLinkNest "ThirdLeft" (45 : Nat) ({ cls := "ThirdLeft$Sitting", name := "<init>", desc := "()V" } : Jvm.MethodName) "ThirdLeft"), (Jvm.Cond.methodLinkNest "ThirdLeft" (55 : Nat) ({ cls := "ThirdLeft$Pots", name := "<init>", desc := "()V" } : Jvm.MethodName) "ThirdLeft"), (Jvm.Cond.methodLinkNest "ThirdLeft$Pots" (11 : Nat) ({ cls := "ThirdLeft$Sitting", name := "<init>", desc := "()V" } : Jvm.MethodName) "ThirdLeft"), (Jvm.Cond.methodLinkNest "ThirdLeft" (62 : Nat) ({ cls := "ThirdLeft$Traces", name := "<init>", desc := "()V" } : Jvm.MethodName) "ThirdLeft"), (Jvm.Cond.methodLinkNest "ThirdLeft$Traces" (11 : Nat) ({ cls := "ThirdLeft$Sitting", name := "<init>", desc := "()V" } : Jvm.MethodName) "ThirdLeft"), (Jvm.Cond.methodLinkNest "ThirdLeft" (69 : Nat) ({ cls := "ThirdLeft$Days", name := "<init>", desc := "()V" } : Jvm.MethodName) "ThirdLeft"), (Jvm.Cond.methodLinkNest "ThirdLeft$Days" (11 : Nat) ({ cls := "ThirdLeft$Sitting", name := "<init>", desc := "()V" } : Jvm.MethodName) "ThirdLeft")]
theorem nws_warm {s U : State} (hW : s.WarmedH U.vm) : ∀ w ∈ nws, va_Nw w s → va_Nw w U := by
  intro w hw h
  simp only [nws, List.mem_cons, List.not_mem_nil, or_false] at hw
  rcases hw with rfl | rfl | rfl | rfl | rfl | rfl | rfl | rfl | rfl | rfl <;> exact va_Nw.warmM hW h
theorem nws_tab : ∀ w ∈ nws, w.onTables = true := List.all_eq_true.mp (show nws.all (fun w => w.onTables) = true by decide +kernel)
def NW (s : State) : Prop := (∀ w ∈ nws, va_Nw w s) ∧ va_AO "ThirdLeft$Ints" s ∧ va_AO "ThirdLeft$Evening" s
theorem NW.warm {s U : State} (hW : s.WarmedH U.vm) (h : NW s) : NW U := ⟨fun w hw => nws_warm hW w hw (h.1 w hw), h.2.1.moved hW.alike, h.2.2.moved hW.alike⟩
theorem NW.same {s U : State} (e : s.vm = U.vm) (h : NW s) : NW U := ⟨fun w hw => va_Nw.same (nws_tab w hw) e (h.1 w hw), h.2.1.moved (by rw [e]; exact Vm.Alike.refl _), h.2.2.moved (by rw [e]; exact Vm.Alike.refl _)⟩
def mws (m : Mth) : List Cond := Cond.code m.2.1 m.2.2.1 m.2.2.2.1 m.2.2.2.2 :: gtb
def rmV (d mc ms : Nat) : Room := { frames := d, cells := mc, slots := ms, locals := 32 * d }
def PcV (b : Nat) (D : va_G) (cA : Nat → ClassId) (as : List Value) (sh : List Shp) (R : RefM) (I : IntM) (J : LngM) : Array Value → State → Prop := va_Pc (as.map (tr b)) (fun U => U.heap.size = b + sh.length ∧ WOK b D cA sh R I J U U.heap ∧ LT b U U.heap ∧ NW U)
def QcV (b : Nat) (D : va_G) (cA : Nat → ClassId) (Q : PostV) : Array Value → State → Outcome → State → Prop := fun _ st o t => (∃ (r : Option Value) (sh : List Shp) (R : RefM) (I : IntM) (J : LngM), o = .returned (r.map (tr b)) ∧ Q r sh R I J ∧ WOK b D cA sh R I J t t.heap) ∧ va_F (fun q => b ≤ q) st t
/-- a method's contract over the small machine, at call depth d -/
def Ct (d : Nat) (m : Mth) (as : List Value) (sh : List Shp) (R : RefM) (I : IntM) (J : LngM) (mc ms : Nat) (Q : PostV) : Prop :=
  ∀ (l : Launch) (b : Nat) (D : va_G) (cA : Nat → ClassId), Met l m.2.1 (mws m) (rmV d mc ms) (PcV b D cA as sh R I J) (QcV b D cA Q) mc ms (fun q => b ≤ q)
/-- what holds of the frame that runs -/
def Fx (m : Mth) (d mc ms b : Nat) (p : Program) (Rm : Room) (s : State) (mid : MethodId) (args : Array Value) (meth : Method) (c : Code) : Prop :=
  p.tables.exec = Jvm.exec ∧ c.code = m.2.2.1 ∧ meth.sig.returnType = m.2.2.2.2 ∧ c.maxLocals = m.2.2.2.1 ∧ s.vm.findClass m.1 = some mid.cls ∧ (∀ w ∈ gtb, w.before args s = true) ∧ meth.locks = false ∧ meth.name = m.2.1.name ∧ (d ≤ Rm.frames ∧ 32 * d ≤ Rm.locals ∧ mc ≤ Rm.cells ∧ ms ≤ Rm.slots) ∧ b ≤ s.heap.size ∧ LT b s s.heap ∧ NW s
def V (m : Mth) (d u1 u2 mc ms : Nat) (pc : Nat) (L : List (Nat × Value)) (S : List Value) (sh : List Shp) (R : RefM) (I : IntM) (J : LngM) (Q : PostV) : Prop :=
  ∀ (p : Program) (l : Launch) (e : Env) (Rm : Room) (s : State) (mid : MethodId) (args : Array Value) (below : List Frame) (meth : Method) (c : Code) (H : Heap) (locs : List Loc) (ls : Array Slot) (b : Nat) (D : va_G) (cA : Nat → ClassId),
    Fx m d mc ms b p Rm s mid args meth c → s.heap.size + u1 = b + sh.length → WOK b D cA sh R I J s H → va_S (fun q => b ≤ q) s.heap H locs → lv_has ls m.2.2.2.1 (L.map (fun q => (q.1, tr b q.2))) →
    W p l e Rm s mid args below meth c H locs u1 u2 (MQ below (QcV b D cA Q) args s mc ms (fun q => b ≤ q)) (F0 mid pc ls (S.map (tr b)))
section FX
variable {m : Mth} {d mc ms b : Nat} {p : Program} {Rm : Room} {s : State} {mid : MethodId} {args : Array Value} {meth : Method} {c : Code}
theorem Fx.x (F : Fx m d mc ms b p Rm s mid args meth c) : p.tables.exec = Jvm.exec := F.1
theorem Fx.cc (F : Fx m d mc ms b p Rm s mid args meth c) : c.code = m.2.2.1 := F.2.1
theorem Fx.r (F : Fx m d mc ms b p Rm s mid args meth c) : meth.sig.returnType = m.2.2.2.2 := F.2.2.1
theorem Fx.ml (F : Fx m d mc ms b p Rm s mid args meth c) : c.maxLocals = m.2.2.2.1 := F.2.2.2.1
theorem Fx.o (F : Fx m d mc ms b p Rm s mid args meth c) : s.vm.findClass m.1 = some mid.cls := F.2.2.2.2.1
theorem Fx.t (F : Fx m d mc ms b p Rm s mid args meth c) : ∀ w ∈ gtb, w.before args s = true := F.2.2.2.2.2.1
theorem Fx.k (F : Fx m d mc ms b p Rm s mid args meth c) : meth.locks = false := F.2.2.2.2.2.2.1
theorem Fx.n (F : Fx m d mc ms b p Rm s mid args meth c) : meth.name = m.2.1.name := F.2.2.2.2.2.2.2.1
theorem Fx.R (F : Fx m d mc ms b p Rm s mid args meth c) : d ≤ Rm.frames ∧ 32 * d ≤ Rm.locals ∧ mc ≤ Rm.cells ∧ ms ≤ Rm.slots := F.2.2.2.2.2.2.2.2.1
theorem Fx.bb (F : Fx m d mc ms b p Rm s mid args meth c) : b ≤ s.heap.size := F.2.2.2.2.2.2.2.2.2.1
theorem Fx.lt (F : Fx m d mc ms b p Rm s mid args meth c) : LT b s s.heap := F.2.2.2.2.2.2.2.2.2.2.1
theorem Fx.nw (F : Fx m d mc ms b p Rm s mid args meth c) : NW s := F.2.2.2.2.2.2.2.2.2.2.2
end FX
theorem lvm_args (b : Nat) : ∀ (as : List Value) (i : Nat), lv_args i (as.map (tr b)) = (lv_args i as).map (fun q => (q.1, tr b q.2))
  | [], i => rfl
  | v :: vs, i => by
    show (i, tr b v) :: lv_args (if (tr b v).category = 2 then i + 2 else i + 1) (vs.map (tr b)) = _
    rw [lvm_args b vs, tr_cat]
    rfl
theorem lgsl_len (b : Nat) (as : List Value) : (lg_sl (as.map (tr b))).length = (lg_sl as).length := by
  induction as with
  | nil => rfl
  | cons v vs ih =>
    have e : ∀ (x : Value) (xs : List Value), (lg_sl (x :: xs)).length = (if x.category = 2 then 2 else 1) + (lg_sl xs).length := by
      intro x xs
      unfold lg_sl
      rw [List.flatMap_cons, List.length_append]
      split <;> rfl
    rw [List.map_cons, e, e, ih, tr_cat]
theorem Ct_of {d : Nat} {m : Mth} {as : List Value} {sh : List Shp} {R : RefM} {I : IntM} {J : LngM} {mc ms : Nat} {Q : PostV} (hn : plainName m.2.1.cls = true) (hc : m.2.1.cls = m.1) (hlen : (lg_sl as).length ≤ m.2.2.2.1) (k : V m d 0 0 mc ms 0 (lv_args 0 as) [] sh R I J Q) : Ct d m as sh R I J mc ms Q := by
  intro l b D cA
  refine Met.ofW (cc := m.2.2.1) (maxL := m.2.2.2.1) (ret := m.2.2.2.2) hn rfl ?_
  intro p e s mid args below meth c s₁ B hml hv
  obtain ⟨rfl, hsz, hw, hlt, hnw⟩ := hv
  have hts := atoms_spec (ws := mws m) B.pre
  have hl := lv_entry (as.map (tr b)) (n := m.2.2.2.1) (by rw [lgsl_len]; exact hlen)
  rw [lg_entry_eq]
  rw [lvm_args] at hl
  exact k p l e (headSpec (mws m) (rmV d mc ms)).room s mid _ below meth c s.heap [] _ b D cA ⟨B.exec, B.bytes, B.returns, hml, by rw [← hc]; exact findClass_of_methodNamed B.named, fun w hw' => hts w (List.mem_cons_of_mem _ hw'), B.notSynchronized, (name_of_methodNamed B.named B.method).1, ⟨Nat.le_refl _, Nat.le_refl _, Nat.le_refl _, Nat.le_refl _⟩, by omega, hlt, hnw⟩ hsz hw va_S.rf hl
/-- the heap's size, by the count of the cells made -/
theorem W_sz {p : Program} {l : Launch} {e : Env} {Rm : Room} {s : State} {mid : MethodId} {args : Array Value} {below : List Frame} {meth : Method} {c : Code} {H : Heap} {locs : List Loc} {Z : State → Prop} {g : JFrame} {b u1 u2 : Nat} {D : va_G} {cA : Nat → ClassId} {sh : List Shp} {R : RefM} {I : IntM} {J : LngM} (hz : s.heap.size + u1 = b + sh.length) (hb : b ≤ s.heap.size) (hP : va_P D vwCl (wsOf b cA sh R I J) H) (hS : va_S (fun q => b ≤ q) s.heap H locs)
    (k : H.size = b + sh.length → W p l e Rm s mid args below meth c H locs u1 u2 Z g) : W p l e Rm s mid args below meth c H locs u1 u2 Z g := by
  intro T hT X
  have h1 := X.heapSize
  rw [hT] at h1
  have h2 : b + sh.length ≤ H.size := by
    cases hn : sh.length with
    | zero => have := hS.1; omega
    | succ n =>
      have hg : sh[n]? = some (sh[n]'(by omega)) := List.getElem?_eq_getElem (by omega)
      have := (hP n _ (ws_get (b := b) (cA := cA) (R := R) (I := I) (J := J) hg)).lt
      dsimp only at this
      omega
  exact k (by omega) T hT X
/-! what a program decides of an instruction -/
def D1 (m : Mth) (pc : Nat) (i : Instr) (n pc' : Nat) : Prop := decode m.2.2.1 pc = .ok (i, n) ∧ pc + n = pc'
def D2 (m : Mth) (pc : Nat) (i : Instr) (off : Int) (pc' tgt : Nat) : Prop := decode m.2.2.1 pc = .ok (i, 3) ∧ pc + 3 = pc' ∧ (pc : Int) + off = (tgt : Int)
def DF (m : Mth) (pc ci k t pc' : Nat) : Prop := ∃ (idx : Nat) (C : String) (T : u_T) (N : Nat), decode m.2.2.1 pc = .ok (.getfield idx, 3) ∧ vwCl[ci]? = some (C, T, N) ∧ k < N ∧ Cond.fieldLink m.1 idx (T k).1 (T k).2.1 (T k).2.2.1 ∈ gtb ∧ (fk ci)[k]? = some t ∧ pc + 3 = pc'
def DP (m : Mth) (pc ci k t : Nat) (fin : Bool) (ty : FieldType) (pc' : Nat) : Prop := ∃ (idx : Nat) (C : String) (T : u_T) (N : Nat), decode m.2.2.1 pc = .ok (.putfield idx, 3) ∧ vwCl[ci]? = some (C, T, N) ∧ k < N ∧ Cond.fieldLink m.1 idx (T k).1 (T k).2.1 (T k).2.2.1 ∈ gtb ∧ (fk ci)[k]? = some t ∧ (T k).2.2.2 = fin ∧ parseFieldDescriptor (T k).2.2.1 = some ty ∧ (T k).1 = C ∧ pc + 3 = pc'
def MI (m : Mth) (n : Nat) : Prop := Cond.instanceMethod m.2.1 ∈ gtb ∧ Cond.selects m.1 m.2.1 m.2.1 ∈ gtb ∧ Cond.initialized m.1 ∈ gtb ∧ Cond.code m.2.1 m.2.2.1 m.2.2.2.1 m.2.2.2.2 ∈ gtb ∧ (m.2.1.cls = m.1 ∧ m.2.1.cls ≠ "java/lang/invoke/MethodHandle" ∧ m.2.1.cls ≠ "java/lang/invoke/VarHandle" ∧ (parseMethodDescriptor m.2.1.desc).map (fun d => d.parameters.length) = some n) ∧ m.2.2.2.1 ≤ 13
def MS (m : Mth) (n : Nat) : Prop := Cond.static m.2.1 ∈ gtb ∧ Cond.initialized m.2.1.cls ∈ gtb ∧ Cond.code m.2.1 m.2.2.1 m.2.2.2.1 m.2.2.2.2 ∈ gtb ∧ (m.2.1.cls ≠ "java/lang/invoke/MethodHandle" ∧ m.2.1.cls ≠ "java/lang/invoke/VarHandle" ∧ (parseMethodDescriptor m.2.1.desc).map (fun d => d.parameters.length) = some n) ∧ m.2.2.2.1 ≤ 13
def MC (m : Mth) (n : Nat) : Prop := Cond.instanceMethod m.2.1 ∈ gtb ∧ Cond.initialized m.2.1.cls ∈ gtb ∧ Cond.code m.2.1 m.2.2.1 m.2.2.2.1 none ∈ gtb ∧ m.2.2.2.2 = none ∧ m.2.1.name = "<init>" ∧ (m.2.1.cls ≠ "java/lang/invoke/MethodHandle" ∧ m.2.1.cls ≠ "java/lang/invoke/VarHandle" ∧ (parseMethodDescriptor m.2.1.desc).map (fun d => d.parameters.length) = some n) ∧ m.2.2.2.1 ≤ 13
def DV (m : Mth) (pc : Nat) (m' : Mth) (pc' : Nat) : Prop := ∃ idx, decode m.2.2.1 pc = .ok (.invokevirtual idx, 3) ∧ Cond.methodLink m.1 idx m'.2.1 ∈ gtb ∧ pc + 3 = pc'
def DS (m : Mth) (pc : Nat) (m' : Mth) (pc' : Nat) : Prop := ∃ idx, decode m.2.2.1 pc = .ok (.invokestatic idx, 3) ∧ Cond.methodLink m.1 idx m'.2.1 ∈ gtb ∧ pc + 3 = pc'
def DI (m : Mth) (pc : Nat) (m' : Mth) (pc' : Nat) : Prop := ∃ idx, decode m.2.2.1 pc = .ok (.invokespecial idx, 3) ∧ (Cond.methodLink m.1 idx m'.2.1 ∈ gtb ∨ ∃ host, Cond.methodLinkNest m.1 idx m'.2.1 host ∈ nws) ∧ pc + 3 = pc'
def DO (m : Mth) (pc pc' : Nat) : Prop := ∃ idx, decode m.2.2.1 pc = .ok (.invokespecial idx, 3) ∧ Cond.methodLink m.1 idx Lib.objectInit ∈ gtb ∧ pc + 3 = pc'
def DN (m : Mth) (pc ci pc' : Nat) : Prop := ∃ (idx : Nat) (C : String) (T : u_T) (N : Nat), decode m.2.2.1 pc = .ok (.new idx, 3) ∧ vwCl[ci]? = some (C, T, N) ∧ Cond.classLink m.1 idx C ∈ gtb ∧ Cond.instantiable C N ∈ gtb ∧ Cond.initialized C ∈ gtb ∧ pc + 3 = pc'
def DA (m : Mth) (pc k : Nat) (pc' : Nat) : Prop := ∃ (idx : Nat) (C : String), decode m.2.2.1 pc = .ok (.anewarray idx, 3) ∧ Cond.classLink m.1 idx C ∈ gtb ∧ ((k = 3 ∧ C = "ThirdLeft$Ints") ∨ (k = 4 ∧ C = "ThirdLeft$Evening")) ∧ pc + 3 = pc'
def DL (m : Mth) (pc : Nat) (v : Int64) (pc' : Nat) : Prop := ∃ idx, decode m.2.2.1 pc = .ok (.ldc2_w idx, 3) ∧ Cond.constantLong m.1 idx v ∈ gtb ∧ pc + 3 = pc'
def DK (m : Mth) (pc : Nat) (v : Int32) (pc' : Nat) : Prop := (∃ idx, decode m.2.2.1 pc = .ok (.ldc idx, 2) ∧ Cond.constant m.1 idx v ∈ gtb ∧ pc + 2 = pc') ∨ ∃ idx, decode m.2.2.1 pc = .ok (.ldc_w idx, 3) ∧ Cond.constant m.1 idx v ∈ gtb ∧ pc + 3 = pc'
/-! locals -/
def lkL : List (Nat × Value) → Nat → Option Value := fun L => match L with
  | [] => fun _ => none
  | q :: L => fun i => if q.1 = i then some q.2 else lkL L i
def st1 (i : Nat) (v : Value) (L : List (Nat × Value)) : List (Nat × Value) := (i, v) :: L.filter (fun q => !(q.1 == i) && !(q.1 + 1 == i && q.2.category == 2))
def st2 (i : Nat) (v : Value) (L : List (Nat × Value)) : List (Nat × Value) := (i, v) :: L.filter (fun q => !(q.1 == i) && (!(q.1 == i + 1) && !(q.1 + 1 == i && q.2.category == 2)))
def subL : List (Nat × Value) → List (Nat × Value) → Prop := fun L' => match L' with
  | [] => fun _ => True
  | q :: L' => fun L => lkL L q.1 = some q.2 ∧ subL L' L
theorem lk_mem {v : Value} {i : Nat} : ∀ {L : List (Nat × Value)}, lkL L i = some v → (i, v) ∈ L
  | [], h => by cases h
  | q :: L, h => by
    by_cases hq : q.1 = i
    · have h' : (if q.1 = i then some q.2 else lkL L i) = some v := h
      rw [if_pos hq] at h'
      cases h'
      subst hq
      exact List.mem_cons_self
    · have h' : (if q.1 = i then some q.2 else lkL L i) = some v := h
      rw [if_neg hq] at h'
      exact List.mem_cons_of_mem _ (lk_mem h')
theorem lk_at {b : Nat} {ls : Array Slot} {nL i : Nat} {L : List (Nat × Value)} {v : Value} (h : lv_has ls nL (L.map (fun q => (q.1, tr b q.2)))) (hk : lkL L i = some v) : ls[i]? = some (.val (tr b v)) :=
  h.2.2 (i, tr b v) (List.mem_map.mpr ⟨(i, v), lk_mem hk, rfl⟩)
theorem sub_lv {b : Nat} {ls : Array Slot} {nL : Nat} {L : List (Nat × Value)} (h : lv_has ls nL (L.map (fun q => (q.1, tr b q.2)))) : ∀ {L' : List (Nat × Value)}, subL L' L → lv_has ls nL (L'.map (fun q => (q.1, tr b q.2)))
  | [], _ => ⟨h.1, h.2.1, fun q hq => by simp at hq⟩
  | q :: L', hs => by
    obtain ⟨h1, h2⟩ := hs
    obtain ⟨g1, g2, g3⟩ := sub_lv h h2
    refine ⟨g1, g2, fun x hx => ?_⟩
    rw [List.map_cons] at hx
    rcases List.mem_cons.mp hx with rfl | hx
    · exact lk_at h h1
    · exact g3 x hx
theorem st1_map (b i : Nat) (v : Value) (L : List (Nat × Value)) : (st1 i v L).map (fun q => (q.1, tr b q.2)) = (i, tr b v) :: (L.map (fun q => (q.1, tr b q.2))).filter (fun q => !(q.1 == i) && !(q.1 + 1 == i && q.2.category == 2)) := by
  unfold st1
  rw [List.map_cons, List.filter_map]
  congr 2
  apply List.filter_congr
  intro q _
  simp only [Function.comp, tr_cat]
theorem st2_map (b i : Nat) (v : Value) (L : List (Nat × Value)) : (st2 i v L).map (fun q => (q.1, tr b q.2)) = (i, tr b v) :: (L.map (fun q => (q.1, tr b q.2))).filter (fun q => !(q.1 == i) && (!(q.1 == i + 1) && !(q.1 + 1 == i && q.2.category == 2))) := by
  unfold st2
  rw [List.map_cons, List.filter_map]
  congr 2
  apply List.filter_congr
  intro q _
  simp only [Function.comp, tr_cat]
/-! memory, changed at a place -/
def uI (I : IntM) (a k : Nat) (v : Int32) : IntM := fun x j => if x = a ∧ j = k then v else I x j
def uJ (J : LngM) (a k : Nat) (v : Int64) : LngM := fun x j => if x = a ∧ j = k then v else J x j
def uR (R : RefM) (a k : Nat) (v : Option Nat) : RefM := fun x j => if x = a ∧ j = k then v else R x j
def zI (I : IntM) (a : Nat) : IntM := fun x j => if x = a then 0 else I x j
def zJ (J : LngM) (a : Nat) : LngM := fun x j => if x = a then 0 else J x j
def zR (R : RefM) (a : Nat) : RefM := fun x j => if x = a then none else R x j
/-- n ints copied from cell a, place i on, to cell c, place j on -/
def cpI (I : IntM) (a i c j n : Nat) : IntM := fun x k => if x = c ∧ j ≤ k ∧ k < j + n then I a (i + (k - j)) else I x k
theorem fval_other {b : Nat} {R R' : RefM} {I I' : IntM} {J J' : LngM} {a : Nat} (hR : ∀ j, R' a j = R a j) (hI : ∀ j, I' a j = I a j) (hJ : ∀ j, J' a j = J a j) (k t : Nat) : fval b R' I' J' a k t = fval b R I J a k t := by
  unfold fval
  rw [hR, hI, hJ]
theorem flds_other {b : Nat} {R R' : RefM} {I I' : IntM} {J J' : LngM} {a : Nat} (hR : ∀ j, R' a j = R a j) (hI : ∀ j, I' a j = I a j) (hJ : ∀ j, J' a j = J a j) : ∀ (ts : List Nat) (k : Nat), flds b R' I' J' a ts k = flds b R I J a ts k
  | [], k => rfl
  | t :: ts, k => by
    show fval b R' I' J' a k t :: flds b R' I' J' a ts (k + 1) = _
    rw [flds_other hR hI hJ ts, fval_other hR hI hJ]
    rfl
theorem cell_other {b : Nat} {cA : Nat → ClassId} {R R' : RefM} {I I' : IntM} {J J' : LngM} {a : Nat} (hR : ∀ j, R' a j = R a j) (hI : ∀ j, I' a j = I a j) (hJ : ∀ j, J' a j = J a j) (s : Shp) : cellE b cA R' I' J' a s = cellE b cA R I J a s := by
  unfold cellE
  rw [flds_other hR hI hJ, show I' a = I a from funext hI, show J' a = J a from funext hJ, show R' a = R a from funext hR]

theorem cl_all {P : vw_C → Prop} (h0 : P (RX0, TX0, 6)) (h1 : P (RX1, TX1, 6)) (h2 : P (RX2, TX2, 7)) (h3 : P (RX3, TX3, 2)) (h4 : P (RX4, TX4, 1)) (h5 : P (RX5, TX5, 3)) (h6 : P (RX6, TX6, 5)) (h7 : P (RX7, TX7, 9)) (h8 : P (RX9, TX9, 6)) (h9 : P (RX10, TX10, 16)) (h10 : P (RX11, TX11, 53)) : ∀ {ci : Nat} {q : vw_C}, vwCl[ci]? = some q → P q
  | 0, q, h => by cases h; exact h0
  | 1, q, h => by cases h; exact h1
  | 2, q, h => by cases h; exact h2
  | 3, q, h => by cases h; exact h3
  | 4, q, h => by cases h; exact h4
  | 5, q, h => by cases h; exact h5
  | 6, q, h => by cases h; exact h6
  | 7, q, h => by cases h; exact h7
  | 8, q, h => by cases h; exact h8
  | 9, q, h => by cases h; exact h9
  | 10, q, h => by cases h; exact h10
  | n + 11, q, h => by simp [vwCl] at h
theorem cl_in {ci : Nat} {C : String} {T : u_T} {N : Nat} (h : vwCl[ci]? = some (C, T, N)) : ∀ w ∈ u_ws C T N, w ∈ gtb := cl_all (P := fun q => ∀ w ∈ u_ws q.1 q.2.1 q.2.2, w ∈ gtb) inGX0 inGX1 inGX2 inGX3 inGX4 inGX5 inGX6 inGX7 inGX9 inGX10 inGX11 h
theorem cl_ty {ci : Nat} {C : String} {T : u_T} {N : Nat} (h : vwCl[ci]? = some (C, T, N)) : ∃ ty0 : Nat → FieldType, (∀ k, k < N → parseFieldDescriptor (T k).2.2.1 = some (ty0 k)) ∧ ∀ a, a < N → ∀ b, b < N → a ≠ b → (T a).2.1 ≠ (T b).2.1 := cl_all (P := fun q => ∃ ty0 : Nat → FieldType, (∀ k, k < q.2.2 → parseFieldDescriptor (q.2.1 k).2.2.1 = some (ty0 k)) ∧ ∀ a, a < q.2.2 → ∀ b, b < q.2.2 → a ≠ b → (q.2.1 a).2.1 ≠ (q.2.1 b).2.1) ⟨tyX0, tyX0_ok, nmX0⟩ ⟨tyX1, tyX1_ok, nmX1⟩ ⟨tyX2, tyX2_ok, nmX2⟩ ⟨tyX3, tyX3_ok, nmX3⟩ ⟨tyX4, tyX4_ok, nmX4⟩ ⟨tyX5, tyX5_ok, nmX5⟩ ⟨tyX6, tyX6_ok, nmX6⟩ ⟨tyX7, tyX7_ok, nmX7⟩ ⟨tyX9, tyX9_ok, nmX9⟩ ⟨tyX10, tyX10_ok, nmX10⟩ ⟨tyX11, tyX11_ok, nmX11⟩ h
