theorem gwI : Cond.arrayClass .int ∈ gtb := gt_1 48 (by decide +kernel) (by decide +kernel)
theorem gwJ : Cond.arrayClass .long ∈ gtb := gt_1 137 (by decide +kernel) (by decide +kernel)

section VC
variable {m : Mth} {d u1 u2 mc ms pc pc' : Nat} {L L' : List (Nat × Value)} {S : List Value} {sh : List Shp} {R : RefM} {I : IntM} {J : LngM} {Q : PostV}
theorem V_objInit {a : Nat} (h : DO m pc pc') (hd1 : 1 ≤ d) (hc : ((S.map fun v => v.category).sum) ≤ 8) (hi : Cond.instanceMethod Lib.objectInit ∈ gtb) (hcd : Cond.code Lib.objectInit ⟨#[0xb1]⟩ 1 none ∈ gtb) (k : V m d u1 u2 mc ms pc' L S sh R I J Q) : V m d u1 u2 mc ms pc L (.ref a :: S) sh R I J Q := by
  obtain ⟨idx, hd, hlk, rfl⟩ := h
  intro p l e Rm s mid args below meth c H locs ls b D cA F hz hw hS hl
  have hR := F.R
  have hcs : (((S.map (tr b)).map fun v => v.category).sum) ≤ 8 := by
    rw [List.map_map]
    rw [show ((fun v => v.category) ∘ tr b : Value → Nat) = (fun v => v.category) from funext fun v => tr_cat b v]
    exact hc
  refine W.objInit (a := b + a) (rest := S.map (tr b)) F.x F.cc F.o (F.t _ hlk) (F.t _ hi) (F.t _ hcd) rfl (hl.1.trans F.ml.symm) rfl hd (by omega) ?_ (k p l e Rm s mid args below meth c H locs ls b D cA F hz hw hS hl)
  show 2 * 0 + _ + 12 ≤ _
  omega
/-- behind new: the cell's address is the next -/
theorem new_at {s : State} {b u1 q : Nat} {H1 : Heap} {e : va_E} {cA : Nat → ClassId} {D : va_G} {p : Program} {l : Launch} {ev : Env} {Rm : Room} {mid : MethodId} {args : Array Value} {below : List Frame} {meth : Method} {c : Code} {locs : List Loc} {Z : State → Prop} {g : JFrame} {v2 : Nat}
    (hz : s.heap.size + u1 = b + sh.length) (hP : va_P D vwCl (wsOf b cA sh R I J ++ [(q, e)]) H1) (hD : va_D (fun q => b ≤ q) (wsOf b cA sh R I J ++ [(q, e)])) (k : q = b + sh.length → W p l ev Rm s mid args below meth c H1 locs (u1 + 1) v2 Z g) : W p l ev Rm s mid args below meth c H1 locs (u1 + 1) v2 Z g := by
  intro T hT X
  have h1 := X.heapSize
  rw [hT] at h1
  have hg : (wsOf b cA sh R I J ++ [(q, e)])[sh.length]? = some (q, e) := by rw [List.getElem?_append_right (by rw [ws_len]; omega), ws_len, Nat.sub_self]; rfl
  have h2 := (hP _ _ hg).lt
  have h3 := hD.2 _ _ hg
  dsimp only at h2 h3
  refine k ?_ T hT X
  rcases Nat.lt_or_ge q (b + sh.length) with hlt | hge
  · exfalso
    have hk : q - b < sh.length := by omega
    have hx : (wsOf b cA sh R I J ++ [(q, e)])[q - b]? = some (b + (q - b), cellE b cA R I J (q - b) (sh[q - b]'hk)) := by
      rw [List.getElem?_append_left (by rw [ws_len]; exact hk)]
      exact ws_get (List.getElem?_eq_getElem hk)
    have := hD.1 _ _ _ _ hx hg (by dsimp only; omega)
    omega
  · omega
theorem flds_zero {b a : Nat} {R' : RefM} {I' : IntM} {J' : LngM} (hR : ∀ j, R' a j = none) (hI : ∀ j, I' a j = 0) (hJ : ∀ j, J' a j = 0) : ∀ (ts : List Nat) (k : Nat), flds b R' I' J' a ts k = ts.map (fun t => if t = 1 then .long 0 else if t = 2 then .null else .int 0)
  | [], k => rfl
  | t :: ts, k => by
    show fval b R' I' J' a k t :: flds b R' I' J' a ts (k + 1) = _
    rw [flds_zero hR hI hJ ts, List.map_cons]
    unfold fval
    rw [hR, hI, hJ]
    rfl
theorem cl_dfl {ci : Nat} {C : String} {T : u_T} {N : Nat} (h : vwCl[ci]? = some (C, T, N)) : ∃ ty0 : Nat → FieldType, (∀ k, k < N → parseFieldDescriptor (T k).2.2.1 = some (ty0 k)) ∧ ∀ j, j < N → defaultValue (ty0 j) = vp_V ((fk ci).map (fun t => if t = 1 then .long 0 else if t = 2 then .null else .int 0)) j := by
  have key : ∀ ci < 11, ∃ q : vw_C, vwCl[ci]? = some q ∧ ∃ ty0 : Nat → FieldType, (∀ k, k < q.2.2 → parseFieldDescriptor (q.2.1 k).2.2.1 = some (ty0 k)) ∧ ∀ j, j < q.2.2 → defaultValue (ty0 j) = vp_V ((fk ci).map (fun t => if t = 1 then .long 0 else if t = 2 then .null else .int 0)) j := by
    intro ci hci
    match ci, hci with
    | 0, _ => exact ⟨_, rfl, tyX0, tyX0_ok, by decide +kernel⟩
    | 1, _ => exact ⟨_, rfl, tyX1, tyX1_ok, by decide +kernel⟩
    | 2, _ => exact ⟨_, rfl, tyX2, tyX2_ok, by decide +kernel⟩
    | 3, _ => exact ⟨_, rfl, tyX3, tyX3_ok, by decide +kernel⟩
    | 4, _ => exact ⟨_, rfl, tyX4, tyX4_ok, by decide +kernel⟩
    | 5, _ => exact ⟨_, rfl, tyX5, tyX5_ok, by decide +kernel⟩
    | 6, _ => exact ⟨_, rfl, tyX6, tyX6_ok, by decide +kernel⟩
    | 7, _ => exact ⟨_, rfl, tyX7, tyX7_ok, by decide +kernel⟩
    | 8, _ => exact ⟨_, rfl, tyX9, tyX9_ok, by decide +kernel⟩
    | 9, _ => exact ⟨_, rfl, tyX10, tyX10_ok, by decide +kernel⟩
    | 10, _ => exact ⟨_, rfl, tyX11, tyX11_ok, by decide +kernel⟩
  have hci : ci < 11 := (List.getElem?_eq_some_iff.mp h).1
  obtain ⟨q, h1, h2⟩ := key ci hci
  rw [h] at h1
  cases h1
  exact h2
theorem V_new {ci N : Nat} (h : DN m pc ci pc') (hN : ∀ C T n, vwCl[ci]? = some (C, T, n) → n = N) (h1 : u1 + 1 ≤ mc) (h2 : u2 + N ≤ ms) (k : V m d (u1 + 1) (u2 + N) mc ms pc' L (.ref sh.length :: S) (sh ++ [(0, ci)]) (zR R sh.length) (zI I sh.length) (zJ J sh.length) Q) : V m d u1 u2 mc ms pc L S sh R I J Q := by
  obtain ⟨idx, C, T, N', hd, hc, hlk, hin, hini, rfl⟩ := h
  have := hN _ _ _ hc
  subst this
  intro p l e Rm s mid args below meth c H locs ls b D cA F hz hw hS hl
  obtain ⟨ty0, hty, hdf⟩ := cl_dfl hc
  have hR := F.R
  refine va_new (ci := ci) F.x F.cc F.t (cl_in hc) ty0 hty F.o (F.t _ hlk) (F.t _ hin) (F.t _ hini) hw.2 hw.1 ws_D hS (fun q hq => Nat.le_trans F.bb hq) hc hdf (by omega) (by omega) hd (fun q H1 hP1 hD1 hS1 => ?_)
  refine new_at hz hP1 hD1 (fun hq => ?_)
  subst hq
  rw [ws_push (R' := zR R sh.length) (I' := zI I sh.length) (J' := zJ J sh.length) (s := (0, ci)) (fun a' s' ha => cell_other (fun j => by unfold zR; rw [if_neg ha]) (fun j => by unfold zI; rw [if_neg ha]) (fun j => by unfold zJ; rw [if_neg ha]) s') (by
    show (Sum.inr (ci, flds b _ _ _ _ (fk ci) 0) : va_E) = _
    rw [flds_zero (fun j => by unfold zR; rw [if_pos rfl]) (fun j => by unfold zI; rw [if_pos rfl]) (fun j => by unfold zJ; rw [if_pos rfl])])] at hP1
  exact k p l e Rm s mid args below meth c H1 locs ls b D cA F (by rw [List.length_append]; simp; omega) ⟨hP1, hw.2⟩ hS1 hl
theorem arr_cls {s : State} {c1 c2 : ClassId} {ty : FieldType} (h1 : va_RA s c1 ty) (h2 : va_RA s c2 ty) : c1 = c2 := by
  cases ty with
  | object C =>
    obtain ⟨_, _, _, _, _, g1⟩ := h1
    obtain ⟨_, _, _, _, _, g2⟩ := h2
    exact Option.some.inj (g1.symm.trans g2)
  | _ => exact Option.some.inj (Eq.trans (Eq.symm h1) h2)

theorem V_newI {n : Int32} {N : Nat} (h : D1 m pc (.newarray .int) 2 pc') (hn : ¬ n < 0) (hN : n.toNatClampNeg = N) (hb : N ≤ 1000) (h1 : u1 + 1 ≤ mc) (h2 : u2 + N ≤ ms) (k : V m d (u1 + 1) (u2 + N) mc ms pc' L (.ref sh.length :: S) (sh ++ [(1, N)]) (zR R sh.length) (zI I sh.length) (zJ J sh.length) Q) : V m d u1 u2 mc ms pc L (.int n :: S) sh R I J Q := by
  obtain ⟨hd, rfl⟩ := h
  intro p l e Rm s mid args below meth c H locs ls b D cA F hz hw hS hl
  have hR := F.R
  refine va_newa (atype := .int) (ty := .int) (a0 := (N, .inl (fun _ => 0))) F.x F.cc (F.t (.arrayClass .int) (by first | exact gwI | exact gwJ)) rfl hw.2 hw.1 ws_D hS (fun q hq => Nat.le_trans F.bb hq) (fun cA => rfl) hn hN (by show N * _ ≤ _; simp [componentBytes]; omega) (by omega) (by omega) hd (fun q cB H1 hK1 hP1 hD1 hS1 => ?_)
  have hcB : cB = cA 1 := arr_cls (hK1.2 4 _ rfl).2 (hK1.2 0 _ rfl).2
  subst hcB
  refine new_at hz hP1 hD1 (fun hq => ?_)
  subst hq
  rw [ws_push (R' := zR R sh.length) (I' := zI I sh.length) (J' := zJ J sh.length) (s := (1, N)) (fun a' s' ha => cell_other (fun j => by unfold zR; rw [if_neg ha]) (fun j => by unfold zI; rw [if_neg ha]) (fun j => by unfold zJ; rw [if_neg ha]) s') (by
    exact congrArg (fun g : Nat → Int32 => (Sum.inl (cA 1, N, .inl g) : va_E)) (funext fun j => by unfold zI; rw [if_pos rfl]))] at hP1
  exact k p l e Rm s mid args below meth c H1 locs ls b D cA F (by rw [List.length_append]; simp; omega) ⟨hP1, hw.2⟩ hS1 hl
theorem V_newJ {n : Int32} {N : Nat} (h : D1 m pc (.newarray .long) 2 pc') (hn : ¬ n < 0) (hN : n.toNatClampNeg = N) (hb : N ≤ 1000) (h1 : u1 + 1 ≤ mc) (h2 : u2 + N ≤ ms) (k : V m d (u1 + 1) (u2 + N) mc ms pc' L (.ref sh.length :: S) (sh ++ [(2, N)]) (zR R sh.length) (zI I sh.length) (zJ J sh.length) Q) : V m d u1 u2 mc ms pc L (.int n :: S) sh R I J Q := by
  obtain ⟨hd, rfl⟩ := h
  intro p l e Rm s mid args below meth c H locs ls b D cA F hz hw hS hl
  have hR := F.R
  refine va_newa (atype := .long) (ty := .long) (a0 := (N, .inr (.inl (fun _ => 0)))) F.x F.cc (F.t (.arrayClass .long) (by first | exact gwI | exact gwJ)) rfl hw.2 hw.1 ws_D hS (fun q hq => Nat.le_trans F.bb hq) (fun cA => rfl) hn hN (by show N * _ ≤ _; simp [componentBytes]; omega) (by omega) (by omega) hd (fun q cB H1 hK1 hP1 hD1 hS1 => ?_)
  have hcB : cB = cA 2 := arr_cls (hK1.2 4 _ rfl).2 (hK1.2 1 _ rfl).2
  subst hcB
  refine new_at hz hP1 hD1 (fun hq => ?_)
  subst hq
  rw [ws_push (R' := zR R sh.length) (I' := zI I sh.length) (J' := zJ J sh.length) (s := (2, N)) (fun a' s' ha => cell_other (fun j => by unfold zR; rw [if_neg ha]) (fun j => by unfold zI; rw [if_neg ha]) (fun j => by unfold zJ; rw [if_neg ha]) s') (by
    exact congrArg (fun g : Nat → Int64 => (Sum.inl (cA 2, N, .inr (.inl g)) : va_E)) (funext fun j => by unfold zJ; rw [if_pos rfl]))] at hP1
  exact k p l e Rm s mid args below meth c H1 locs ls b D cA F (by rw [List.length_append]; simp; omega) ⟨hP1, hw.2⟩ hS1 hl
theorem V_newA {n : Int32} {N j : Nat} (h : DA m pc j pc') (hn : ¬ n < 0) (hN : n.toNatClampNeg = N) (hb : N ≤ 1000) (h1 : u1 + 1 ≤ mc) (h2 : u2 + N ≤ ms) (k : V m d (u1 + 1) (u2 + N) mc ms pc' L (.ref sh.length :: S) (sh ++ [(j, N)]) (zR R sh.length) (zI I sh.length) (zJ J sh.length) Q) : V m d u1 u2 mc ms pc L (.int n :: S) sh R I J Q := by
  obtain ⟨idx, C, hd, hlk, hj, rfl⟩ := h
  intro p l e Rm s mid args below meth c H locs ls b D cA F hz hw hS hl
  have hR := F.R
  refine va_newq (C := C) F.x F.cc F.o (F.t _ hlk) (by rcases hj with ⟨-, rfl⟩ | ⟨-, rfl⟩; exact F.nw.2.1; exact F.nw.2.2) hw.2 hw.1 ws_D hS (fun q hq => Nat.le_trans F.bb hq) hn hN (by omega) (by omega) (by omega) hd (fun q cB H1 hK1 hP1 hD1 hS1 => ?_)
  have hcB : cB = cA j := by
    rcases hj with ⟨rfl, rfl⟩ | ⟨rfl, rfl⟩
    · exact arr_cls (hK1.2 4 _ rfl).2 (hK1.2 2 _ rfl).2
    · exact arr_cls (hK1.2 4 _ rfl).2 (hK1.2 3 _ rfl).2
  subst hcB
  refine new_at hz hP1 hD1 (fun hq => ?_)
  subst hq
  rw [ws_push (R' := zR R sh.length) (I' := zI I sh.length) (J' := zJ J sh.length) (s := (j, N)) (fun a' s' ha => cell_other (fun j => by unfold zR; rw [if_neg ha]) (fun j => by unfold zI; rw [if_neg ha]) (fun j => by unfold zJ; rw [if_neg ha]) s') (by
    have e : (fun i => (zR R sh.length sh.length i).map (fun q => b + q)) = fun _ => none := funext fun i => by unfold zR; rw [if_pos rfl]; rfl
    rcases hj with ⟨rfl, -⟩ | ⟨rfl, -⟩ <;> exact congrArg (fun g => (Sum.inl (cA _, N, .inr (.inr (.inr (.inr g)))) : va_E)) e)] at hP1
  exact k p l e Rm s mid args below meth c H1 locs ls b D cA F (by rw [List.length_append]; simp; omega) ⟨hP1, hw.2⟩ hS1 hl

/-- System.arraycopy, of ints, in a method that makes nothing -/
theorem V_acopy {a0 a n0 n1 : Nat} {sp dp n : Int32} (h : ∃ idx, decode m.2.2.1 pc = .ok (.invokestatic idx, 3) ∧ Cond.methodLink m.1 idx arraycopyName ∈ gtb ∧ pc + 3 = pc') (hnat : Cond.native arraycopyName ∈ gtb ∧ Cond.static arraycopyName ∈ gtb ∧ Cond.initialized "java/lang/System" ∈ gtb) (hs0 : sh[a0]? = some (1, n0)) (hs1 : sh[a]? = some (1, n1)) (h1 : ¬ sp < 0) (h2 : ¬ dp < 0) (h3 : ¬ n < 0) (h4 : sp.toNatClampNeg + n.toNatClampNeg ≤ n0) (h5 : dp.toNatClampNeg + n.toNatClampNeg ≤ n1) (hd1 : 1 ≤ d) (hc : ((S.map fun v => v.category).sum) ≤ 8) (k : V m d u1 u2 mc ms pc' L S sh R (cpI I a0 sp.toNatClampNeg a dp.toNatClampNeg n.toNatClampNeg) J Q) : V m d u1 u2 mc ms pc L (.int n :: .int dp :: .ref a :: .int sp :: .ref a0 :: S) sh R I J Q := by
  obtain ⟨idx, hd, hlk, rfl⟩ := h
  intro p l e Rm s mid args below meth c H locs ls b D cA F hz hw hS hl
  have hR := F.R
  have hcs : (((S.map (tr b)).map fun v => v.category).sum) ≤ 8 := by
    rw [List.map_map]
    rw [show ((fun v => v.category) ∘ tr b : Value → Nat) = (fun v => v.category) from funext fun v => tr_cat b v]
    exact hc
  refine va_copyi (ty := .int) F.x F.cc (F.ml.trans hl.1.symm) F.o (F.t _ hlk) (F.t _ hnat.1) (F.t _ hnat.2.1) (F.t _ hnat.2.2) hw.2 hw.1 ws_D hS a0 a 0 0 (ws_ai hs0) (ws_ai hs1) rfl rfl rfl h1 h2 h3 h4 h5 (fun _ _ => rfl) (by omega) ?_ hd (fun H1 locs1 hP1 _ hS1 => ?_)
  · have : nativeFrameWords "java/lang/System" "arraycopy" 5 ≤ 12 := by decide +kernel
    omega
  · rw [ws_set (R' := R) (I' := cpI I a0 sp.toNatClampNeg a dp.toNatClampNeg n.toNatClampNeg) (J' := J) hs1 (fun a' s' h => cell_other (fun _ => rfl) (fun j => by unfold cpI; rw [if_neg (fun q => h q.1)]) (fun _ => rfl) s') (congrArg (fun g : Nat → Int32 => (Sum.inl (cA 1, n1, .inl g) : va_E)) (funext fun j => by unfold cpI va_cpy; simp))] at hP1
    exact k p l e Rm s mid args below meth c H1 locs1 ls b D cA F hz ⟨hP1, hw.2⟩ hS1 hl
/-- behind any call -/
theorem va_callG {p : Program} {l : Launch} {e : Env} {R : Room} {s : State} {m : MethodId} {args : Array Value} {below : List Frame} {meth : Method} {c : Code} {H : Heap} {locs : List Loc} {cells slots : Nat} {Q : State → Prop} {pc : Nat} {ls : Array Slot} {rest st0 : List Value} {a : Array Value} {A0 : Nat → Prop} {H0 : Heap} {mc ms : Nat} {free : Addr → Prop} {Qa : Array Value → State → Outcome → State → Prop}
    (hr : va_Run p l e R s m args below meth c H locs cells slots mc ms (F0 m pc ls st0) rest (Qa a) free) (hS : va_S A0 H0 H locs) (hA : ∀ st o t, Qa a st o t → va_F A0 st t) (hf : ∀ q, free q → A0 q)
    (kk : ∀ (v : Option Value) (st t : State) (H1 : Heap) (locs1 : List Loc), t.heap = H1 → s.vm.Alike t.vm → Qa a st (.returned v) t → va_S A0 H0 H1 locs1 → W p l e R s m args below meth c H1 locs1 (cells + mc) (slots + ms) Q (F0 m (pc + 3) ls (v.toList ++ rest))) : W p l e R s m args below meth c H locs cells slots Q (F0 m pc ls st0) := by
  intro T hT X
  obtain ⟨v, st₀, t, T', L, h0, X', hL, e1, e2, hq, st⟩ := hr T hT X
  obtain ⟨hz, hk⟩ := hA _ _ _ hq
  rw [h0] at hz hk
  obtain ⟨t2, a1, b1⟩ := kk v st₀ t T'.heap (locs ++ L) e1.symm (by rw [← e2]; exact X'.warmed.alike) hq
    ⟨Nat.le_trans hS.1 (by rw [e1]; exact hz), fun q h1 h2 => by rw [e1, hk q (Nat.lt_of_lt_of_le h1 hS.1) h2]; exact hS.2.1 q h1 h2, fun q hq => by
      rcases List.mem_append.mp hq with h | h
      · exact hS.2.2 q h
      · exact hf _ (hL q h)⟩ T' rfl X'
  exact ⟨t2, st t2 a1, b1⟩
theorem tr_rest (b : Nat) (S : List Value) (hc : ((S.map fun v => v.category).sum) ≤ 8) : (((S.map (tr b)).map fun v => v.category).sum) ≤ 8 := by
  rw [List.map_map, show ((fun v => v.category) ∘ tr b : Value → Nat) = (fun v => v.category) from funext fun v => tr_cat b v]
  exact hc
theorem Pc_blind {b : Nat} {D : va_G} {cA : Nat → ClassId} {as : List Value} : FrameBlind (PcV b D cA as sh R I J) := fun a U g mk q => ⟨q.1, q.2.1, ⟨q.2.2.1.1, va_K.moved (u := U) (U := U.calling g mk a) (Vm.Alike.refl U.vm) q.2.2.1.2⟩, LT.moved (s := U) (t := U.calling g mk a) (Vm.Alike.refl U.vm) q.2.2.2.1, NW.same (s := U) (U := U.calling g mk a) rfl q.2.2.2.2⟩
theorem gi_mws {m' : Mth} (h : Cond.code m'.2.1 m'.2.2.1 m'.2.2.2.1 m'.2.2.2.2 ∈ gtb) : GoodIn gtb (mws m') := by
  intro w hw
  have hm : w ∈ gtb := by
    rcases List.mem_cons.mp hw with rfl | hw
    · exact h
    · exact hw
  exact ⟨hm, good_of_word (gtb_good _ hm)⟩
theorem gi_app {xs ys : List Cond} (h1 : ∀ w ∈ xs, w ∈ gtb) (h2 : GoodIn gtb ys) : GoodIn gtb (xs ++ ys) := by
  intro w hw
  rcases List.mem_append.mp hw with hw | hw
  · exact ⟨h1 w hw, good_of_word (gtb_good _ (h1 w hw))⟩
  · exact h2 w hw
/-- what is behind a call: the callee's answer on the stack -/
theorem V_back {p : Program} {l : Launch} {e : Env} {Rm : Room} {s : State} {mid : MethodId} {args : Array Value} {below : List Frame} {meth : Method} {c : Code} {H : Heap} {locs : List Loc} {ls : Array Slot} {b : Nat} {D : va_G} {cA : Nat → ClassId} {mc' ms' : Nat} {Q' : PostV} {st0 : List Value} {as : List Value} {pcc : Nat}
    (F : Fx m d mc ms b p Rm s mid args meth c) (hz : s.heap.size + u1 = b + sh.length) (hS : va_S (fun q => b ≤ q) s.heap H locs) (hl : lv_has ls m.2.2.2.1 (L.map (fun q => (q.1, tr b q.2))))
    (hr : va_Run p l e Rm s mid args below meth c H locs u1 u2 mc' ms' (F0 mid pcc ls st0) (S.map (tr b)) (QcV b D cA Q' (as.map (tr b)).toArray) (fun q => b ≤ q))
    (hlen : ∀ r sh' R' I' J', Q' r sh' R' I' J' → sh'.length = sh.length + mc')
    (k : ∀ r sh' R' I' J', Q' r sh' R' I' J' → V m d (u1 + mc') (u2 + ms') mc ms (pcc + 3) L (r.toList ++ S) sh' R' I' J' Q) :
    W p l e Rm s mid args below meth c H locs u1 u2 (MQ below (QcV b D cA Q) args s mc ms (fun q => b ≤ q)) (F0 mid pcc ls st0) := by
  refine va_callG hr hS (fun st o t h => h.2) (fun q h => h) (fun v st t H1 locs1 ht hvm hq hS1 => ?_)
  obtain ⟨⟨r, sh', R', I', J', hv, hQ, hw'⟩, -⟩ := hq
  cases hv
  have hk := k r sh' R' I' J' hQ p l e Rm s mid args below meth c H1 locs1 ls b D cA F (by rw [hlen _ _ _ _ _ hQ]; omega) (by rw [← ht]; exact hw'.moved hvm.symm) hS1 hl
  have e : (r.map (tr b)).toList ++ S.map (tr b) = (r.toList ++ S).map (tr b) := by cases r <;> simp
  rw [e]
  exact hk

theorem V_callV0 {a ci : Nat} {m' : Mth} {d' mc' ms' : Nat} {Q' : PostV} (h : DV m pc m' pc') (hm : MI m' 0) (hc : Ct d' m' [.ref a] sh R I J mc' ms' Q') (hs : sh[a]? = some (0, ci)) (hci : ∃ T N, vwCl[ci]? = some (m'.1, T, N)) (hd : d' + 1 ≤ d) (hst : ((S.map fun v => v.category).sum) ≤ 8) (hb1 : u1 + mc' ≤ mc) (hb2 : u2 + ms' ≤ ms) (hlen : ∀ r sh' R' I' J', Q' r sh' R' I' J' → sh'.length = sh.length + mc')
    (k : ∀ r sh' R' I' J', Q' r sh' R' I' J' → V m d (u1 + mc') (u2 + ms') mc ms pc' L (r.toList ++ S) sh' R' I' J' Q) : V m d u1 u2 mc ms pc L (.ref a :: S) sh R I J Q := by
  obtain ⟨idx, hd9, hlk, rfl⟩ := h
  obtain ⟨hm1, hm2, hm3, hm4, hm5, hm6⟩ := hm
  obtain ⟨T, N, hci⟩ := hci
  intro p l e Rm s mid args below meth c H locs ls b D cA F hz hw hS hl
  have hR := F.R
  refine W_sz hz F.bb hw.1 hS (fun hH => ?_)
  refine V_back (as := [.ref a]) F hz hS hl (va_runV (As := []) (rest := S.map (tr b)) ⟨F.x, F.cc, F.ml, F.o, F.t⟩ (hc l b D cA) (cwV 0 F.t (gi_app (fun w hx => ?_) (gi_mws hm4)) rfl rfl rfl hm5 ⟨by show d' + 1 ≤ _; omega, by show 8 + (_ + 11) + 32 * d' ≤ _; omega⟩) ⟨Pc_blind, va_recv hw.2 hw.1 hci (ws_obj hs), fun U hU hW => ⟨rfl, by rw [hU]; exact hH, by rw [hU]; exact hw.moved hW.alike, by rw [hU]; exact (F.lt.kept hS).moved hW.alike, F.nw.warm hW⟩⟩ rfl rfl hl.1 rfl (lv_room (tr_rest b S hst)) hd9 ⟨by omega, by omega⟩) hlen k
  simp only [List.mem_cons, List.not_mem_nil, or_false] at hx
  rcases hx with rfl | rfl | rfl | rfl
  · exact hlk
  · exact hm1
  · exact hm2
  · exact hm3
theorem V_callV1 {a ci : Nat} {x0 : Value} {m' : Mth} {d' mc' ms' : Nat} {Q' : PostV} (h : DV m pc m' pc') (hm : MI m' 1) (hc : Ct d' m' [.ref a, x0] sh R I J mc' ms' Q') (hs : sh[a]? = some (0, ci)) (hci : ∃ T N, vwCl[ci]? = some (m'.1, T, N)) (hd : d' + 1 ≤ d) (hst : ((S.map fun v => v.category).sum) ≤ 8) (hb1 : u1 + mc' ≤ mc) (hb2 : u2 + ms' ≤ ms) (hlen : ∀ r sh' R' I' J', Q' r sh' R' I' J' → sh'.length = sh.length + mc')
    (k : ∀ r sh' R' I' J', Q' r sh' R' I' J' → V m d (u1 + mc') (u2 + ms') mc ms pc' L (r.toList ++ S) sh' R' I' J' Q) : V m d u1 u2 mc ms pc L (x0 :: .ref a :: S) sh R I J Q := by
  obtain ⟨idx, hd9, hlk, rfl⟩ := h
  obtain ⟨hm1, hm2, hm3, hm4, hm5, hm6⟩ := hm
  obtain ⟨T, N, hci⟩ := hci
  intro p l e Rm s mid args below meth c H locs ls b D cA F hz hw hS hl
  have hR := F.R
  refine W_sz hz F.bb hw.1 hS (fun hH => ?_)
  refine V_back (as := [.ref a, x0]) F hz hS hl (va_runV (As := [tr b x0]) (rest := S.map (tr b)) ⟨F.x, F.cc, F.ml, F.o, F.t⟩ (hc l b D cA) (cwV 1 F.t (gi_app (fun w hx => ?_) (gi_mws hm4)) rfl rfl rfl hm5 ⟨by show d' + 1 ≤ _; omega, by show 8 + (_ + 11) + 32 * d' ≤ _; omega⟩) ⟨Pc_blind, va_recv hw.2 hw.1 hci (ws_obj hs), fun U hU hW => ⟨rfl, by rw [hU]; exact hH, by rw [hU]; exact hw.moved hW.alike, by rw [hU]; exact (F.lt.kept hS).moved hW.alike, F.nw.warm hW⟩⟩ rfl rfl hl.1 rfl (lv_room (tr_rest b S hst)) hd9 ⟨by omega, by omega⟩) hlen k
  simp only [List.mem_cons, List.not_mem_nil, or_false] at hx
  rcases hx with rfl | rfl | rfl | rfl
  · exact hlk
  · exact hm1
  · exact hm2
  · exact hm3
theorem V_callV2 {a ci : Nat} {x0 x1 : Value} {m' : Mth} {d' mc' ms' : Nat} {Q' : PostV} (h : DV m pc m' pc') (hm : MI m' 2) (hc : Ct d' m' [.ref a, x0, x1] sh R I J mc' ms' Q') (hs : sh[a]? = some (0, ci)) (hci : ∃ T N, vwCl[ci]? = some (m'.1, T, N)) (hd : d' + 1 ≤ d) (hst : ((S.map fun v => v.category).sum) ≤ 8) (hb1 : u1 + mc' ≤ mc) (hb2 : u2 + ms' ≤ ms) (hlen : ∀ r sh' R' I' J', Q' r sh' R' I' J' → sh'.length = sh.length + mc')
    (k : ∀ r sh' R' I' J', Q' r sh' R' I' J' → V m d (u1 + mc') (u2 + ms') mc ms pc' L (r.toList ++ S) sh' R' I' J' Q) : V m d u1 u2 mc ms pc L (x1 :: x0 :: .ref a :: S) sh R I J Q := by
  obtain ⟨idx, hd9, hlk, rfl⟩ := h
  obtain ⟨hm1, hm2, hm3, hm4, hm5, hm6⟩ := hm
  obtain ⟨T, N, hci⟩ := hci
  intro p l e Rm s mid args below meth c H locs ls b D cA F hz hw hS hl
  have hR := F.R
  refine W_sz hz F.bb hw.1 hS (fun hH => ?_)
  refine V_back (as := [.ref a, x0, x1]) F hz hS hl (va_runV (As := [tr b x0, tr b x1]) (rest := S.map (tr b)) ⟨F.x, F.cc, F.ml, F.o, F.t⟩ (hc l b D cA) (cwV 2 F.t (gi_app (fun w hx => ?_) (gi_mws hm4)) rfl rfl rfl hm5 ⟨by show d' + 1 ≤ _; omega, by show 8 + (_ + 11) + 32 * d' ≤ _; omega⟩) ⟨Pc_blind, va_recv hw.2 hw.1 hci (ws_obj hs), fun U hU hW => ⟨rfl, by rw [hU]; exact hH, by rw [hU]; exact hw.moved hW.alike, by rw [hU]; exact (F.lt.kept hS).moved hW.alike, F.nw.warm hW⟩⟩ rfl rfl hl.1 rfl (lv_room (tr_rest b S hst)) hd9 ⟨by omega, by omega⟩) hlen k
  simp only [List.mem_cons, List.not_mem_nil, or_false] at hx
  rcases hx with rfl | rfl | rfl | rfl
  · exact hlk
  · exact hm1
  · exact hm2
  · exact hm3
theorem V_callV3 {a ci : Nat} {x0 x1 x2 : Value} {m' : Mth} {d' mc' ms' : Nat} {Q' : PostV} (h : DV m pc m' pc') (hm : MI m' 3) (hc : Ct d' m' [.ref a, x0, x1, x2] sh R I J mc' ms' Q') (hs : sh[a]? = some (0, ci)) (hci : ∃ T N, vwCl[ci]? = some (m'.1, T, N)) (hd : d' + 1 ≤ d) (hst : ((S.map fun v => v.category).sum) ≤ 8) (hb1 : u1 + mc' ≤ mc) (hb2 : u2 + ms' ≤ ms) (hlen : ∀ r sh' R' I' J', Q' r sh' R' I' J' → sh'.length = sh.length + mc')
    (k : ∀ r sh' R' I' J', Q' r sh' R' I' J' → V m d (u1 + mc') (u2 + ms') mc ms pc' L (r.toList ++ S) sh' R' I' J' Q) : V m d u1 u2 mc ms pc L (x2 :: x1 :: x0 :: .ref a :: S) sh R I J Q := by
  obtain ⟨idx, hd9, hlk, rfl⟩ := h
  obtain ⟨hm1, hm2, hm3, hm4, hm5, hm6⟩ := hm
  obtain ⟨T, N, hci⟩ := hci
  intro p l e Rm s mid args below meth c H locs ls b D cA F hz hw hS hl
  have hR := F.R
  refine W_sz hz F.bb hw.1 hS (fun hH => ?_)
  refine V_back (as := [.ref a, x0, x1, x2]) F hz hS hl (va_runV (As := [tr b x0, tr b x1, tr b x2]) (rest := S.map (tr b)) ⟨F.x, F.cc, F.ml, F.o, F.t⟩ (hc l b D cA) (cwV 3 F.t (gi_app (fun w hx => ?_) (gi_mws hm4)) rfl rfl rfl hm5 ⟨by show d' + 1 ≤ _; omega, by show 8 + (_ + 11) + 32 * d' ≤ _; omega⟩) ⟨Pc_blind, va_recv hw.2 hw.1 hci (ws_obj hs), fun U hU hW => ⟨rfl, by rw [hU]; exact hH, by rw [hU]; exact hw.moved hW.alike, by rw [hU]; exact (F.lt.kept hS).moved hW.alike, F.nw.warm hW⟩⟩ rfl rfl hl.1 rfl (lv_room (tr_rest b S hst)) hd9 ⟨by omega, by omega⟩) hlen k
  simp only [List.mem_cons, List.not_mem_nil, or_false] at hx
  rcases hx with rfl | rfl | rfl | rfl
  · exact hlk
  · exact hm1
  · exact hm2
  · exact hm3
theorem V_callV4 {a ci : Nat} {x0 x1 x2 x3 : Value} {m' : Mth} {d' mc' ms' : Nat} {Q' : PostV} (h : DV m pc m' pc') (hm : MI m' 4) (hc : Ct d' m' [.ref a, x0, x1, x2, x3] sh R I J mc' ms' Q') (hs : sh[a]? = some (0, ci)) (hci : ∃ T N, vwCl[ci]? = some (m'.1, T, N)) (hd : d' + 1 ≤ d) (hst : ((S.map fun v => v.category).sum) ≤ 8) (hb1 : u1 + mc' ≤ mc) (hb2 : u2 + ms' ≤ ms) (hlen : ∀ r sh' R' I' J', Q' r sh' R' I' J' → sh'.length = sh.length + mc')
    (k : ∀ r sh' R' I' J', Q' r sh' R' I' J' → V m d (u1 + mc') (u2 + ms') mc ms pc' L (r.toList ++ S) sh' R' I' J' Q) : V m d u1 u2 mc ms pc L (x3 :: x2 :: x1 :: x0 :: .ref a :: S) sh R I J Q := by
  obtain ⟨idx, hd9, hlk, rfl⟩ := h
  obtain ⟨hm1, hm2, hm3, hm4, hm5, hm6⟩ := hm
  obtain ⟨T, N, hci⟩ := hci
  intro p l e Rm s mid args below meth c H locs ls b D cA F hz hw hS hl
  have hR := F.R
  refine W_sz hz F.bb hw.1 hS (fun hH => ?_)
  refine V_back (as := [.ref a, x0, x1, x2, x3]) F hz hS hl (va_runV (As := [tr b x0, tr b x1, tr b x2, tr b x3]) (rest := S.map (tr b)) ⟨F.x, F.cc, F.ml, F.o, F.t⟩ (hc l b D cA) (cwV 4 F.t (gi_app (fun w hx => ?_) (gi_mws hm4)) rfl rfl rfl hm5 ⟨by show d' + 1 ≤ _; omega, by show 8 + (_ + 11) + 32 * d' ≤ _; omega⟩) ⟨Pc_blind, va_recv hw.2 hw.1 hci (ws_obj hs), fun U hU hW => ⟨rfl, by rw [hU]; exact hH, by rw [hU]; exact hw.moved hW.alike, by rw [hU]; exact (F.lt.kept hS).moved hW.alike, F.nw.warm hW⟩⟩ rfl rfl hl.1 rfl (lv_room (tr_rest b S hst)) hd9 ⟨by omega, by omega⟩) hlen k
  simp only [List.mem_cons, List.not_mem_nil, or_false] at hx
  rcases hx with rfl | rfl | rfl | rfl
  · exact hlk
  · exact hm1
  · exact hm2
  · exact hm3
theorem V_callV5 {a ci : Nat} {x0 x1 x2 x3 x4 : Value} {m' : Mth} {d' mc' ms' : Nat} {Q' : PostV} (h : DV m pc m' pc') (hm : MI m' 5) (hc : Ct d' m' [.ref a, x0, x1, x2, x3, x4] sh R I J mc' ms' Q') (hs : sh[a]? = some (0, ci)) (hci : ∃ T N, vwCl[ci]? = some (m'.1, T, N)) (hd : d' + 1 ≤ d) (hst : ((S.map fun v => v.category).sum) ≤ 8) (hb1 : u1 + mc' ≤ mc) (hb2 : u2 + ms' ≤ ms) (hlen : ∀ r sh' R' I' J', Q' r sh' R' I' J' → sh'.length = sh.length + mc')
    (k : ∀ r sh' R' I' J', Q' r sh' R' I' J' → V m d (u1 + mc') (u2 + ms') mc ms pc' L (r.toList ++ S) sh' R' I' J' Q) : V m d u1 u2 mc ms pc L (x4 :: x3 :: x2 :: x1 :: x0 :: .ref a :: S) sh R I J Q := by
  obtain ⟨idx, hd9, hlk, rfl⟩ := h
  obtain ⟨hm1, hm2, hm3, hm4, hm5, hm6⟩ := hm
  obtain ⟨T, N, hci⟩ := hci
  intro p l e Rm s mid args below meth c H locs ls b D cA F hz hw hS hl
  have hR := F.R
  refine W_sz hz F.bb hw.1 hS (fun hH => ?_)
  refine V_back (as := [.ref a, x0, x1, x2, x3, x4]) F hz hS hl (va_runV (As := [tr b x0, tr b x1, tr b x2, tr b x3, tr b x4]) (rest := S.map (tr b)) ⟨F.x, F.cc, F.ml, F.o, F.t⟩ (hc l b D cA) (cwV 5 F.t (gi_app (fun w hx => ?_) (gi_mws hm4)) rfl rfl rfl hm5 ⟨by show d' + 1 ≤ _; omega, by show 8 + (_ + 11) + 32 * d' ≤ _; omega⟩) ⟨Pc_blind, va_recv hw.2 hw.1 hci (ws_obj hs), fun U hU hW => ⟨rfl, by rw [hU]; exact hH, by rw [hU]; exact hw.moved hW.alike, by rw [hU]; exact (F.lt.kept hS).moved hW.alike, F.nw.warm hW⟩⟩ rfl rfl hl.1 rfl (lv_room (tr_rest b S hst)) hd9 ⟨by omega, by omega⟩) hlen k
  simp only [List.mem_cons, List.not_mem_nil, or_false] at hx
  rcases hx with rfl | rfl | rfl | rfl
  · exact hlk
  · exact hm1
  · exact hm2
  · exact hm3
theorem V_callV6 {a ci : Nat} {x0 x1 x2 x3 x4 x5 : Value} {m' : Mth} {d' mc' ms' : Nat} {Q' : PostV} (h : DV m pc m' pc') (hm : MI m' 6) (hc : Ct d' m' [.ref a, x0, x1, x2, x3, x4, x5] sh R I J mc' ms' Q') (hs : sh[a]? = some (0, ci)) (hci : ∃ T N, vwCl[ci]? = some (m'.1, T, N)) (hd : d' + 1 ≤ d) (hst : ((S.map fun v => v.category).sum) ≤ 8) (hb1 : u1 + mc' ≤ mc) (hb2 : u2 + ms' ≤ ms) (hlen : ∀ r sh' R' I' J', Q' r sh' R' I' J' → sh'.length = sh.length + mc')
    (k : ∀ r sh' R' I' J', Q' r sh' R' I' J' → V m d (u1 + mc') (u2 + ms') mc ms pc' L (r.toList ++ S) sh' R' I' J' Q) : V m d u1 u2 mc ms pc L (x5 :: x4 :: x3 :: x2 :: x1 :: x0 :: .ref a :: S) sh R I J Q := by
  obtain ⟨idx, hd9, hlk, rfl⟩ := h
  obtain ⟨hm1, hm2, hm3, hm4, hm5, hm6⟩ := hm
  obtain ⟨T, N, hci⟩ := hci
  intro p l e Rm s mid args below meth c H locs ls b D cA F hz hw hS hl
  have hR := F.R
  refine W_sz hz F.bb hw.1 hS (fun hH => ?_)
  refine V_back (as := [.ref a, x0, x1, x2, x3, x4, x5]) F hz hS hl (va_runV (As := [tr b x0, tr b x1, tr b x2, tr b x3, tr b x4, tr b x5]) (rest := S.map (tr b)) ⟨F.x, F.cc, F.ml, F.o, F.t⟩ (hc l b D cA) (cwV 6 F.t (gi_app (fun w hx => ?_) (gi_mws hm4)) rfl rfl rfl hm5 ⟨by show d' + 1 ≤ _; omega, by show 8 + (_ + 11) + 32 * d' ≤ _; omega⟩) ⟨Pc_blind, va_recv hw.2 hw.1 hci (ws_obj hs), fun U hU hW => ⟨rfl, by rw [hU]; exact hH, by rw [hU]; exact hw.moved hW.alike, by rw [hU]; exact (F.lt.kept hS).moved hW.alike, F.nw.warm hW⟩⟩ rfl rfl hl.1 rfl (lv_room (tr_rest b S hst)) hd9 ⟨by omega, by omega⟩) hlen k
  simp only [List.mem_cons, List.not_mem_nil, or_false] at hx
  rcases hx with rfl | rfl | rfl | rfl
  · exact hlk
  · exact hm1
  · exact hm2
  · exact hm3
theorem V_callS0 {m' : Mth} {d' mc' ms' : Nat} {Q' : PostV} (h : DS m pc m' pc') (hm : MS m' 0) (hc : Ct d' m' [] sh R I J mc' ms' Q') (hd : d' + 1 ≤ d) (hst : ((S.map fun v => v.category).sum) ≤ 8) (hb1 : u1 + mc' ≤ mc) (hb2 : u2 + ms' ≤ ms) (hlen : ∀ r sh' R' I' J', Q' r sh' R' I' J' → sh'.length = sh.length + mc')
    (k : ∀ r sh' R' I' J', Q' r sh' R' I' J' → V m d (u1 + mc') (u2 + ms') mc ms pc' L (r.toList ++ S) sh' R' I' J' Q) : V m d u1 u2 mc ms pc L (S) sh R I J Q := by
  obtain ⟨idx, hd9, hlk, rfl⟩ := h
  obtain ⟨hm1, hm3, hm4, hm5, hm6⟩ := hm
  intro p l e Rm s mid args below meth c H locs ls b D cA F hz hw hS hl
  have hR := F.R
  refine W_sz hz F.bb hw.1 hS (fun hH => ?_)
  refine V_back (as := []) F hz hS hl (va_runS (As := []) (rest := S.map (tr b)) ⟨F.x, F.cc, F.ml, F.o, F.t⟩ (hc l b D cA) (va_cwS 0 F.t (gi_app (fun w hx => ?_) (gi_mws hm4)) rfl rfl rfl hm5 ⟨by show d' + 1 ≤ _; omega, by show 8 + (_ + 11) + 32 * d' ≤ _; omega⟩) ⟨Pc_blind, fun U hU hW => ⟨rfl, by rw [hU]; exact hH, by rw [hU]; exact hw.moved hW.alike, by rw [hU]; exact (F.lt.kept hS).moved hW.alike, F.nw.warm hW⟩⟩ rfl rfl hl.1 rfl (lv_room (tr_rest b S hst)) hd9 ⟨by omega, by omega⟩) hlen k
  simp only [List.mem_cons, List.not_mem_nil, or_false] at hx
  rcases hx with rfl | rfl | rfl
  · exact hlk
  · exact hm1
  · exact hm3
theorem V_callS1 {x0 : Value} {m' : Mth} {d' mc' ms' : Nat} {Q' : PostV} (h : DS m pc m' pc') (hm : MS m' 1) (hc : Ct d' m' [x0] sh R I J mc' ms' Q') (hd : d' + 1 ≤ d) (hst : ((S.map fun v => v.category).sum) ≤ 8) (hb1 : u1 + mc' ≤ mc) (hb2 : u2 + ms' ≤ ms) (hlen : ∀ r sh' R' I' J', Q' r sh' R' I' J' → sh'.length = sh.length + mc')
    (k : ∀ r sh' R' I' J', Q' r sh' R' I' J' → V m d (u1 + mc') (u2 + ms') mc ms pc' L (r.toList ++ S) sh' R' I' J' Q) : V m d u1 u2 mc ms pc L (x0 :: S) sh R I J Q := by
  obtain ⟨idx, hd9, hlk, rfl⟩ := h
  obtain ⟨hm1, hm3, hm4, hm5, hm6⟩ := hm
  intro p l e Rm s mid args below meth c H locs ls b D cA F hz hw hS hl
  have hR := F.R
  refine W_sz hz F.bb hw.1 hS (fun hH => ?_)
  refine V_back (as := [x0]) F hz hS hl (va_runS (As := [tr b x0]) (rest := S.map (tr b)) ⟨F.x, F.cc, F.ml, F.o, F.t⟩ (hc l b D cA) (va_cwS 1 F.t (gi_app (fun w hx => ?_) (gi_mws hm4)) rfl rfl rfl hm5 ⟨by show d' + 1 ≤ _; omega, by show 8 + (_ + 11) + 32 * d' ≤ _; omega⟩) ⟨Pc_blind, fun U hU hW => ⟨rfl, by rw [hU]; exact hH, by rw [hU]; exact hw.moved hW.alike, by rw [hU]; exact (F.lt.kept hS).moved hW.alike, F.nw.warm hW⟩⟩ rfl rfl hl.1 rfl (lv_room (tr_rest b S hst)) hd9 ⟨by omega, by omega⟩) hlen k
  simp only [List.mem_cons, List.not_mem_nil, or_false] at hx
  rcases hx with rfl | rfl | rfl
  · exact hlk
  · exact hm1
  · exact hm3
theorem V_callS2 {x0 x1 : Value} {m' : Mth} {d' mc' ms' : Nat} {Q' : PostV} (h : DS m pc m' pc') (hm : MS m' 2) (hc : Ct d' m' [x0, x1] sh R I J mc' ms' Q') (hd : d' + 1 ≤ d) (hst : ((S.map fun v => v.category).sum) ≤ 8) (hb1 : u1 + mc' ≤ mc) (hb2 : u2 + ms' ≤ ms) (hlen : ∀ r sh' R' I' J', Q' r sh' R' I' J' → sh'.length = sh.length + mc')
    (k : ∀ r sh' R' I' J', Q' r sh' R' I' J' → V m d (u1 + mc') (u2 + ms') mc ms pc' L (r.toList ++ S) sh' R' I' J' Q) : V m d u1 u2 mc ms pc L (x1 :: x0 :: S) sh R I J Q := by
  obtain ⟨idx, hd9, hlk, rfl⟩ := h
  obtain ⟨hm1, hm3, hm4, hm5, hm6⟩ := hm
  intro p l e Rm s mid args below meth c H locs ls b D cA F hz hw hS hl
  have hR := F.R
  refine W_sz hz F.bb hw.1 hS (fun hH => ?_)
  refine V_back (as := [x0, x1]) F hz hS hl (va_runS (As := [tr b x0, tr b x1]) (rest := S.map (tr b)) ⟨F.x, F.cc, F.ml, F.o, F.t⟩ (hc l b D cA) (va_cwS 2 F.t (gi_app (fun w hx => ?_) (gi_mws hm4)) rfl rfl rfl hm5 ⟨by show d' + 1 ≤ _; omega, by show 8 + (_ + 11) + 32 * d' ≤ _; omega⟩) ⟨Pc_blind, fun U hU hW => ⟨rfl, by rw [hU]; exact hH, by rw [hU]; exact hw.moved hW.alike, by rw [hU]; exact (F.lt.kept hS).moved hW.alike, F.nw.warm hW⟩⟩ rfl rfl hl.1 rfl (lv_room (tr_rest b S hst)) hd9 ⟨by omega, by omega⟩) hlen k
  simp only [List.mem_cons, List.not_mem_nil, or_false] at hx
  rcases hx with rfl | rfl | rfl
  · exact hlk
  · exact hm1
  · exact hm3
theorem V_callS3 {x0 x1 x2 : Value} {m' : Mth} {d' mc' ms' : Nat} {Q' : PostV} (h : DS m pc m' pc') (hm : MS m' 3) (hc : Ct d' m' [x0, x1, x2] sh R I J mc' ms' Q') (hd : d' + 1 ≤ d) (hst : ((S.map fun v => v.category).sum) ≤ 8) (hb1 : u1 + mc' ≤ mc) (hb2 : u2 + ms' ≤ ms) (hlen : ∀ r sh' R' I' J', Q' r sh' R' I' J' → sh'.length = sh.length + mc')
    (k : ∀ r sh' R' I' J', Q' r sh' R' I' J' → V m d (u1 + mc') (u2 + ms') mc ms pc' L (r.toList ++ S) sh' R' I' J' Q) : V m d u1 u2 mc ms pc L (x2 :: x1 :: x0 :: S) sh R I J Q := by
  obtain ⟨idx, hd9, hlk, rfl⟩ := h
  obtain ⟨hm1, hm3, hm4, hm5, hm6⟩ := hm
  intro p l e Rm s mid args below meth c H locs ls b D cA F hz hw hS hl
  have hR := F.R
  refine W_sz hz F.bb hw.1 hS (fun hH => ?_)
  refine V_back (as := [x0, x1, x2]) F hz hS hl (va_runS (As := [tr b x0, tr b x1, tr b x2]) (rest := S.map (tr b)) ⟨F.x, F.cc, F.ml, F.o, F.t⟩ (hc l b D cA) (va_cwS 3 F.t (gi_app (fun w hx => ?_) (gi_mws hm4)) rfl rfl rfl hm5 ⟨by show d' + 1 ≤ _; omega, by show 8 + (_ + 11) + 32 * d' ≤ _; omega⟩) ⟨Pc_blind, fun U hU hW => ⟨rfl, by rw [hU]; exact hH, by rw [hU]; exact hw.moved hW.alike, by rw [hU]; exact (F.lt.kept hS).moved hW.alike, F.nw.warm hW⟩⟩ rfl rfl hl.1 rfl (lv_room (tr_rest b S hst)) hd9 ⟨by omega, by omega⟩) hlen k
  simp only [List.mem_cons, List.not_mem_nil, or_false] at hx
  rcases hx with rfl | rfl | rfl
  · exact hlk
  · exact hm1
  · exact hm3
theorem V_callS4 {x0 x1 x2 x3 : Value} {m' : Mth} {d' mc' ms' : Nat} {Q' : PostV} (h : DS m pc m' pc') (hm : MS m' 4) (hc : Ct d' m' [x0, x1, x2, x3] sh R I J mc' ms' Q') (hd : d' + 1 ≤ d) (hst : ((S.map fun v => v.category).sum) ≤ 8) (hb1 : u1 + mc' ≤ mc) (hb2 : u2 + ms' ≤ ms) (hlen : ∀ r sh' R' I' J', Q' r sh' R' I' J' → sh'.length = sh.length + mc')
    (k : ∀ r sh' R' I' J', Q' r sh' R' I' J' → V m d (u1 + mc') (u2 + ms') mc ms pc' L (r.toList ++ S) sh' R' I' J' Q) : V m d u1 u2 mc ms pc L (x3 :: x2 :: x1 :: x0 :: S) sh R I J Q := by
  obtain ⟨idx, hd9, hlk, rfl⟩ := h
  obtain ⟨hm1, hm3, hm4, hm5, hm6⟩ := hm
  intro p l e Rm s mid args below meth c H locs ls b D cA F hz hw hS hl
  have hR := F.R
  refine W_sz hz F.bb hw.1 hS (fun hH => ?_)
  refine V_back (as := [x0, x1, x2, x3]) F hz hS hl (va_runS (As := [tr b x0, tr b x1, tr b x2, tr b x3]) (rest := S.map (tr b)) ⟨F.x, F.cc, F.ml, F.o, F.t⟩ (hc l b D cA) (va_cwS 4 F.t (gi_app (fun w hx => ?_) (gi_mws hm4)) rfl rfl rfl hm5 ⟨by show d' + 1 ≤ _; omega, by show 8 + (_ + 11) + 32 * d' ≤ _; omega⟩) ⟨Pc_blind, fun U hU hW => ⟨rfl, by rw [hU]; exact hH, by rw [hU]; exact hw.moved hW.alike, by rw [hU]; exact (F.lt.kept hS).moved hW.alike, F.nw.warm hW⟩⟩ rfl rfl hl.1 rfl (lv_room (tr_rest b S hst)) hd9 ⟨by omega, by omega⟩) hlen k
  simp only [List.mem_cons, List.not_mem_nil, or_false] at hx
  rcases hx with rfl | rfl | rfl
  · exact hlk
  · exact hm1
  · exact hm3
theorem V_callS5 {x0 x1 x2 x3 x4 : Value} {m' : Mth} {d' mc' ms' : Nat} {Q' : PostV} (h : DS m pc m' pc') (hm : MS m' 5) (hc : Ct d' m' [x0, x1, x2, x3, x4] sh R I J mc' ms' Q') (hd : d' + 1 ≤ d) (hst : ((S.map fun v => v.category).sum) ≤ 8) (hb1 : u1 + mc' ≤ mc) (hb2 : u2 + ms' ≤ ms) (hlen : ∀ r sh' R' I' J', Q' r sh' R' I' J' → sh'.length = sh.length + mc')
    (k : ∀ r sh' R' I' J', Q' r sh' R' I' J' → V m d (u1 + mc') (u2 + ms') mc ms pc' L (r.toList ++ S) sh' R' I' J' Q) : V m d u1 u2 mc ms pc L (x4 :: x3 :: x2 :: x1 :: x0 :: S) sh R I J Q := by
  obtain ⟨idx, hd9, hlk, rfl⟩ := h
  obtain ⟨hm1, hm3, hm4, hm5, hm6⟩ := hm
  intro p l e Rm s mid args below meth c H locs ls b D cA F hz hw hS hl
  have hR := F.R
  refine W_sz hz F.bb hw.1 hS (fun hH => ?_)
  refine V_back (as := [x0, x1, x2, x3, x4]) F hz hS hl (va_runS (As := [tr b x0, tr b x1, tr b x2, tr b x3, tr b x4]) (rest := S.map (tr b)) ⟨F.x, F.cc, F.ml, F.o, F.t⟩ (hc l b D cA) (va_cwS 5 F.t (gi_app (fun w hx => ?_) (gi_mws hm4)) rfl rfl rfl hm5 ⟨by show d' + 1 ≤ _; omega, by show 8 + (_ + 11) + 32 * d' ≤ _; omega⟩) ⟨Pc_blind, fun U hU hW => ⟨rfl, by rw [hU]; exact hH, by rw [hU]; exact hw.moved hW.alike, by rw [hU]; exact (F.lt.kept hS).moved hW.alike, F.nw.warm hW⟩⟩ rfl rfl hl.1 rfl (lv_room (tr_rest b S hst)) hd9 ⟨by omega, by omega⟩) hlen k
  simp only [List.mem_cons, List.not_mem_nil, or_false] at hx
  rcases hx with rfl | rfl | rfl
  · exact hlk
  · exact hm1
  · exact hm3
theorem V_callS6 {x0 x1 x2 x3 x4 x5 : Value} {m' : Mth} {d' mc' ms' : Nat} {Q' : PostV} (h : DS m pc m' pc') (hm : MS m' 6) (hc : Ct d' m' [x0, x1, x2, x3, x4, x5] sh R I J mc' ms' Q') (hd : d' + 1 ≤ d) (hst : ((S.map fun v => v.category).sum) ≤ 8) (hb1 : u1 + mc' ≤ mc) (hb2 : u2 + ms' ≤ ms) (hlen : ∀ r sh' R' I' J', Q' r sh' R' I' J' → sh'.length = sh.length + mc')
    (k : ∀ r sh' R' I' J', Q' r sh' R' I' J' → V m d (u1 + mc') (u2 + ms') mc ms pc' L (r.toList ++ S) sh' R' I' J' Q) : V m d u1 u2 mc ms pc L (x5 :: x4 :: x3 :: x2 :: x1 :: x0 :: S) sh R I J Q := by
  obtain ⟨idx, hd9, hlk, rfl⟩ := h
  obtain ⟨hm1, hm3, hm4, hm5, hm6⟩ := hm
  intro p l e Rm s mid args below meth c H locs ls b D cA F hz hw hS hl
  have hR := F.R
  refine W_sz hz F.bb hw.1 hS (fun hH => ?_)
  refine V_back (as := [x0, x1, x2, x3, x4, x5]) F hz hS hl (va_runS (As := [tr b x0, tr b x1, tr b x2, tr b x3, tr b x4, tr b x5]) (rest := S.map (tr b)) ⟨F.x, F.cc, F.ml, F.o, F.t⟩ (hc l b D cA) (va_cwS 6 F.t (gi_app (fun w hx => ?_) (gi_mws hm4)) rfl rfl rfl hm5 ⟨by show d' + 1 ≤ _; omega, by show 8 + (_ + 11) + 32 * d' ≤ _; omega⟩) ⟨Pc_blind, fun U hU hW => ⟨rfl, by rw [hU]; exact hH, by rw [hU]; exact hw.moved hW.alike, by rw [hU]; exact (F.lt.kept hS).moved hW.alike, F.nw.warm hW⟩⟩ rfl rfl hl.1 rfl (lv_room (tr_rest b S hst)) hd9 ⟨by omega, by omega⟩) hlen k
  simp only [List.mem_cons, List.not_mem_nil, or_false] at hx
  rcases hx with rfl | rfl | rfl
  · exact hlk
  · exact hm1
  · exact hm3
theorem V_callI0 {a ci : Nat} {m' : Mth} {d' mc' ms' : Nat} {Q' : PostV} (h : DI m pc m' pc') (hm : MC m' 0) (hc : Ct d' m' [.ref a] sh R I J mc' ms' Q') (hd : d' + 1 ≤ d) (hst : ((S.map fun v => v.category).sum) ≤ 8) (hb1 : u1 + mc' ≤ mc) (hb2 : u2 + ms' ≤ ms) (hlen : ∀ r sh' R' I' J', Q' r sh' R' I' J' → sh'.length = sh.length + mc')
    (k : ∀ r sh' R' I' J', Q' r sh' R' I' J' → V m d (u1 + mc') (u2 + ms') mc ms pc' L (r.toList ++ S) sh' R' I' J' Q) : V m d u1 u2 mc ms pc L (.ref a :: S) sh R I J Q := by
  obtain ⟨idx, hd9, hlk, rfl⟩ := h
  obtain ⟨hm1, hm3, hm4, hmr, hmn, hm5, hm6⟩ := hm
  intro p l e Rm s mid args below meth c H locs ls b D cA F hz hw hS hl
  have hR := F.R
  refine W_sz hz F.bb hw.1 hS (fun hH => ?_)
  have hmw : mws m' = Cond.code m'.2.1 m'.2.2.1 m'.2.2.2.1 none :: gtb := by unfold mws; rw [hmr]
  rcases hlk with hlk | ⟨host, hlk⟩
  · exact V_back (as := [.ref a]) F hz hS hl (va_runI (As := []) (rest := S.map (tr b)) ⟨F.x, F.cc, F.ml, F.o, F.t⟩ (hc l b D cA) (cwI 0 F.t (gi_mws (by rw [hmr]; exact hm4)) hmw rfl rfl (F.t _ hm3) (F.t _ hlk) (F.t _ hm1) hmn hm5 ⟨by show d' + 1 ≤ _; omega, by show 8 + (_ + 11) + 32 * d' ≤ _; omega⟩) ⟨Pc_blind, fun U hU hW => ⟨rfl, by rw [hU]; exact hH, by rw [hU]; exact hw.moved hW.alike, by rw [hU]; exact (F.lt.kept hS).moved hW.alike, F.nw.warm hW⟩⟩ rfl rfl hl.1 rfl (lv_room (tr_rest b S hst)) hd9 ⟨by omega, by omega⟩) hlen k
  · exact V_back (as := [.ref a]) F hz hS hl (va_runIN (As := []) (rest := S.map (tr b)) ⟨F.x, F.cc, F.ml, F.o, F.t⟩ (hc l b D cA) ⟨va_cnB (host := host) 0 F.t (gi_mws (by rw [hmr]; exact hm4)) hmw rfl rfl (F.nw.1 _ hlk) (F.t _ hm3) hm5 ⟨by show d' + 1 ≤ _; omega, by show 8 + (_ + 11) + 32 * d' ≤ _; omega⟩, hmn, F.t _ hm1⟩ ⟨Pc_blind, fun U hU hW => ⟨rfl, by rw [hU]; exact hH, by rw [hU]; exact hw.moved hW.alike, by rw [hU]; exact (F.lt.kept hS).moved hW.alike, F.nw.warm hW⟩⟩ rfl rfl hl.1 rfl (lv_room (tr_rest b S hst)) hd9 ⟨by omega, by omega⟩) hlen k
theorem V_callI1 {a ci : Nat} {x0 : Value} {m' : Mth} {d' mc' ms' : Nat} {Q' : PostV} (h : DI m pc m' pc') (hm : MC m' 1) (hc : Ct d' m' [.ref a, x0] sh R I J mc' ms' Q') (hd : d' + 1 ≤ d) (hst : ((S.map fun v => v.category).sum) ≤ 8) (hb1 : u1 + mc' ≤ mc) (hb2 : u2 + ms' ≤ ms) (hlen : ∀ r sh' R' I' J', Q' r sh' R' I' J' → sh'.length = sh.length + mc')
    (k : ∀ r sh' R' I' J', Q' r sh' R' I' J' → V m d (u1 + mc') (u2 + ms') mc ms pc' L (r.toList ++ S) sh' R' I' J' Q) : V m d u1 u2 mc ms pc L (x0 :: .ref a :: S) sh R I J Q := by
  obtain ⟨idx, hd9, hlk, rfl⟩ := h
  obtain ⟨hm1, hm3, hm4, hmr, hmn, hm5, hm6⟩ := hm
  intro p l e Rm s mid args below meth c H locs ls b D cA F hz hw hS hl
  have hR := F.R
  refine W_sz hz F.bb hw.1 hS (fun hH => ?_)
  have hmw : mws m' = Cond.code m'.2.1 m'.2.2.1 m'.2.2.2.1 none :: gtb := by unfold mws; rw [hmr]
  rcases hlk with hlk | ⟨host, hlk⟩
  · exact V_back (as := [.ref a, x0]) F hz hS hl (va_runI (As := [tr b x0]) (rest := S.map (tr b)) ⟨F.x, F.cc, F.ml, F.o, F.t⟩ (hc l b D cA) (cwI 1 F.t (gi_mws (by rw [hmr]; exact hm4)) hmw rfl rfl (F.t _ hm3) (F.t _ hlk) (F.t _ hm1) hmn hm5 ⟨by show d' + 1 ≤ _; omega, by show 8 + (_ + 11) + 32 * d' ≤ _; omega⟩) ⟨Pc_blind, fun U hU hW => ⟨rfl, by rw [hU]; exact hH, by rw [hU]; exact hw.moved hW.alike, by rw [hU]; exact (F.lt.kept hS).moved hW.alike, F.nw.warm hW⟩⟩ rfl rfl hl.1 rfl (lv_room (tr_rest b S hst)) hd9 ⟨by omega, by omega⟩) hlen k
  · exact V_back (as := [.ref a, x0]) F hz hS hl (va_runIN (As := [tr b x0]) (rest := S.map (tr b)) ⟨F.x, F.cc, F.ml, F.o, F.t⟩ (hc l b D cA) ⟨va_cnB (host := host) 1 F.t (gi_mws (by rw [hmr]; exact hm4)) hmw rfl rfl (F.nw.1 _ hlk) (F.t _ hm3) hm5 ⟨by show d' + 1 ≤ _; omega, by show 8 + (_ + 11) + 32 * d' ≤ _; omega⟩, hmn, F.t _ hm1⟩ ⟨Pc_blind, fun U hU hW => ⟨rfl, by rw [hU]; exact hH, by rw [hU]; exact hw.moved hW.alike, by rw [hU]; exact (F.lt.kept hS).moved hW.alike, F.nw.warm hW⟩⟩ rfl rfl hl.1 rfl (lv_room (tr_rest b S hst)) hd9 ⟨by omega, by omega⟩) hlen k
theorem V_callI2 {a ci : Nat} {x0 x1 : Value} {m' : Mth} {d' mc' ms' : Nat} {Q' : PostV} (h : DI m pc m' pc') (hm : MC m' 2) (hc : Ct d' m' [.ref a, x0, x1] sh R I J mc' ms' Q') (hd : d' + 1 ≤ d) (hst : ((S.map fun v => v.category).sum) ≤ 8) (hb1 : u1 + mc' ≤ mc) (hb2 : u2 + ms' ≤ ms) (hlen : ∀ r sh' R' I' J', Q' r sh' R' I' J' → sh'.length = sh.length + mc')
    (k : ∀ r sh' R' I' J', Q' r sh' R' I' J' → V m d (u1 + mc') (u2 + ms') mc ms pc' L (r.toList ++ S) sh' R' I' J' Q) : V m d u1 u2 mc ms pc L (x1 :: x0 :: .ref a :: S) sh R I J Q := by
  obtain ⟨idx, hd9, hlk, rfl⟩ := h
  obtain ⟨hm1, hm3, hm4, hmr, hmn, hm5, hm6⟩ := hm
  intro p l e Rm s mid args below meth c H locs ls b D cA F hz hw hS hl
  have hR := F.R
  refine W_sz hz F.bb hw.1 hS (fun hH => ?_)
  have hmw : mws m' = Cond.code m'.2.1 m'.2.2.1 m'.2.2.2.1 none :: gtb := by unfold mws; rw [hmr]
  rcases hlk with hlk | ⟨host, hlk⟩
  · exact V_back (as := [.ref a, x0, x1]) F hz hS hl (va_runI (As := [tr b x0, tr b x1]) (rest := S.map (tr b)) ⟨F.x, F.cc, F.ml, F.o, F.t⟩ (hc l b D cA) (cwI 2 F.t (gi_mws (by rw [hmr]; exact hm4)) hmw rfl rfl (F.t _ hm3) (F.t _ hlk) (F.t _ hm1) hmn hm5 ⟨by show d' + 1 ≤ _; omega, by show 8 + (_ + 11) + 32 * d' ≤ _; omega⟩) ⟨Pc_blind, fun U hU hW => ⟨rfl, by rw [hU]; exact hH, by rw [hU]; exact hw.moved hW.alike, by rw [hU]; exact (F.lt.kept hS).moved hW.alike, F.nw.warm hW⟩⟩ rfl rfl hl.1 rfl (lv_room (tr_rest b S hst)) hd9 ⟨by omega, by omega⟩) hlen k
  · exact V_back (as := [.ref a, x0, x1]) F hz hS hl (va_runIN (As := [tr b x0, tr b x1]) (rest := S.map (tr b)) ⟨F.x, F.cc, F.ml, F.o, F.t⟩ (hc l b D cA) ⟨va_cnB (host := host) 2 F.t (gi_mws (by rw [hmr]; exact hm4)) hmw rfl rfl (F.nw.1 _ hlk) (F.t _ hm3) hm5 ⟨by show d' + 1 ≤ _; omega, by show 8 + (_ + 11) + 32 * d' ≤ _; omega⟩, hmn, F.t _ hm1⟩ ⟨Pc_blind, fun U hU hW => ⟨rfl, by rw [hU]; exact hH, by rw [hU]; exact hw.moved hW.alike, by rw [hU]; exact (F.lt.kept hS).moved hW.alike, F.nw.warm hW⟩⟩ rfl rfl hl.1 rfl (lv_room (tr_rest b S hst)) hd9 ⟨by omega, by omega⟩) hlen k
end VC
