
/-! ===== the law's own frame: the same small machine, whose script lies below the base ===== -/
def LW.ScrT : Type := Nat × Nat × (Nat → Int32)
def LW.Fx (m : Mth) (d mc ms b : Nat) (p : Program) (Rm : Room) (s : State) (mid : MethodId) (args : Array Value) (meth : Method) (c : Code) (Q : LW.ScrT) : Prop :=
  (p.tables.exec = Jvm.exec ∧ c.code = m.2.2.1 ∧ meth.sig.returnType = m.2.2.2.2 ∧ c.maxLocals = m.2.2.2.1 ∧ s.vm.findClass m.1 = some mid.cls ∧ (∀ w ∈ gtb, w.before args s = true) ∧ meth.locks = false ∧ (d ≤ Rm.frames ∧ 32 * d ≤ Rm.locals ∧ mc ≤ Rm.cells ∧ ms ≤ Rm.slots) ∧ b ≤ s.heap.size ∧ LT b s s.heap ∧ NW s) ∧ args = #[.ref Q.1] ∧ va_X Q.1 Q.2.1 Q.2.2 s s.heap ∧ Q.1 < b ∧ s.heap.size ≤ b ∧ Q.2.1 ≤ 3072 ∧ Rm = room_1
def LW.V (m : Mth) (d u1 u2 mc ms : Nat) (pc : Nat) (L : List (Nat × Value)) (S : List Value) (sh : List Shp) (R : RefM) (I : IntM) (J : LngM) (Q : LW.ScrT) : Prop :=
  ∀ (p : Program) (l : Launch) (e : Env) (Rm : Room) (s : State) (mid : MethodId) (args : Array Value) (below : List Frame) (meth : Method) (c : Code) (H : Heap) (locs : List Loc) (ls : Array Slot) (b : Nat) (D : va_G) (cA : Nat → ClassId),
    Fx m d mc ms b p Rm s mid args meth c Q → s.heap.size + u1 = b + sh.length → WOK b D cA sh R I J s H → va_S (fun q => b ≤ q) s.heap H locs → lv_has ls m.2.2.2.1 ((0, .ref Q.1) :: L.map (fun q => (q.1, tr b q.2))) →
    W p l e Rm s mid args below meth c H locs u1 u2 (lw_Z below args s) (F0 mid pc ls (S.map (tr b)))
section FX
variable {m : Mth} {d mc ms b : Nat} {p : Program} {Rm : Room} {s : State} {mid : MethodId} {args : Array Value} {meth : Method} {c : Code} {Q : LW.ScrT}
theorem LW.Fx.x (F : Fx m d mc ms b p Rm s mid args meth c Q) : p.tables.exec = Jvm.exec := F.1.1
theorem LW.Fx.cc (F : Fx m d mc ms b p Rm s mid args meth c Q) : c.code = m.2.2.1 := F.1.2.1
theorem LW.Fx.r (F : Fx m d mc ms b p Rm s mid args meth c Q) : meth.sig.returnType = m.2.2.2.2 := F.1.2.2.1
theorem LW.Fx.ml (F : Fx m d mc ms b p Rm s mid args meth c Q) : c.maxLocals = m.2.2.2.1 := F.1.2.2.2.1
theorem LW.Fx.o (F : Fx m d mc ms b p Rm s mid args meth c Q) : s.vm.findClass m.1 = some mid.cls := F.1.2.2.2.2.1
theorem LW.Fx.t (F : Fx m d mc ms b p Rm s mid args meth c Q) : ∀ w ∈ gtb, w.before args s = true := F.1.2.2.2.2.2.1
theorem LW.Fx.k (F : Fx m d mc ms b p Rm s mid args meth c Q) : meth.locks = false := F.1.2.2.2.2.2.2.1
theorem LW.Fx.R (F : Fx m d mc ms b p Rm s mid args meth c Q) : d ≤ Rm.frames ∧ 32 * d ≤ Rm.locals ∧ mc ≤ Rm.cells ∧ ms ≤ Rm.slots := F.1.2.2.2.2.2.2.2.1
theorem LW.Fx.bb (F : Fx m d mc ms b p Rm s mid args meth c Q) : b ≤ s.heap.size := F.1.2.2.2.2.2.2.2.2.1
theorem LW.Fx.lt (F : Fx m d mc ms b p Rm s mid args meth c Q) : LT b s s.heap := F.1.2.2.2.2.2.2.2.2.2.1
theorem LW.Fx.nw (F : Fx m d mc ms b p Rm s mid args meth c Q) : NW s := F.1.2.2.2.2.2.2.2.2.2.2
end FX
theorem LW.lv_mono {ls : Array Slot} {nL : Nat} {A B : List (Nat × Value)} (h : lv_has ls nL A) (hs : ∀ q, q ∈ B → q ∈ A) : lv_has ls nL B := ⟨h.1, h.2.1, fun q hq => h.2.2 q (hs q hq)⟩
theorem LW.lk_at {b : Nat} {ls : Array Slot} {nL i : Nat} {L : List (Nat × Value)} {v : Value} {z : Nat × Value} (h : lv_has ls nL (z :: L.map (fun q => (q.1, tr b q.2)))) (hk : lkL L i = some v) : ls[i]? = some (.val (tr b v)) :=
  h.2.2 (i, tr b v) (List.mem_cons_of_mem _ (List.mem_map.mpr ⟨(i, v), lk_mem hk, rfl⟩))
theorem LW.zub_lv {b : Nat} {ls : Array Slot} {nL : Nat} {L L' : List (Nat × Value)} {z : Nat × Value} (h : lv_has ls nL (z :: L.map (fun q => (q.1, tr b q.2)))) (hs : subL L' L) : lv_has ls nL (z :: L'.map (fun q => (q.1, tr b q.2))) := by
  have h1 := sub_lv (lv_mono h (fun q hq => List.mem_cons_of_mem _ hq)) hs
  exact ⟨h.1, h.2.1, fun q hq => by
    rcases List.mem_cons.mp hq with rfl | hq
    · exact h.2.2 _ List.mem_cons_self
    · exact h1.2.2 q hq⟩
theorem LW.st_lv {b : Nat} {ls : Array Slot} {nL i a : Nat} {v : Value} {L : List (Nat × Value)} (hi : i ≠ 0) (h : lv_has ls nL ((i, tr b v) :: ((0, Value.ref a) :: L.map (fun q => (q.1, tr b q.2))).filter (fun q => !(q.1 == i) && !(q.1 + 1 == i && q.2.category == 2)))) : lv_has ls nL ((0, .ref a) :: (st1 i v L).map (fun q => (q.1, tr b q.2))) := by
  rw [st1_map]
  refine lv_mono h (fun q hq => ?_)
  have e : ((0, Value.ref a) :: L.map (fun q => (q.1, tr b q.2))).filter (fun q => !(q.1 == i) && !(q.1 + 1 == i && q.2.category == 2)) = (0, Value.ref a) :: (L.map (fun q => (q.1, tr b q.2))).filter (fun q => !(q.1 == i) && !(q.1 + 1 == i && q.2.category == 2)) := by
    rw [List.filter_cons_of_pos]
    have h0 : ((0 : Nat) == i) = false := by rw [beq_eq_false_iff_ne]; exact fun z => hi z.symm
    simp [h0, Value.category]
  rw [e]
  simp only [List.mem_cons] at hq ⊢
  rcases hq with h | h | h
  · exact Or.inr (Or.inl h)
  · exact Or.inl h
  · exact Or.inr (Or.inr h)
section VR
variable {m : Mth} {d u1 u2 mc ms pc pc' : Nat} {L L' : List (Nat × Value)} {S : List Value} {sh : List Shp} {R : RefM} {I : IntM} {J : LngM} {Q : LW.ScrT}
theorem LW.V_il {i : Nat} {x : Int32} (h : Dil m pc i pc') (hk : lkL L i = some (.int x)) (k : V m d u1 u2 mc ms pc' L (.int x :: S) sh R I J Q) : V m d u1 u2 mc ms pc L (S) sh R I J Q := by
  intro p l e Rm s mid args below meth c H locs ls b D cA F hz hw hS hl
  rcases h with ⟨k4, hd, rfl, rfl⟩ | ⟨hd, rfl⟩
  · exact lv_iload_n F.x F.cc hd rfl (lk_at hl hk) (k p l e Rm s mid args below meth c H locs ls b D cA F hz hw hS hl)
  · exact lv_iload F.x F.cc hd (lk_at hl hk) (k p l e Rm s mid args below meth c H locs ls b D cA F hz hw hS hl)
theorem LW.V_al {i : Nat} {x : Nat} (h : Dal m pc i pc') (hk : lkL L i = some (.ref x)) (k : V m d u1 u2 mc ms pc' L (.ref x :: S) sh R I J Q) : V m d u1 u2 mc ms pc L (S) sh R I J Q := by
  intro p l e Rm s mid args below meth c H locs ls b D cA F hz hw hS hl
  rcases h with ⟨k4, hd, rfl, rfl⟩ | ⟨hd, rfl⟩
  · exact lv_aload_n F.x F.cc hd rfl (lk_at hl hk) (k p l e Rm s mid args below meth c H locs ls b D cA F hz hw hS hl)
  · exact lv_aload F.x F.cc hd (lk_at hl hk) (k p l e Rm s mid args below meth c H locs ls b D cA F hz hw hS hl)
theorem LW.V_is {i : Nat} {x : Int32} (h : Dis m pc i pc') (hi : i < m.2.2.2.1) (hi0 : i ≠ 0) (hs : subL L' (st1 i (.int x) L)) (k : V m d u1 u2 mc ms pc' L' (S) sh R I J Q) : V m d u1 u2 mc ms pc L (.int x :: S) sh R I J Q := by
  intro p l e Rm s mid args below meth c H locs ls b D cA F hz hw hS hl
  rcases h with ⟨k4, hd, rfl, rfl⟩ | ⟨hd, rfl⟩
  · exact lv_istore_n F.x F.cc hd rfl hl hi rfl (fun ls2 hl2 => k p l e Rm s mid args below meth c H locs ls2 b D cA F hz hw hS (zub_lv (st_lv (v := .int x) (L := L) hi0 hl2) hs))
  · exact lv_istore F.x F.cc hd hl hi rfl (fun ls2 hl2 => k p l e Rm s mid args below meth c H locs ls2 b D cA F hz hw hS (zub_lv (st_lv (v := .int x) (L := L) hi0 hl2) hs))
theorem LW.V_as {i : Nat} {x : Nat} (h : Das m pc i pc') (hi : i < m.2.2.2.1) (hi0 : i ≠ 0) (hs : subL L' (st1 i (.ref x) L)) (k : V m d u1 u2 mc ms pc' L' (S) sh R I J Q) : V m d u1 u2 mc ms pc L (.ref x :: S) sh R I J Q := by
  intro p l e Rm s mid args below meth c H locs ls b D cA F hz hw hS hl
  rcases h with ⟨k4, hd, rfl, rfl⟩ | ⟨hd, rfl⟩
  · exact lv_astore_n F.x F.cc hd rfl hl hi rfl (fun ls2 hl2 => k p l e Rm s mid args below meth c H locs ls2 b D cA F hz hw hS (zub_lv (st_lv (v := .ref x) (L := L) hi0 hl2) hs))
  · exact lv_astore F.x F.cc hd hl hi rfl (fun ls2 hl2 => k p l e Rm s mid args below meth c H locs ls2 b D cA F hz hw hS (zub_lv (st_lv (v := .ref x) (L := L) hi0 hl2) hs))
theorem LW.V_L (hs : subL L' L) (k : V m d u1 u2 mc ms pc L' S sh R I J Q) : V m d u1 u2 mc ms pc L S sh R I J Q := fun p l e Rm s mid args below meth c H locs ls b D cA F hz hw hS hl => k p l e Rm s mid args below meth c H locs ls b D cA F hz hw hS (zub_lv hl hs)
theorem LW.V_iinc {i : Nat} {n : Int} {x n' : Int32} (h : D1 m pc (.iinc i n) 3 pc') (hn : Int32.ofInt n = n') (hk : lkL L i = some (.int x)) (hi : i < m.2.2.2.1) (hi0 : i ≠ 0) (hs : subL L' (st1 i (.int (x + n')) L)) (k : V m d u1 u2 mc ms pc' L' (S) sh R I J Q) : V m d u1 u2 mc ms pc L (S) sh R I J Q := by
  subst hn
  obtain ⟨hd, rfl⟩ := h
  intro p l e Rm s mid args below meth c H locs ls b D cA F hz hw hS hl
  obtain ⟨k9, hk9⟩ := lk_idx (b := b) hk
  exact lv_iinc (v := x + Int32.ofInt n) F.x F.cc hd hl (k := k9 + 1) (by rw [List.getElem?_cons_succ]; exact hk9) rfl hi rfl (fun ls2 hl2 => k p l e Rm s mid args below meth c H locs ls2 b D cA F hz hw hS (zub_lv (st_lv (v := .int (x + Int32.ofInt n)) (L := L) hi0 hl2) hs))
theorem LW.V_c {v : Int32} (h : Dc m pc v pc') (k : V m d u1 u2 mc ms pc' L (.int v :: S) sh R I J Q) : V m d u1 u2 mc ms pc L (S) sh R I J Q := by
  intro p l e Rm s mid args below meth c H locs ls b D cA F hz hw hS hl
  rcases h with ⟨n, hd, hv, rfl⟩ | ⟨n, hd, hv, rfl⟩ | ⟨n, hd, hv, rfl⟩ | ⟨n, hd, hc, rfl⟩ | ⟨n, hd, hc, rfl⟩
  · exact lv_iconst F.x F.cc hd hv (k p l e Rm s mid args below meth c H locs ls b D cA F hz hw hS hl)
  · exact lv_bipush F.x F.cc hd hv (k p l e Rm s mid args below meth c H locs ls b D cA F hz hw hS hl)
  · exact lv_sipush F.x F.cc hd hv (k p l e Rm s mid args below meth c H locs ls b D cA F hz hw hS hl)
  · exact lv_ldc F.x F.cc F.o (F.t _ hc) hd (k p l e Rm s mid args below meth c H locs ls b D cA F hz hw hS hl)
  · exact lv_ldcw F.x F.cc F.o (F.t _ hc) hd (k p l e Rm s mid args below meth c H locs ls b D cA F hz hw hS hl)
theorem LW.V_isub {x y : Int32} (h : D1 m pc .isub 1 pc') (k : V m d u1 u2 mc ms pc' L (.int (x - y) :: S) sh R I J Q) : V m d u1 u2 mc ms pc L (.int y :: .int x :: S) sh R I J Q := by
  obtain ⟨hd, rfl⟩ := h
  intro p l e Rm s mid args below meth c H locs ls b D cA F hz hw hS hl
  exact lv_isub F.x F.cc hd (k p l e Rm s mid args below meth c H locs ls b D cA F hz hw hS hl)
theorem LW.V_iand {x y : Int32} (h : D1 m pc .iand 1 pc') (k : V m d u1 u2 mc ms pc' L (.int (x &&& y) :: S) sh R I J Q) : V m d u1 u2 mc ms pc L (.int y :: .int x :: S) sh R I J Q := by
  obtain ⟨hd, rfl⟩ := h
  intro p l e Rm s mid args below meth c H locs ls b D cA F hz hw hS hl
  exact lv_iand F.x F.cc hd (k p l e Rm s mid args below meth c H locs ls b D cA F hz hw hS hl)
theorem LW.V_lcmp {x y : Int64} (h : D1 m pc .lcmp 1 pc') (k : V m d u1 u2 mc ms pc' L (.int (lg_cmp x y) :: S) sh R I J Q) : V m d u1 u2 mc ms pc L (.long y :: .long x :: S) sh R I J Q := by
  obtain ⟨hd, rfl⟩ := h
  intro p l e Rm s mid args below meth c H locs ls b D cA F hz hw hS hl
  exact W.lcmp F.x F.cc hd (k p l e Rm s mid args below meth c H locs ls b D cA F hz hw hS hl)
theorem LW.V_dup {v : Value} (h : D1 m pc .dup 1 pc') (hv : v.category = 1) (k : V m d u1 u2 mc ms pc' L (v :: v :: S) sh R I J Q) : V m d u1 u2 mc ms pc L (v :: S) sh R I J Q := by
  obtain ⟨hd, rfl⟩ := h
  intro p l e Rm s mid args below meth c H locs ls b D cA F hz hw hS hl
  exact lv_dup F.x F.cc hd (by rw [tr_cat]; exact hv) (k p l e Rm s mid args below meth c H locs ls b D cA F hz hw hS hl)
theorem LW.V_if_eq {x : Int32} {off : Int} {tgt : Nat} (h : D2 m pc (.ifCond .eq off) off pc' tgt) (kt : x = 0 → V m d u1 u2 mc ms tgt L S sh R I J Q) (kf : ¬ x = 0 → V m d u1 u2 mc ms pc' L S sh R I J Q) : V m d u1 u2 mc ms pc L (.int x :: S) sh R I J Q := by
  obtain ⟨hd, rfl, ht⟩ := h
  intro p l e Rm s mid args below meth c H locs ls b D cA F hz hw hS hl
  exact lv_if_eq F.x F.cc hd ht (fun hc => kt hc p l e Rm s mid args below meth c H locs ls b D cA F hz hw hS hl) (fun hc => kf hc p l e Rm s mid args below meth c H locs ls b D cA F hz hw hS hl)
theorem LW.V_if_eq_t {x : Int32} {off : Int} {tgt : Nat} (h : D2 m pc (.ifCond .eq off) off pc' tgt) (hc : x = 0) (k : V m d u1 u2 mc ms tgt L S sh R I J Q) : V m d u1 u2 mc ms pc L (.int x :: S) sh R I J Q := V_if_eq h (fun _ => k) (fun h2 => absurd hc (by first | exact h2 | exact not_not_intro h2))
theorem LW.V_ic_eq {x y : Int32} {off : Int} {tgt : Nat} (h : D2 m pc (.if_icmp .eq off) off pc' tgt) (kt : x = y → V m d u1 u2 mc ms tgt L S sh R I J Q) (kf : ¬ x = y → V m d u1 u2 mc ms pc' L S sh R I J Q) : V m d u1 u2 mc ms pc L (.int y :: .int x :: S) sh R I J Q := by
  obtain ⟨hd, rfl, ht⟩ := h
  intro p l e Rm s mid args below meth c H locs ls b D cA F hz hw hS hl
  exact lv_icmp_eq F.x F.cc hd ht (fun hc => kt hc p l e Rm s mid args below meth c H locs ls b D cA F hz hw hS hl) (fun hc => kf hc p l e Rm s mid args below meth c H locs ls b D cA F hz hw hS hl)
theorem LW.V_ic_eq_t {x y : Int32} {off : Int} {tgt : Nat} (h : D2 m pc (.if_icmp .eq off) off pc' tgt) (hc : x = y) (k : V m d u1 u2 mc ms tgt L S sh R I J Q) : V m d u1 u2 mc ms pc L (.int y :: .int x :: S) sh R I J Q := V_ic_eq h (fun _ => k) (fun h2 => absurd hc (by first | exact h2 | exact not_not_intro h2))
theorem LW.V_ic_gt {x y : Int32} {off : Int} {tgt : Nat} (h : D2 m pc (.if_icmp .gt off) off pc' tgt) (kt : y < x → V m d u1 u2 mc ms tgt L S sh R I J Q) (kf : ¬ y < x → V m d u1 u2 mc ms pc' L S sh R I J Q) : V m d u1 u2 mc ms pc L (.int y :: .int x :: S) sh R I J Q := by
  obtain ⟨hd, rfl, ht⟩ := h
  intro p l e Rm s mid args below meth c H locs ls b D cA F hz hw hS hl
  exact lv_icmp_gt F.x F.cc hd ht (fun hc => kt hc p l e Rm s mid args below meth c H locs ls b D cA F hz hw hS hl) (fun hc => kf hc p l e Rm s mid args below meth c H locs ls b D cA F hz hw hS hl)
theorem LW.V_ic_gt_t {x y : Int32} {off : Int} {tgt : Nat} (h : D2 m pc (.if_icmp .gt off) off pc' tgt) (hc : y < x) (k : V m d u1 u2 mc ms tgt L S sh R I J Q) : V m d u1 u2 mc ms pc L (.int y :: .int x :: S) sh R I J Q := V_ic_gt h (fun _ => k) (fun h2 => absurd hc (by first | exact h2 | exact not_not_intro h2))
theorem LW.V_ic_gt_f {x y : Int32} {off : Int} {tgt : Nat} (h : D2 m pc (.if_icmp .gt off) off pc' tgt) (hc : ¬ y < x) (k : V m d u1 u2 mc ms pc' L S sh R I J Q) : V m d u1 u2 mc ms pc L (.int y :: .int x :: S) sh R I J Q := V_ic_gt h (fun h2 => absurd h2 (by first | exact hc | exact not_not_intro hc)) (fun _ => k)
theorem LW.V_goto {off : Int} {tgt : Nat} (h : D2 m pc (.goto off) off pc' tgt) (k : V m d u1 u2 mc ms tgt L (S) sh R I J Q) : V m d u1 u2 mc ms pc L (S) sh R I J Q := by
  obtain ⟨hd, rfl, ht⟩ := h
  intro p l e Rm s mid args below meth c H locs ls b D cA F hz hw hS hl
  exact lv_goto F.x F.cc hd ht (k p l e Rm s mid args below meth c H locs ls b D cA F hz hw hS hl)
theorem LW.V_tswIn {x : Int32} {dflt lo hi : Int} {offs : Array Int} {len tgt : Nat} {off : Int} (h : D1 m pc (.tableswitch dflt lo hi offs) len pc') (h1 : ¬ x.toInt < lo) (h2 : ¬ hi < x.toInt) (ho : offs[(x.toInt - lo).toNat]? = some off) (ht : (pc : Int) + off = (tgt : Int)) (k : V m d u1 u2 mc ms tgt L (S) sh R I J Q) : V m d u1 u2 mc ms pc L (.int x :: S) sh R I J Q := by
  obtain ⟨hd, rfl⟩ := h
  intro p l e Rm s mid args below meth c H locs ls b D cA F hz hw hS hl
  exact lv_tableIn F.x F.cc hd h1 h2 ho ht (k p l e Rm s mid args below meth c H locs ls b D cA F hz hw hS hl)
theorem LW.V_tswOut {x : Int32} {dflt lo hi : Int} {offs : Array Int} {len tgt : Nat} (h : D1 m pc (.tableswitch dflt lo hi offs) len pc') (h1 : x.toInt < lo ∨ hi < x.toInt) (ht : (pc : Int) + dflt = (tgt : Int)) (k : V m d u1 u2 mc ms tgt L (S) sh R I J Q) : V m d u1 u2 mc ms pc L (.int x :: S) sh R I J Q := by
  obtain ⟨hd, rfl⟩ := h
  intro p l e Rm s mid args below meth c H locs ls b D cA F hz hw hS hl
  exact lv_tableOut F.x F.cc hd h1 ht (k p l e Rm s mid args below meth c H locs ls b D cA F hz hw hS hl)
theorem LW.V_new {ci N : Nat} (h : DN m pc ci pc') (hN : ∀ C T n, vwCl[ci]? = some (C, T, n) → n = N) (h1 : u1 + 1 ≤ mc) (h2 : u2 + N ≤ ms) (k : V m d (u1 + 1) (u2 + N) mc ms pc' L (.ref sh.length :: S) (sh ++ [(0, ci)]) (zR R sh.length) (zI I sh.length) (zJ J sh.length) Q) : V m d u1 u2 mc ms pc L S sh R I J Q := by
  obtain ⟨idx, C, T, N', hd, hc, hlk, hin, hini, rfl⟩ := h
  have := hN _ _ _ hc
  subst this
  intro p l e Rm s mid args below meth c H locs ls b D cA F hz hw hS hl
  obtain ⟨ty0, hty, hdf⟩ := cl_dfl hc
  have hR := F.R
  refine va_new (ci := ci) F.x F.cc F.t (cl_in hc) ty0 hty F.o (F.t _ hlk) (F.t _ hin) (F.t _ hini) hw.2 hw.1 ws_D hS (fun q hq => Nat.le_trans F.bb hq) hc hdf (by omega) (by omega) hd (fun q H1 hP1 hD1 hS1 => ?_)
  refine new_at hz hP1 hD1 (fun hq => ?_)
  subst hq
  rw [ws_push (R' := zR R sh.length) (I' := zI I sh.length) (J' := zJ J sh.length) (s := (0, ci)) (fun a' s' ha => cell_other (fun j => by unfold zR; rw [if_neg ha]) (fun j => by unfold zI; rw [if_neg ha]) (fun j => by unfold zJ; rw [if_neg ha]) s') (by
    show (Sum.inr (ci, flds b _ _ _ _ (fk ci) 0) : va_E) = _
    rw [flds_zero (fun j => by unfold zR; rw [if_pos rfl]) (fun j => by unfold zI; rw [if_pos rfl]) (fun j => by unfold zJ; rw [if_pos rfl])])] at hP1
  exact k p l e Rm s mid args below meth c H1 locs ls b D cA F (by rw [List.length_append]; simp; omega) ⟨hP1, hw.2⟩ hS1 hl
theorem LW.V_back {p : Program} {l : Launch} {e : Env} {Rm : Room} {s : State} {mid : MethodId} {args : Array Value} {below : List Frame} {meth : Method} {c : Code} {H : Heap} {locs : List Loc} {ls : Array Slot} {b : Nat} {D : va_G} {cA : Nat → ClassId} {mc' ms' : Nat} {Q' : PostV} {st0 : List Value} {as : List Value} {pcc : Nat}
    (F : Fx m d mc ms b p Rm s mid args meth c Q) (hz : s.heap.size + u1 = b + sh.length) (hS : va_S (fun q => b ≤ q) s.heap H locs) (hl : lv_has ls m.2.2.2.1 ((0, .ref Q.1) :: L.map (fun q => (q.1, tr b q.2))))
    (hr : va_Run p l e Rm s mid args below meth c H locs u1 u2 mc' ms' (F0 mid pcc ls st0) (S.map (tr b)) (QcV b D cA Q' (as.map (tr b)).toArray) (fun q => b ≤ q))
    (hlen : ∀ r sh' R' I' J', Q' r sh' R' I' J' → sh'.length = sh.length + mc')
    (k : ∀ r sh' R' I' J', Q' r sh' R' I' J' → V m d (u1 + mc') (u2 + ms') mc ms (pcc + 3) L (r.toList ++ S) sh' R' I' J' Q) :
    W p l e Rm s mid args below meth c H locs u1 u2 (lw_Z below args s) (F0 mid pcc ls st0) := by
  refine va_callG hr hS (fun st o t h => h.2) (fun q h => h) (fun v st t H1 locs1 ht hvm hq hS1 => ?_)
  obtain ⟨⟨r, sh', R', I', J', hv, hQ, hw'⟩, -⟩ := hq
  cases hv
  have hk := k r sh' R' I' J' hQ p l e Rm s mid args below meth c H1 locs1 ls b D cA F (by rw [hlen _ _ _ _ _ hQ]; omega) (by rw [← ht]; exact hw'.moved hvm.symm) hS1 hl
  have e : (r.map (tr b)).toList ++ S.map (tr b) = (r.toList ++ S).map (tr b) := by cases r <;> simp
  rw [e]
  exact hk
theorem LW.V_callV0 {a ci : Nat} {m' : Mth} {d' mc' ms' : Nat} {Q' : PostV} (h : DV m pc m' pc') (hm : MI m' 0) (hc : Ct d' m' [.ref a] sh R I J mc' ms' Q') (hs : sh[a]? = some (0, ci)) (hci : ∃ T N, vwCl[ci]? = some (m'.1, T, N)) (hd : d' + 1 ≤ d) (hst : ((S.map fun v => v.category).sum) ≤ 8) (hb1 : u1 + mc' ≤ mc) (hb2 : u2 + ms' ≤ ms) (hlen : ∀ r sh' R' I' J', Q' r sh' R' I' J' → sh'.length = sh.length + mc')
    (k : ∀ r sh' R' I' J', Q' r sh' R' I' J' → V m d (u1 + mc') (u2 + ms') mc ms pc' L (r.toList ++ S) sh' R' I' J' Q) : V m d u1 u2 mc ms pc L (.ref a :: S) sh R I J Q := by
  obtain ⟨idx, hd9, hlk, rfl⟩ := h
  obtain ⟨hm1, hm2, hm3, hm4, hm5, hm6⟩ := hm
  obtain ⟨T, N, hci⟩ := hci
  intro p l e Rm s mid args below meth c H locs ls b D cA F hz hw hS hl
  have hR := F.R
  refine W_sz hz F.bb hw.1 hS (fun hH => ?_)
  refine V_back (as := [.ref a]) F hz hS hl (va_runV (As := []) (rest := S.map (tr b)) ⟨F.x, F.cc, F.ml, F.o, F.t⟩ (hc l b D cA) (cwV 0 F.t (gi_app (fun w hx => ?_) (gi_mws hm4)) rfl rfl rfl hm5 ⟨by show d' + 1 ≤ _; omega, by show 8 + (_ + 11) + 32 * d' ≤ _; omega⟩) ⟨Pc_blind, va_recv hw.2 hw.1 hci (ws_obj hs), fun U hU hW => ⟨rfl, by rw [hU]; exact hH, by rw [hU]; exact hw.moved hW.alike, by rw [hU]; exact (F.lt.kept hS).moved hW.alike, F.nw.warm hW⟩⟩ rfl rfl hl.1 rfl (lv_room (tr_rest b S hst)) hd9 ⟨by omega, by omega⟩) hlen k
  simp only [List.mem_cons, List.not_mem_nil, or_false] at hx
  rcases hx with rfl | rfl | rfl | rfl
  · exact hlk
  · exact hm1
  · exact hm2
  · exact hm3
theorem LW.V_callV1 {a ci : Nat} {x0 : Value} {m' : Mth} {d' mc' ms' : Nat} {Q' : PostV} (h : DV m pc m' pc') (hm : MI m' 1) (hc : Ct d' m' [.ref a, x0] sh R I J mc' ms' Q') (hs : sh[a]? = some (0, ci)) (hci : ∃ T N, vwCl[ci]? = some (m'.1, T, N)) (hd : d' + 1 ≤ d) (hst : ((S.map fun v => v.category).sum) ≤ 8) (hb1 : u1 + mc' ≤ mc) (hb2 : u2 + ms' ≤ ms) (hlen : ∀ r sh' R' I' J', Q' r sh' R' I' J' → sh'.length = sh.length + mc')
    (k : ∀ r sh' R' I' J', Q' r sh' R' I' J' → V m d (u1 + mc') (u2 + ms') mc ms pc' L (r.toList ++ S) sh' R' I' J' Q) : V m d u1 u2 mc ms pc L (x0 :: .ref a :: S) sh R I J Q := by
  obtain ⟨idx, hd9, hlk, rfl⟩ := h
  obtain ⟨hm1, hm2, hm3, hm4, hm5, hm6⟩ := hm
  obtain ⟨T, N, hci⟩ := hci
  intro p l e Rm s mid args below meth c H locs ls b D cA F hz hw hS hl
  have hR := F.R
  refine W_sz hz F.bb hw.1 hS (fun hH => ?_)
  refine V_back (as := [.ref a, x0]) F hz hS hl (va_runV (As := [tr b x0]) (rest := S.map (tr b)) ⟨F.x, F.cc, F.ml, F.o, F.t⟩ (hc l b D cA) (cwV 1 F.t (gi_app (fun w hx => ?_) (gi_mws hm4)) rfl rfl rfl hm5 ⟨by show d' + 1 ≤ _; omega, by show 8 + (_ + 11) + 32 * d' ≤ _; omega⟩) ⟨Pc_blind, va_recv hw.2 hw.1 hci (ws_obj hs), fun U hU hW => ⟨rfl, by rw [hU]; exact hH, by rw [hU]; exact hw.moved hW.alike, by rw [hU]; exact (F.lt.kept hS).moved hW.alike, F.nw.warm hW⟩⟩ rfl rfl hl.1 rfl (lv_room (tr_rest b S hst)) hd9 ⟨by omega, by omega⟩) hlen k
  simp only [List.mem_cons, List.not_mem_nil, or_false] at hx
  rcases hx with rfl | rfl | rfl | rfl
  · exact hlk
  · exact hm1
  · exact hm2
  · exact hm3
theorem LW.V_callV2 {a ci : Nat} {x0 x1 : Value} {m' : Mth} {d' mc' ms' : Nat} {Q' : PostV} (h : DV m pc m' pc') (hm : MI m' 2) (hc : Ct d' m' [.ref a, x0, x1] sh R I J mc' ms' Q') (hs : sh[a]? = some (0, ci)) (hci : ∃ T N, vwCl[ci]? = some (m'.1, T, N)) (hd : d' + 1 ≤ d) (hst : ((S.map fun v => v.category).sum) ≤ 8) (hb1 : u1 + mc' ≤ mc) (hb2 : u2 + ms' ≤ ms) (hlen : ∀ r sh' R' I' J', Q' r sh' R' I' J' → sh'.length = sh.length + mc')
    (k : ∀ r sh' R' I' J', Q' r sh' R' I' J' → V m d (u1 + mc') (u2 + ms') mc ms pc' L (r.toList ++ S) sh' R' I' J' Q) : V m d u1 u2 mc ms pc L (x1 :: x0 :: .ref a :: S) sh R I J Q := by
  obtain ⟨idx, hd9, hlk, rfl⟩ := h
  obtain ⟨hm1, hm2, hm3, hm4, hm5, hm6⟩ := hm
  obtain ⟨T, N, hci⟩ := hci
  intro p l e Rm s mid args below meth c H locs ls b D cA F hz hw hS hl
  have hR := F.R
  refine W_sz hz F.bb hw.1 hS (fun hH => ?_)
  refine V_back (as := [.ref a, x0, x1]) F hz hS hl (va_runV (As := [tr b x0, tr b x1]) (rest := S.map (tr b)) ⟨F.x, F.cc, F.ml, F.o, F.t⟩ (hc l b D cA) (cwV 2 F.t (gi_app (fun w hx => ?_) (gi_mws hm4)) rfl rfl rfl hm5 ⟨by show d' + 1 ≤ _; omega, by show 8 + (_ + 11) + 32 * d' ≤ _; omega⟩) ⟨Pc_blind, va_recv hw.2 hw.1 hci (ws_obj hs), fun U hU hW => ⟨rfl, by rw [hU]; exact hH, by rw [hU]; exact hw.moved hW.alike, by rw [hU]; exact (F.lt.kept hS).moved hW.alike, F.nw.warm hW⟩⟩ rfl rfl hl.1 rfl (lv_room (tr_rest b S hst)) hd9 ⟨by omega, by omega⟩) hlen k
  simp only [List.mem_cons, List.not_mem_nil, or_false] at hx
  rcases hx with rfl | rfl | rfl | rfl
  · exact hlk
  · exact hm1
  · exact hm2
  · exact hm3
theorem LW.V_callV3 {a ci : Nat} {x0 x1 x2 : Value} {m' : Mth} {d' mc' ms' : Nat} {Q' : PostV} (h : DV m pc m' pc') (hm : MI m' 3) (hc : Ct d' m' [.ref a, x0, x1, x2] sh R I J mc' ms' Q') (hs : sh[a]? = some (0, ci)) (hci : ∃ T N, vwCl[ci]? = some (m'.1, T, N)) (hd : d' + 1 ≤ d) (hst : ((S.map fun v => v.category).sum) ≤ 8) (hb1 : u1 + mc' ≤ mc) (hb2 : u2 + ms' ≤ ms) (hlen : ∀ r sh' R' I' J', Q' r sh' R' I' J' → sh'.length = sh.length + mc')
    (k : ∀ r sh' R' I' J', Q' r sh' R' I' J' → V m d (u1 + mc') (u2 + ms') mc ms pc' L (r.toList ++ S) sh' R' I' J' Q) : V m d u1 u2 mc ms pc L (x2 :: x1 :: x0 :: .ref a :: S) sh R I J Q := by
  obtain ⟨idx, hd9, hlk, rfl⟩ := h
  obtain ⟨hm1, hm2, hm3, hm4, hm5, hm6⟩ := hm
  obtain ⟨T, N, hci⟩ := hci
  intro p l e Rm s mid args below meth c H locs ls b D cA F hz hw hS hl
  have hR := F.R
  refine W_sz hz F.bb hw.1 hS (fun hH => ?_)
  refine V_back (as := [.ref a, x0, x1, x2]) F hz hS hl (va_runV (As := [tr b x0, tr b x1, tr b x2]) (rest := S.map (tr b)) ⟨F.x, F.cc, F.ml, F.o, F.t⟩ (hc l b D cA) (cwV 3 F.t (gi_app (fun w hx => ?_) (gi_mws hm4)) rfl rfl rfl hm5 ⟨by show d' + 1 ≤ _; omega, by show 8 + (_ + 11) + 32 * d' ≤ _; omega⟩) ⟨Pc_blind, va_recv hw.2 hw.1 hci (ws_obj hs), fun U hU hW => ⟨rfl, by rw [hU]; exact hH, by rw [hU]; exact hw.moved hW.alike, by rw [hU]; exact (F.lt.kept hS).moved hW.alike, F.nw.warm hW⟩⟩ rfl rfl hl.1 rfl (lv_room (tr_rest b S hst)) hd9 ⟨by omega, by omega⟩) hlen k
  simp only [List.mem_cons, List.not_mem_nil, or_false] at hx
  rcases hx with rfl | rfl | rfl | rfl
  · exact hlk
  · exact hm1
  · exact hm2
  · exact hm3
theorem LW.V_callV4 {a ci : Nat} {x0 x1 x2 x3 : Value} {m' : Mth} {d' mc' ms' : Nat} {Q' : PostV} (h : DV m pc m' pc') (hm : MI m' 4) (hc : Ct d' m' [.ref a, x0, x1, x2, x3] sh R I J mc' ms' Q') (hs : sh[a]? = some (0, ci)) (hci : ∃ T N, vwCl[ci]? = some (m'.1, T, N)) (hd : d' + 1 ≤ d) (hst : ((S.map fun v => v.category).sum) ≤ 8) (hb1 : u1 + mc' ≤ mc) (hb2 : u2 + ms' ≤ ms) (hlen : ∀ r sh' R' I' J', Q' r sh' R' I' J' → sh'.length = sh.length + mc')
    (k : ∀ r sh' R' I' J', Q' r sh' R' I' J' → V m d (u1 + mc') (u2 + ms') mc ms pc' L (r.toList ++ S) sh' R' I' J' Q) : V m d u1 u2 mc ms pc L (x3 :: x2 :: x1 :: x0 :: .ref a :: S) sh R I J Q := by
  obtain ⟨idx, hd9, hlk, rfl⟩ := h
  obtain ⟨hm1, hm2, hm3, hm4, hm5, hm6⟩ := hm
  obtain ⟨T, N, hci⟩ := hci
  intro p l e Rm s mid args below meth c H locs ls b D cA F hz hw hS hl
  have hR := F.R
  refine W_sz hz F.bb hw.1 hS (fun hH => ?_)
  refine V_back (as := [.ref a, x0, x1, x2, x3]) F hz hS hl (va_runV (As := [tr b x0, tr b x1, tr b x2, tr b x3]) (rest := S.map (tr b)) ⟨F.x, F.cc, F.ml, F.o, F.t⟩ (hc l b D cA) (cwV 4 F.t (gi_app (fun w hx => ?_) (gi_mws hm4)) rfl rfl rfl hm5 ⟨by show d' + 1 ≤ _; omega, by show 8 + (_ + 11) + 32 * d' ≤ _; omega⟩) ⟨Pc_blind, va_recv hw.2 hw.1 hci (ws_obj hs), fun U hU hW => ⟨rfl, by rw [hU]; exact hH, by rw [hU]; exact hw.moved hW.alike, by rw [hU]; exact (F.lt.kept hS).moved hW.alike, F.nw.warm hW⟩⟩ rfl rfl hl.1 rfl (lv_room (tr_rest b S hst)) hd9 ⟨by omega, by omega⟩) hlen k
  simp only [List.mem_cons, List.not_mem_nil, or_false] at hx
  rcases hx with rfl | rfl | rfl | rfl
  · exact hlk
  · exact hm1
  · exact hm2
  · exact hm3
theorem LW.V_callV5 {a ci : Nat} {x0 x1 x2 x3 x4 : Value} {m' : Mth} {d' mc' ms' : Nat} {Q' : PostV} (h : DV m pc m' pc') (hm : MI m' 5) (hc : Ct d' m' [.ref a, x0, x1, x2, x3, x4] sh R I J mc' ms' Q') (hs : sh[a]? = some (0, ci)) (hci : ∃ T N, vwCl[ci]? = some (m'.1, T, N)) (hd : d' + 1 ≤ d) (hst : ((S.map fun v => v.category).sum) ≤ 8) (hb1 : u1 + mc' ≤ mc) (hb2 : u2 + ms' ≤ ms) (hlen : ∀ r sh' R' I' J', Q' r sh' R' I' J' → sh'.length = sh.length + mc')
    (k : ∀ r sh' R' I' J', Q' r sh' R' I' J' → V m d (u1 + mc') (u2 + ms') mc ms pc' L (r.toList ++ S) sh' R' I' J' Q) : V m d u1 u2 mc ms pc L (x4 :: x3 :: x2 :: x1 :: x0 :: .ref a :: S) sh R I J Q := by
  obtain ⟨idx, hd9, hlk, rfl⟩ := h
  obtain ⟨hm1, hm2, hm3, hm4, hm5, hm6⟩ := hm
  obtain ⟨T, N, hci⟩ := hci
  intro p l e Rm s mid args below meth c H locs ls b D cA F hz hw hS hl
  have hR := F.R
  refine W_sz hz F.bb hw.1 hS (fun hH => ?_)
  refine V_back (as := [.ref a, x0, x1, x2, x3, x4]) F hz hS hl (va_runV (As := [tr b x0, tr b x1, tr b x2, tr b x3, tr b x4]) (rest := S.map (tr b)) ⟨F.x, F.cc, F.ml, F.o, F.t⟩ (hc l b D cA) (cwV 5 F.t (gi_app (fun w hx => ?_) (gi_mws hm4)) rfl rfl rfl hm5 ⟨by show d' + 1 ≤ _; omega, by show 8 + (_ + 11) + 32 * d' ≤ _; omega⟩) ⟨Pc_blind, va_recv hw.2 hw.1 hci (ws_obj hs), fun U hU hW => ⟨rfl, by rw [hU]; exact hH, by rw [hU]; exact hw.moved hW.alike, by rw [hU]; exact (F.lt.kept hS).moved hW.alike, F.nw.warm hW⟩⟩ rfl rfl hl.1 rfl (lv_room (tr_rest b S hst)) hd9 ⟨by omega, by omega⟩) hlen k
  simp only [List.mem_cons, List.not_mem_nil, or_false] at hx
  rcases hx with rfl | rfl | rfl | rfl
  · exact hlk
  · exact hm1
  · exact hm2
  · exact hm3
theorem LW.V_callI0 {a ci : Nat} {m' : Mth} {d' mc' ms' : Nat} {Q' : PostV} (h : DI m pc m' pc') (hm : MC m' 0) (hc : Ct d' m' [.ref a] sh R I J mc' ms' Q') (hd : d' + 1 ≤ d) (hst : ((S.map fun v => v.category).sum) ≤ 8) (hb1 : u1 + mc' ≤ mc) (hb2 : u2 + ms' ≤ ms) (hlen : ∀ r sh' R' I' J', Q' r sh' R' I' J' → sh'.length = sh.length + mc')
    (k : ∀ r sh' R' I' J', Q' r sh' R' I' J' → V m d (u1 + mc') (u2 + ms') mc ms pc' L (r.toList ++ S) sh' R' I' J' Q) : V m d u1 u2 mc ms pc L (.ref a :: S) sh R I J Q := by
  obtain ⟨idx, hd9, hlk, rfl⟩ := h
  obtain ⟨hm1, hm3, hm4, hmr, hmn, hm5, hm6⟩ := hm
  intro p l e Rm s mid args below meth c H locs ls b D cA F hz hw hS hl
  have hR := F.R
  refine W_sz hz F.bb hw.1 hS (fun hH => ?_)
  have hmw : mws m' = Cond.code m'.2.1 m'.2.2.1 m'.2.2.2.1 none :: gtb := by unfold mws; rw [hmr]
  rcases hlk with hlk | ⟨host, hlk⟩
  · exact V_back (as := [.ref a]) F hz hS hl (va_runI (As := []) (rest := S.map (tr b)) ⟨F.x, F.cc, F.ml, F.o, F.t⟩ (hc l b D cA) (cwI 0 F.t (gi_mws (by rw [hmr]; exact hm4)) hmw rfl rfl (F.t _ hm3) (F.t _ hlk) (F.t _ hm1) hmn hm5 ⟨by show d' + 1 ≤ _; omega, by show 8 + (_ + 11) + 32 * d' ≤ _; omega⟩) ⟨Pc_blind, fun U hU hW => ⟨rfl, by rw [hU]; exact hH, by rw [hU]; exact hw.moved hW.alike, by rw [hU]; exact (F.lt.kept hS).moved hW.alike, F.nw.warm hW⟩⟩ rfl rfl hl.1 rfl (lv_room (tr_rest b S hst)) hd9 ⟨by omega, by omega⟩) hlen k
  · exact V_back (as := [.ref a]) F hz hS hl (va_runIN (As := []) (rest := S.map (tr b)) ⟨F.x, F.cc, F.ml, F.o, F.t⟩ (hc l b D cA) ⟨va_cnB (host := host) 0 F.t (gi_mws (by rw [hmr]; exact hm4)) hmw rfl rfl (F.nw.1 _ hlk) (F.t _ hm3) hm5 ⟨by show d' + 1 ≤ _; omega, by show 8 + (_ + 11) + 32 * d' ≤ _; omega⟩, hmn, F.t _ hm1⟩ ⟨Pc_blind, fun U hU hW => ⟨rfl, by rw [hU]; exact hH, by rw [hU]; exact hw.moved hW.alike, by rw [hU]; exact (F.lt.kept hS).moved hW.alike, F.nw.warm hW⟩⟩ rfl rfl hl.1 rfl (lv_room (tr_rest b S hst)) hd9 ⟨by omega, by omega⟩) hlen k
theorem LW.V_sld {i kk : Nat} {pc1 pc2 pc3 pc4 : Nat} (h1 : Dal m pc 0 pc1) (h2 : Dil m pc1 3 pc2) (h3 : Dc m pc2 (nI kk) pc3) (h4 : D1 m pc3 .iadd 1 pc4) (h5 : D1 m pc4 .iaload 1 pc') (hk : lkL L 3 = some (.int (nI i))) (hi : i + kk < Q.2.1) (k : V m d u1 u2 mc ms pc' L (.int (Q.2.2 (i + kk)) :: S) sh R I J Q) : V m d u1 u2 mc ms pc L S sh R I J Q := by
  intro p l e Rm s mid args below meth c H locs ls b D cA F hz hw hS hl
  have h0 : ls[0]? = some (.val (.ref Q.1)) := hl.2.2 _ List.mem_cons_self
  have hL := F.2.2.2.2.2.1
  have hlk := lk_at hl hk
  have e5 : W p l e Rm s mid args below meth c H locs u1 u2 (lw_Z below args s) (F0 mid pc4 ls (.int (nI (i + kk)) :: .ref Q.1 :: S.map (tr b))) := by
    obtain ⟨hd, rfl⟩ := h5
    refine va_sld F.x F.cc F.2.2.1 (Nat.lt_of_lt_of_le F.2.2.2.1 F.bb) (Nat.not_le.mpr F.2.2.2.1) hS (vp_in_nI hi (by omega)) hd ?_
    rw [nI_clamp (by omega)]
    exact k p l e Rm s mid args below meth c H locs ls b D cA F hz hw hS hl
  have e4 : W p l e Rm s mid args below meth c H locs u1 u2 (lw_Z below args s) (F0 mid pc3 ls (.int (nI kk) :: .int (nI i) :: .ref Q.1 :: S.map (tr b))) := by
    obtain ⟨hd, rfl⟩ := h4
    refine lv_iadd F.x F.cc hd ?_
    rw [nI_add]
    exact e5
  have e3 : W p l e Rm s mid args below meth c H locs u1 u2 (lw_Z below args s) (F0 mid pc2 ls (.int (nI i) :: .ref Q.1 :: S.map (tr b))) := by
    rcases h3 with ⟨n, hd, hv, rfl⟩ | ⟨n, hd, hv, rfl⟩ | ⟨n, hd, hv, rfl⟩ | ⟨n, hd, hc, rfl⟩ | ⟨n, hd, hc, rfl⟩
    · exact lv_iconst F.x F.cc hd hv e4
    · exact lv_bipush F.x F.cc hd hv e4
    · exact lv_sipush F.x F.cc hd hv e4
    · exact lv_ldc F.x F.cc F.o (F.t _ hc) hd e4
    · exact lv_ldcw F.x F.cc F.o (F.t _ hc) hd e4
  have e2 : W p l e Rm s mid args below meth c H locs u1 u2 (lw_Z below args s) (F0 mid pc1 ls (.ref Q.1 :: S.map (tr b))) := by
    rcases h2 with ⟨k4, hd, hk4, rfl⟩ | ⟨hd, rfl⟩
    · exact lv_iload_n F.x F.cc hd hk4 hlk e3
    · exact lv_iload F.x F.cc hd hlk e3
  rcases h1 with ⟨k4, hd, hk4, rfl⟩ | ⟨hd, rfl⟩
  · exact lv_aload_n F.x F.cc hd hk4 h0 e2
  · exact lv_aload F.x F.cc hd h0 e2
theorem LW.V_sld0 {i : Nat} {pc1 pc2 : Nat} (h1 : Dal m pc 0 pc1) (h2 : Dil m pc1 3 pc2) (h5 : D1 m pc2 .iaload 1 pc') (hk : lkL L 3 = some (.int (nI i))) (hi : i < Q.2.1) (k : V m d u1 u2 mc ms pc' L (.int (Q.2.2 (i)) :: S) sh R I J Q) : V m d u1 u2 mc ms pc L S sh R I J Q := by
  intro p l e Rm s mid args below meth c H locs ls b D cA F hz hw hS hl
  have h0 : ls[0]? = some (.val (.ref Q.1)) := hl.2.2 _ List.mem_cons_self
  have hL := F.2.2.2.2.2.1
  have hlk := lk_at hl hk
  have e5 : W p l e Rm s mid args below meth c H locs u1 u2 (lw_Z below args s) (F0 mid pc2 ls (.int (nI (i)) :: .ref Q.1 :: S.map (tr b))) := by
    obtain ⟨hd, rfl⟩ := h5
    refine va_sld F.x F.cc F.2.2.1 (Nat.lt_of_lt_of_le F.2.2.2.1 F.bb) (Nat.not_le.mpr F.2.2.2.1) hS (vp_in_nI hi (by omega)) hd ?_
    rw [nI_clamp (by omega)]
    exact k p l e Rm s mid args below meth c H locs ls b D cA F hz hw hS hl
  have e2 : W p l e Rm s mid args below meth c H locs u1 u2 (lw_Z below args s) (F0 mid pc1 ls (.ref Q.1 :: S.map (tr b))) := by
    rcases h2 with ⟨k4, hd, hk4, rfl⟩ | ⟨hd, rfl⟩
    · exact lv_iload_n F.x F.cc hd hk4 hlk e5
    · exact lv_iload F.x F.cc hd hlk e5
  rcases h1 with ⟨k4, hd, hk4, rfl⟩ | ⟨hd, rfl⟩
  · exact lv_aload_n F.x F.cc hd hk4 h0 e2
  · exact lv_aload F.x F.cc hd h0 e2
theorem LW.V_slen {pc1 : Nat} (h1 : Dal m pc 0 pc1) (h5 : D1 m pc1 .arraylength 1 pc') (k : V m d u1 u2 mc ms pc' L (.int (Int32.ofNat Q.2.1) :: S) sh R I J Q) : V m d u1 u2 mc ms pc L S sh R I J Q := by
  intro p l e Rm s mid args below meth c H locs ls b D cA F hz hw hS hl
  have h0 : ls[0]? = some (.val (.ref Q.1)) := hl.2.2 _ List.mem_cons_self
  have e2 : W p l e Rm s mid args below meth c H locs u1 u2 (lw_Z below args s) (F0 mid pc1 ls (.ref Q.1 :: S.map (tr b))) := by
    obtain ⟨hd, rfl⟩ := h5
    exact va_slen F.x F.cc F.2.2.1 (Nat.lt_of_lt_of_le F.2.2.2.1 F.bb) (Nat.not_le.mpr F.2.2.2.1) hS hd (k p l e Rm s mid args below meth c H locs ls b D cA F hz hw hS hl)
  rcases h1 with ⟨k4, hd, hk4, rfl⟩ | ⟨hd, rfl⟩
  · exact lv_aload_n F.x F.cc hd hk4 h0 e2
  · exact lv_aload F.x F.cc hd h0 e2
theorem LW.V_lret (h : D1 m_L_law pc .ireturn 1 pc') (h1 : u1 ≤ 600000) (h2 : u2 ≤ 7302250) : V m_L_law d u1 u2 mc ms pc L [.int 1] sh R I J Q := by
  obtain ⟨hd, rfl⟩ := h
  intro p l e Rm s mid args below meth c H locs ls b D cA F hz hw hS hl
  have hsz := F.2.2.2.2.1
  obtain ⟨rfl, -, -, -, -, rfl⟩ := F.2
  refine va_forget (fun q hq => Nat.le_trans hsz (hS.2.2 q hq)) (W.widen h1 h2 ?_)
  exact lw_ret F.x F.cc F.r F.k hd
end VR

section NS
variable {m : Mth} {d u1 u2 mc ms pc pc' : Nat} {L L' : List (Nat × Value)} {S : List Value} {h h' : List Row} {Q : LW.ScrT}
abbrev LW.VH (m : Mth) (d u1 u2 mc ms pc : Nat) (L : List (Nat × Value)) (S : List Value) (h : List Row) (Q : LW.ScrT) : Prop := V m d u1 u2 mc ms pc L S (hS h) (hR h) (hI h) (hJ h) Q
theorem LW.N_go {t n a b c : Nat} {v1 v2 : Nat} (e : h ++ [zrow t n a b c] = h') (k : VH m d v1 v2 mc ms pc L (.ref h.length :: S) h' Q) : V m d v1 v2 mc ms pc L (.ref (hS h).length :: S) (hS h ++ [(t, n)]) (zR (hR h) (hS h).length) (zI (hI h) (hS h).length) (zJ (hJ h) (hS h).length) Q := by
  subst e
  rw [hS_len, ← hS_app h t n a b c, ← hR_app h t n a b c, ← hI_app h t n a b c, ← hJ_app h t n a b c]
  exact k
theorem LW.N_new {ci N q c : Nat} (f : DN m pc ci pc') (hN : ∀ C T n, vwCl[ci]? = some (C, T, n) → n = N) (h1 : u1 + 1 ≤ mc) (h2 : u2 + N ≤ ms) (e : h ++ [zrow 0 ci c c c] = h') (hq : h.length = q) (k : VH m d (u1 + 1) (u2 + N) mc ms pc' L (.ref q :: S) h' Q) : VH m d u1 u2 mc ms pc L S h Q := by
  subst hq
  exact V_new f hN h1 h2 (N_go e k)
theorem LW.N_call0 {a : Nat} {m' : Mth} {d' mc' ms' : Nat} (f : DI m pc m' pc') (hm : MC m' 0) (hc : CtH d' m' [.ref a] h mc' ms' h') (hd : d' + 1 ≤ d) (hst : ((S.map fun v => v.category).sum) ≤ 8) (hb1 : u1 + mc' ≤ mc) (hb2 : u2 + ms' ≤ ms) (hl : h'.length = h.length + mc') (k : VH m d (u1 + mc') (u2 + ms') mc ms pc' L S h' Q) : VH m d u1 u2 mc ms pc L (.ref a :: S) h Q :=
  V_callI0 (ci := 0) f hm hc hd hst hb1 hb2 (fun r sh' R' I' J' q => QH_len q hl) (fun r sh' R' I' J' q => by obtain ⟨rfl, rfl, rfl, rfl, rfl⟩ := q; exact k)
end NS
