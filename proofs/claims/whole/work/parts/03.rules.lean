
/-! ===== the rules of V ===== -/
def Dil (m : Mth) (pc i pc' : Nat) : Prop := (∃ k : Fin 4, decode m.2.2.1 pc = .ok (.iload_n k, 1) ∧ (k : Nat) = i ∧ pc + 1 = pc') ∨ (decode m.2.2.1 pc = .ok (.iload i, 2) ∧ pc + 2 = pc')
def Dll (m : Mth) (pc i pc' : Nat) : Prop := (∃ k : Fin 4, decode m.2.2.1 pc = .ok (.lload_n k, 1) ∧ (k : Nat) = i ∧ pc + 1 = pc') ∨ (decode m.2.2.1 pc = .ok (.lload i, 2) ∧ pc + 2 = pc')
def Dal (m : Mth) (pc i pc' : Nat) : Prop := (∃ k : Fin 4, decode m.2.2.1 pc = .ok (.aload_n k, 1) ∧ (k : Nat) = i ∧ pc + 1 = pc') ∨ (decode m.2.2.1 pc = .ok (.aload i, 2) ∧ pc + 2 = pc')
def Dis (m : Mth) (pc i pc' : Nat) : Prop := (∃ k : Fin 4, decode m.2.2.1 pc = .ok (.istore_n k, 1) ∧ (k : Nat) = i ∧ pc + 1 = pc') ∨ (decode m.2.2.1 pc = .ok (.istore i, 2) ∧ pc + 2 = pc')
def Dls (m : Mth) (pc i pc' : Nat) : Prop := (∃ k : Fin 4, decode m.2.2.1 pc = .ok (.lstore_n k, 1) ∧ (k : Nat) = i ∧ pc + 1 = pc') ∨ (decode m.2.2.1 pc = .ok (.lstore i, 2) ∧ pc + 2 = pc')
def Das (m : Mth) (pc i pc' : Nat) : Prop := (∃ k : Fin 4, decode m.2.2.1 pc = .ok (.astore_n k, 1) ∧ (k : Nat) = i ∧ pc + 1 = pc') ∨ (decode m.2.2.1 pc = .ok (.astore i, 2) ∧ pc + 2 = pc')
def Dc (m : Mth) (pc : Nat) (v : Int32) (pc' : Nat) : Prop := (∃ n, decode m.2.2.1 pc = .ok (.iconst n, 1) ∧ Int32.ofInt n = v ∧ pc + 1 = pc') ∨ (∃ n, decode m.2.2.1 pc = .ok (.bipush n, 2) ∧ (Int8.ofInt n).toInt32 = v ∧ pc + 2 = pc') ∨ (∃ n, decode m.2.2.1 pc = .ok (.sipush n, 3) ∧ (Int16.ofInt n).toInt32 = v ∧ pc + 3 = pc') ∨ DK m pc v pc'
def Dcl (m : Mth) (pc : Nat) (v : Int64) (pc' : Nat) : Prop := (∃ n : Fin 2, decode m.2.2.1 pc = .ok (.lconst n, 1) ∧ Int64.ofNat (n : Nat) = v ∧ pc + 1 = pc') ∨ DL m pc v pc'
/-- a jump table: where it goes -/
def swt (pc : Nat) (dflt lo hi : Int) (offs : Array Int) (x : Int) : Int := if x < lo ∨ hi < x then pc + dflt else pc + offs.getD (x - lo).toNat 0
section VR
variable {m : Mth} {d u1 u2 mc ms pc pc' : Nat} {L L' : List (Nat × Value)} {S : List Value} {sh : List Shp} {R : RefM} {I : IntM} {J : LngM} {Q : PostV}

theorem V_il {i : Nat} {x : Int32} (h : Dil m pc i pc') (hk : lkL L i = some (.int x)) (k : V m d u1 u2 mc ms pc' L (.int x :: S) sh R I J Q) : V m d u1 u2 mc ms pc L (S) sh R I J Q := by
  intro p l e Rm s mid args below meth c H locs ls b D cA F hz hw hS hl
  rcases h with ⟨k4, hd, rfl, rfl⟩ | ⟨hd, rfl⟩
  · exact lv_iload_n F.x F.cc hd rfl (lk_at hl hk) (k p l e Rm s mid args below meth c H locs ls b D cA F hz hw hS hl)
  · exact lv_iload F.x F.cc hd (lk_at hl hk) (k p l e Rm s mid args below meth c H locs ls b D cA F hz hw hS hl)
theorem V_ll {i : Nat} {x : Int64} (h : Dll m pc i pc') (hk : lkL L i = some (.long x)) (k : V m d u1 u2 mc ms pc' L (.long x :: S) sh R I J Q) : V m d u1 u2 mc ms pc L (S) sh R I J Q := by
  intro p l e Rm s mid args below meth c H locs ls b D cA F hz hw hS hl
  rcases h with ⟨k4, hd, rfl, rfl⟩ | ⟨hd, rfl⟩
  · exact lv_lload_n F.x F.cc hd rfl (lk_at hl hk) (k p l e Rm s mid args below meth c H locs ls b D cA F hz hw hS hl)
  · exact lv_lload F.x F.cc hd (lk_at hl hk) (k p l e Rm s mid args below meth c H locs ls b D cA F hz hw hS hl)
theorem V_al {i : Nat} {x : Nat} (h : Dal m pc i pc') (hk : lkL L i = some (.ref x)) (k : V m d u1 u2 mc ms pc' L (.ref x :: S) sh R I J Q) : V m d u1 u2 mc ms pc L (S) sh R I J Q := by
  intro p l e Rm s mid args below meth c H locs ls b D cA F hz hw hS hl
  rcases h with ⟨k4, hd, rfl, rfl⟩ | ⟨hd, rfl⟩
  · exact lv_aload_n F.x F.cc hd rfl (lk_at hl hk) (k p l e Rm s mid args below meth c H locs ls b D cA F hz hw hS hl)
  · exact lv_aload F.x F.cc hd (lk_at hl hk) (k p l e Rm s mid args below meth c H locs ls b D cA F hz hw hS hl)
theorem V_alN {i : Nat} (h : Dal m pc i pc') (hk : lkL L i = some .null) (k : V m d u1 u2 mc ms pc' L (.null :: S) sh R I J Q) : V m d u1 u2 mc ms pc L (S) sh R I J Q := by
  intro p l e Rm s mid args below meth c H locs ls b D cA F hz hw hS hl
  rcases h with ⟨k4, hd, rfl, rfl⟩ | ⟨hd, rfl⟩
  · exact lv_aload_nN F.x F.cc hd rfl (lk_at hl hk) (k p l e Rm s mid args below meth c H locs ls b D cA F hz hw hS hl)
  · exact lv_aloadN F.x F.cc hd (lk_at hl hk) (k p l e Rm s mid args below meth c H locs ls b D cA F hz hw hS hl)
theorem V_is {i : Nat} {x : Int32} (h : Dis m pc i pc') (hi : i < m.2.2.2.1) (hs : subL L' (st1 i (.int x) L)) (k : V m d u1 u2 mc ms pc' L' (S) sh R I J Q) : V m d u1 u2 mc ms pc L (.int x :: S) sh R I J Q := by
  intro p l e Rm s mid args below meth c H locs ls b D cA F hz hw hS hl
  rcases h with ⟨k4, hd, rfl, rfl⟩ | ⟨hd, rfl⟩
  · exact lv_istore_n F.x F.cc hd rfl hl hi rfl (fun ls2 hl2 => k p l e Rm s mid args below meth c H locs ls2 b D cA F hz hw hS (sub_lv (by rw [st1_map]; exact hl2) hs))
  · exact lv_istore F.x F.cc hd hl hi rfl (fun ls2 hl2 => k p l e Rm s mid args below meth c H locs ls2 b D cA F hz hw hS (sub_lv (by rw [st1_map]; exact hl2) hs))
theorem V_as {i : Nat} {x : Nat} (h : Das m pc i pc') (hi : i < m.2.2.2.1) (hs : subL L' (st1 i (.ref x) L)) (k : V m d u1 u2 mc ms pc' L' (S) sh R I J Q) : V m d u1 u2 mc ms pc L (.ref x :: S) sh R I J Q := by
  intro p l e Rm s mid args below meth c H locs ls b D cA F hz hw hS hl
  rcases h with ⟨k4, hd, rfl, rfl⟩ | ⟨hd, rfl⟩
  · exact lv_astore_n F.x F.cc hd rfl hl hi rfl (fun ls2 hl2 => k p l e Rm s mid args below meth c H locs ls2 b D cA F hz hw hS (sub_lv (by rw [st1_map]; exact hl2) hs))
  · exact lv_astore F.x F.cc hd hl hi rfl (fun ls2 hl2 => k p l e Rm s mid args below meth c H locs ls2 b D cA F hz hw hS (sub_lv (by rw [st1_map]; exact hl2) hs))
theorem V_asN {i : Nat} (h : Das m pc i pc') (hi : i < m.2.2.2.1) (hs : subL L' (st1 i .null L)) (k : V m d u1 u2 mc ms pc' L' (S) sh R I J Q) : V m d u1 u2 mc ms pc L (.null :: S) sh R I J Q := by
  intro p l e Rm s mid args below meth c H locs ls b D cA F hz hw hS hl
  rcases h with ⟨k4, hd, rfl, rfl⟩ | ⟨hd, rfl⟩
  · exact lv_astore_nN F.x F.cc hd rfl hl hi rfl (fun ls2 hl2 => k p l e Rm s mid args below meth c H locs ls2 b D cA F hz hw hS (sub_lv (by rw [st1_map]; exact hl2) hs))
  · exact lv_astoreN F.x F.cc hd hl hi rfl (fun ls2 hl2 => k p l e Rm s mid args below meth c H locs ls2 b D cA F hz hw hS (sub_lv (by rw [st1_map]; exact hl2) hs))
theorem V_ls {i : Nat} {x : Int64} (h : Dls m pc i pc') (hi : i + 1 < m.2.2.2.1) (hs : subL L' (st2 i (.long x) L)) (k : V m d u1 u2 mc ms pc' L' (S) sh R I J Q) : V m d u1 u2 mc ms pc L (.long x :: S) sh R I J Q := by
  intro p l e Rm s mid args below meth c H locs ls b D cA F hz hw hS hl
  rcases h with ⟨k4, hd, rfl, rfl⟩ | ⟨hd, rfl⟩
  · exact lv_lstore_n F.x F.cc hd rfl hl hi rfl (fun ls2 hl2 => k p l e Rm s mid args below meth c H locs ls2 b D cA F hz hw hS (sub_lv (by rw [st2_map]; exact hl2) hs))
  · exact lv_lstore F.x F.cc hd hl hi rfl (fun ls2 hl2 => k p l e Rm s mid args below meth c H locs ls2 b D cA F hz hw hS (sub_lv (by rw [st2_map]; exact hl2) hs))
theorem V_L (hs : subL L' L) (k : V m d u1 u2 mc ms pc L' S sh R I J Q) : V m d u1 u2 mc ms pc L S sh R I J Q := fun p l e Rm s mid args below meth c H locs ls b D cA F hz hw hS hl => k p l e Rm s mid args below meth c H locs ls b D cA F hz hw hS (sub_lv hl hs)
theorem lk_idx {b : Nat} {i : Nat} {v : Value} : ∀ {L : List (Nat × Value)}, lkL L i = some v → ∃ k : Nat, (L.map (fun q => (q.1, tr b q.2)))[k]? = some (i, tr b v)
  | [], h => by cases h
  | q :: L, h => by
    by_cases hq : q.1 = i
    · have h' : (if q.1 = i then some q.2 else lkL L i) = some v := h
      rw [if_pos hq] at h'
      cases h'
      subst hq
      exact ⟨0, rfl⟩
    · have h' : (if q.1 = i then some q.2 else lkL L i) = some v := h
      rw [if_neg hq] at h'
      obtain ⟨k, hk⟩ := lk_idx (b := b) h'
      exact ⟨k + 1, by simpa using hk⟩
theorem V_iinc {i : Nat} {n : Int} {x n' : Int32} (h : D1 m pc (.iinc i n) 3 pc') (hn : Int32.ofInt n = n') (hk : lkL L i = some (.int x)) (hi : i < m.2.2.2.1) (hs : subL L' (st1 i (.int (x + n')) L)) (k : V m d u1 u2 mc ms pc' L' (S) sh R I J Q) : V m d u1 u2 mc ms pc L (S) sh R I J Q := by
  subst hn
  obtain ⟨hd, rfl⟩ := h
  intro p l e Rm s mid args below meth c H locs ls b D cA F hz hw hS hl
  obtain ⟨k9, hk9⟩ := lk_idx (b := b) hk
  exact lv_iinc (v := x + Int32.ofInt n) F.x F.cc hd hl hk9 rfl hi rfl (fun ls2 hl2 => k p l e Rm s mid args below meth c H locs ls2 b D cA F hz hw hS (sub_lv (by rw [st1_map]; exact hl2) hs))
theorem V_c {v : Int32} (h : Dc m pc v pc') (k : V m d u1 u2 mc ms pc' L (.int v :: S) sh R I J Q) : V m d u1 u2 mc ms pc L (S) sh R I J Q := by
  intro p l e Rm s mid args below meth c H locs ls b D cA F hz hw hS hl
  rcases h with ⟨n, hd, hv, rfl⟩ | ⟨n, hd, hv, rfl⟩ | ⟨n, hd, hv, rfl⟩ | ⟨n, hd, hc, rfl⟩ | ⟨n, hd, hc, rfl⟩
  · exact lv_iconst F.x F.cc hd hv (k p l e Rm s mid args below meth c H locs ls b D cA F hz hw hS hl)
  · exact lv_bipush F.x F.cc hd hv (k p l e Rm s mid args below meth c H locs ls b D cA F hz hw hS hl)
  · exact lv_sipush F.x F.cc hd hv (k p l e Rm s mid args below meth c H locs ls b D cA F hz hw hS hl)
  · exact lv_ldc F.x F.cc F.o (F.t _ hc) hd (k p l e Rm s mid args below meth c H locs ls b D cA F hz hw hS hl)
  · exact lv_ldcw F.x F.cc F.o (F.t _ hc) hd (k p l e Rm s mid args below meth c H locs ls b D cA F hz hw hS hl)
theorem V_cl {v : Int64} (h : Dcl m pc v pc') (k : V m d u1 u2 mc ms pc' L (.long v :: S) sh R I J Q) : V m d u1 u2 mc ms pc L (S) sh R I J Q := by
  intro p l e Rm s mid args below meth c H locs ls b D cA F hz hw hS hl
  rcases h with ⟨n, hd, hv, rfl⟩ | ⟨n, hd, hc, rfl⟩
  · exact lv_lconst F.x F.cc hd hv (k p l e Rm s mid args below meth c H locs ls b D cA F hz hw hS hl)
  · exact lv_ldc2 F.x F.cc F.o (F.t _ hc) hd (k p l e Rm s mid args below meth c H locs ls b D cA F hz hw hS hl)
theorem V_iadd {x y : Int32} (h : D1 m pc .iadd 1 pc') (k : V m d u1 u2 mc ms pc' L (.int (x + y) :: S) sh R I J Q) : V m d u1 u2 mc ms pc L (.int y :: .int x :: S) sh R I J Q := by
  obtain ⟨hd, rfl⟩ := h
  intro p l e Rm s mid args below meth c H locs ls b D cA F hz hw hS hl
  exact lv_iadd F.x F.cc hd (k p l e Rm s mid args below meth c H locs ls b D cA F hz hw hS hl)
theorem V_isub {x y : Int32} (h : D1 m pc .isub 1 pc') (k : V m d u1 u2 mc ms pc' L (.int (x - y) :: S) sh R I J Q) : V m d u1 u2 mc ms pc L (.int y :: .int x :: S) sh R I J Q := by
  obtain ⟨hd, rfl⟩ := h
  intro p l e Rm s mid args below meth c H locs ls b D cA F hz hw hS hl
  exact lv_isub F.x F.cc hd (k p l e Rm s mid args below meth c H locs ls b D cA F hz hw hS hl)
theorem V_imul {x y : Int32} (h : D1 m pc .imul 1 pc') (k : V m d u1 u2 mc ms pc' L (.int (x * y) :: S) sh R I J Q) : V m d u1 u2 mc ms pc L (.int y :: .int x :: S) sh R I J Q := by
  obtain ⟨hd, rfl⟩ := h
  intro p l e Rm s mid args below meth c H locs ls b D cA F hz hw hS hl
  exact lv_imul F.x F.cc hd (k p l e Rm s mid args below meth c H locs ls b D cA F hz hw hS hl)
theorem V_iand {x y : Int32} (h : D1 m pc .iand 1 pc') (k : V m d u1 u2 mc ms pc' L (.int (x &&& y) :: S) sh R I J Q) : V m d u1 u2 mc ms pc L (.int y :: .int x :: S) sh R I J Q := by
  obtain ⟨hd, rfl⟩ := h
  intro p l e Rm s mid args below meth c H locs ls b D cA F hz hw hS hl
  exact lv_iand F.x F.cc hd (k p l e Rm s mid args below meth c H locs ls b D cA F hz hw hS hl)
theorem V_ior {x y : Int32} (h : D1 m pc .ior 1 pc') (k : V m d u1 u2 mc ms pc' L (.int (x ||| y) :: S) sh R I J Q) : V m d u1 u2 mc ms pc L (.int y :: .int x :: S) sh R I J Q := by
  obtain ⟨hd, rfl⟩ := h
  intro p l e Rm s mid args below meth c H locs ls b D cA F hz hw hS hl
  exact lv_ior F.x F.cc hd (k p l e Rm s mid args below meth c H locs ls b D cA F hz hw hS hl)
theorem V_ishl {x y : Int32} (h : D1 m pc .ishl 1 pc') (k : V m d u1 u2 mc ms pc' L (.int (x <<< (y &&& 31)) :: S) sh R I J Q) : V m d u1 u2 mc ms pc L (.int y :: .int x :: S) sh R I J Q := by
  obtain ⟨hd, rfl⟩ := h
  intro p l e Rm s mid args below meth c H locs ls b D cA F hz hw hS hl
  exact lv_ishl F.x F.cc hd (k p l e Rm s mid args below meth c H locs ls b D cA F hz hw hS hl)
theorem V_ishr {x y : Int32} (h : D1 m pc .ishr 1 pc') (k : V m d u1 u2 mc ms pc' L (.int (x >>> (y &&& 31)) :: S) sh R I J Q) : V m d u1 u2 mc ms pc L (.int y :: .int x :: S) sh R I J Q := by
  obtain ⟨hd, rfl⟩ := h
  intro p l e Rm s mid args below meth c H locs ls b D cA F hz hw hS hl
  exact lv_ishr F.x F.cc hd (k p l e Rm s mid args below meth c H locs ls b D cA F hz hw hS hl)
theorem V_ladd {x y : Int64} (h : D1 m pc .ladd 1 pc') (k : V m d u1 u2 mc ms pc' L (.long (x + y) :: S) sh R I J Q) : V m d u1 u2 mc ms pc L (.long y :: .long x :: S) sh R I J Q := by
  obtain ⟨hd, rfl⟩ := h
  intro p l e Rm s mid args below meth c H locs ls b D cA F hz hw hS hl
  exact lv_ladd F.x F.cc hd (k p l e Rm s mid args below meth c H locs ls b D cA F hz hw hS hl)
theorem V_lsub {x y : Int64} (h : D1 m pc .lsub 1 pc') (k : V m d u1 u2 mc ms pc' L (.long (x - y) :: S) sh R I J Q) : V m d u1 u2 mc ms pc L (.long y :: .long x :: S) sh R I J Q := by
  obtain ⟨hd, rfl⟩ := h
  intro p l e Rm s mid args below meth c H locs ls b D cA F hz hw hS hl
  exact lv_lsub F.x F.cc hd (k p l e Rm s mid args below meth c H locs ls b D cA F hz hw hS hl)
theorem V_lmul {x y : Int64} (h : D1 m pc .lmul 1 pc') (k : V m d u1 u2 mc ms pc' L (.long (x * y) :: S) sh R I J Q) : V m d u1 u2 mc ms pc L (.long y :: .long x :: S) sh R I J Q := by
  obtain ⟨hd, rfl⟩ := h
  intro p l e Rm s mid args below meth c H locs ls b D cA F hz hw hS hl
  exact lv_lmul F.x F.cc hd (k p l e Rm s mid args below meth c H locs ls b D cA F hz hw hS hl)
theorem V_idiv {x y : Int32} (h : D1 m pc .idiv 1 pc') (hne : ¬ y = 0) (k : V m d u1 u2 mc ms pc' L (.int (x / y) :: S) sh R I J Q) : V m d u1 u2 mc ms pc L (.int y :: .int x :: S) sh R I J Q := by
  obtain ⟨hd, rfl⟩ := h
  intro p l e Rm s mid args below meth c H locs ls b D cA F hz hw hS hl
  exact lv_idiv F.x F.cc hd hne (k p l e Rm s mid args below meth c H locs ls b D cA F hz hw hS hl)
theorem V_irem {x y : Int32} (h : D1 m pc .irem 1 pc') (hne : ¬ y = 0) (k : V m d u1 u2 mc ms pc' L (.int (x - x / y * y) :: S) sh R I J Q) : V m d u1 u2 mc ms pc L (.int y :: .int x :: S) sh R I J Q := by
  obtain ⟨hd, rfl⟩ := h
  intro p l e Rm s mid args below meth c H locs ls b D cA F hz hw hS hl
  exact lv_irem F.x F.cc hd hne (k p l e Rm s mid args below meth c H locs ls b D cA F hz hw hS hl)
theorem V_ldiv {x y : Int64} (h : D1 m pc .ldiv 1 pc') (hne : ¬ y = 0) (k : V m d u1 u2 mc ms pc' L (.long (x / y) :: S) sh R I J Q) : V m d u1 u2 mc ms pc L (.long y :: .long x :: S) sh R I J Q := by
  obtain ⟨hd, rfl⟩ := h
  intro p l e Rm s mid args below meth c H locs ls b D cA F hz hw hS hl
  exact lv_ldiv F.x F.cc hd hne (k p l e Rm s mid args below meth c H locs ls b D cA F hz hw hS hl)
theorem V_lrem {x y : Int64} (h : D1 m pc .lrem 1 pc') (hne : ¬ y = 0) (k : V m d u1 u2 mc ms pc' L (.long (x - x / y * y) :: S) sh R I J Q) : V m d u1 u2 mc ms pc L (.long y :: .long x :: S) sh R I J Q := by
  obtain ⟨hd, rfl⟩ := h
  intro p l e Rm s mid args below meth c H locs ls b D cA F hz hw hS hl
  exact lv_lrem F.x F.cc hd hne (k p l e Rm s mid args below meth c H locs ls b D cA F hz hw hS hl)
theorem V_lneg {x : Int64} (h : D1 m pc .lneg 1 pc') (k : V m d u1 u2 mc ms pc' L (.long (-x) :: S) sh R I J Q) : V m d u1 u2 mc ms pc L (.long x :: S) sh R I J Q := by
  obtain ⟨hd, rfl⟩ := h
  intro p l e Rm s mid args below meth c H locs ls b D cA F hz hw hS hl
  exact lv_lneg F.x F.cc hd (k p l e Rm s mid args below meth c H locs ls b D cA F hz hw hS hl)
theorem V_iushr {x y : Int32} (h : D1 m pc .iushr 1 pc') (k : V m d u1 u2 mc ms pc' L (.int (x.toUInt32 >>> (y.toUInt32 &&& Int32.toUInt32 31)).toInt32 :: S) sh R I J Q) : V m d u1 u2 mc ms pc L (.int y :: .int x :: S) sh R I J Q := by
  obtain ⟨hd, rfl⟩ := h
  intro p l e Rm s mid args below meth c H locs ls b D cA F hz hw hS hl
  exact lv_iushr F.x F.cc hd rfl (k p l e Rm s mid args below meth c H locs ls b D cA F hz hw hS hl)
theorem V_i2l {x : Int32} (h : D1 m pc .i2l 1 pc') (k : V m d u1 u2 mc ms pc' L (.long x.toInt64 :: S) sh R I J Q) : V m d u1 u2 mc ms pc L (.int x :: S) sh R I J Q := by
  obtain ⟨hd, rfl⟩ := h
  intro p l e Rm s mid args below meth c H locs ls b D cA F hz hw hS hl
  exact lv_i2l F.x F.cc hd rfl (k p l e Rm s mid args below meth c H locs ls b D cA F hz hw hS hl)
theorem V_l2i {x : Int64} (h : D1 m pc .l2i 1 pc') (k : V m d u1 u2 mc ms pc' L (.int x.toInt32 :: S) sh R I J Q) : V m d u1 u2 mc ms pc L (.long x :: S) sh R I J Q := by
  obtain ⟨hd, rfl⟩ := h
  intro p l e Rm s mid args below meth c H locs ls b D cA F hz hw hS hl
  exact lv_l2i F.x F.cc hd rfl (k p l e Rm s mid args below meth c H locs ls b D cA F hz hw hS hl)
theorem V_i2b {x : Int32} (h : D1 m pc .i2b 1 pc') (k : V m d u1 u2 mc ms pc' L (.int x.toInt8.toInt32 :: S) sh R I J Q) : V m d u1 u2 mc ms pc L (.int x :: S) sh R I J Q := by
  obtain ⟨hd, rfl⟩ := h
  intro p l e Rm s mid args below meth c H locs ls b D cA F hz hw hS hl
  exact lv_i2b F.x F.cc hd rfl (k p l e Rm s mid args below meth c H locs ls b D cA F hz hw hS hl)
theorem V_lcmp {x y : Int64} (h : D1 m pc .lcmp 1 pc') (k : V m d u1 u2 mc ms pc' L (.int (lg_cmp x y) :: S) sh R I J Q) : V m d u1 u2 mc ms pc L (.long y :: .long x :: S) sh R I J Q := by
  obtain ⟨hd, rfl⟩ := h
  intro p l e Rm s mid args below meth c H locs ls b D cA F hz hw hS hl
  exact W.lcmp F.x F.cc hd (k p l e Rm s mid args below meth c H locs ls b D cA F hz hw hS hl)
theorem V_dup {v : Value} (h : D1 m pc .dup 1 pc') (hv : v.category = 1) (k : V m d u1 u2 mc ms pc' L (v :: v :: S) sh R I J Q) : V m d u1 u2 mc ms pc L (v :: S) sh R I J Q := by
  obtain ⟨hd, rfl⟩ := h
  intro p l e Rm s mid args below meth c H locs ls b D cA F hz hw hS hl
  exact lv_dup F.x F.cc hd (by rw [tr_cat]; exact hv) (k p l e Rm s mid args below meth c H locs ls b D cA F hz hw hS hl)
theorem V_dup2 {v w : Value} (h : D1 m pc .dup2 1 pc') (hv : v.category = 1) (hw' : w.category = 1) (k : V m d u1 u2 mc ms pc' L (v :: w :: v :: w :: S) sh R I J Q) : V m d u1 u2 mc ms pc L (v :: w :: S) sh R I J Q := by
  obtain ⟨hd, rfl⟩ := h
  intro p l e Rm s mid args below meth c H locs ls b D cA F hz hw hS hl
  exact lv_dup2_11 F.x F.cc hd (by rw [tr_cat]; exact hv) (by rw [tr_cat]; exact hw') (k p l e Rm s mid args below meth c H locs ls b D cA F hz hw hS hl)
theorem V_pop {v : Value} (h : D1 m pc .pop 1 pc') (hv : v.category = 1) (k : V m d u1 u2 mc ms pc' L (S) sh R I J Q) : V m d u1 u2 mc ms pc L (v :: S) sh R I J Q := by
  obtain ⟨hd, rfl⟩ := h
  intro p l e Rm s mid args below meth c H locs ls b D cA F hz hw hS hl
  exact lv_pop F.x F.cc hd (by rw [tr_cat]; exact hv) (k p l e Rm s mid args below meth c H locs ls b D cA F hz hw hS hl)
theorem V_pop2 {v : Value} (h : D1 m pc .pop2 1 pc') (hv : v.category = 2) (k : V m d u1 u2 mc ms pc' L (S) sh R I J Q) : V m d u1 u2 mc ms pc L (v :: S) sh R I J Q := by
  obtain ⟨hd, rfl⟩ := h
  intro p l e Rm s mid args below meth c H locs ls b D cA F hz hw hS hl
  exact lv_pop2_2 F.x F.cc hd (by rw [tr_cat]; exact hv) (k p l e Rm s mid args below meth c H locs ls b D cA F hz hw hS hl)
theorem V_null (h : D1 m pc .aconst_null 1 pc') (k : V m d u1 u2 mc ms pc' L (.null :: S) sh R I J Q) : V m d u1 u2 mc ms pc L (S) sh R I J Q := by
  obtain ⟨hd, rfl⟩ := h
  intro p l e Rm s mid args below meth c H locs ls b D cA F hz hw hS hl
  exact lv_null F.x F.cc hd (k p l e Rm s mid args below meth c H locs ls b D cA F hz hw hS hl)
theorem V_if_eq {x : Int32} {off : Int} {tgt : Nat} (h : D2 m pc (.ifCond .eq off) off pc' tgt) (kt : x = 0 → V m d u1 u2 mc ms tgt L S sh R I J Q) (kf : ¬ x = 0 → V m d u1 u2 mc ms pc' L S sh R I J Q) : V m d u1 u2 mc ms pc L (.int x :: S) sh R I J Q := by
  obtain ⟨hd, rfl, ht⟩ := h
  intro p l e Rm s mid args below meth c H locs ls b D cA F hz hw hS hl
  exact lv_if_eq F.x F.cc hd ht (fun hc => kt hc p l e Rm s mid args below meth c H locs ls b D cA F hz hw hS hl) (fun hc => kf hc p l e Rm s mid args below meth c H locs ls b D cA F hz hw hS hl)
theorem V_ic_eq {x y : Int32} {off : Int} {tgt : Nat} (h : D2 m pc (.if_icmp .eq off) off pc' tgt) (kt : x = y → V m d u1 u2 mc ms tgt L S sh R I J Q) (kf : ¬ x = y → V m d u1 u2 mc ms pc' L S sh R I J Q) : V m d u1 u2 mc ms pc L (.int y :: .int x :: S) sh R I J Q := by
  obtain ⟨hd, rfl, ht⟩ := h
  intro p l e Rm s mid args below meth c H locs ls b D cA F hz hw hS hl
  exact lv_icmp_eq F.x F.cc hd ht (fun hc => kt hc p l e Rm s mid args below meth c H locs ls b D cA F hz hw hS hl) (fun hc => kf hc p l e Rm s mid args below meth c H locs ls b D cA F hz hw hS hl)
theorem V_if_eq_t {x : Int32} {off : Int} {tgt : Nat} (h : D2 m pc (.ifCond .eq off) off pc' tgt) (hc : x = 0) (k : V m d u1 u2 mc ms tgt L S sh R I J Q) : V m d u1 u2 mc ms pc L (.int x :: S) sh R I J Q := V_if_eq h (fun _ => k) (fun h2 => absurd hc (by first | exact h2 | exact not_not_intro h2))
theorem V_if_eq_f {x : Int32} {off : Int} {tgt : Nat} (h : D2 m pc (.ifCond .eq off) off pc' tgt) (hc : ¬ x = 0) (k : V m d u1 u2 mc ms pc' L S sh R I J Q) : V m d u1 u2 mc ms pc L (.int x :: S) sh R I J Q := V_if_eq h (fun h2 => absurd h2 (by first | exact hc | exact not_not_intro hc)) (fun _ => k)
theorem V_ic_eq_t {x y : Int32} {off : Int} {tgt : Nat} (h : D2 m pc (.if_icmp .eq off) off pc' tgt) (hc : x = y) (k : V m d u1 u2 mc ms tgt L S sh R I J Q) : V m d u1 u2 mc ms pc L (.int y :: .int x :: S) sh R I J Q := V_ic_eq h (fun _ => k) (fun h2 => absurd hc (by first | exact h2 | exact not_not_intro h2))
theorem V_ic_eq_f {x y : Int32} {off : Int} {tgt : Nat} (h : D2 m pc (.if_icmp .eq off) off pc' tgt) (hc : ¬ x = y) (k : V m d u1 u2 mc ms pc' L S sh R I J Q) : V m d u1 u2 mc ms pc L (.int y :: .int x :: S) sh R I J Q := V_ic_eq h (fun h2 => absurd h2 (by first | exact hc | exact not_not_intro hc)) (fun _ => k)
theorem V_if_ne {x : Int32} {off : Int} {tgt : Nat} (h : D2 m pc (.ifCond .ne off) off pc' tgt) (kt : ¬ x = 0 → V m d u1 u2 mc ms tgt L S sh R I J Q) (kf : x = 0 → V m d u1 u2 mc ms pc' L S sh R I J Q) : V m d u1 u2 mc ms pc L (.int x :: S) sh R I J Q := by
  obtain ⟨hd, rfl, ht⟩ := h
  intro p l e Rm s mid args below meth c H locs ls b D cA F hz hw hS hl
  exact lv_if_ne F.x F.cc hd ht (fun hc => kt hc p l e Rm s mid args below meth c H locs ls b D cA F hz hw hS hl) (fun hc => kf hc p l e Rm s mid args below meth c H locs ls b D cA F hz hw hS hl)
theorem V_ic_ne {x y : Int32} {off : Int} {tgt : Nat} (h : D2 m pc (.if_icmp .ne off) off pc' tgt) (kt : ¬ x = y → V m d u1 u2 mc ms tgt L S sh R I J Q) (kf : x = y → V m d u1 u2 mc ms pc' L S sh R I J Q) : V m d u1 u2 mc ms pc L (.int y :: .int x :: S) sh R I J Q := by
  obtain ⟨hd, rfl, ht⟩ := h
  intro p l e Rm s mid args below meth c H locs ls b D cA F hz hw hS hl
  exact lv_icmp_ne F.x F.cc hd ht (fun hc => kt hc p l e Rm s mid args below meth c H locs ls b D cA F hz hw hS hl) (fun hc => kf hc p l e Rm s mid args below meth c H locs ls b D cA F hz hw hS hl)
theorem V_if_ne_t {x : Int32} {off : Int} {tgt : Nat} (h : D2 m pc (.ifCond .ne off) off pc' tgt) (hc : ¬ x = 0) (k : V m d u1 u2 mc ms tgt L S sh R I J Q) : V m d u1 u2 mc ms pc L (.int x :: S) sh R I J Q := V_if_ne h (fun _ => k) (fun h2 => absurd hc (by first | exact h2 | exact not_not_intro h2))
theorem V_if_ne_f {x : Int32} {off : Int} {tgt : Nat} (h : D2 m pc (.ifCond .ne off) off pc' tgt) (hc : x = 0) (k : V m d u1 u2 mc ms pc' L S sh R I J Q) : V m d u1 u2 mc ms pc L (.int x :: S) sh R I J Q := V_if_ne h (fun h2 => absurd h2 (by first | exact hc | exact not_not_intro hc)) (fun _ => k)
theorem V_ic_ne_t {x y : Int32} {off : Int} {tgt : Nat} (h : D2 m pc (.if_icmp .ne off) off pc' tgt) (hc : ¬ x = y) (k : V m d u1 u2 mc ms tgt L S sh R I J Q) : V m d u1 u2 mc ms pc L (.int y :: .int x :: S) sh R I J Q := V_ic_ne h (fun _ => k) (fun h2 => absurd hc (by first | exact h2 | exact not_not_intro h2))
theorem V_ic_ne_f {x y : Int32} {off : Int} {tgt : Nat} (h : D2 m pc (.if_icmp .ne off) off pc' tgt) (hc : x = y) (k : V m d u1 u2 mc ms pc' L S sh R I J Q) : V m d u1 u2 mc ms pc L (.int y :: .int x :: S) sh R I J Q := V_ic_ne h (fun h2 => absurd h2 (by first | exact hc | exact not_not_intro hc)) (fun _ => k)
theorem V_if_lt {x : Int32} {off : Int} {tgt : Nat} (h : D2 m pc (.ifCond .lt off) off pc' tgt) (kt : x < 0 → V m d u1 u2 mc ms tgt L S sh R I J Q) (kf : ¬ x < 0 → V m d u1 u2 mc ms pc' L S sh R I J Q) : V m d u1 u2 mc ms pc L (.int x :: S) sh R I J Q := by
  obtain ⟨hd, rfl, ht⟩ := h
  intro p l e Rm s mid args below meth c H locs ls b D cA F hz hw hS hl
  exact lv_if_lt F.x F.cc hd ht (fun hc => kt hc p l e Rm s mid args below meth c H locs ls b D cA F hz hw hS hl) (fun hc => kf hc p l e Rm s mid args below meth c H locs ls b D cA F hz hw hS hl)
theorem V_ic_lt {x y : Int32} {off : Int} {tgt : Nat} (h : D2 m pc (.if_icmp .lt off) off pc' tgt) (kt : x < y → V m d u1 u2 mc ms tgt L S sh R I J Q) (kf : ¬ x < y → V m d u1 u2 mc ms pc' L S sh R I J Q) : V m d u1 u2 mc ms pc L (.int y :: .int x :: S) sh R I J Q := by
  obtain ⟨hd, rfl, ht⟩ := h
  intro p l e Rm s mid args below meth c H locs ls b D cA F hz hw hS hl
  exact lv_icmp_lt F.x F.cc hd ht (fun hc => kt hc p l e Rm s mid args below meth c H locs ls b D cA F hz hw hS hl) (fun hc => kf hc p l e Rm s mid args below meth c H locs ls b D cA F hz hw hS hl)
theorem V_if_lt_t {x : Int32} {off : Int} {tgt : Nat} (h : D2 m pc (.ifCond .lt off) off pc' tgt) (hc : x < 0) (k : V m d u1 u2 mc ms tgt L S sh R I J Q) : V m d u1 u2 mc ms pc L (.int x :: S) sh R I J Q := V_if_lt h (fun _ => k) (fun h2 => absurd hc (by first | exact h2 | exact not_not_intro h2))
theorem V_if_lt_f {x : Int32} {off : Int} {tgt : Nat} (h : D2 m pc (.ifCond .lt off) off pc' tgt) (hc : ¬ x < 0) (k : V m d u1 u2 mc ms pc' L S sh R I J Q) : V m d u1 u2 mc ms pc L (.int x :: S) sh R I J Q := V_if_lt h (fun h2 => absurd h2 (by first | exact hc | exact not_not_intro hc)) (fun _ => k)
theorem V_ic_lt_t {x y : Int32} {off : Int} {tgt : Nat} (h : D2 m pc (.if_icmp .lt off) off pc' tgt) (hc : x < y) (k : V m d u1 u2 mc ms tgt L S sh R I J Q) : V m d u1 u2 mc ms pc L (.int y :: .int x :: S) sh R I J Q := V_ic_lt h (fun _ => k) (fun h2 => absurd hc (by first | exact h2 | exact not_not_intro h2))
theorem V_ic_lt_f {x y : Int32} {off : Int} {tgt : Nat} (h : D2 m pc (.if_icmp .lt off) off pc' tgt) (hc : ¬ x < y) (k : V m d u1 u2 mc ms pc' L S sh R I J Q) : V m d u1 u2 mc ms pc L (.int y :: .int x :: S) sh R I J Q := V_ic_lt h (fun h2 => absurd h2 (by first | exact hc | exact not_not_intro hc)) (fun _ => k)
theorem V_if_ge {x : Int32} {off : Int} {tgt : Nat} (h : D2 m pc (.ifCond .ge off) off pc' tgt) (kt : 0 ≤ x → V m d u1 u2 mc ms tgt L S sh R I J Q) (kf : ¬ 0 ≤ x → V m d u1 u2 mc ms pc' L S sh R I J Q) : V m d u1 u2 mc ms pc L (.int x :: S) sh R I J Q := by
  obtain ⟨hd, rfl, ht⟩ := h
  intro p l e Rm s mid args below meth c H locs ls b D cA F hz hw hS hl
  exact lv_if_ge F.x F.cc hd ht (fun hc => kt hc p l e Rm s mid args below meth c H locs ls b D cA F hz hw hS hl) (fun hc => kf hc p l e Rm s mid args below meth c H locs ls b D cA F hz hw hS hl)
theorem V_ic_ge {x y : Int32} {off : Int} {tgt : Nat} (h : D2 m pc (.if_icmp .ge off) off pc' tgt) (kt : y ≤ x → V m d u1 u2 mc ms tgt L S sh R I J Q) (kf : ¬ y ≤ x → V m d u1 u2 mc ms pc' L S sh R I J Q) : V m d u1 u2 mc ms pc L (.int y :: .int x :: S) sh R I J Q := by
  obtain ⟨hd, rfl, ht⟩ := h
  intro p l e Rm s mid args below meth c H locs ls b D cA F hz hw hS hl
  exact lv_icmp_ge F.x F.cc hd ht (fun hc => kt hc p l e Rm s mid args below meth c H locs ls b D cA F hz hw hS hl) (fun hc => kf hc p l e Rm s mid args below meth c H locs ls b D cA F hz hw hS hl)
theorem V_if_ge_t {x : Int32} {off : Int} {tgt : Nat} (h : D2 m pc (.ifCond .ge off) off pc' tgt) (hc : 0 ≤ x) (k : V m d u1 u2 mc ms tgt L S sh R I J Q) : V m d u1 u2 mc ms pc L (.int x :: S) sh R I J Q := V_if_ge h (fun _ => k) (fun h2 => absurd hc (by first | exact h2 | exact not_not_intro h2))
theorem V_if_ge_f {x : Int32} {off : Int} {tgt : Nat} (h : D2 m pc (.ifCond .ge off) off pc' tgt) (hc : ¬ 0 ≤ x) (k : V m d u1 u2 mc ms pc' L S sh R I J Q) : V m d u1 u2 mc ms pc L (.int x :: S) sh R I J Q := V_if_ge h (fun h2 => absurd h2 (by first | exact hc | exact not_not_intro hc)) (fun _ => k)
theorem V_ic_ge_t {x y : Int32} {off : Int} {tgt : Nat} (h : D2 m pc (.if_icmp .ge off) off pc' tgt) (hc : y ≤ x) (k : V m d u1 u2 mc ms tgt L S sh R I J Q) : V m d u1 u2 mc ms pc L (.int y :: .int x :: S) sh R I J Q := V_ic_ge h (fun _ => k) (fun h2 => absurd hc (by first | exact h2 | exact not_not_intro h2))
theorem V_ic_ge_f {x y : Int32} {off : Int} {tgt : Nat} (h : D2 m pc (.if_icmp .ge off) off pc' tgt) (hc : ¬ y ≤ x) (k : V m d u1 u2 mc ms pc' L S sh R I J Q) : V m d u1 u2 mc ms pc L (.int y :: .int x :: S) sh R I J Q := V_ic_ge h (fun h2 => absurd h2 (by first | exact hc | exact not_not_intro hc)) (fun _ => k)
theorem V_if_gt {x : Int32} {off : Int} {tgt : Nat} (h : D2 m pc (.ifCond .gt off) off pc' tgt) (kt : 0 < x → V m d u1 u2 mc ms tgt L S sh R I J Q) (kf : ¬ 0 < x → V m d u1 u2 mc ms pc' L S sh R I J Q) : V m d u1 u2 mc ms pc L (.int x :: S) sh R I J Q := by
  obtain ⟨hd, rfl, ht⟩ := h
  intro p l e Rm s mid args below meth c H locs ls b D cA F hz hw hS hl
  exact lv_if_gt F.x F.cc hd ht (fun hc => kt hc p l e Rm s mid args below meth c H locs ls b D cA F hz hw hS hl) (fun hc => kf hc p l e Rm s mid args below meth c H locs ls b D cA F hz hw hS hl)
theorem V_ic_gt {x y : Int32} {off : Int} {tgt : Nat} (h : D2 m pc (.if_icmp .gt off) off pc' tgt) (kt : y < x → V m d u1 u2 mc ms tgt L S sh R I J Q) (kf : ¬ y < x → V m d u1 u2 mc ms pc' L S sh R I J Q) : V m d u1 u2 mc ms pc L (.int y :: .int x :: S) sh R I J Q := by
  obtain ⟨hd, rfl, ht⟩ := h
  intro p l e Rm s mid args below meth c H locs ls b D cA F hz hw hS hl
  exact lv_icmp_gt F.x F.cc hd ht (fun hc => kt hc p l e Rm s mid args below meth c H locs ls b D cA F hz hw hS hl) (fun hc => kf hc p l e Rm s mid args below meth c H locs ls b D cA F hz hw hS hl)
theorem V_if_gt_t {x : Int32} {off : Int} {tgt : Nat} (h : D2 m pc (.ifCond .gt off) off pc' tgt) (hc : 0 < x) (k : V m d u1 u2 mc ms tgt L S sh R I J Q) : V m d u1 u2 mc ms pc L (.int x :: S) sh R I J Q := V_if_gt h (fun _ => k) (fun h2 => absurd hc (by first | exact h2 | exact not_not_intro h2))
theorem V_if_gt_f {x : Int32} {off : Int} {tgt : Nat} (h : D2 m pc (.ifCond .gt off) off pc' tgt) (hc : ¬ 0 < x) (k : V m d u1 u2 mc ms pc' L S sh R I J Q) : V m d u1 u2 mc ms pc L (.int x :: S) sh R I J Q := V_if_gt h (fun h2 => absurd h2 (by first | exact hc | exact not_not_intro hc)) (fun _ => k)
theorem V_ic_gt_t {x y : Int32} {off : Int} {tgt : Nat} (h : D2 m pc (.if_icmp .gt off) off pc' tgt) (hc : y < x) (k : V m d u1 u2 mc ms tgt L S sh R I J Q) : V m d u1 u2 mc ms pc L (.int y :: .int x :: S) sh R I J Q := V_ic_gt h (fun _ => k) (fun h2 => absurd hc (by first | exact h2 | exact not_not_intro h2))
theorem V_ic_gt_f {x y : Int32} {off : Int} {tgt : Nat} (h : D2 m pc (.if_icmp .gt off) off pc' tgt) (hc : ¬ y < x) (k : V m d u1 u2 mc ms pc' L S sh R I J Q) : V m d u1 u2 mc ms pc L (.int y :: .int x :: S) sh R I J Q := V_ic_gt h (fun h2 => absurd h2 (by first | exact hc | exact not_not_intro hc)) (fun _ => k)
theorem V_if_le {x : Int32} {off : Int} {tgt : Nat} (h : D2 m pc (.ifCond .le off) off pc' tgt) (kt : x ≤ 0 → V m d u1 u2 mc ms tgt L S sh R I J Q) (kf : ¬ x ≤ 0 → V m d u1 u2 mc ms pc' L S sh R I J Q) : V m d u1 u2 mc ms pc L (.int x :: S) sh R I J Q := by
  obtain ⟨hd, rfl, ht⟩ := h
  intro p l e Rm s mid args below meth c H locs ls b D cA F hz hw hS hl
  exact lv_if_le F.x F.cc hd ht (fun hc => kt hc p l e Rm s mid args below meth c H locs ls b D cA F hz hw hS hl) (fun hc => kf hc p l e Rm s mid args below meth c H locs ls b D cA F hz hw hS hl)
theorem V_ic_le {x y : Int32} {off : Int} {tgt : Nat} (h : D2 m pc (.if_icmp .le off) off pc' tgt) (kt : x ≤ y → V m d u1 u2 mc ms tgt L S sh R I J Q) (kf : ¬ x ≤ y → V m d u1 u2 mc ms pc' L S sh R I J Q) : V m d u1 u2 mc ms pc L (.int y :: .int x :: S) sh R I J Q := by
  obtain ⟨hd, rfl, ht⟩ := h
  intro p l e Rm s mid args below meth c H locs ls b D cA F hz hw hS hl
  exact lv_icmp_le F.x F.cc hd ht (fun hc => kt hc p l e Rm s mid args below meth c H locs ls b D cA F hz hw hS hl) (fun hc => kf hc p l e Rm s mid args below meth c H locs ls b D cA F hz hw hS hl)
theorem V_if_le_t {x : Int32} {off : Int} {tgt : Nat} (h : D2 m pc (.ifCond .le off) off pc' tgt) (hc : x ≤ 0) (k : V m d u1 u2 mc ms tgt L S sh R I J Q) : V m d u1 u2 mc ms pc L (.int x :: S) sh R I J Q := V_if_le h (fun _ => k) (fun h2 => absurd hc (by first | exact h2 | exact not_not_intro h2))
theorem V_if_le_f {x : Int32} {off : Int} {tgt : Nat} (h : D2 m pc (.ifCond .le off) off pc' tgt) (hc : ¬ x ≤ 0) (k : V m d u1 u2 mc ms pc' L S sh R I J Q) : V m d u1 u2 mc ms pc L (.int x :: S) sh R I J Q := V_if_le h (fun h2 => absurd h2 (by first | exact hc | exact not_not_intro hc)) (fun _ => k)
theorem V_ic_le_t {x y : Int32} {off : Int} {tgt : Nat} (h : D2 m pc (.if_icmp .le off) off pc' tgt) (hc : x ≤ y) (k : V m d u1 u2 mc ms tgt L S sh R I J Q) : V m d u1 u2 mc ms pc L (.int y :: .int x :: S) sh R I J Q := V_ic_le h (fun _ => k) (fun h2 => absurd hc (by first | exact h2 | exact not_not_intro h2))
theorem V_ic_le_f {x y : Int32} {off : Int} {tgt : Nat} (h : D2 m pc (.if_icmp .le off) off pc' tgt) (hc : ¬ x ≤ y) (k : V m d u1 u2 mc ms pc' L S sh R I J Q) : V m d u1 u2 mc ms pc L (.int y :: .int x :: S) sh R I J Q := V_ic_le h (fun h2 => absurd h2 (by first | exact hc | exact not_not_intro hc)) (fun _ => k)
theorem V_goto {off : Int} {tgt : Nat} (h : D2 m pc (.goto off) off pc' tgt) (k : V m d u1 u2 mc ms tgt L (S) sh R I J Q) : V m d u1 u2 mc ms pc L (S) sh R I J Q := by
  obtain ⟨hd, rfl, ht⟩ := h
  intro p l e Rm s mid args below meth c H locs ls b D cA F hz hw hS hl
  exact lv_goto F.x F.cc hd ht (k p l e Rm s mid args below meth c H locs ls b D cA F hz hw hS hl)
theorem V_ifnull {a : Nat} {off : Int} {tgt : Nat} (h : D2 m pc (.ifnull off) off pc' tgt) (k : V m d u1 u2 mc ms pc' L (S) sh R I J Q) : V m d u1 u2 mc ms pc L (.ref a :: S) sh R I J Q := by
  obtain ⟨hd, rfl, ht⟩ := h
  intro p l e Rm s mid args below meth c H locs ls b D cA F hz hw hS hl
  exact lv_ifnull F.x F.cc hd (k p l e Rm s mid args below meth c H locs ls b D cA F hz hw hS hl)
theorem V_ifnonnull {a : Nat} {off : Int} {tgt : Nat} (h : D2 m pc (.ifnonnull off) off pc' tgt) (k : V m d u1 u2 mc ms tgt L (S) sh R I J Q) : V m d u1 u2 mc ms pc L (.ref a :: S) sh R I J Q := by
  obtain ⟨hd, rfl, ht⟩ := h
  intro p l e Rm s mid args below meth c H locs ls b D cA F hz hw hS hl
  exact lv_ifnonnull F.x F.cc hd ht (k p l e Rm s mid args below meth c H locs ls b D cA F hz hw hS hl)
theorem V_ifnullN {off : Int} {tgt : Nat} (h : D2 m pc (.ifnull off) off pc' tgt) (k : V m d u1 u2 mc ms tgt L (S) sh R I J Q) : V m d u1 u2 mc ms pc L (.null :: S) sh R I J Q := by
  obtain ⟨hd, rfl, ht⟩ := h
  intro p l e Rm s mid args below meth c H locs ls b D cA F hz hw hS hl
  exact lv_ifnullN F.x F.cc hd ht (k p l e Rm s mid args below meth c H locs ls b D cA F hz hw hS hl)
theorem V_ifnonnullN {off : Int} {tgt : Nat} (h : D2 m pc (.ifnonnull off) off pc' tgt) (k : V m d u1 u2 mc ms pc' L (S) sh R I J Q) : V m d u1 u2 mc ms pc L (.null :: S) sh R I J Q := by
  obtain ⟨hd, rfl, ht⟩ := h
  intro p l e Rm s mid args below meth c H locs ls b D cA F hz hw hS hl
  exact lv_ifnonnullN F.x F.cc hd (k p l e Rm s mid args below meth c H locs ls b D cA F hz hw hS hl)
theorem V_tswIn {x : Int32} {dflt lo hi : Int} {offs : Array Int} {len tgt : Nat} {off : Int} (h : D1 m pc (.tableswitch dflt lo hi offs) len pc') (h1 : ¬ x.toInt < lo) (h2 : ¬ hi < x.toInt) (ho : offs[(x.toInt - lo).toNat]? = some off) (ht : (pc : Int) + off = (tgt : Int)) (k : V m d u1 u2 mc ms tgt L (S) sh R I J Q) : V m d u1 u2 mc ms pc L (.int x :: S) sh R I J Q := by
  obtain ⟨hd, rfl⟩ := h
  intro p l e Rm s mid args below meth c H locs ls b D cA F hz hw hS hl
  exact lv_tableIn F.x F.cc hd h1 h2 ho ht (k p l e Rm s mid args below meth c H locs ls b D cA F hz hw hS hl)
theorem V_tswOut {x : Int32} {dflt lo hi : Int} {offs : Array Int} {len tgt : Nat} (h : D1 m pc (.tableswitch dflt lo hi offs) len pc') (h1 : x.toInt < lo ∨ hi < x.toInt) (ht : (pc : Int) + dflt = (tgt : Int)) (k : V m d u1 u2 mc ms tgt L (S) sh R I J Q) : V m d u1 u2 mc ms pc L (.int x :: S) sh R I J Q := by
  obtain ⟨hd, rfl⟩ := h
  intro p l e Rm s mid args below meth c H locs ls b D cA F hz hw hS hl
  exact lv_tableOut F.x F.cc hd h1 ht (k p l e Rm s mid args below meth c H locs ls b D cA F hz hw hS hl)

theorem ws_obj {b : Nat} {cA : Nat → ClassId} {a ci : Nat} (hs : sh[a]? = some (0, ci)) : (wsOf b cA sh R I J)[a]? = some (b + a, .inr (ci, flds b R I J a (fk ci) 0)) := ws_get hs
theorem ws_ai {b : Nat} {cA : Nat → ClassId} {a n : Nat} (hs : sh[a]? = some (1, n)) : (wsOf b cA sh R I J)[a]? = some (b + a, .inl (cA 1, n, .inl (I a))) := ws_get hs
theorem ws_al {b : Nat} {cA : Nat → ClassId} {a n : Nat} (hs : sh[a]? = some (2, n)) : (wsOf b cA sh R I J)[a]? = some (b + a, .inl (cA 2, n, .inr (.inl (J a)))) := ws_get hs
theorem ws_ar {b : Nat} {cA : Nat → ClassId} {a n : Nat} (j : Nat) (hj : j = 3 ∨ j = 4) (hs : sh[a]? = some (j, n)) : (wsOf b cA sh R I J)[a]? = some (b + a, .inl (cA j, n, .inr (.inr (.inr (.inr (fun i => (R a i).map (fun q => b + q))))))) := by
  rw [ws_get hs]
  rcases hj with rfl | rfl <;> rfl

theorem V_getI {a ci f : Nat} (h : DF m pc ci f 0 pc') (hs : sh[a]? = some (0, ci)) (k : V m d u1 u2 mc ms pc' L (.int (I a f) :: S) sh R I J Q) : V m d u1 u2 mc ms pc L (.ref a :: S) sh R I J Q := by
  obtain ⟨idx, C, T, N, hd, hc, hk, hlk, ht, rfl⟩ := h
  intro p l e Rm s mid args below meth c H locs ls b D cA F hz hw hS hl
  exact va_get (D := D) (ci := ci) F.x F.cc F.t (cl_in hc) F.o hw.2 hw.1 a (ws_obj hs) hc f hk (F.t _ hlk) (fun _ h9 => h9) (v := tr b (.int (I a f))) (by rw [flds_get ht, Nat.zero_add]; rfl) hd (k p l e Rm s mid args below meth c H locs ls b D cA F hz hw hS hl)
theorem V_getZ {a ci f : Nat} (h : DF m pc ci f 3 pc') (hs : sh[a]? = some (0, ci)) (k : V m d u1 u2 mc ms pc' L (.int (I a f) :: S) sh R I J Q) : V m d u1 u2 mc ms pc L (.ref a :: S) sh R I J Q := by
  obtain ⟨idx, C, T, N, hd, hc, hk, hlk, ht, rfl⟩ := h
  intro p l e Rm s mid args below meth c H locs ls b D cA F hz hw hS hl
  exact va_get (D := D) (ci := ci) F.x F.cc F.t (cl_in hc) F.o hw.2 hw.1 a (ws_obj hs) hc f hk (F.t _ hlk) (fun _ h9 => h9) (v := tr b (.int (I a f))) (by rw [flds_get ht, Nat.zero_add]; rfl) hd (k p l e Rm s mid args below meth c H locs ls b D cA F hz hw hS hl)
theorem V_getJ {a ci f : Nat} (h : DF m pc ci f 1 pc') (hs : sh[a]? = some (0, ci)) (k : V m d u1 u2 mc ms pc' L (.long (J a f) :: S) sh R I J Q) : V m d u1 u2 mc ms pc L (.ref a :: S) sh R I J Q := by
  obtain ⟨idx, C, T, N, hd, hc, hk, hlk, ht, rfl⟩ := h
  intro p l e Rm s mid args below meth c H locs ls b D cA F hz hw hS hl
  exact va_get (D := D) (ci := ci) F.x F.cc F.t (cl_in hc) F.o hw.2 hw.1 a (ws_obj hs) hc f hk (F.t _ hlk) (fun _ h9 => h9) (v := tr b (.long (J a f))) (by rw [flds_get ht, Nat.zero_add]; rfl) hd (k p l e Rm s mid args below meth c H locs ls b D cA F hz hw hS hl)
theorem V_getR {a ci f a2 : Nat} (h : DF m pc ci f 2 pc') (hs : sh[a]? = some (0, ci)) (hr : R a f = some a2) (k : V m d u1 u2 mc ms pc' L (.ref a2 :: S) sh R I J Q) : V m d u1 u2 mc ms pc L (.ref a :: S) sh R I J Q := by
  obtain ⟨idx, C, T, N, hd, hc, hk, hlk, ht, rfl⟩ := h
  intro p l e Rm s mid args below meth c H locs ls b D cA F hz hw hS hl
  exact va_get (D := D) (ci := ci) F.x F.cc F.t (cl_in hc) F.o hw.2 hw.1 a (ws_obj hs) hc f hk (F.t _ hlk) (fun _ h9 => h9) (v := .ref (b + a2)) (by rw [flds_get ht, Nat.zero_add]; simp [fval, hr, va_rf]) hd (k p l e Rm s mid args below meth c H locs ls b D cA F hz hw hS hl)

theorem put_cell {b : Nat} {cA : Nat → ClassId} {a ci f t : Nat} {R' : RefM} {I' : IntM} {J' : LngM} (hs : sh[a]? = some (0, ci)) (ht : (fk ci)[f]? = some t) (hR : ∀ x j, (x, j) ≠ (a, f) → R' x j = R x j) (hI : ∀ x j, (x, j) ≠ (a, f) → I' x j = I x j) (hJ : ∀ x j, (x, j) ≠ (a, f) → J' x j = J x j) {v : Value} (hv : fval b R' I' J' a f t = v) :
    (wsOf b cA sh R I J).set a (b + a, .inr (ci, (flds b R I J a (fk ci) 0).set f v)) = wsOf b cA sh R' I' J' := by
  refine ws_set hs (fun a' s' h => cell_other (fun j => hR a' j (fun e => h (by cases e; rfl))) (fun j => hI a' j (fun e => h (by cases e; rfl))) (fun j => hJ a' j (fun e => h (by cases e; rfl))) s') ?_
  show (Sum.inr (ci, flds b R' I' J' a (fk ci) 0) : va_E) = _
  have e := flds_set (b := b) (R := R) (R' := R') (I := I) (I' := I') (J := J) (J' := J') (a := a) ht (fun j u _ hj => by
    unfold fval
    rw [hR a j (fun e => hj (by cases e; rfl)), hI a j (fun e => hj (by cases e; rfl)), hJ a j (fun e => hj (by cases e; rfl))])
  rw [e, hv]
theorem uI_ne {a f : Nat} {v : Int32} (x j : Nat) (h : (x, j) ≠ (a, f)) : uI I a f v x j = I x j := by
  unfold uI
  rw [if_neg]
  rintro ⟨rfl, rfl⟩
  exact h rfl
theorem uJ_ne {a f : Nat} {v : Int64} (x j : Nat) (h : (x, j) ≠ (a, f)) : uJ J a f v x j = J x j := by
  unfold uJ
  rw [if_neg]
  rintro ⟨rfl, rfl⟩
  exact h rfl
theorem uR_ne {a f : Nat} {v : Option Nat} (x j : Nat) (h : (x, j) ≠ (a, f)) : uR R a f v x j = R x j := by
  unfold uR
  rw [if_neg]
  rintro ⟨rfl, rfl⟩
  exact h rfl
theorem uI_eq {a f : Nat} {v : Int32} : uI I a f v a f = v := by unfold uI; rw [if_pos ⟨rfl, rfl⟩]
theorem uJ_eq {a f : Nat} {v : Int64} : uJ J a f v a f = v := by unfold uJ; rw [if_pos ⟨rfl, rfl⟩]
theorem uR_eq {a f : Nat} {v : Option Nat} : uR R a f v a f = v := by unfold uR; rw [if_pos ⟨rfl, rfl⟩]

theorem V_putI {a ci f : Nat} {x : Int32} (h : DP m pc ci f 0 false .int pc') (hs : sh[a]? = some (0, ci))  (k : V m d u1 u2 mc ms pc' L S sh R (uI I a f x) J Q) : V m d u1 u2 mc ms pc L (.int x :: .ref a :: S) sh R I J Q := by
  obtain ⟨idx, C, T, N, hd, hc, hk, hlk, ht, hfn, hpt, hdc, rfl⟩ := h
  intro p l e Rm s mid args below meth c H locs ls b D cA F hz hw hS hl
  obtain ⟨ty0, hty, hnm⟩ := cl_ty hc
  refine va_put (D := D) (ci := ci) (v := tr b (.int x)) (ty := .int) F.x F.cc F.t (cl_in hc) ty0 hty hnm F.o hw.2 hw.1 ws_D hS a (ws_obj hs) hc f hk (F.t _ hlk) (fun _ h9 => h9) hfn hpt rfl rfl (by rw [flds_len]; exact (List.getElem?_eq_some_iff.mp ht).1) hd (fun H1 locs1 hP1 _ hS1 => ?_)
  rw [put_cell (v := tr b (.int x)) hs ht (R' := R) (I' := uI I a f x) (J' := J) (fun _ _ _ => rfl) uI_ne (fun _ _ _ => rfl) (by unfold fval; rw [uI_eq]; rfl)] at hP1
  exact k p l e Rm s mid args below meth c H1 locs1 ls b D cA F hz ⟨hP1, hw.2⟩ hS1 hl
theorem V_putZ {a ci f : Nat} {x : Int32} (h : DP m pc ci f 3 false .boolean pc') (hs : sh[a]? = some (0, ci)) (hv : x = 0 ∨ x = 1) (k : V m d u1 u2 mc ms pc' L S sh R (uI I a f x) J Q) : V m d u1 u2 mc ms pc L (.int x :: .ref a :: S) sh R I J Q := by
  obtain ⟨idx, C, T, N, hd, hc, hk, hlk, ht, hfn, hpt, hdc, rfl⟩ := h
  intro p l e Rm s mid args below meth c H locs ls b D cA F hz hw hS hl
  obtain ⟨ty0, hty, hnm⟩ := cl_ty hc
  refine va_put (D := D) (ci := ci) (v := tr b (.int x)) (ty := .boolean) F.x F.cc F.t (cl_in hc) ty0 hty hnm F.o hw.2 hw.1 ws_D hS a (ws_obj hs) hc f hk (F.t _ hlk) (fun _ h9 => h9) hfn hpt (by rcases hv with rfl | rfl <;> rfl) (by rcases hv with rfl | rfl <;> rfl) (by rw [flds_len]; exact (List.getElem?_eq_some_iff.mp ht).1) hd (fun H1 locs1 hP1 _ hS1 => ?_)
  rw [put_cell (v := tr b (.int x)) hs ht (R' := R) (I' := uI I a f x) (J' := J) (fun _ _ _ => rfl) uI_ne (fun _ _ _ => rfl) (by unfold fval; rw [uI_eq]; rfl)] at hP1
  exact k p l e Rm s mid args below meth c H1 locs1 ls b D cA F hz ⟨hP1, hw.2⟩ hS1 hl
theorem V_putJ {a ci f : Nat} {x : Int64} (h : DP m pc ci f 1 false .long pc') (hs : sh[a]? = some (0, ci))  (k : V m d u1 u2 mc ms pc' L S sh R I (uJ J a f x) Q) : V m d u1 u2 mc ms pc L (.long x :: .ref a :: S) sh R I J Q := by
  obtain ⟨idx, C, T, N, hd, hc, hk, hlk, ht, hfn, hpt, hdc, rfl⟩ := h
  intro p l e Rm s mid args below meth c H locs ls b D cA F hz hw hS hl
  obtain ⟨ty0, hty, hnm⟩ := cl_ty hc
  refine va_put (D := D) (ci := ci) (v := tr b (.long x)) (ty := .long) F.x F.cc F.t (cl_in hc) ty0 hty hnm F.o hw.2 hw.1 ws_D hS a (ws_obj hs) hc f hk (F.t _ hlk) (fun _ h9 => h9) hfn hpt rfl rfl (by rw [flds_len]; exact (List.getElem?_eq_some_iff.mp ht).1) hd (fun H1 locs1 hP1 _ hS1 => ?_)
  rw [put_cell (v := tr b (.long x)) hs ht (R' := R) (I' := I) (J' := uJ J a f x) (fun _ _ _ => rfl) (fun _ _ _ => rfl) uJ_ne (by unfold fval; rw [uJ_eq]; rfl)] at hP1
  exact k p l e Rm s mid args below meth c H1 locs1 ls b D cA F hz ⟨hP1, hw.2⟩ hS1 hl
theorem V_putR {a ci f : Nat} {x : Nat} {ty : FieldType} (h : DP m pc ci f 2 true ty pc') (hs : sh[a]? = some (0, ci)) (hin : m.2.1.name = "<init>") (hown : ∀ C T N, vwCl[ci]? = some (C, T, N) → C = m.1) (hf : ∀ q, fits ty (.ref q) = true) (hn : ∀ q, narrow ty (.ref q) = .ref q) (k : V m d u1 u2 mc ms pc' L S sh (uR R a f (some x)) I J Q) : V m d u1 u2 mc ms pc L (.ref x :: .ref a :: S) sh R I J Q := by
  obtain ⟨idx, C, T, N, hd, hc, hk, hlk, ht, hfn, hpt, hdc, rfl⟩ := h
  intro p l e Rm s mid args below meth c H locs ls b D cA F hz hw hS hl
  obtain ⟨ty0, hty, hnm⟩ := cl_ty hc
  refine va_putF (D := D) (ci := ci) (v := tr b (.ref x)) (ty := ty) F.x F.cc F.t (cl_in hc) ty0 hty hnm F.o hw.2 hw.1 ws_D hS a (ws_obj hs) hc f hk (F.t _ hlk) (fun _ h9 => h9) hfn (by rw [F.n]; exact hin) (by rw [hdc]; exact hown _ _ _ hc) hpt (hn _) (hf _) (by rw [flds_len]; exact (List.getElem?_eq_some_iff.mp ht).1) hd (fun H1 locs1 hP1 _ hS1 => ?_)
  rw [put_cell (v := tr b (.ref x)) hs ht (R' := uR R a f (some x)) (I' := I) (J' := J) uR_ne (fun _ _ _ => rfl) (fun _ _ _ => rfl) (by unfold fval; rw [uR_eq]; rfl)] at hP1
  exact k p l e Rm s mid args below meth c H1 locs1 ls b D cA F hz ⟨hP1, hw.2⟩ hS1 hl
theorem V_iald {a n : Nat} {i : Int32} (h : D1 m pc .iaload 1 pc') (hs : sh[a]? = some (1, n)) (hin : vp_in i n) (k : V m d u1 u2 mc ms pc' L (.int (I a i.toNatClampNeg) :: S) sh R I J Q) : V m d u1 u2 mc ms pc L (.int i :: .ref a :: S) sh R I J Q := by
  obtain ⟨hd, rfl⟩ := h
  intro p l e Rm s mid args below meth c H locs ls b D cA F hz hw hS hl
  exact va_iald F.x F.cc hw.2 hw.1 a 0 (ws_ai hs) rfl hin hd (k p l e Rm s mid args below meth c H locs ls b D cA F hz hw hS hl)
theorem V_lald {a n : Nat} {i : Int32} (h : D1 m pc .laload 1 pc') (hs : sh[a]? = some (2, n)) (hin : vp_in i n) (k : V m d u1 u2 mc ms pc' L (.long (J a i.toNatClampNeg) :: S) sh R I J Q) : V m d u1 u2 mc ms pc L (.int i :: .ref a :: S) sh R I J Q := by
  obtain ⟨hd, rfl⟩ := h
  intro p l e Rm s mid args below meth c H locs ls b D cA F hz hw hS hl
  exact va_lald F.x F.cc hw.2 hw.1 a 1 (ws_al hs) rfl hin hd (k p l e Rm s mid args below meth c H locs ls b D cA F hz hw hS hl)
theorem V_aald {a n j x : Nat} {i : Int32} (h : D1 m pc .aaload 1 pc') (hs : sh[a]? = some (j, n)) (hj : j = 3 ∨ j = 4) (hin : vp_in i n) (hx : R a i.toNatClampNeg = some x) (k : V m d u1 u2 mc ms pc' L (.ref x :: S) sh R I J Q) : V m d u1 u2 mc ms pc L (.int i :: .ref a :: S) sh R I J Q := by
  obtain ⟨hd, rfl⟩ := h
  intro p l e Rm s mid args below meth c H locs ls b D cA F hz hw hS hl
  refine va_aldq (C := if j = 3 then "ThirdLeft$Ints" else "ThirdLeft$Evening") F.x F.cc hw.2 hw.1 a (j - 1) (ws_ar j hj hs) (by rcases hj with rfl | rfl <;> rfl) hin hd ?_
  rw [hx]
  exact k p l e Rm s mid args below meth c H locs ls b D cA F hz hw hS hl
theorem V_iast {a n : Nat} {i : Int32} {x : Int32} (h : D1 m pc .iastore 1 pc') (hs : sh[a]? = some (1, n)) (hin : vp_in i n) (k : V m d u1 u2 mc ms pc' L S sh R (uI I a i.toNatClampNeg x) J Q) : V m d u1 u2 mc ms pc L (.int x :: .int i :: .ref a :: S) sh R I J Q := by
  obtain ⟨hd, rfl⟩ := h
  intro p l e Rm s mid args below meth c H locs ls b D cA F hz hw hS hl
  refine va_iast F.x F.cc hw.2 hw.1 ws_D hS a 0 (ws_ai hs) rfl hin hd (fun H1 locs1 hP1 _ hS1 => ?_)
  rw [ws_set (R' := R) (I' := uI I a i.toNatClampNeg x) (J' := J) hs (fun a' s' h => cell_other (fun _ => rfl) (fun j => uI_ne _ _ (fun e => h (by cases e; rfl))) (fun _ => rfl) s') (congrArg (fun g : Nat → Int32 => (Sum.inl (cA 1, n, .inl g) : va_E)) (show uI I a i.toNatClampNeg x a = upd (I a) i.toNatClampNeg x from by funext j; unfold uI upd; simp))] at hP1
  exact k p l e Rm s mid args below meth c H1 locs1 ls b D cA F hz ⟨hP1, hw.2⟩ hS1 hl
theorem V_last {a n : Nat} {i : Int32} {x : Int64} (h : D1 m pc .lastore 1 pc') (hs : sh[a]? = some (2, n)) (hin : vp_in i n) (k : V m d u1 u2 mc ms pc' L S sh R I (uJ J a i.toNatClampNeg x) Q) : V m d u1 u2 mc ms pc L (.long x :: .int i :: .ref a :: S) sh R I J Q := by
  obtain ⟨hd, rfl⟩ := h
  intro p l e Rm s mid args below meth c H locs ls b D cA F hz hw hS hl
  refine va_last F.x F.cc hw.2 hw.1 ws_D hS a 1 (ws_al hs) rfl hin hd (fun H1 locs1 hP1 _ hS1 => ?_)
  rw [ws_set (R' := R) (I' := I) (J' := uJ J a i.toNatClampNeg x) hs (fun a' s' h => cell_other (fun _ => rfl) (fun _ => rfl) (fun j => uJ_ne _ _ (fun e => h (by cases e; rfl))) s') (congrArg (fun g : Nat → Int64 => (Sum.inl (cA 2, n, .inr (.inl g)) : va_E)) (show uJ J a i.toNatClampNeg x a = vp_updL (J a) i.toNatClampNeg x from by funext j; unfold uJ vp_updL; simp))] at hP1
  exact k p l e Rm s mid args below meth c H1 locs1 ls b D cA F hz ⟨hP1, hw.2⟩ hS1 hl
theorem V_alenI {a n : Nat} {v : Int32} (h : D1 m pc .arraylength 1 pc') (hs : sh[a]? = some (1, n)) (hv : Int32.ofNat n = v) (k : V m d u1 u2 mc ms pc' L (.int v :: S) sh R I J Q) : V m d u1 u2 mc ms pc L (.ref a :: S) sh R I J Q := by
  obtain ⟨hd, rfl⟩ := h
  intro p l e Rm s mid args below meth c H locs ls b D cA F hz hw hS hl
  exact va_alen F.x F.cc hw.2 hw.1 a 0 (ws_ai hs) rfl hv hd (k p l e Rm s mid args below meth c H locs ls b D cA F hz hw hS hl)
theorem V_alenL {a n : Nat} {v : Int32} (h : D1 m pc .arraylength 1 pc') (hs : sh[a]? = some (2, n)) (hv : Int32.ofNat n = v) (k : V m d u1 u2 mc ms pc' L (.int v :: S) sh R I J Q) : V m d u1 u2 mc ms pc L (.ref a :: S) sh R I J Q := by
  obtain ⟨hd, rfl⟩ := h
  intro p l e Rm s mid args below meth c H locs ls b D cA F hz hw hS hl
  exact va_alen F.x F.cc hw.2 hw.1 a 1 (ws_al hs) rfl hv hd (k p l e Rm s mid args below meth c H locs ls b D cA F hz hw hS hl)
theorem V_alen3 {a n : Nat} {v : Int32} (h : D1 m pc .arraylength 1 pc') (hs : sh[a]? = some (3, n)) (hv : Int32.ofNat n = v) (k : V m d u1 u2 mc ms pc' L (.int v :: S) sh R I J Q) : V m d u1 u2 mc ms pc L (.ref a :: S) sh R I J Q := by
  obtain ⟨hd, rfl⟩ := h
  intro p l e Rm s mid args below meth c H locs ls b D cA F hz hw hS hl
  exact va_alen F.x F.cc hw.2 hw.1 a 2 (ws_ar 3 (Or.inl rfl) hs) rfl hv hd (k p l e Rm s mid args below meth c H locs ls b D cA F hz hw hS hl)
theorem V_alen4 {a n : Nat} {v : Int32} (h : D1 m pc .arraylength 1 pc') (hs : sh[a]? = some (4, n)) (hv : Int32.ofNat n = v) (k : V m d u1 u2 mc ms pc' L (.int v :: S) sh R I J Q) : V m d u1 u2 mc ms pc L (.ref a :: S) sh R I J Q := by
  obtain ⟨hd, rfl⟩ := h
  intro p l e Rm s mid args below meth c H locs ls b D cA F hz hw hS hl
  exact va_alen F.x F.cc hw.2 hw.1 a 3 (ws_ar 4 (Or.inr rfl) hs) rfl hv hd (k p l e Rm s mid args below meth c H locs ls b D cA F hz hw hS hl)
theorem V_aast {a n j x cx : Nat} {i : Int32} (h : D1 m pc .aastore 1 pc') (hs : sh[a]? = some (j, n)) (hj : (j = 3 ∧ cx = 3) ∨ (j = 4 ∧ cx = 2)) (hx : sh[x]? = some (0, cx)) (hin : vp_in i n) (k : V m d u1 u2 mc ms pc' L S sh (uR R a i.toNatClampNeg (some x)) I J Q) : V m d u1 u2 mc ms pc L (.ref x :: .int i :: .ref a :: S) sh R I J Q := by
  obtain ⟨hd, rfl⟩ := h
  intro p l e Rm s mid args below meth c H locs ls b D cA F hz hw hS hl
  have hj2 : j = 3 ∨ j = 4 := hj.elim (fun h => Or.inl h.1) (fun h => Or.inr h.1)
  refine va_astq (r := if j = 3 then (RX3, TX3, 2) else (RX2, TX2, 7)) F.x F.cc hw.2 hw.1 ws_D hS a (j - 1) x cx (ws_ar j hj2 hs) (by rcases hj with ⟨rfl, rfl⟩ | ⟨rfl, rfl⟩ <;> rfl) (ws_obj hx) (by rcases hj with ⟨rfl, rfl⟩ | ⟨rfl, rfl⟩ <;> rfl) hin hd (fun H1 locs1 hP1 _ hS1 => ?_)
  rw [ws_set (R' := uR R a i.toNatClampNeg (some x)) (I' := I) (J' := J) hs (fun a' s' h => cell_other (fun j => uR_ne _ _ (fun e => h (by cases e; rfl))) (fun _ => rfl) (fun _ => rfl) s') (show cellE b cA (uR R a i.toNatClampNeg (some x)) I J a (j, n) = (Sum.inl (cA j, n, .inr (.inr (.inr (.inr (va_up (fun i => (R a i).map (fun q => b + q)) i.toNatClampNeg (some (b + x))))))) : va_E) from by
    have e : (fun q => (uR R a i.toNatClampNeg (some x) a q).map (fun q => b + q)) = va_up (fun i => (R a i).map (fun q => b + q)) i.toNatClampNeg (some (b + x)) := by
      funext q
      unfold uR va_up
      by_cases hq : q = i.toNatClampNeg <;> simp [hq]
    rcases hj2 with rfl | rfl <;> exact congrArg (fun g => (Sum.inl (cA _, n, .inr (.inr (.inr (.inr g)))) : va_E)) e)] at hP1
  exact k p l e Rm s mid args below meth c H1 locs1 ls b D cA F hz ⟨hP1, hw.2⟩ hS1 hl
theorem V_iret {v : Int32} (h : D1 m pc .ireturn 1 pc') (hr : m.2.2.2.2 = some .int) (h1 : u1 ≤ mc) (h2 : u2 ≤ ms) (hq : Q (some (.int v)) sh R I J) : V m d u1 u2 mc ms pc L [.int v] sh R I J Q := by
  obtain ⟨hd, rfl⟩ := h
  intro p l e Rm s mid args below meth c H locs ls b D cA F hz hw hS hl
  refine W.widen h1 h2 ?_
  exact W.iret F.x F.cc (F.r.trans hr) (fun t ht hW => ⟨⟨some (.int v), sh, R, I, J, rfl, hq, by rw [ht]; exact hw.moved hW.alike⟩, hS.F ht⟩) hS.2.2 hd F.k
theorem V_zret {v : Int32} (h : D1 m pc .ireturn 1 pc') (hr : m.2.2.2.2 = some .boolean) (hv : v = 0 ∨ v = 1) (h1 : u1 ≤ mc) (h2 : u2 ≤ ms) (hq : Q (some (.int v)) sh R I J) : V m d u1 u2 mc ms pc L [.int v] sh R I J Q := by
  obtain ⟨hd, rfl⟩ := h
  intro p l e Rm s mid args below meth c H locs ls b D cA F hz hw hS hl
  refine W.widen h1 h2 ?_
  exact W.zret F.x F.cc (F.r.trans hr) (by rcases hv with rfl | rfl <;> rfl) (fun t ht hW => ⟨⟨some (.int v), sh, R, I, J, rfl, hq, by rw [ht]; exact hw.moved hW.alike⟩, hS.F ht⟩) hS.2.2 hd F.k
theorem V_lret {v : Int64} (h : D1 m pc .lreturn 1 pc') (hr : m.2.2.2.2 = some .long) (h1 : u1 ≤ mc) (h2 : u2 ≤ ms) (hq : Q (some (.long v)) sh R I J) : V m d u1 u2 mc ms pc L [.long v] sh R I J Q := by
  obtain ⟨hd, rfl⟩ := h
  intro p l e Rm s mid args below meth c H locs ls b D cA F hz hw hS hl
  refine W.widen h1 h2 ?_
  exact W.lret F.x F.cc (F.r.trans hr) (fun t ht hW => ⟨⟨some (.long v), sh, R, I, J, rfl, hq, by rw [ht]; exact hw.moved hW.alike⟩, hS.F ht⟩) hS.2.2 hd F.k
theorem V_aret {v : Nat} {n : String} (h : D1 m pc .areturn 1 pc') (hr : m.2.2.2.2 = some (.object n)) (h1 : u1 ≤ mc) (h2 : u2 ≤ ms) (hq : Q (some (.ref v)) sh R I J) : V m d u1 u2 mc ms pc L [.ref v] sh R I J Q := by
  obtain ⟨hd, rfl⟩ := h
  intro p l e Rm s mid args below meth c H locs ls b D cA F hz hw hS hl
  refine W.widen h1 h2 ?_
  exact W.aret F.x F.cc (F.r.trans hr) (Or.inl ⟨n, rfl⟩) (Or.inr ⟨_, rfl⟩) (fun t ht hW => ⟨⟨some (.ref v), sh, R, I, J, rfl, hq, by rw [ht]; exact hw.moved hW.alike⟩, hS.F ht⟩) hS.2.2 hd F.k
theorem V_aretN {n : String} (h : D1 m pc .areturn 1 pc') (hr : m.2.2.2.2 = some (.object n)) (h1 : u1 ≤ mc) (h2 : u2 ≤ ms) (hq : Q (some .null) sh R I J) : V m d u1 u2 mc ms pc L [.null] sh R I J Q := by
  obtain ⟨hd, rfl⟩ := h
  intro p l e Rm s mid args below meth c H locs ls b D cA F hz hw hS hl
  refine W.widen h1 h2 ?_
  exact W.aret F.x F.cc (F.r.trans hr) (Or.inl ⟨n, rfl⟩) (Or.inl rfl) (fun t ht hW => ⟨⟨some .null, sh, R, I, J, rfl, hq, by rw [ht]; exact hw.moved hW.alike⟩, hS.F ht⟩) hS.2.2 hd F.k
theorem V_vret (h : D1 m pc .return_ 1 pc') (hr : m.2.2.2.2 = none) (h1 : u1 ≤ mc) (h2 : u2 ≤ ms) (hq : Q none sh R I J) : V m d u1 u2 mc ms pc L [] sh R I J Q := by
  obtain ⟨hd, rfl⟩ := h
  intro p l e Rm s mid args below meth c H locs ls b D cA F hz hw hS hl
  refine W.widen h1 h2 ?_
  exact W.vret F.x F.cc (F.r.trans hr) (fun t ht hW => ⟨⟨none, sh, R, I, J, rfl, hq, by rw [ht]; exact hw.moved hW.alike⟩, hS.F ht⟩) hS.2.2 hd F.k
end VR
