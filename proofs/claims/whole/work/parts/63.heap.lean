
/-! ===== the first phase: the heap as a table, while it is being made ===== -/
abbrev Row : Type := Nat × Nat × List (Option Nat) × List Int32 × List Int64
def hS (h : List Row) : List Shp := h.map (fun r => (r.1, r.2.1))
def hR (h : List Row) : RefM := fun a k => match h[a]? with
  | some r => r.2.2.1.getD k none
  | none => none
def hI (h : List Row) : IntM := fun a k => match h[a]? with
  | some r => r.2.2.2.1.getD k 0
  | none => 0
def hJ (h : List Row) : LngM := fun a k => match h[a]? with
  | some r => r.2.2.2.2.getD k 0
  | none => 0
def zrow (t n a b c : Nat) : Row := (t, n, List.replicate a none, List.replicate b 0, List.replicate c 0)
theorem rep_getD {α : Type} (n k : Nat) (x : α) : (List.replicate n x).getD k x = x := by
  rw [List.getD_eq_getElem?_getD, List.getElem?_replicate]
  split <;> rfl
theorem hS_len (h : List Row) : (hS h).length = h.length := List.length_map _
theorem hS_app (h : List Row) (t n a b c : Nat) : hS (h ++ [zrow t n a b c]) = hS h ++ [(t, n)] := by
  unfold hS
  rw [List.map_append]
  rfl
theorem app_get (h : List Row) (r : Row) (x : Nat) : (h ++ [r])[x]? = if x = h.length then some r else h[x]? := by
  rcases Nat.lt_trichotomy x h.length with g | g | g
  · rw [List.getElem?_append_left g, if_neg (by omega)]
  · subst g
    rw [if_pos rfl, List.getElem?_append_right (Nat.le_refl _), Nat.sub_self]
    rfl
  · rw [if_neg (by omega), List.getElem?_eq_none (by simp; omega), List.getElem?_eq_none (by omega)]
theorem nx_get (h : List Row) : h[h.length]? = none := List.getElem?_eq_none (Nat.le_refl _)

theorem hR_app (h : List Row) (t n a b c : Nat) : hR (h ++ [zrow t n a b c]) = zR (hR h) h.length := by
  funext x k
  unfold hR zR
  rw [app_get]
  by_cases g : x = h.length
  · rw [if_pos g, if_pos g]
    exact rep_getD _ _ _
  · rw [if_neg g, if_neg g]
theorem hI_app (h : List Row) (t n a b c : Nat) : hI (h ++ [zrow t n a b c]) = zI (hI h) h.length := by
  funext x k
  unfold hI zI
  rw [app_get]
  by_cases g : x = h.length
  · rw [if_pos g, if_pos g]
    exact rep_getD _ _ _
  · rw [if_neg g, if_neg g]
theorem hJ_app (h : List Row) (t n a b c : Nat) : hJ (h ++ [zrow t n a b c]) = zJ (hJ h) h.length := by
  funext x k
  unfold hJ zJ
  rw [app_get]
  by_cases g : x = h.length
  · rw [if_pos g, if_pos g]
    exact rep_getD _ _ _
  · rw [if_neg g, if_neg g]

theorem set_get {h : List Row} {a : Nat} {r r' : Row} (e : h[a]? = some r) (x : Nat) : (h.set a r')[x]? = if x = a then some r' else h[x]? := by
  have ha : a < h.length := (List.getElem?_eq_some_iff.mp e).1
  by_cases hx : x = a
  · rw [if_pos hx, hx, List.getElem?_set_self ha]
  · rw [if_neg hx, List.getElem?_set_ne (Ne.symm hx)]
theorem setD {α : Type} {l : List α} {k : Nat} {v d : α} (hk : k < l.length) (j : Nat) : (l.set k v).getD j d = if j = k then v else l.getD j d := by
  rw [List.getD_eq_getElem?_getD, List.getD_eq_getElem?_getD]
  by_cases g : j = k
  · rw [if_pos g, g, List.getElem?_set_self hk]
    rfl
  · rw [if_neg g, List.getElem?_set_ne (Ne.symm g)]
theorem set_S {h : List Row} {a : Nat} {r r' : Row} (e : h[a]? = some r) (e1 : r'.1 = r.1) (e2 : r'.2.1 = r.2.1) : hS (h.set a r') = hS h := by
  unfold hS
  apply List.ext_getElem?
  intro x
  rw [List.getElem?_map, List.getElem?_map, set_get e]
  by_cases g : x = a
  · rw [if_pos g, g, e]
    show some (r'.1, r'.2.1) = some (r.1, r.2.1)
    rw [e1, e2]
  · rw [if_neg g]

def pR (h : List Row) (a k : Nat) (v : Option Nat) : List Row := match h[a]? with
  | some r => h.set a (r.1, r.2.1, r.2.2.1.set k v, r.2.2.2.1, r.2.2.2.2)
  | none => h
def okR (h : List Row) (a k : Nat) : Bool := match h[a]? with
  | some r => decide (k < r.2.2.1.length)
  | none => false
theorem okR_r {h : List Row} {a k : Nat} (ok : okR h a k = true) : ∃ r, h[a]? = some r ∧ k < r.2.2.1.length := by
  unfold okR at ok
  cases e : h[a]? with
  | none => rw [e] at ok; cases ok
  | some r => rw [e] at ok; exact ⟨r, rfl, of_decide_eq_true ok⟩
theorem pR_S {h : List Row} {a k : Nat} {v : Option Nat} (ok : okR h a k = true) : hS (pR h a k v) = hS h := by
  obtain ⟨r, e, -⟩ := okR_r ok
  unfold pR
  rw [e]
  exact set_S e rfl rfl
theorem pR_R {h : List Row} {a k : Nat} {v : Option Nat} (ok : okR h a k = true) : hR (pR h a k v) = uR (hR h) a k v := by
  obtain ⟨r, e, hk⟩ := okR_r ok
  funext x j
  unfold pR
  rw [e]
  unfold hR uR
  dsimp only
  rw [set_get e]
  by_cases g : x = a
  · rw [if_pos g, g, e]
    dsimp only
    rw [setD hk]
    by_cases g2 : j = k
    · rw [if_pos g2, if_pos ⟨rfl, g2⟩]
    · rw [if_neg g2, if_neg (fun q => g2 q.2)]
  · rw [if_neg g, if_neg (fun q => g q.1)]
theorem pR_I {h : List Row} {a k : Nat} {v : Option Nat} (ok : okR h a k = true) : hI (pR h a k v) = hI h := by
  obtain ⟨r, e, hk⟩ := okR_r ok
  funext x j
  unfold pR
  rw [e]
  unfold hI
  dsimp only
  rw [set_get e]
  by_cases g : x = a
  · rw [if_pos g, g, e]
  · rw [if_neg g]
theorem pR_J {h : List Row} {a k : Nat} {v : Option Nat} (ok : okR h a k = true) : hJ (pR h a k v) = hJ h := by
  obtain ⟨r, e, hk⟩ := okR_r ok
  funext x j
  unfold pR
  rw [e]
  unfold hJ
  dsimp only
  rw [set_get e]
  by_cases g : x = a
  · rw [if_pos g, g, e]
  · rw [if_neg g]
def qI (h : List Row) (a k : Nat) (v : Int32) : List Row := match h[a]? with
  | some r => h.set a (r.1, r.2.1, r.2.2.1, r.2.2.2.1.set k v, r.2.2.2.2)
  | none => h
def okI (h : List Row) (a k : Nat) : Bool := match h[a]? with
  | some r => decide (k < r.2.2.2.1.length)
  | none => false
theorem okI_r {h : List Row} {a k : Nat} (ok : okI h a k = true) : ∃ r, h[a]? = some r ∧ k < r.2.2.2.1.length := by
  unfold okI at ok
  cases e : h[a]? with
  | none => rw [e] at ok; cases ok
  | some r => rw [e] at ok; exact ⟨r, rfl, of_decide_eq_true ok⟩
theorem qI_S {h : List Row} {a k : Nat} {v : Int32} (ok : okI h a k = true) : hS (qI h a k v) = hS h := by
  obtain ⟨r, e, -⟩ := okI_r ok
  unfold qI
  rw [e]
  exact set_S e rfl rfl
theorem qI_R {h : List Row} {a k : Nat} {v : Int32} (ok : okI h a k = true) : hR (qI h a k v) = hR h := by
  obtain ⟨r, e, hk⟩ := okI_r ok
  funext x j
  unfold qI
  rw [e]
  unfold hR
  dsimp only
  rw [set_get e]
  by_cases g : x = a
  · rw [if_pos g, g, e]
  · rw [if_neg g]
theorem qI_I {h : List Row} {a k : Nat} {v : Int32} (ok : okI h a k = true) : hI (qI h a k v) = uI (hI h) a k v := by
  obtain ⟨r, e, hk⟩ := okI_r ok
  funext x j
  unfold qI
  rw [e]
  unfold hI uI
  dsimp only
  rw [set_get e]
  by_cases g : x = a
  · rw [if_pos g, g, e]
    dsimp only
    rw [setD hk]
    by_cases g2 : j = k
    · rw [if_pos g2, if_pos ⟨rfl, g2⟩]
    · rw [if_neg g2, if_neg (fun q => g2 q.2)]
  · rw [if_neg g, if_neg (fun q => g q.1)]
theorem qI_J {h : List Row} {a k : Nat} {v : Int32} (ok : okI h a k = true) : hJ (qI h a k v) = hJ h := by
  obtain ⟨r, e, hk⟩ := okI_r ok
  funext x j
  unfold qI
  rw [e]
  unfold hJ
  dsimp only
  rw [set_get e]
  by_cases g : x = a
  · rw [if_pos g, g, e]
  · rw [if_neg g]
def qJ (h : List Row) (a k : Nat) (v : Int64) : List Row := match h[a]? with
  | some r => h.set a (r.1, r.2.1, r.2.2.1, r.2.2.2.1, r.2.2.2.2.set k v)
  | none => h
def okJ (h : List Row) (a k : Nat) : Bool := match h[a]? with
  | some r => decide (k < r.2.2.2.2.length)
  | none => false
theorem okJ_r {h : List Row} {a k : Nat} (ok : okJ h a k = true) : ∃ r, h[a]? = some r ∧ k < r.2.2.2.2.length := by
  unfold okJ at ok
  cases e : h[a]? with
  | none => rw [e] at ok; cases ok
  | some r => rw [e] at ok; exact ⟨r, rfl, of_decide_eq_true ok⟩
theorem qJ_S {h : List Row} {a k : Nat} {v : Int64} (ok : okJ h a k = true) : hS (qJ h a k v) = hS h := by
  obtain ⟨r, e, -⟩ := okJ_r ok
  unfold qJ
  rw [e]
  exact set_S e rfl rfl
theorem qJ_R {h : List Row} {a k : Nat} {v : Int64} (ok : okJ h a k = true) : hR (qJ h a k v) = hR h := by
  obtain ⟨r, e, hk⟩ := okJ_r ok
  funext x j
  unfold qJ
  rw [e]
  unfold hR
  dsimp only
  rw [set_get e]
  by_cases g : x = a
  · rw [if_pos g, g, e]
  · rw [if_neg g]
theorem qJ_I {h : List Row} {a k : Nat} {v : Int64} (ok : okJ h a k = true) : hI (qJ h a k v) = hI h := by
  obtain ⟨r, e, hk⟩ := okJ_r ok
  funext x j
  unfold qJ
  rw [e]
  unfold hI
  dsimp only
  rw [set_get e]
  by_cases g : x = a
  · rw [if_pos g, g, e]
  · rw [if_neg g]
theorem qJ_J {h : List Row} {a k : Nat} {v : Int64} (ok : okJ h a k = true) : hJ (qJ h a k v) = uJ (hJ h) a k v := by
  obtain ⟨r, e, hk⟩ := okJ_r ok
  funext x j
  unfold qJ
  rw [e]
  unfold hJ uJ
  dsimp only
  rw [set_get e]
  by_cases g : x = a
  · rw [if_pos g, g, e]
    dsimp only
    rw [setD hk]
    by_cases g2 : j = k
    · rw [if_pos g2, if_pos ⟨rfl, g2⟩]
    · rw [if_neg g2, if_neg (fun q => g2 q.2)]
  · rw [if_neg g, if_neg (fun q => g q.1)]

def QH (h' : List Row) : PostV := fun r sh R I J => r = none ∧ sh = hS h' ∧ R = hR h' ∧ I = hI h' ∧ J = hJ h'
def CtH (d : Nat) (m : Mth) (as : List Value) (h : List Row) (mc ms : Nat) (h' : List Row) : Prop := Ct d m as (hS h) (hR h) (hI h) (hJ h) mc ms (QH h')
abbrev VH (m : Mth) (d u1 u2 mc ms pc : Nat) (L : List (Nat × Value)) (S : List Value) (h h9 : List Row) : Prop := V m d u1 u2 mc ms pc L S (hS h) (hR h) (hI h) (hJ h) (QH h9)
theorem CtH_of {d : Nat} {m : Mth} {as : List Value} {h h' : List Row} {mc ms : Nat} (hn : plainName m.2.1.cls = true) (hc : m.2.1.cls = m.1) (hlen : (lg_sl as).length ≤ m.2.2.2.1) (k : VH m d 0 0 mc ms 0 (lv_args 0 as) [] h h') : CtH d m as h mc ms h' := Ct_of hn hc hlen k
section VHS
variable {m : Mth} {d u1 u2 mc ms pc pc' : Nat} {L L' : List (Nat × Value)} {S : List Value} {h h' h9 : List Row}
theorem N_go {t n a b c : Nat} {v1 v2 : Nat} (e : h ++ [zrow t n a b c] = h') (k : VH m d v1 v2 mc ms pc L (.ref h.length :: S) h' h9) : V m d v1 v2 mc ms pc L (.ref (hS h).length :: S) (hS h ++ [(t, n)]) (zR (hR h) (hS h).length) (zI (hI h) (hS h).length) (zJ (hJ h) (hS h).length) (QH h9) := by
  subst e
  rw [hS_len, ← hS_app h t n a b c, ← hR_app h t n a b c, ← hI_app h t n a b c, ← hJ_app h t n a b c]
  exact k
theorem N_new {ci N q c : Nat} (f : DN m pc ci pc') (hN : ∀ C T n, vwCl[ci]? = some (C, T, n) → n = N) (h1 : u1 + 1 ≤ mc) (h2 : u2 + N ≤ ms) (e : h ++ [zrow 0 ci c c c] = h') (hq : h.length = q) (k : VH m d (u1 + 1) (u2 + N) mc ms pc' L (.ref q :: S) h' h9) : VH m d u1 u2 mc ms pc L S h h9 := by
  subst hq
  exact V_new f hN h1 h2 (N_go e k)
theorem N_newI {n : Int32} {N q : Nat} (f : D1 m pc (.newarray .int) 2 pc') (hn : ¬ n < 0) (hN : n.toNatClampNeg = N) (hb : N ≤ 1000) (h1 : u1 + 1 ≤ mc) (h2 : u2 + N ≤ ms) (e : h ++ [zrow 1 N 0 N 0] = h') (hq : h.length = q) (k : VH m d (u1 + 1) (u2 + N) mc ms pc' L (.ref q :: S) h' h9) : VH m d u1 u2 mc ms pc L (.int n :: S) h h9 := by
  subst hq
  exact V_newI f hn hN hb h1 h2 (N_go e k)
theorem N_newJ {n : Int32} {N q : Nat} (f : D1 m pc (.newarray .long) 2 pc') (hn : ¬ n < 0) (hN : n.toNatClampNeg = N) (hb : N ≤ 1000) (h1 : u1 + 1 ≤ mc) (h2 : u2 + N ≤ ms) (e : h ++ [zrow 2 N 0 0 N] = h') (hq : h.length = q) (k : VH m d (u1 + 1) (u2 + N) mc ms pc' L (.ref q :: S) h' h9) : VH m d u1 u2 mc ms pc L (.int n :: S) h h9 := by
  subst hq
  exact V_newJ f hn hN hb h1 h2 (N_go e k)
theorem N_newA {n : Int32} {N j q : Nat} (f : DA m pc j pc') (hn : ¬ n < 0) (hN : n.toNatClampNeg = N) (hb : N ≤ 1000) (h1 : u1 + 1 ≤ mc) (h2 : u2 + N ≤ ms) (e : h ++ [zrow j N N 0 0] = h') (hq : h.length = q) (k : VH m d (u1 + 1) (u2 + N) mc ms pc' L (.ref q :: S) h' h9) : VH m d u1 u2 mc ms pc L (.int n :: S) h h9 := by
  subst hq
  exact V_newA f hn hN hb h1 h2 (N_go e k)
theorem N_putR {a ci f x : Nat} {ty : FieldType} (g : DP m pc ci f 2 true ty pc') (hs : (hS h)[a]? = some (0, ci)) (hin : m.2.1.name = "<init>") (hown : ∀ C T N, vwCl[ci]? = some (C, T, N) → C = m.1) (hf : ∀ q, fits ty (.ref q) = true) (hn : ∀ q, narrow ty (.ref q) = .ref q) (ok : okR h a f = true) (e : pR h a f (some x) = h') (k : VH m d u1 u2 mc ms pc' L S h' h9) : VH m d u1 u2 mc ms pc L (.ref x :: .ref a :: S) h h9 := by
  subst e
  refine V_putR g hs hin hown hf hn ?_
  have k2 := k
  rw [VH, pR_S ok, pR_R ok, pR_I ok, pR_J ok] at k2
  exact k2
theorem N_putI {a ci f : Nat} {x : Int32} (g : DP m pc ci f 0 false .int pc') (hs : (hS h)[a]? = some (0, ci)) (ok : okI h a f = true) (e : qI h a f x = h') (k : VH m d u1 u2 mc ms pc' L S h' h9) : VH m d u1 u2 mc ms pc L (.int x :: .ref a :: S) h h9 := by
  subst e
  refine V_putI g hs ?_
  have k2 := k
  rw [VH, qI_S ok, qI_R ok, qI_I ok, qI_J ok] at k2
  exact k2
theorem N_putJ {a ci f : Nat} {x : Int64} (g : DP m pc ci f 1 false .long pc') (hs : (hS h)[a]? = some (0, ci)) (ok : okJ h a f = true) (e : qJ h a f x = h') (k : VH m d u1 u2 mc ms pc' L S h' h9) : VH m d u1 u2 mc ms pc L (.long x :: .ref a :: S) h h9 := by
  subst e
  refine V_putJ g hs ?_
  have k2 := k
  rw [VH, qJ_S ok, qJ_R ok, qJ_I ok, qJ_J ok] at k2
  exact k2
theorem N_aast {a n j x cx i : Nat} {z : Int32} (g : D1 m pc .aastore 1 pc') (hs : (hS h)[a]? = some (j, n)) (hj : (j = 3 ∧ cx = 3) ∨ (j = 4 ∧ cx = 2)) (hx : (hS h)[x]? = some (0, cx)) (hz : z = nI i) (hi : i < n) (hn : n ≤ 1000) (ok : okR h a i = true) (e : pR h a i (some x) = h') (k : VH m d u1 u2 mc ms pc' L S h' h9) : VH m d u1 u2 mc ms pc L (.ref x :: .int z :: .ref a :: S) h h9 := by
  subst e hz
  refine V_aast g hs hj hx (vp_in_nI hi (by omega)) ?_
  rw [nI_clamp (by omega)]
  have k2 := k
  rw [VH, pR_S ok, pR_R ok, pR_I ok, pR_J ok] at k2
  exact k2
theorem N_iast {a n i : Nat} {z x : Int32} (g : D1 m pc .iastore 1 pc') (hs : (hS h)[a]? = some (1, n)) (hz : z = nI i) (hi : i < n) (hn : n ≤ 1000) (ok : okI h a i = true) (e : qI h a i x = h') (k : VH m d u1 u2 mc ms pc' L S h' h9) : VH m d u1 u2 mc ms pc L (.int x :: .int z :: .ref a :: S) h h9 := by
  subst e hz
  refine V_iast g hs (vp_in_nI hi (by omega)) ?_
  rw [nI_clamp (by omega)]
  have k2 := k
  rw [VH, qI_S ok, qI_R ok, qI_I ok, qI_J ok] at k2
  exact k2
theorem QH_len {r : Option Value} {sh : List Shp} {R : RefM} {I : IntM} {J : LngM} (q : QH h' r sh R I J) {n : Nat} (hl : h'.length = h.length + n) : sh.length = (hS h).length + n := by
  rw [q.2.1, hS_len, hS_len, hl]
theorem N_call0 {a : Nat} {m' : Mth} {d' mc' ms' : Nat} (f : DI m pc m' pc') (hm : MC m' 0) (hc : CtH d' m' [.ref a] h mc' ms' h') (hd : d' + 1 ≤ d) (hst : ((S.map fun v => v.category).sum) ≤ 8) (hb1 : u1 + mc' ≤ mc) (hb2 : u2 + ms' ≤ ms) (hl : h'.length = h.length + mc') (k : VH m d (u1 + mc') (u2 + ms') mc ms pc' L S h' h9) : VH m d u1 u2 mc ms pc L (.ref a :: S) h h9 :=
  V_callI0 (ci := 0) f hm hc hd hst hb1 hb2 (fun r sh' R' I' J' q => QH_len q hl) (fun r sh' R' I' J' q => by obtain ⟨rfl, rfl, rfl, rfl, rfl⟩ := q; exact k)
theorem N_call1 {a : Nat} {x0 : Value} {m' : Mth} {d' mc' ms' : Nat} (f : DI m pc m' pc') (hm : MC m' 1) (hc : CtH d' m' [.ref a, x0] h mc' ms' h') (hd : d' + 1 ≤ d) (hst : ((S.map fun v => v.category).sum) ≤ 8) (hb1 : u1 + mc' ≤ mc) (hb2 : u2 + ms' ≤ ms) (hl : h'.length = h.length + mc') (k : VH m d (u1 + mc') (u2 + ms') mc ms pc' L S h' h9) : VH m d u1 u2 mc ms pc L (x0 :: .ref a :: S) h h9 :=
  V_callI1 (ci := 0) f hm hc hd hst hb1 hb2 (fun r sh' R' I' J' q => QH_len q hl) (fun r sh' R' I' J' q => by obtain ⟨rfl, rfl, rfl, rfl, rfl⟩ := q; exact k)
theorem N_call2 {a : Nat} {x0 x1 : Value} {m' : Mth} {d' mc' ms' : Nat} (f : DI m pc m' pc') (hm : MC m' 2) (hc : CtH d' m' [.ref a, x0, x1] h mc' ms' h') (hd : d' + 1 ≤ d) (hst : ((S.map fun v => v.category).sum) ≤ 8) (hb1 : u1 + mc' ≤ mc) (hb2 : u2 + ms' ≤ ms) (hl : h'.length = h.length + mc') (k : VH m d (u1 + mc') (u2 + ms') mc ms pc' L S h' h9) : VH m d u1 u2 mc ms pc L (x1 :: x0 :: .ref a :: S) h h9 :=
  V_callI2 (ci := 0) f hm hc hd hst hb1 hb2 (fun r sh' R' I' J' q => QH_len q hl) (fun r sh' R' I' J' q => by obtain ⟨rfl, rfl, rfl, rfl, rfl⟩ := q; exact k)
end VHS

