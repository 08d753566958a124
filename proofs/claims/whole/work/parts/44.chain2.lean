
theorem ends_ch {n k e : Nat} (h1 : 1 ≤ n) (he : ∀ j, j < n → j = decE e j) (hr : runE n k e = true) : ends n k (fun i => i) := ends_cong h1 he (runE_ends h1 k e hr)
theorem ends_idk {n : Nat} (h1 : 1 ≤ n) (hn : n ≤ 7) : ∀ k, k = 5040 → ends n k (fun i => i) := by
  intro k hk
  have h : n = 1 ∨ n = 2 ∨ n = 3 ∨ n = 4 ∨ n = 5 ∨ n = 6 ∨ n = 7 := by omega
  rcases h with h | h | h | h | h | h | h
  · exact ends_ch (e := 0) h1 (by subst h; decide +kernel) (by rw [h, hk]; exact run_1)
  · exact ends_ch (e := 8) h1 (by subst h; decide +kernel) (by rw [h, hk]; exact run_2)
  · exact ends_ch (e := 136) h1 (by subst h; decide +kernel) (by rw [h, hk]; exact run_3)
  · exact ends_ch (e := 1672) h1 (by subst h; decide +kernel) (by rw [h, hk]; exact run_4)
  · exact ends_ch (e := 18056) h1 (by subst h; decide +kernel) (by rw [h, hk]; exact run_5)
  · exact ends_ch (e := 181896) h1 (by subst h; decide +kernel) (by rw [h, hk]; exact run_6)
  · exact ends_ch (e := 1754760) h1 (by subst h; decide +kernel) (by rw [h, hk]; exact run_7)
theorem ends_id {n : Nat} (h1 : 1 ≤ n) (hn : n ≤ 7) : ends n 5040 (fun i => i) := ends_idk h1 hn 5040 rfl
/-- a fold over the chain -/
def foC {S : Type} (n : Nat) (st : S → (Nat → Nat) → S) : Nat → S → (Nat → Nat) → S := fun k => match k with
  | 0 => fun s _ => s
  | k + 1 => fun s f => match nx n f with
    | none => st s f
    | some q => foC n st k (st s f) q.2
theorem foC_n {S : Type} {n : Nat} {st : S → (Nat → Nat) → S} {k : Nat} {s : S} {f : Nat → Nat} (h : nx n f = none) : foC n st (k + 1) s f = st s f := by
  unfold foC
  rw [h]
theorem foC_s {S : Type} {n : Nat} {st : S → (Nat → Nat) → S} {k : Nat} {s : S} {f : Nat → Nat} {q : Nat × (Nat → Nat)} (h : nx n f = some q) : foC n st (k + 1) s f = foC n st k (st s f) q.2 := by
  show (match nx n f with
    | none => st s f
    | some q => foC n st k (st s f) q.2) = _
  rw [h]
theorem fdS_cong {kd nd : Nat → Nat} {lw how P : Nat} {ln ln' : Nat → Nat} : ∀ i, (∀ j, j < i → ln j = ln' j) → fdS kd nd lw how P ln i = fdS kd nd lw how P ln' i
  | 0, _ => rfl
  | i + 1, h => by
    have ih := fdS_cong (kd := kd) (nd := nd) (lw := lw) (how := how) (P := P) (ln := ln) (ln' := ln') i (fun j hj => h j (by omega))
    show (if nd (ln i) * un how ≤ tkS kd nd lw how P ln i then fdS kd nd lw how P ln i ||| 2 ^ ln i else fdS kd nd lw how P ln i) = (if nd (ln' i) * un how ≤ tkS kd nd lw how P ln' i then fdS kd nd lw how P ln' i ||| 2 ^ ln' i else fdS kd nd lw how P ln' i)
    rw [ih, tkS_cong (i := i) (ln' := ln') (fun j hj => h j (by omega)), h i (by omega)]
theorem ISz.key {I I' : IntM} (key : ∀ x, (x = 22 ∨ x = 24 ∨ x = 26 ∨ x = 32 ∨ x = 35 ∨ x = 37 ∨ x = 39 ∨ x = 45 ∨ x = 49 ∨ x = 51 ∨ x = 53 ∨ x = 59 ∨ x = 62 ∨ x = 64 ∨ x = 66 ∨ x = 72 ∨ x = 78 ∨ x = 80 ∨ x = 82 ∨ x = 88 ∨ x = 92 ∨ x = 94 ∨ x = 96 ∨ x = 102 ∨ x = 74 ∨ x = 104 ∨ x = 106 ∨ x = 108) → I' x 1 = I x 1) (key2 : ∀ x, (x = 33 ∨ x = 46 ∨ x = 60 ∨ x = 73 ∨ x = 89 ∨ x = 103) → I' x 0 = I x 0) (hZ : ISz I) : ISz I' := by
  obtain ⟨⟨a1, a2, a3, a4, a5⟩, ⟨b1, b2, b3, b4, b5⟩, ⟨c1, c2, c3, c4, c5⟩, ⟨d1, d2, d3, d4, d5⟩, ⟨e1, e2, e3, e4, e5⟩, ⟨f1, f2, f3, f4, f5⟩, g1, g2, g3, g4⟩ := hZ
  exact ⟨⟨(key _ (by omega)).trans a1, (key _ (by omega)).trans a2, (key _ (by omega)).trans a3, (key _ (by omega)).trans a4, (key2 _ (by omega)).trans a5⟩, ⟨(key _ (by omega)).trans b1, (key _ (by omega)).trans b2, (key _ (by omega)).trans b3, (key _ (by omega)).trans b4, (key2 _ (by omega)).trans b5⟩,
    ⟨(key _ (by omega)).trans c1, (key _ (by omega)).trans c2, (key _ (by omega)).trans c3, (key _ (by omega)).trans c4, (key2 _ (by omega)).trans c5⟩, ⟨(key _ (by omega)).trans d1, (key _ (by omega)).trans d2, (key _ (by omega)).trans d3, (key _ (by omega)).trans d4, (key2 _ (by omega)).trans d5⟩,
    ⟨(key _ (by omega)).trans e1, (key _ (by omega)).trans e2, (key _ (by omega)).trans e3, (key _ (by omega)).trans e4, (key2 _ (by omega)).trans e5⟩, ⟨(key _ (by omega)).trans f1, (key _ (by omega)).trans f2, (key _ (by omega)).trans f3, (key _ (by omega)).trans f4, (key2 _ (by omega)).trans f5⟩,
    (key _ (by omega)).trans g1, (key _ (by omega)).trans g2, (key _ (by omega)).trans g3, (key _ (by omega)).trans g4⟩
/-- cells that no size lies in -/
def noZ (x : Nat) : Prop := x = 76 ∨ x = 75 ∨ x = 105 ∨ x = 107 ∨ x = 109 ∨ x = 90
theorem CK.xz {I I' : IntM} {n : Nat} {kd nd od : Nat → Nat} {lw pot : Nat} (h : ∀ x k, ¬ noZ x → I' x k = I x k) (hK : CK I n kd nd od lw pot) : CK I' n kd nd od lw pot := CK.fr (fun x k q => h x k (by unfold noZ; omega)) (ISz.key (fun x q => h x 1 (by unfold noZ; omega)) (fun x q => h x 0 (by unfold noZ; omega)) hK.Z) hK
theorem FrC.xz {I I' : IntM} {J J' : LngM} (h : ∀ x k, ¬ noZ x → I' x k = I x k) (h2 : ∀ x k, ¬ noZ x → J' x k = J x k) : FrC I J I' J' := ⟨fun x k q => h x k (by unfold noZ; omega), fun x k q => h2 x k (by unfold noZ; omega)⟩
theorem uI_xz {I : IntM} {a k : Nat} {v : Int32} (ha : noZ a) : ∀ x j, ¬ noZ x → uI I a k v x j = I x j := fun x j hx => by
  unfold uI
  rw [if_neg (show ¬ (x = a ∧ j = k) from fun q => hx (by rw [q.1]; exact ha))]
theorem uJ_xz {J : LngM} {a k : Nat} {v : Int64} (ha : noZ a) : ∀ x j, ¬ noZ x → uJ J a k v x j = J x j := fun x j hx => by
  unfold uJ
  rw [if_neg (show ¬ (x = a ∧ j = k) from fun q => hx (by rw [q.1]; exact ha))]
theorem CK.u {I : IntM} {n : Nat} {kd nd od : Nat → Nat} {lw pot : Nat} (hK : CK I n kd nd od lw pot) {a : Nat} (ha : noZ a) (k : Nat) (v : Int32) : CK (uI I a k v) n kd nd od lw pot := CK.xz (uI_xz ha) hK
theorem FrC.u {I I1 : IntM} {J J1 : LngM} (h : FrC I J I1 J1) {a : Nat} (ha : noZ a) (k : Nat) (v : Int32) : FrC I J (uI I1 a k v) J1 := FrC.tr h (FrC.xz (uI_xz ha) (fun _ _ _ => rfl))
theorem SQ.xz {I I' : IntM} {a n : Nat} {kd nd : Nat → Nat} (h : ∀ x k, ¬ noZ x → I' x k = I x k) (ha : ¬ noZ a ∧ ¬ noZ (a + 2) ∧ ¬ noZ (a + 4)) (hQ : SQ I a n kd nd) : SQ I' a n kd nd := ⟨by rw [h _ _ ha.1]; exact hQ.1, AtI.congr (fun k => h _ _ ha.2.1) hQ.2.1, AtI.congr (fun k => h _ _ ha.2.2) hQ.2.2⟩
theorem SR.xz {I I' : IntM} {J J' : LngM} {a lw how P : Nat} (h : ∀ x k, ¬ noZ x → I' x k = I x k) (h2 : ∀ x k, ¬ noZ x → J' x k = J x k) (ha : ¬ noZ a ∧ ¬ noZ (a + 10)) (hR : SR I J a lw how P) : SR I' J' a lw how P := ⟨by rw [h _ _ ha.1]; exact hR.1, by rw [h _ _ ha.1]; exact hR.2.1, by rw [h2 _ _ ha.2]; exact hR.2.2⟩
/-- an evening's picture up to place p -/
def SvU (I : IntM) (J : LngM) (a : Nat) (kd nd : Nat → Nat) (lw how P : Nat) (ln : Nat → Nat) (p : Nat) : Prop := ∀ i, i ≤ p → J (a + 10) i = lN (thS kd nd lw how P ln i) ∧ I (a + 12) i = nI (fdS kd nd lw how P ln i)
/-- a sitting in the midst of the chain -/
def SvL (I : IntM) (J : LngM) (a n : Nat) (kd nd : Nat → Nat) (lw how P : Nat) (ln : Nat → Nat) (p : Nat) : Prop := SQ I a n kd nd ∧ SR I J a lw how P ∧ AtI I (a + 6) n ln ∧ SvU I J a kd nd lw how P ln p
theorem SvL.xz {I I' : IntM} {J J' : LngM} {a n : Nat} {kd nd : Nat → Nat} {lw how P : Nat} {ln : Nat → Nat} {p : Nat} (h : ∀ x k, ¬ noZ x → I' x k = I x k) (h2 : ∀ x k, ¬ noZ x → J' x k = J x k) (ha : ¬ noZ a ∧ ¬ noZ (a + 2) ∧ ¬ noZ (a + 4) ∧ ¬ noZ (a + 6) ∧ ¬ noZ (a + 10) ∧ ¬ noZ (a + 12)) (hL : SvL I J a n kd nd lw how P ln p) : SvL I' J' a n kd nd lw how P ln p :=
  ⟨SQ.xz h ⟨ha.1, ha.2.1, ha.2.2.1⟩ hL.1, SR.xz h h2 ⟨ha.1, ha.2.2.2.2.1⟩ hL.2.1, AtI.congr (fun k => h _ _ ha.2.2.2.1) hL.2.2.1, fun i hi => by rw [h2 _ _ ha.2.2.2.2.1, h _ _ ha.2.2.2.2.2]; exact hL.2.2.2 i hi⟩
theorem q_num (I : IntM) (J : LngM) {a : Nat} (hL : LSit a) (hZ : SzS I a) {n : Nat} {kd nd : Nat → Nat} {lw how P0 : Nat} (hn : n ≤ 7) (hQ : SQ I a n kd nd) (hR : SR I J a lw how P0) : CtP 3 m_X7_seatByNumbers [.ref a] I J (fun r I1 J1 => r = none ∧ FrS a I J I1 J1 ∧ SvL I1 J1 a n kd nd lw how P0 (fun i => i) 0 ∧ J1 = J) := by
  refine CtP_mono (c_S_num I J hL hZ hn hQ.1) (fun r I1 J1 q => ?_)
  obtain ⟨rfl, rfl, rfl⟩ := q
  have g : ∀ x k, ¬ (x = a + 6) → putI I (a + 6) n nI x k = I x k := fun x k h => by
    unfold putI
    rw [if_neg (by omega)]
  refine ⟨rfl, ⟨fun x k h => g x k (by omega), fun _ _ _ => rfl⟩, ⟨⟨by rw [g _ _ (by omega)]; exact hQ.1, AtI.congr (fun k => g _ _ (by omega)) hQ.2.1, AtI.congr (fun k => g _ _ (by omega)) hQ.2.2⟩, ⟨by rw [g _ _ (by omega)]; exact hR.1, by rw [g _ _ (by omega)]; exact hR.2.1, hR.2.2⟩, fun k hk => ?_, fun i hi => ?_⟩, rfl⟩
  · unfold putI
    rw [if_pos ⟨rfl, hk⟩]
  · obtain rfl : i = 0 := by omega
    refine ⟨hR.2.2, ?_⟩
    rw [g _ _ (by omega)]
    exact hZ.2.2.2.2
theorem q_serveF (I : IntM) (J : LngM) {a : Nat} (hL : LSit a) (hZ : SzS I a) {n : Nat} {kd nd : Nat → Nat} {lw how pot p : Nat} {ln : Nat → Nat} (hn : n ≤ 7) (hh : how ≤ 1) (hlw : lw ≤ 3) (hp : pot ≤ 999) (hkd : ∀ k, k < n → kd k ≤ 5) (hnd : ∀ k, k < n → nd k ≤ 99) (hP : Pm n ln) (hpn : p ≤ n) (hS : SvL I J a n kd nd lw how (pot * un how) ln p) : CtP 3 m_X7_serve [.ref a, .int (nI p)] I J (fun r I1 J1 => r = none ∧ FrS a I J I1 J1 ∧ SvL I1 J1 a n kd nd lw how (pot * un how) ln n) := by
  obtain ⟨hQ, hR, hA, hU⟩ := hS
  refine CtP_mono (c_S_serve I J hL hZ hh hlw hn (P := pot * un how) (by have := mul_un (how := how) hp; omega) hkd hnd hP.1 hP.2 (f := p) hpn ⟨hQ.1, hR.1, hR.2.1, hQ.2.1, hQ.2.2, hA, (hU p (Nat.le_refl p)).1, (hU p (Nat.le_refl p)).2⟩) (fun r I1 J1 q => ?_)
  obtain ⟨rfl, hF, hG⟩ := q
  have f1 : ∀ x k, ¬ (x = a + 12 ∧ 1 ≤ k) → I1 x k = I x k := fun x k h => hF.1 x k (by omega)
  have hU1 : SvU I1 J1 a kd nd lw how (pot * un how) ln n := fun i hi => by
    rcases Nat.lt_or_ge i p with h | h
    · have h9 := hU i (by omega)
      rw [hF.1 _ _ (by omega), hF.2 _ _ (by omega) (by omega)]
      exact h9
    · exact hG.1 i h hi
  exact ⟨rfl, ⟨fun x k h => hF.1 x k (by omega), fun x k h => hF.2 x k (by omega) (by omega)⟩, ⟨by rw [f1 _ _ (by omega)]; exact hQ.1, AtI.congr (fun k => f1 _ _ (by omega)) hQ.2.1, AtI.congr (fun k => f1 _ _ (by omega)) hQ.2.2⟩, ⟨by rw [f1 _ _ (by omega)]; exact hR.1, by rw [f1 _ _ (by omega)]; exact hR.2.1, (hU1 0 (Nat.zero_le _)).1⟩, AtI.congr (fun k => f1 _ _ (by omega)) hA, hU1⟩
theorem q_next (I : IntM) (J : LngM) {a : Nat} (hL : LSit a) (hZ : SzS I a) {n : Nat} {kd nd : Nat → Nat} {lw how P : Nat} {ln : Nat → Nat} (h1 : 1 ≤ n) (hn : n ≤ 7) (hP : Pm n ln) (hS : SvL I J a n kd nd lw how P ln n) : CtP 4 m_X7_seatNext [.ref a] I J (fun r I1 J1 => FrS a I J I1 J1 ∧ J1 = J ∧ match nx n ln with | none => r = some (.int (-1)) ∧ I1 = I | some q => r = some (.int (nI q.1)) ∧ q.1 < n ∧ Pm n q.2 ∧ SvL I1 J1 a n kd nd lw how P q.2 q.1) := by
  obtain ⟨hQ, hR, hA, hU⟩ := hS
  refine CtP_mono (c_S_next I J hL hZ h1 hn hQ.1 hA (fun i hi => Nat.lt_of_lt_of_le (hP.1 i hi) hn)) (fun r I1 J1 q => ?_)
  obtain ⟨rfl, q⟩ := q
  cases hx : nx n ln with
  | none =>
    rw [hx] at q
    obtain ⟨rfl, rfl⟩ := q
    exact ⟨FrS.rf, rfl, rfl, rfl⟩
  | some z =>
    rw [hx] at q
    obtain ⟨rfl, hA1, hF, hb⟩ := q
    have g : ∀ x k, ¬ (x = a + 6) → I1 x k = I x k := fun x k h => hF x k (by omega)
    have hz := nx_keep hx
    refine ⟨⟨fun x k h => g x k (by omega), fun _ _ _ => rfl⟩, rfl, rfl, by omega, Pm_nx h1 hP hx, ⟨by rw [g _ _ (by omega)]; exact hQ.1, AtI.congr (fun k => g _ _ (by omega)) hQ.2.1, AtI.congr (fun k => g _ _ (by omega)) hQ.2.2⟩, ⟨by rw [g _ _ (by omega)]; exact hR.1, by rw [g _ _ (by omega)]; exact hR.2.1, hR.2.2⟩, hA1, fun i hi => ?_⟩
    have h9 := hU i (by omega)
    rw [g _ _ (by omega), thS_cong i (ln' := ln) (fun j hj => hz.2 j (by omega)), fdS_cong i (ln' := ln) (fun j hj => hz.2 j (by omega))]
    exact h9

