
/-! ===== a Sitting used: what each call leaves ===== -/
theorem CtP_mono {d : Nat} {m : Mth} {as : List Value} {I : IntM} {J : LngM} {Q Q' : Option Value → IntM → LngM → Prop} (h : CtP d m as I J Q) (hq : ∀ r I' J', Q r I' J' → Q' r I' J') : CtP d m as I J Q' := by
  intro l b D cA
  refine MetFree.mono (h l b D cA) (fun _ _ q => q) (fun _ _ _ _ _ q => q) (fun a s o t _ q => ⟨⟨?_, q.1.2⟩, q.2⟩)
  obtain ⟨r, sh, R, I', J', h1, ⟨h2, h3, h4⟩, h5⟩ := q.1.1
  exact ⟨r, sh, R, I', J', h1, ⟨h2, h3, hq r I' J' h4⟩, h5⟩
def FrS (a : Nat) (I : IntM) (J : LngM) (I' : IntM) (J' : LngM) : Prop := (∀ x k, ¬ (x = a ∨ x = a + 2 ∨ x = a + 4 ∨ x = a + 6 ∨ (x = a + 12 ∧ 1 ≤ k)) → I' x k = I x k) ∧ ∀ x k, ¬ (x = a + 8 ∨ x = a + 10) → J' x k = J x k
theorem FrS.rf {a : Nat} {I : IntM} {J : LngM} : FrS a I J I J := ⟨fun _ _ _ => rfl, fun _ _ _ => rfl⟩
theorem FrS.tr {a : Nat} {I I1 I2 : IntM} {J J1 J2 : LngM} (h1 : FrS a I J I1 J1) (h2 : FrS a I1 J1 I2 J2) : FrS a I J I2 J2 := ⟨fun x k h => (h2.1 x k h).trans (h1.1 x k h), fun x k h => (h2.2 x k h).trans (h1.2 x k h)⟩
theorem FrS.C {a : Nat} {I I' : IntM} {J J' : LngM} (ha : 21 ≤ a) (ha2 : a + 12 ≤ 109) (h : FrS a I J I' J') : FrC I J I' J' := ⟨fun x k q => h.1 x k (by omega), fun x k q => h.2 x k (by omega)⟩
theorem FrS.Z {a : Nat} {I I' : IntM} {J J' : LngM} (h : FrS a I J I' J') (hZ : SzS I a) : SzS I' a := by
  obtain ⟨a1, a2, a3, a4, a5⟩ := hZ
  exact ⟨by rw [h.1 _ _ (by omega)]; exact a1, by rw [h.1 _ _ (by omega)]; exact a2, by rw [h.1 _ _ (by omega)]; exact a3, by rw [h.1 _ _ (by omega)]; exact a4, by rw [h.1 _ _ (by omega)]; exact a5⟩
/-- the sizes of all scratch rows stay -/
theorem FrS.I {a : Nat} {I I' : IntM} {J J' : LngM} (ha : a = 21 ∨ a = 34 ∨ a = 48 ∨ a = 61 ∨ a = 77 ∨ a = 91) (h : FrS a I J I' J') (hZ : ISz I) : ISz I' := by
  have key : ∀ x, (x = 22 ∨ x = 24 ∨ x = 26 ∨ x = 32 ∨ x = 35 ∨ x = 37 ∨ x = 39 ∨ x = 45 ∨ x = 49 ∨ x = 51 ∨ x = 53 ∨ x = 59 ∨ x = 62 ∨ x = 64 ∨ x = 66 ∨ x = 72 ∨ x = 78 ∨ x = 80 ∨ x = 82 ∨ x = 88 ∨ x = 92 ∨ x = 94 ∨ x = 96 ∨ x = 102 ∨ x = 74 ∨ x = 104 ∨ x = 106 ∨ x = 108) → I' x 1 = I x 1 := fun x hx => h.1 x 1 (by omega)
  have key2 : ∀ x, (x = 33 ∨ x = 46 ∨ x = 60 ∨ x = 73 ∨ x = 89 ∨ x = 103) → I' x 0 = I x 0 := fun x hx => h.1 x 0 (by omega)
  obtain ⟨⟨a1, a2, a3, a4, a5⟩, ⟨b1, b2, b3, b4, b5⟩, ⟨c1, c2, c3, c4, c5⟩, ⟨d1, d2, d3, d4, d5⟩, ⟨e1, e2, e3, e4, e5⟩, ⟨f1, f2, f3, f4, f5⟩, g1, g2, g3, g4⟩ := hZ
  exact ⟨⟨(key _ (by omega)).trans a1, (key _ (by omega)).trans a2, (key _ (by omega)).trans a3, (key _ (by omega)).trans a4, (key2 _ (by omega)).trans a5⟩, ⟨(key _ (by omega)).trans b1, (key _ (by omega)).trans b2, (key _ (by omega)).trans b3, (key _ (by omega)).trans b4, (key2 _ (by omega)).trans b5⟩,
    ⟨(key _ (by omega)).trans c1, (key _ (by omega)).trans c2, (key _ (by omega)).trans c3, (key _ (by omega)).trans c4, (key2 _ (by omega)).trans c5⟩, ⟨(key _ (by omega)).trans d1, (key _ (by omega)).trans d2, (key _ (by omega)).trans d3, (key _ (by omega)).trans d4, (key2 _ (by omega)).trans d5⟩,
    ⟨(key _ (by omega)).trans e1, (key _ (by omega)).trans e2, (key _ (by omega)).trans e3, (key _ (by omega)).trans e4, (key2 _ (by omega)).trans e5⟩, ⟨(key _ (by omega)).trans f1, (key _ (by omega)).trans f2, (key _ (by omega)).trans f3, (key _ (by omega)).trans f4, (key2 _ (by omega)).trans f5⟩,
    (key _ (by omega)).trans g1, (key _ (by omega)).trans g2, (key _ (by omega)).trans g3, (key _ (by omega)).trans g4⟩
theorem CCo.fr {I I' : IntM} {n : Nat} {kd nd od : Nat → Nat} (h : ∀ x k, 8 ≤ x ∧ x ≤ 14 → I' x k = I x k) (hC : CCo I n kd nd od) : CCo I' n kd nd od := by
  obtain ⟨c1, c2, c3, c4, c5, c6, c7⟩ := hC
  exact ⟨by rw [h _ _ (by omega)]; exact c1, AtI.congr (fun k => h _ _ (by omega)) c2, AtI.congr (fun k => h _ _ (by omega)) c3, AtI.congr (fun k => h _ _ (by omega)) c4, by rw [h _ _ (by omega)]; exact c5, by rw [h _ _ (by omega)]; exact c6, by rw [h _ _ (by omega)]; exact c7⟩
theorem FrS.co {a : Nat} {I I' : IntM} {J J' : LngM} (ha : 21 ≤ a) (h : FrS a I J I' J') {n : Nat} {kd nd od : Nat → Nat} (hC : CCo I n kd nd od) : CCo I' n kd nd od := CCo.fr (fun x k q => h.1 x k (by omega)) hC
def SQ (I : IntM) (a n : Nat) (kd nd : Nat → Nat) : Prop := I a 6 = nI n ∧ AtI I (a + 2) n kd ∧ AtI I (a + 4) n nd
def SR (I : IntM) (J : LngM) (a lw how P : Nat) : Prop := I a 7 = nI lw ∧ I a 8 = nI how ∧ J (a + 10) 0 = lN P
def SvD (I : IntM) (J : LngM) (a n : Nat) (kd nd : Nat → Nat) (lw how P : Nat) (ln : Nat → Nat) : Prop := (∀ i, i ≤ n → J (a + 10) i = lN (thS kd nd lw how P ln i) ∧ I (a + 12) i = nI (fdS kd nd lw how P ln i)) ∧ ∀ k, k < n → J (a + 8) k = lN (tkS kd nd lw how P ln (plN ln k n))

theorem q_invite (I : IntM) (J : LngM) {a : Nat} (hL : LSit a) (hZ : SzS I a) {n : Nat} {kd nd : Nat → Nat} {od : Nat → Nat} (hn : n ≤ 7) (hC : CCo I n kd nd od) : CtP 3 m_X7_invite [.ref a, .ref 8] I J (fun r I1 J1 => r = none ∧ FrS a I J I1 J1 ∧ SQ I1 a n kd nd ∧ J1 = J) := by
  have ha := hL.2.2.2.2.2.2.2.2.2.2.2.2.2
  refine CtP_mono (c_S_invite I J hL hZ hC.2.2.2.2) (fun r I1 J1 q => ?_)
  obtain ⟨rfl, rfl, rfl⟩ := q
  refine ⟨rfl, ⟨fun x k h => ?_, fun _ _ _ => rfl⟩, ⟨?_, fun k hk => ?_, fun k hk => ?_⟩, rfl⟩
  · unfold inviteI cpI uI
    rw [if_neg (by omega), if_neg (by omega), if_neg (by omega)]
  · unfold inviteI cpI
    rw [if_neg (by omega), if_neg (by omega), uI_eq]
    exact hC.1
  · unfold inviteI cpI
    rw [if_neg (by omega), if_pos (by omega), uI_ne _ _ (by intro h1; simp at h1; omega)]
    rw [show 0 + (k - 0) = k by omega]
    exact hC.2.1 k hk
  · unfold inviteI cpI
    rw [if_pos (by omega), if_neg (by omega), uI_ne _ _ (by simp; omega)]
    rw [show 0 + (k - 0) = k by omega]
    exact hC.2.2.1 k hk
theorem q_rules (I : IntM) (J : LngM) {a : Nat} (hL : LSit a) (hZ : SzS I a) {n : Nat} {kd nd : Nat → Nat} {how pot lw : Nat} (hh : how ≤ 1) (hp : pot ≤ 999) (hQ : SQ I a n kd nd) : CtP 2 m_X7_rules [.ref a, .int (nI lw), .int (nI how), .int (nI pot)] I J (fun r I1 J1 => r = none ∧ FrS a I J I1 J1 ∧ SQ I1 a n kd nd ∧ SR I1 J1 a lw how (pot * un how) ∧ ∀ k, I1 (a + 6) k = I (a + 6) k) := by
  refine CtP_mono (c_S_rules I J hL hZ hh (by omega)) (fun r I1 J1 q => ?_)
  obtain ⟨rfl, rfl, rfl⟩ := q
  refine ⟨rfl, ⟨fun x k h => ?_, fun x k h => ?_⟩, ⟨?_, fun k hk => ?_, fun k hk => ?_⟩, ⟨?_, ?_, ?_⟩, fun k => ?_⟩
  · unfold uI
    rw [if_neg (by omega), if_neg (by omega)]
  · unfold uJ
    rw [if_neg (by omega)]
  · unfold uI
    rw [if_neg (by omega), if_neg (by omega)]
    exact hQ.1
  · unfold uI
    rw [if_neg (by omega), if_neg (by omega)]
    exact hQ.2.1 k hk
  · unfold uI
    rw [if_neg (by omega), if_neg (by omega)]
    exact hQ.2.2 k hk
  · rw [uI_ne _ _ (by simp), uI_eq]
  · rw [uI_eq]
  · rw [uJ_eq]
  · unfold uI
    rw [if_neg (by omega), if_neg (by omega)]
theorem q_turn (I : IntM) (J : LngM) {a : Nat} (hL : LSit a) (hZ : SzS I a) {n : Nat} {kd nd : Nat → Nat} {lw how P0 : Nat} (hn : n ≤ 7) (hQ : SQ I a n kd nd) (hR : SR I J a lw how P0) {y : Nat} (hO : LI y 7) (hOz : I y 1 = nI 7) (hy : y + 1 < a ∨ a + 13 ≤ y) {od : Nat → Nat} (hod : AtI I (y + 1) n od) {t : Nat} (ht : t ≤ 100) : CtP 3 m_X7_seatTurned [.ref a, .ref y, .int (nI t)] I J (fun r I1 J1 => r = none ∧ FrS a I J I1 J1 ∧ SQ I1 a n kd nd ∧ SR I1 J1 a lw how P0 ∧ AtI I1 (a + 6) n (fun i => od ((i + t) % n)) ∧ J1 = J) := by
  refine CtP_mono (c_S_turn I J hL hZ hn hQ.1 hO hOz hy ht) (fun r I1 J1 q => ?_)
  obtain ⟨rfl, rfl, rfl⟩ := q
  refine ⟨rfl, ⟨fun x k h => ?_, fun _ _ _ => rfl⟩, ⟨?_, fun k hk => ?_, fun k hk => ?_⟩, ⟨?_, ?_, hR.2.2⟩, fun k hk => ?_, rfl⟩
  · unfold putI
    rw [if_neg (by omega)]
  · unfold putI
    rw [if_neg (by omega)]
    exact hQ.1
  · unfold putI
    rw [if_neg (by omega)]
    exact hQ.2.1 k hk
  · unfold putI
    rw [if_neg (by omega)]
    exact hQ.2.2 k hk
  · unfold putI
    rw [if_neg (by omega)]
    exact hR.1
  · unfold putI
    rw [if_neg (by omega)]
    exact hR.2.1
  · unfold putI
    rw [if_pos ⟨rfl, hk⟩]
    exact hod _ (Nat.mod_lt _ (by omega))
theorem q_back (I : IntM) (J : LngM) {a : Nat} (hL : LSit a) (hZ : SzS I a) {n : Nat} {kd nd : Nat → Nat} {lw how P0 : Nat} (hn : n ≤ 7) (hQ : SQ I a n kd nd) (hR : SR I J a lw how P0) {y : Nat} (hO : LI y 7) (hOz : I y 1 = nI 7) (hy : y + 1 < a ∨ a + 13 ≤ y) {od : Nat → Nat} (hod : AtI I (y + 1) n od) : CtP 3 m_X7_seatBackwards [.ref a, .ref y] I J (fun r I1 J1 => r = none ∧ FrS a I J I1 J1 ∧ SQ I1 a n kd nd ∧ SR I1 J1 a lw how P0 ∧ AtI I1 (a + 6) n (fun i => od (n - 1 - i)) ∧ J1 = J) := by
  refine CtP_mono (c_S_back I J hL hZ hn hQ.1 hO hOz hy) (fun r I1 J1 q => ?_)
  obtain ⟨rfl, rfl, rfl⟩ := q
  refine ⟨rfl, ⟨fun x k h => ?_, fun _ _ _ => rfl⟩, ⟨?_, fun k hk => ?_, fun k hk => ?_⟩, ⟨?_, ?_, hR.2.2⟩, fun k hk => ?_, rfl⟩
  · unfold putI
    rw [if_neg (by omega)]
  · unfold putI
    rw [if_neg (by omega)]
    exact hQ.1
  · unfold putI
    rw [if_neg (by omega)]
    exact hQ.2.1 k hk
  · unfold putI
    rw [if_neg (by omega)]
    exact hQ.2.2 k hk
  · unfold putI
    rw [if_neg (by omega)]
    exact hR.1
  · unfold putI
    rw [if_neg (by omega)]
    exact hR.2.1
  · unfold putI
    rw [if_pos ⟨rfl, hk⟩]
    exact hod _ (by omega)
theorem q_moved (I : IntM) (J : LngM) {a : Nat} (hL : LSit a) (hZ : SzS I a) {n : Nat} {kd nd : Nat → Nat} {lw how P0 : Nat} (hn : n ≤ 7) (hQ : SQ I a n kd nd) (hR : SR I J a lw how P0) {y : Nat} (hO : LI y 7) (hOz : I y 1 = nI 7) (hy : y + 1 < a ∨ a + 13 ≤ y) {od : Nat → Nat} (hod : AtI I (y + 1) n od) (hP : Pm n od) {pos k at' : Nat} (hpos : pos < n) (hk : od pos = k) (hat : at' < n) : CtP 3 m_X7_seatMoved [.ref a, .ref y, .int (nI k), .int (nI at')] I J (fun r I1 J1 => r = none ∧ FrS a I J I1 J1 ∧ SQ I1 a n kd nd ∧ SR I1 J1 a lw how P0 ∧ AtI I1 (a + 6) n (mvS od pos k at') ∧ J1 = J) := by
  refine CtP_mono (c_S_moved I J hL hZ hn hQ.1 hO hOz hy hod hP.1 hP.2 hpos hk hat) (fun r I1 J1 q => ?_)
  obtain ⟨rfl, rfl, hA, hF⟩ := q
  exact ⟨rfl, ⟨fun x k h => hF x k (by omega), fun _ _ _ => rfl⟩, ⟨by rw [hF _ _ (by omega)]; exact hQ.1, AtI.congr (fun k => hF _ _ (by omega)) hQ.2.1, AtI.congr (fun k => hF _ _ (by omega)) hQ.2.2⟩, ⟨by rw [hF _ _ (by omega)]; exact hR.1, by rw [hF _ _ (by omega)]; exact hR.2.1, hR.2.2⟩, hA, rfl⟩
theorem q_mk (I : IntM) (J : LngM) {a : Nat} (hL : LSit a) (hZ : SzS I a) {n : Nat} {kd nd : Nat → Nat} {w : Nat} (hn : n ≤ 7) (hw : w < 128) (hQ : SQ I a n kd nd) : CtP 3 m_X7_makeEaters [.ref a, .int (nI w)] I J (fun r I1 J1 => r = none ∧ FrS a I J I1 J1 ∧ SQ I1 a n (hon kd w) nd ∧ J1 = J) := by
  refine CtP_mono (c_S_mk I J hL hZ hn hQ.1 hw) (fun r I1 J1 q => ?_)
  obtain ⟨rfl, rfl, rfl⟩ := q
  refine ⟨rfl, ⟨fun x k h => ?_, fun _ _ _ => rfl⟩, ⟨?_, fun k hk => ?_, fun k hk => ?_⟩, rfl⟩
  · unfold putI
    rw [if_neg (by omega)]
  · unfold putI
    rw [if_neg (by omega)]
    exact hQ.1
  · unfold putI hon
    rw [if_pos ⟨rfl, hk⟩]
    by_cases hb : w.testBit k = true
    · simp only [hb, if_true]; rfl
    · simp only [hb, if_false]; exact hQ.2.1 k hk
  · unfold putI
    rw [if_neg (by omega)]
    exact hQ.2.2 k hk
theorem q_serve (I : IntM) (J : LngM) {a : Nat} (hL : LSit a) (hZ : SzS I a) {n : Nat} {kd nd : Nat → Nat} {lw how pot : Nat} {ln : Nat → Nat} (hn : n ≤ 7) (hh : how ≤ 1) (hlw : lw ≤ 3) (hp : pot ≤ 999) (hkd : ∀ k, k < n → kd k ≤ 5) (hnd : ∀ k, k < n → nd k ≤ 99) (hP : Pm n ln) (hQ : SQ I a n kd nd) (hR : SR I J a lw how (pot * un how)) (hA : AtI I (a + 6) n ln) : CtP 3 m_X7_serve [.ref a, .int 0] I J (fun r I1 J1 => r = none ∧ FrS a I J I1 J1 ∧ SQ I1 a n kd nd ∧ SR I1 J1 a lw how (pot * un how) ∧ AtI I1 (a + 6) n ln ∧ SvD I1 J1 a n kd nd lw how (pot * un how) ln) := by
  refine CtP_mono (c_S_serve I J hL hZ hh hlw hn (P := pot * un how) (by have := mul_un (how := how) hp; omega) hkd hnd hP.1 hP.2 (f := 0) (Nat.zero_le _) ⟨hQ.1, hR.1, hR.2.1, hQ.2.1, hQ.2.2, hA, hR.2.2, hZ.2.2.2.2⟩) (fun r I1 J1 q => ?_)
  obtain ⟨rfl, hF, hG⟩ := q
  have f1 : ∀ x k, ¬ (x = a + 12 ∧ 1 ≤ k) → I1 x k = I x k := fun x k h => hF.1 x k (by omega)
  refine ⟨rfl, ⟨fun x k h => hF.1 x k (by omega), fun x k h => hF.2 x k (by omega) (by omega)⟩, ⟨by rw [f1 _ _ (by omega)]; exact hQ.1, AtI.congr (fun k => f1 _ _ (by omega)) hQ.2.1, AtI.congr (fun k => f1 _ _ (by omega)) hQ.2.2⟩, ⟨by rw [f1 _ _ (by omega)]; exact hR.1, by rw [f1 _ _ (by omega)]; exact hR.2.1, (hG.1 0 (Nat.le_refl _) (Nat.zero_le _)).1⟩, AtI.congr (fun k => f1 _ _ (by omega)) hA, fun i hi => hG.1 i (Nat.zero_le _) hi, fun k hk => ?_⟩
  obtain ⟨p1, p2⟩ := Pm_place hP hk
  have := hG.2 _ (Nat.zero_le _) p1
  rwa [p2] at this
theorem LS_21 : LSit 21 := ⟨rfl, rfl, rfl, rfl, rfl, rfl, rfl, ⟨rfl, rfl, rfl, by decide⟩, ⟨rfl, rfl, rfl, by decide⟩, ⟨rfl, rfl, rfl, by decide⟩, ⟨rfl, rfl, rfl, by decide⟩, ⟨rfl, rfl, rfl, by decide⟩, ⟨rfl, rfl, rfl, by decide⟩, by decide⟩
theorem LS_34 : LSit 34 := ⟨rfl, rfl, rfl, rfl, rfl, rfl, rfl, ⟨rfl, rfl, rfl, by decide⟩, ⟨rfl, rfl, rfl, by decide⟩, ⟨rfl, rfl, rfl, by decide⟩, ⟨rfl, rfl, rfl, by decide⟩, ⟨rfl, rfl, rfl, by decide⟩, ⟨rfl, rfl, rfl, by decide⟩, by decide⟩
theorem LS_48 : LSit 48 := ⟨rfl, rfl, rfl, rfl, rfl, rfl, rfl, ⟨rfl, rfl, rfl, by decide⟩, ⟨rfl, rfl, rfl, by decide⟩, ⟨rfl, rfl, rfl, by decide⟩, ⟨rfl, rfl, rfl, by decide⟩, ⟨rfl, rfl, rfl, by decide⟩, ⟨rfl, rfl, rfl, by decide⟩, by decide⟩
theorem LS_61 : LSit 61 := ⟨rfl, rfl, rfl, rfl, rfl, rfl, rfl, ⟨rfl, rfl, rfl, by decide⟩, ⟨rfl, rfl, rfl, by decide⟩, ⟨rfl, rfl, rfl, by decide⟩, ⟨rfl, rfl, rfl, by decide⟩, ⟨rfl, rfl, rfl, by decide⟩, ⟨rfl, rfl, rfl, by decide⟩, by decide⟩
theorem LS_77 : LSit 77 := ⟨rfl, rfl, rfl, rfl, rfl, rfl, rfl, ⟨rfl, rfl, rfl, by decide⟩, ⟨rfl, rfl, rfl, by decide⟩, ⟨rfl, rfl, rfl, by decide⟩, ⟨rfl, rfl, rfl, by decide⟩, ⟨rfl, rfl, rfl, by decide⟩, ⟨rfl, rfl, rfl, by decide⟩, by decide⟩
theorem LS_91 : LSit 91 := ⟨rfl, rfl, rfl, rfl, rfl, rfl, rfl, ⟨rfl, rfl, rfl, by decide⟩, ⟨rfl, rfl, rfl, by decide⟩, ⟨rfl, rfl, rfl, by decide⟩, ⟨rfl, rfl, rfl, by decide⟩, ⟨rfl, rfl, rfl, by decide⟩, ⟨rfl, rfl, rfl, by decide⟩, by decide⟩
/-- what the class has between two calls -/
def CK (I : IntM) (n : Nat) (kd nd od : Nat → Nat) (lw pot : Nat) : Prop := CoOK n kd nd od ∧ lw ≤ 3 ∧ pot ≤ 999 ∧ CCo I n kd nd od ∧ I 8 4 = nI lw ∧ I 8 5 = nI pot ∧ ISz I
theorem CoOK.P {n : Nat} {kd nd od : Nat → Nat} (h : CoOK n kd nd od) : Pm n od := ⟨h.2.2.2.1, h.2.2.2.2⟩
theorem CK.fr {I I' : IntM} {n : Nat} {kd nd od : Nat → Nat} {lw pot : Nat} (hI : ∀ x k, 8 ≤ x ∧ x ≤ 14 → I' x k = I x k) (hZ : ISz I') (h : CK I n kd nd od lw pot) : CK I' n kd nd od lw pot := ⟨h.1, h.2.1, h.2.2.1, CCo.fr hI h.2.2.2.1, by rw [hI _ _ (by omega)]; exact h.2.2.2.2.1, by rw [hI _ _ (by omega)]; exact h.2.2.2.2.2.1, hZ⟩
theorem FrS.K {a : Nat} {I I' : IntM} {J J' : LngM} (ha : a = 21 ∨ a = 34 ∨ a = 48 ∨ a = 61 ∨ a = 77 ∨ a = 91) (h : FrS a I J I' J') {n : Nat} {kd nd od : Nat → Nat} {lw pot : Nat} (hK : CK I n kd nd od lw pot) : CK I' n kd nd od lw pot := CK.fr (fun x k q => h.1 x k (by omega)) (FrS.I ha h hK.2.2.2.2.2.2) hK

