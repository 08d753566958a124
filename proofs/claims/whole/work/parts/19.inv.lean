
/-! ===== what class and reference hold in common, between two calls ===== -/
def whoN (ln : Nat → Nat) : Nat → Nat := fun e => match e with
  | 0 => 0
  | e + 1 => whoN ln e ||| 2 ^ ln e
def EvOK (n how e : Nat) (ln : Nat → Nat) (gr : Nat) (te : Nat → Nat) : Prop := how ≤ 1 ∧ e ≤ n ∧ Pm n ln ∧ gr ≤ 999 * un how ∧ (how = 0 → 24 ^ (7 - e) ∣ gr) ∧ ∀ i, i < e → te i ≤ 999 * un how
def EvC (I : IntM) (J : LngM) (x n how e : Nat) (ln : Nat → Nat) (gr : Nat) (te : Nat → Nat) : Prop := I x 3 = nI how ∧ I x 4 = nI e ∧ J x 5 = lN gr ∧ I x 6 = nI (whoN ln e) ∧ AtI I (x + 2) n ln ∧ (∀ i, i < e → J (x + 4) (ln i) = lN (te i))
def EvM (I : IntM) (J : LngM) (n how e : Nat) (ln : Nat → Nat) (gr : Nat) (te : Nat → Nat) : Prop := I 146 30 = nI how ∧ I 146 32 = nI e ∧ Fr (J 146 35) (J 146 36) ((gr : Nat) : Int) (un how) ∧ AtI I 160 n ln ∧ ∀ i, i < e → Fr (J 161 (ln i)) (J 162 (ln i)) ((te i : Nat) : Int) (un how)
def EvI (I : IntM) (J : LngM) (n : Nat) : Prop := ∃ how e ln gr te, EvOK n how e ln gr te ∧ EvC I J 15 n how e ln gr te ∧ EvM I J n how e ln gr te
def KeM (I : IntM) (J : LngM) (c n how e : Nat) (ln : Nat → Nat) (gr : Nat) (te : Nat → Nat) : Prop := I 163 c = nI e ∧ I 164 c = nI how ∧ Fr (J 168 c) (J 169 c) ((gr : Nat) : Int) (un how) ∧ (∀ p, p < n → I 165 (7 * c + p) = nI (ln p)) ∧ ∀ i, i < e → Fr (J 166 (7 * c + ln i)) (J 167 (7 * c + ln i)) ((te i : Nat) : Int) (un how)
def KeI (I : IntM) (J : LngM) (n c : Nat) : Prop := I (131 + 5 * c + 1) 1 = nI 7 ∧ ((I (131 + 5 * c) 2 = 0 ∧ I 163 c = -1) ∨ (I (131 + 5 * c) 2 = 1 ∧ 0 < n ∧ ∃ how e ln gr te, EvOK n how e ln gr te ∧ EvC I J (131 + 5 * c) n how e ln gr te ∧ KeM I J c n how e ln gr te))
def RoI (I : IntM) (a b c N : Nat) : Prop := ∀ r, r < N → I (a + 2 * r) 1 = I b r ∧ (I b r = -1 ∨ ∃ s, s ≤ 60 ∧ I b r = nI s ∧ ∀ i, i < s → I (a + 2 * r + 1) i = I c (60 * r + i))
def FiI (I : IntM) : Prop := I 0 12 = I 146 0 ∧ ∀ f, f < 6 → I 110 f = I 147 f
def ToI (I : IntM) (J : LngM) : Prop := I 0 13 = I 146 2 ∧ J 0 14 = J 146 3 ∧ J 0 15 = J 146 4
def ISz (I : IntM) : Prop := SzS I 21 ∧ SzS I 34 ∧ SzS I 48 ∧ SzS I 61 ∧ SzS I 77 ∧ SzS I 91 ∧ I 74 1 = nI 7 ∧ I 104 1 = nI 7 ∧ I 106 1 = nI 4 ∧ I 108 1 = nI 7
/-- the company, in both, and its law and pot -/
def CoI (I : IntM) (n : Nat) (kd nd od : Nat → Nat) (lw pot : Nat) : Prop := CoOK n kd nd od ∧ lw ≤ 3 ∧ pot ≤ 999 ∧ CCo I n kd nd od ∧ I 8 4 = nI lw ∧ I 8 5 = nI pot ∧ MCo I n kd nd ∧ AtI I 156 n od ∧ I 146 18 = nI lw ∧ I 146 17 = nI pot
def InvP (I : IntM) (J : LngM) (n : Nat) (kd nd od : Nat → Nat) (lw pot : Nat) : Prop := CoI I n kd nd od lw pot ∧ EvI I J n ∧ (∀ c, c < 3 → KeI I J n c) ∧ RoI I 111 148 149 6 ∧ RoI I 123 150 151 4 ∧ FiI I ∧ I 4 1 = nI 7 ∧ I 6 1 = nI 7 ∧ I 16 1 = nI 7
def Inv (I : IntM) (J : LngM) : Prop := (∃ n kd nd od lw pot, InvP I J n kd nd od lw pot) ∧ ToI I J ∧ ISz I
/-- the cells that InvP speaks of -/
def pI (x k : Nat) : Prop := (x ≤ 20 ∧ x ≠ 3 ∧ x ≠ 5 ∧ x ≠ 7 ∧ (x ≠ 0 ∨ k ≠ 13)) ∨ (110 ≤ x ∧ x ≤ 145) ∨ (x = 146 ∧ (k = 0 ∨ k = 17 ∨ k = 18 ∨ k = 19 ∨ k = 30 ∨ k = 32)) ∨ (147 ≤ x ∧ x ≤ 151) ∨ (154 ≤ x ∧ x ≤ 156) ∨ x = 160 ∨ (163 ≤ x ∧ x ≤ 165)
def pJ (x k : Nat) : Prop := (x ≤ 20 ∧ (x ≠ 0 ∨ (k ≠ 14 ∧ k ≠ 15))) ∨ (110 ≤ x ∧ x ≤ 145) ∨ (x = 146 ∧ (k = 35 ∨ k = 36)) ∨ (161 ≤ x ∧ x ≤ 162) ∨ (166 ≤ x ∧ x ≤ 169)
theorem AtI.congr {I I' : IntM} {a n : Nat} {f : Nat → Nat} (h : ∀ k, I' a k = I a k) (hA : AtI I a n f) : AtI I' a n f := fun k hk => (h k).trans (hA k hk)
theorem CoI.congr {I I' : IntM} {n : Nat} {kd nd od : Nat → Nat} {lw pot : Nat} (hI : ∀ x k, (8 ≤ x ∧ x ≤ 14) ∨ (x = 146 ∧ 17 ≤ k ∧ k ≤ 19) ∨ (154 ≤ x ∧ x ≤ 156) → I' x k = I x k) (h : CoI I n kd nd od lw pot) : CoI I' n kd nd od lw pot := by
  obtain ⟨h1, h2, h3, ⟨c1, c2, c3, c4, c5, c6, c7⟩, h5, h6, ⟨m1, m2, m3⟩, h8, h9, h10⟩ := h
  refine ⟨h1, h2, h3, ⟨?_, ?_, ?_, ?_, ?_, ?_, ?_⟩, ?_, ?_, ⟨?_, ?_, ?_⟩, ?_, ?_, ?_⟩
  · rw [hI _ _ (by omega)]; exact c1
  · exact AtI.congr (fun k => hI _ _ (by omega)) c2
  · exact AtI.congr (fun k => hI _ _ (by omega)) c3
  · exact AtI.congr (fun k => hI _ _ (by omega)) c4
  · rw [hI _ _ (by omega)]; exact c5
  · rw [hI _ _ (by omega)]; exact c6
  · rw [hI _ _ (by omega)]; exact c7
  · rw [hI _ _ (by omega)]; exact h5
  · rw [hI _ _ (by omega)]; exact h6
  · rw [hI _ _ (by omega)]; exact m1
  · exact AtI.congr (fun k => hI _ _ (by omega)) m2
  · exact AtI.congr (fun k => hI _ _ (by omega)) m3
  · exact AtI.congr (fun k => hI _ _ (by omega)) h8
  · rw [hI _ _ (by omega)]; exact h9
  · rw [hI _ _ (by omega)]; exact h10
theorem EvC.congr {I I' : IntM} {J J' : LngM} {x n how e : Nat} {ln : Nat → Nat} {gr : Nat} {te : Nat → Nat} (h1 : ∀ k, k = 3 ∨ k = 4 ∨ k = 6 → I' x k = I x k) (h2 : ∀ k, I' (x + 2) k = I (x + 2) k) (h3 : J' x 5 = J x 5) (h4 : ∀ k, J' (x + 4) k = J (x + 4) k) (h : EvC I J x n how e ln gr te) : EvC I' J' x n how e ln gr te := by
  obtain ⟨a1, a2, a3, a4, a5, a6⟩ := h
  exact ⟨by rw [h1 _ (by omega)]; exact a1, by rw [h1 _ (by omega)]; exact a2, by rw [h3]; exact a3, by rw [h1 _ (by omega)]; exact a4, AtI.congr h2 a5, fun i hi => by rw [h4]; exact a6 i hi⟩
theorem EvM.congr {I I' : IntM} {J J' : LngM} {n how e : Nat} {ln : Nat → Nat} {gr : Nat} {te : Nat → Nat} (hI : ∀ x k, (x = 146 ∧ (k = 30 ∨ k = 32)) ∨ x = 160 → I' x k = I x k) (hJ : ∀ x k, (x = 146 ∧ (k = 35 ∨ k = 36)) ∨ (161 ≤ x ∧ x ≤ 162) → J' x k = J x k) (h : EvM I J n how e ln gr te) : EvM I' J' n how e ln gr te := by
  obtain ⟨a1, a2, a3, a4, a5⟩ := h
  exact ⟨by rw [hI _ _ (by omega)]; exact a1, by rw [hI _ _ (by omega)]; exact a2, by rw [hJ _ _ (by omega), hJ _ _ (by omega)]; exact a3, AtI.congr (fun k => hI _ _ (by omega)) a4, fun i hi => by rw [hJ _ _ (by omega), hJ _ _ (by omega)]; exact a5 i hi⟩
theorem EvI.congr {I I' : IntM} {J J' : LngM} {n : Nat} (hI : ∀ x k, (15 ≤ x ∧ x ≤ 17) ∨ (x = 146 ∧ (k = 30 ∨ k = 32)) ∨ x = 160 → I' x k = I x k) (hJ : ∀ x k, (15 ≤ x ∧ x ≤ 19) ∨ (x = 146 ∧ (k = 35 ∨ k = 36)) ∨ (161 ≤ x ∧ x ≤ 162) → J' x k = J x k) (h : EvI I J n) : EvI I' J' n := by
  obtain ⟨how, e, ln, gr, te, h1, h2, h3⟩ := h
  exact ⟨how, e, ln, gr, te, h1, EvC.congr (fun k _ => hI _ _ (by omega)) (fun k => hI _ _ (by omega)) (hJ _ _ (by omega)) (fun k => hJ _ _ (by omega)) h2, EvM.congr (fun x k h => hI _ _ (by omega)) (fun x k h => hJ _ _ (by omega)) h3⟩
theorem KeM.congr {I I' : IntM} {J J' : LngM} {c n how e : Nat} {ln : Nat → Nat} {gr : Nat} {te : Nat → Nat} (hc : c < 3) (hl : ∀ i, i < n → ln i < n) (hn : n ≤ 7) (he : e ≤ n) (h1 : I' 163 c = I 163 c) (h2 : I' 164 c = I 164 c) (h3 : ∀ p, p < 7 → I' 165 (7 * c + p) = I 165 (7 * c + p)) (h4 : J' 168 c = J 168 c) (h5 : J' 169 c = J 169 c) (h6 : ∀ p, p < 7 → J' 166 (7 * c + p) = J 166 (7 * c + p)) (h7 : ∀ p, p < 7 → J' 167 (7 * c + p) = J 167 (7 * c + p)) (h : KeM I J c n how e ln gr te) : KeM I' J' c n how e ln gr te := by
  obtain ⟨a1, a2, a3, a4, a5⟩ := h
  exact ⟨h1.trans a1, h2.trans a2, by rw [h4, h5]; exact a3, fun p hp => (h3 p (by omega)).trans (a4 p hp), fun i hi => by have := hl i (by omega); rw [h6 _ (by omega), h7 _ (by omega)]; exact a5 i hi⟩
theorem KeI.congr {I I' : IntM} {J J' : LngM} {n c : Nat} (hn : n ≤ 7) (hc : c < 3) (hI : ∀ x k, (131 ≤ x ∧ x ≤ 145) ∨ (163 ≤ x ∧ x ≤ 165) → I' x k = I x k) (hJ : ∀ x k, (131 ≤ x ∧ x ≤ 145) ∨ (166 ≤ x ∧ x ≤ 169) → J' x k = J x k) (h : KeI I J n c) : KeI I' J' n c := by
  obtain ⟨h1, h2⟩ := h
  refine ⟨by rw [hI _ _ (by omega)]; exact h1, ?_⟩
  rcases h2 with ⟨h3, h4⟩ | ⟨h3, h4, how, e, ln, gr, te, g1, g2, g3⟩
  · exact Or.inl ⟨by rw [hI _ _ (by omega)]; exact h3, by rw [hI _ _ (by omega)]; exact h4⟩
  · exact Or.inr ⟨by rw [hI _ _ (by omega)]; exact h3, h4, how, e, ln, gr, te, g1, EvC.congr (fun k _ => hI _ _ (by omega)) (fun k => hI _ _ (by omega)) (hJ _ _ (by omega)) (fun k => hJ _ _ (by omega)) g2, KeM.congr hc g1.2.2.1.1 hn g1.2.1 (hI _ _ (by omega)) (hI _ _ (by omega)) (fun p _ => hI _ _ (by omega)) (hJ _ _ (by omega)) (hJ _ _ (by omega)) (fun p _ => hJ _ _ (by omega)) (fun p _ => hJ _ _ (by omega)) g3⟩
theorem RoI.congr {I I' : IntM} {a b c N : Nat} (hI : ∀ x k, (a ≤ x ∧ x < a + 2 * N) ∨ x = b ∨ x = c → I' x k = I x k) (h : RoI I a b c N) : RoI I' a b c N := by
  intro r hr
  obtain ⟨h1, h2⟩ := h r hr
  refine ⟨by rw [hI _ _ (by omega), hI _ _ (by omega)]; exact h1, ?_⟩
  rcases h2 with h2 | ⟨s, g1, g2, g3⟩
  · exact Or.inl (by rw [hI _ _ (by omega)]; exact h2)
  · exact Or.inr ⟨s, g1, by rw [hI _ _ (by omega)]; exact g2, fun i hi => by rw [hI _ _ (by omega), hI _ _ (by omega)]; exact g3 i hi⟩
theorem FiI.congr {I I' : IntM} (hI : ∀ x k, (x = 0 ∧ k = 12) ∨ (x = 146 ∧ k = 0) ∨ x = 110 ∨ x = 147 → I' x k = I x k) (h : FiI I) : FiI I' := ⟨by rw [hI _ _ (by omega), hI _ _ (by omega)]; exact h.1, fun f hf => by rw [hI _ _ (by omega), hI _ _ (by omega)]; exact h.2 f hf⟩
theorem InvP.congr {I I' : IntM} {J J' : LngM} {n : Nat} {kd nd od : Nat → Nat} {lw pot : Nat} (hI : ∀ x k, pI x k → I' x k = I x k) (hJ : ∀ x k, pJ x k → J' x k = J x k) (h : InvP I J n kd nd od lw pot) : InvP I' J' n kd nd od lw pot := by
  obtain ⟨h1, h2, h3, h4, h5, h6, h7, h8, h9⟩ := h
  exact ⟨CoI.congr (fun x k q => hI x k (by unfold pI; omega)) h1, EvI.congr (fun x k q => hI x k (by unfold pI; omega)) (fun x k q => hJ x k (by unfold pJ; omega)) h2,
    fun c hc => KeI.congr h1.1.1 hc (fun x k q => hI x k (by unfold pI; omega)) (fun x k q => hJ x k (by unfold pJ; omega)) (h3 c hc),
    RoI.congr (fun x k q => hI x k (by unfold pI; omega)) h4, RoI.congr (fun x k q => hI x k (by unfold pI; omega)) h5, FiI.congr (fun x k q => hI x k (by unfold pI; omega)) h6,
    by rw [hI _ _ (by unfold pI; omega)]; exact h7, by rw [hI _ _ (by unfold pI; omega)]; exact h8, by rw [hI _ _ (by unfold pI; omega)]; exact h9⟩
/-! what a call that keeps the state does: scratch cells, what is told, a finding -/
def FrC (I : IntM) (J : LngM) (I' : IntM) (J' : LngM) : Prop := (∀ x k, ¬ (x = 3 ∨ x = 5 ∨ x = 7 ∨ (21 ≤ x ∧ x ≤ 109)) → I' x k = I x k) ∧ ∀ x k, ¬ (21 ≤ x ∧ x ≤ 109) → J' x k = J x k
def FrM (I : IntM) (J : LngM) (I' : IntM) (J' : LngM) : Prop := (∀ x k, pI x k ∨ x ≤ 145 ∨ (x = 146 ∧ k = 2) → I' x k = I x k) ∧ ∀ x k, pJ x k ∨ x ≤ 145 ∨ (x = 146 ∧ (k = 3 ∨ k = 4)) → J' x k = J x k
theorem FrC.rf {I : IntM} {J : LngM} : FrC I J I J := ⟨fun _ _ _ => rfl, fun _ _ _ => rfl⟩
theorem FrM.rf {I : IntM} {J : LngM} : FrM I J I J := ⟨fun _ _ _ => rfl, fun _ _ _ => rfl⟩
theorem FrC.tr {I I1 I2 : IntM} {J J1 J2 : LngM} (h1 : FrC I J I1 J1) (h2 : FrC I1 J1 I2 J2) : FrC I J I2 J2 := ⟨fun x k h => (h2.1 x k h).trans (h1.1 x k h), fun x k h => (h2.2 x k h).trans (h1.2 x k h)⟩
theorem FrM.tr {I I1 I2 : IntM} {J J1 J2 : LngM} (h1 : FrM I J I1 J1) (h2 : FrM I1 J1 I2 J2) : FrM I J I2 J2 := ⟨fun x k h => (h2.1 x k h).trans (h1.1 x k h), fun x k h => (h2.2 x k h).trans (h1.2 x k h)⟩
def tlI (x k : Nat) (to : Option Int32) (I : IntM) : IntM := match to with
  | none => I
  | some t => uI I x k t
def tlJ (x k1 k2 : Nat) (fr : Option (Int × Nat)) (J : LngM) : LngM := match fr with
  | none => J
  | some q => uJ (uJ J x k1 (lZ (roN q.1 q.2))) x k2 (lN (rdN q.1 q.2))
def fnI (x k y : Nat) (fo : Option Nat) (I : IntM) : IntM := match fo with
  | none => I
  | some f => uI (uI I x k (nI f)) y f (I y f + 1)
def QC (I : IntM) (J : LngM) (v : Value) (to : Option Int32) (fr : Option (Int × Nat)) (fo : Option Nat) (r : Option Value) (I' : IntM) (J' : LngM) : Prop := r = some v ∧ ∃ I2 J2, FrC I J I2 J2 ∧ ISz I2 ∧ I' = fnI 0 12 110 fo (tlI 0 13 to I2) ∧ J' = tlJ 0 14 15 fr J2
def QM (I : IntM) (J : LngM) (v : Value) (to : Option Int32) (fr : Option (Int × Nat)) (fo : Option Nat) (r : Option Value) (I' : IntM) (J' : LngM) : Prop := r = some v ∧ ∃ I2 J2, FrM I J I2 J2 ∧ I' = fnI 146 0 147 fo (tlI 146 2 to I2) ∧ J' = tlJ 146 3 4 fr J2
theorem fnI_ne {x k y a b : Nat} {fo : Option Nat} {I : IntM} (h1 : ¬ (a = x ∧ b = k)) (h2 : a ≠ y) : fnI x k y fo I a b = I a b := by
  cases fo with
  | none => rfl
  | some f =>
    show uI (uI I x k (nI f)) y f (I y f + 1) a b = I a b
    rw [uI_ne _ _ (fun q => h2 (by cases q; rfl)), uI_ne _ _ (fun q => h1 (by cases q; exact ⟨rfl, rfl⟩))]
theorem tlI_ne {x k a b : Nat} {to : Option Int32} {I : IntM} (h1 : ¬ (a = x ∧ b = k)) : tlI x k to I a b = I a b := by
  cases to with
  | none => rfl
  | some t => exact uI_ne _ _ (fun q => h1 (by cases q; exact ⟨rfl, rfl⟩))
theorem tlJ_ne {x k1 k2 a b : Nat} {fr : Option (Int × Nat)} {J : LngM} (h1 : ¬ (a = x ∧ b = k1)) (h2 : ¬ (a = x ∧ b = k2)) : tlJ x k1 k2 fr J a b = J a b := by
  cases fr with
  | none => rfl
  | some t =>
    show uJ (uJ J x k1 _) x k2 _ a b = J a b
    rw [uJ_ne _ _ (fun q => h2 (by cases q; exact ⟨rfl, rfl⟩)), uJ_ne _ _ (fun q => h1 (by cases q; exact ⟨rfl, rfl⟩))]
theorem SzS.congr {I I' : IntM} {a : Nat} (hI : ∀ x k, a ≤ x ∧ x ≤ a + 12 → I' x k = I x k) (h : SzS I a) : SzS I' a := by
  obtain ⟨a1, a2, a3, a4, a5⟩ := h
  exact ⟨by rw [hI _ _ (by omega)]; exact a1, by rw [hI _ _ (by omega)]; exact a2, by rw [hI _ _ (by omega)]; exact a3, by rw [hI _ _ (by omega)]; exact a4, by rw [hI _ _ (by omega)]; exact a5⟩
theorem ISz.congr {I I' : IntM} (hI : ∀ x k, 21 ≤ x ∧ x ≤ 109 → I' x k = I x k) (h : ISz I) : ISz I' := by
  obtain ⟨a1, a2, a3, a4, a5, a6, a7, a8, a9, a10⟩ := h
  exact ⟨SzS.congr (fun x k q => hI x k (by omega)) a1, SzS.congr (fun x k q => hI x k (by omega)) a2, SzS.congr (fun x k q => hI x k (by omega)) a3, SzS.congr (fun x k q => hI x k (by omega)) a4, SzS.congr (fun x k q => hI x k (by omega)) a5, SzS.congr (fun x k q => hI x k (by omega)) a6, by rw [hI _ _ (by omega)]; exact a7, by rw [hI _ _ (by omega)]; exact a8, by rw [hI _ _ (by omega)]; exact a9, by rw [hI _ _ (by omega)]; exact a10⟩
/-- the reference meets a memory that the class has changed in scratch cells, in what is told and found alone: it still holds its part -/
theorem QC.mid {I I' : IntM} {J J' : LngM} {v : Value} {to : Option Int32} {fr : Option (Int × Nat)} {fo : Option Nat} {r : Option Value} (hf : ∀ f, fo = some f → f < 6) (h : QC I J v to fr fo r I' J') : (∀ x k, 146 ≤ x → I' x k = I x k) ∧ ∀ x k, 146 ≤ x → J' x k = J x k := by
  obtain ⟨-, I2, J2, h1, h2, rfl, rfl⟩ := h
  exact ⟨fun x k hx => by rw [fnI_ne (by omega) (by omega), tlI_ne (by omega)]; exact h1.1 x k (by omega), fun x k hx => by rw [tlJ_ne (by omega) (by omega)]; exact h1.2 x k (by omega)⟩
theorem Inv.query {I I1 I2 : IntM} {J J1 J2 : LngM} {v : Value} {to : Option Int32} {fr : Option (Int × Nat)} {fo : Option Nat} {r r' : Option Value} (hf : ∀ f, fo = some f → f < 6) (h : Inv I J) (hC : QC I J v to fr fo r I1 J1) (hM : QM I1 J1 v to fr fo r' I2 J2) : Inv I2 J2 := by
  obtain ⟨⟨n, kd, nd, od, lw, pot, hP⟩, hT, hZ⟩ := h
  obtain ⟨-, Ic, Jc, c1, c2, rfl, rfl⟩ := hC
  obtain ⟨-, Im, Jm, m1, rfl, rfl⟩ := hM
  -- cells of InvP but those of the findings
  have kI : ∀ x k, pI x k → ¬ (x = 0 ∧ k = 12) → x ≠ 110 → ¬ (x = 146 ∧ k = 0) → x ≠ 147 → fnI 146 0 147 fo (tlI 146 2 to Im) x k = I x k := by
    intro x k hp g1 g2 g3 g4
    rw [fnI_ne g3 g4, tlI_ne (by unfold pI at hp; omega), m1.1 x k (Or.inl hp), fnI_ne g1 g2, tlI_ne (by unfold pI at hp; omega)]
    exact c1.1 x k (by unfold pI at hp; omega)
  have kJ : ∀ x k, pJ x k → tlJ 146 3 4 fr Jm x k = J x k := by
    intro x k hp
    rw [tlJ_ne (by unfold pJ at hp; omega) (by unfold pJ at hp; omega), m1.2 x k (Or.inl hp), tlJ_ne (by unfold pJ at hp; omega) (by unfold pJ at hp; omega)]
    exact c1.2 x k (by unfold pJ at hp; omega)
  have i0 : ∀ x k, x ≤ 145 → fnI 146 0 147 fo (tlI 146 2 to Im) x k = fnI 0 12 110 fo (tlI 0 13 to Ic) x k := fun x k hx => by
    rw [fnI_ne (by omega) (by omega), tlI_ne (by omega), m1.1 x k (Or.inr (Or.inl hx))]
  refine ⟨⟨n, kd, nd, od, lw, pot, ?_⟩, ⟨?_, ?_, ?_⟩, ?_⟩
  · obtain ⟨h1, h2, h3, h4, h5, h6, h7, h8, h9⟩ := hP
    refine ⟨CoI.congr (fun x k q => kI x k (by unfold pI; omega) (by omega) (by omega) (by omega) (by omega)) h1, EvI.congr (fun x k q => kI x k (by unfold pI; omega) (by omega) (by omega) (by omega) (by omega)) (fun x k q => kJ x k (by unfold pJ; omega)) h2,
      fun c hc => KeI.congr h1.1.1 hc (fun x k q => kI x k (by unfold pI; omega) (by omega) (by omega) (by omega) (by omega)) (fun x k q => kJ x k (by unfold pJ; omega)) (h3 c hc),
      RoI.congr (fun x k q => kI x k (by unfold pI; omega) (by omega) (by omega) (by omega) (by omega)) h4, RoI.congr (fun x k q => kI x k (by unfold pI; omega) (by omega) (by omega) (by omega) (by omega)) h5, ?_,
      by rw [kI _ _ (by unfold pI; omega) (by omega) (by omega) (by omega) (by omega)]; exact h7, by rw [kI _ _ (by unfold pI; omega) (by omega) (by omega) (by omega) (by omega)]; exact h8, by rw [kI _ _ (by unfold pI; omega) (by omega) (by omega) (by omega) (by omega)]; exact h9⟩
    cases fo with
    | none =>
      have e : ∀ x k, (x = 0 ∧ k = 12) ∨ (x = 146 ∧ k = 0) ∨ x = 110 ∨ x = 147 → fnI 146 0 147 none (tlI 146 2 to Im) x k = I x k := by
        intro x k q
        show tlI 146 2 to Im x k = I x k
        rw [tlI_ne (by omega), m1.1 x k (Or.inl (by unfold pI; omega))]
        show tlI 0 13 to Ic x k = I x k
        rw [tlI_ne (by omega)]
        exact c1.1 x k (by omega)
      exact FiI.congr e h6
    | some f =>
      have hf6 := hf f rfl
      have b0 : ∀ k, Im 147 k = I 147 k := fun k => by
        rw [m1.1 147 k (Or.inl (by unfold pI; omega)), fnI_ne (by omega) (by omega), tlI_ne (by omega)]
        exact c1.1 147 k (by omega)
      have b1 : ∀ k, tlI 0 13 to Ic 110 k = I 110 k := fun k => by
        rw [tlI_ne (by omega)]
        exact c1.1 110 k (by omega)
      refine ⟨?_, fun g hg => ?_⟩
      · rw [i0 0 12 (by omega)]
        show uI (uI (tlI 0 13 to Ic) 0 12 (nI f)) 110 f _ 0 12 = uI (uI (tlI 146 2 to Im) 146 0 (nI f)) 147 f _ 146 0
        rw [uI_ne _ _ (by simp), uI_eq, uI_ne _ _ (by simp), uI_eq]
      · rw [i0 110 g (by omega)]
        show uI (uI (tlI 0 13 to Ic) 0 12 (nI f)) 110 f (tlI 0 13 to Ic 110 f + 1) 110 g = uI (uI (tlI 146 2 to Im) 146 0 (nI f)) 147 f (tlI 146 2 to Im 147 f + 1) 147 g
        by_cases hgf : g = f
        · subst hgf
          rw [uI_eq, uI_eq, b1, tlI_ne (by omega), b0, h6.2 g hg]
        · rw [uI_ne _ _ (fun q => hgf (by cases q; rfl)), uI_ne _ _ (fun q => by cases q), uI_ne _ _ (fun q => hgf (by cases q; rfl)), uI_ne _ _ (fun q => by cases q), b1, tlI_ne (by omega), b0, h6.2 g hg]
  · rw [i0 0 13 (by omega), fnI_ne (by omega) (by omega), fnI_ne (by omega) (by omega)]
    cases to with
    | none =>
      show Ic 0 13 = Im 146 2
      rw [c1.1 0 13 (by omega), m1.1 146 2 (Or.inr (Or.inr ⟨rfl, rfl⟩)), fnI_ne (by omega) (by omega)]
      show I 0 13 = Ic 146 2
      rw [c1.1 146 2 (by omega)]
      exact hT.1
    | some t =>
      show uI Ic 0 13 t 0 13 = uI Im 146 2 t 146 2
      rw [uI_eq, uI_eq]
  · rw [tlJ_ne (by omega) (by omega), m1.2 0 14 (Or.inr (Or.inl (by omega)))]
    cases fr with
    | none =>
      show Jc 0 14 = Jm 146 3
      rw [c1.2 0 14 (by omega), m1.2 146 3 (Or.inr (Or.inr ⟨rfl, Or.inl rfl⟩))]
      show J 0 14 = Jc 146 3
      rw [c1.2 146 3 (by omega)]
      exact hT.2.1
    | some q =>
      show uJ (uJ Jc 0 14 _) 0 15 _ 0 14 = uJ (uJ Jm 146 3 _) 146 4 _ 146 3
      rw [uJ_ne _ _ (by simp), uJ_eq, uJ_ne _ _ (by simp), uJ_eq]
  · rw [tlJ_ne (by omega) (by omega), m1.2 0 15 (Or.inr (Or.inl (by omega)))]
    cases fr with
    | none =>
      show Jc 0 15 = Jm 146 4
      rw [c1.2 0 15 (by omega), m1.2 146 4 (Or.inr (Or.inr ⟨rfl, Or.inr rfl⟩))]
      show J 0 15 = Jc 146 4
      rw [c1.2 146 4 (by omega)]
      exact hT.2.2
    | some q =>
      show uJ (uJ Jc 0 14 _) 0 15 _ 0 15 = uJ (uJ Jm 146 3 _) 146 4 _ 146 4
      rw [uJ_eq, uJ_eq]
  · exact ISz.congr (fun x k hx => by rw [i0 x k (by omega), fnI_ne (by omega) (by omega), tlI_ne (by omega)]) c2
