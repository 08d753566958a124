
/-! ===== best: the least pot of all orders ===== -/
theorem leP_iff {kd nd : Nat → Nat} {l how : Nat} {ov : Nat → Nat} {n ev p : Nat} (hn : n ≤ 7) (h1 : 1 ≤ p) (hp : p ≤ 999) : fdP kd nd l how ov n ev p ↔ 1 ≤ leP kd nd how ov n ev l ∧ leP kd nd how ov n ev l ≤ p := by
  have hs := lsB_spec (f := fdB kd nd l how ov n ev) 999 1
  change (leP kd nd how ov n ev l = 0 ∧ _) ∨ (1 ≤ leP kd nd how ov n ev l ∧ leP kd nd how ov n ev l < 1 + 999 ∧ fdB kd nd l how ov n ev (leP kd nd how ov n ev l) = true ∧ ∀ q, 1 ≤ q → q < leP kd nd how ov n ev l → _) at hs
  generalize leP kd nd how ov n ev l = x at hs
  constructor
  · intro h
    rcases hs with ⟨a, b⟩ | ⟨a, b, c, d⟩
    · have := b p h1 (by omega)
      rw [fdB_iff.mpr h] at this
      cases this
    · refine ⟨a, ?_⟩
      rcases Nat.lt_or_ge p x with z | z
      · have := d p h1 z
        rw [fdB_iff.mpr h] at this
        cases this
      · exact z
  · rintro ⟨a, b⟩
    rcases hs with ⟨z, -⟩ | ⟨-, -, c, -⟩
    · omega
    · exact fdP_mono hn b (fdB_iff.mp c)
def bst (L : (Nat → Nat) → Nat) : Nat × (Nat → Nat) → (Nat → Nat) → Nat × (Nat → Nat) := fun s f => if 1 ≤ L f ∧ L f < s.1 then (L f, f) else s
theorem bst_t {L : (Nat → Nat) → Nat} {s : Nat × (Nat → Nat)} {f : Nat → Nat} (h : 1 ≤ L f ∧ L f < s.1) : bst L s f = (L f, f) := if_pos h
theorem bst_f {L : (Nat → Nat) → Nat} {s : Nat × (Nat → Nat)} {f : Nat → Nat} (h : ¬ (1 ≤ L f ∧ L f < s.1)) : bst L s f = s := if_neg h
theorem bst_le (L : (Nat → Nat) → Nat) (s : Nat × (Nat → Nat)) (f : Nat → Nat) : (bst L s f).1 ≤ s.1 := by
  by_cases h : 1 ≤ L f ∧ L f < s.1
  · rw [bst_t h]; exact Nat.le_of_lt h.2
  · rw [bst_f h]; exact Nat.le_refl _
/-- what the fold over the chain leaves: no more than before, and if as much, the same order -/
theorem bsD {n : Nat} {L : (Nat → Nat) → Nat} : ∀ k s f, (foC n (bst L) k s f).1 ≤ s.1 ∧ ((foC n (bst L) k s f).1 = s.1 → (foC n (bst L) k s f).2 = s.2)
  | 0, s, f => ⟨Nat.le_refl _, fun _ => rfl⟩
  | k + 1, s, f => by
    have key : ∀ T : Nat × (Nat → Nat), T.1 ≤ (bst L s f).1 → (T.1 = (bst L s f).1 → T.2 = (bst L s f).2) → T.1 ≤ s.1 ∧ (T.1 = s.1 → T.2 = s.2) := by
      intro T h1 h2
      by_cases h : 1 ≤ L f ∧ L f < s.1
      · rw [bst_t h] at h1 h2
        dsimp only at h1 h2
        exact ⟨by omega, fun z => by omega⟩
      · rw [bst_f h] at h1 h2
        exact ⟨h1, h2⟩
    rcases nx_or n f with hx | ⟨z, hx⟩
    · rw [foC_n hx]
      exact key _ (Nat.le_refl _) (fun _ => rfl)
    · rw [foC_s hx]
      have ih := bsD (n := n) (L := L) k (bst L s f) z.2
      exact key _ ih.1 ih.2
theorem bs1 {n : Nat} {L : (Nat → Nat) → Nat} {k : Nat} {s : Nat × (Nat → Nat)} {f : Nat → Nat} (h : s.1 ≤ 1) (hp : ∀ k s f, 1 ≤ s.1 → 1 ≤ (foC n (bst L) k s f).1) (h1 : 1 ≤ s.1) : foC n (bst L) k s f = s := by
  have a := bsD (n := n) (L := L) k s f
  have b := hp k s f h1
  exact Prod.ext (by omega) (a.2 (by omega))
theorem bs_pos {n : Nat} {L : (Nat → Nat) → Nat} : ∀ k s f, 1 ≤ s.1 → 1 ≤ (foC n (bst L) k s f).1
  | 0, s, f, h => h
  | k + 1, s, f, h => by
    have h1 : 1 ≤ (bst L s f).1 := by
      by_cases h2 : 1 ≤ L f ∧ L f < s.1
      · rw [bst_t h2]; exact h2.1
      · rw [bst_f h2]; exact h
    rcases nx_or n f with hx | ⟨z, hx⟩
    · rw [foC_n hx]; exact h1
    · rw [foC_s hx]; exact bs_pos k _ _ h1
/-- the first order of the chain by which it is enough -/
def fsC (n : Nat) (P : (Nat → Nat) → Bool) : Nat → (Nat → Nat) → Option (Nat → Nat) := fun k => match k with
  | 0 => fun _ => none
  | k + 1 => fun f => if P f = true then some f else match nx n f with
    | none => none
    | some q => fsC n P k q.2
theorem fsC_t {n : Nat} {P : (Nat → Nat) → Bool} {k : Nat} {f : Nat → Nat} (h : P f = true) : fsC n P (k + 1) f = some f := if_pos h
theorem fsC_n {n : Nat} {P : (Nat → Nat) → Bool} {k : Nat} {f : Nat → Nat} (h : ¬ P f = true) (hx : nx n f = none) : fsC n P (k + 1) f = none := by
  unfold fsC
  rw [if_neg h, hx]
theorem fsC_s {n : Nat} {P : (Nat → Nat) → Bool} {k : Nat} {f : Nat → Nat} {q : Nat × (Nat → Nat)} (h : ¬ P f = true) (hx : nx n f = some q) : fsC n P (k + 1) f = fsC n P k q.2 := by
  show (if P f = true then some f else match nx n f with
    | none => none
    | some q => fsC n P k q.2) = _
  rw [if_neg h, hx]
theorem fzA {n : Nat} {L : (Nat → Nat) → Nat} {P : (Nat → Nat) → Bool} {p : Nat} (hP : ∀ f, P f = true ↔ 1 ≤ L f ∧ L f ≤ p) : ∀ k s f, p < (foC n (bst L) k s f).1 → fsC n P k f = none
  | 0, s, f, h => rfl
  | k + 1, s, f, h => by
    have hb : (foC n (bst L) (k + 1) s f).1 ≤ (bst L s f).1 := by
      rcases nx_or n f with hx | ⟨z, hx⟩
      · rw [foC_n hx]; exact Nat.le_refl _
      · rw [foC_s hx]; exact (bsD k _ _).1
    have hf : ¬ P f = true := fun z => by
      have h1 := (hP f).mp z
      by_cases h2 : 1 ≤ L f ∧ L f < s.1
      · rw [bst_t h2] at hb
        dsimp only at hb
        omega
      · rw [bst_f h2] at hb
        omega
    rcases nx_or n f with hx | ⟨z, hx⟩
    · exact fsC_n hf hx
    · rw [fsC_s hf hx]
      rw [foC_s hx] at h
      exact fzA hP k _ _ h
theorem fzB {n : Nat} {L : (Nat → Nat) → Nat} {P : (Nat → Nat) → Bool} {p : Nat} (hP : ∀ f, P f = true ↔ 1 ≤ L f ∧ L f ≤ p) : ∀ k s f, (foC n (bst L) k s f).1 ≤ p → (foC n (bst L) k s f).1 < s.1 → ¬ fsC n P k f = none
  | 0, s, f, _, h => by
    have h : s.1 < s.1 := h
    omega
  | k + 1, s, f, hp, h => by
    by_cases hf : P f = true
    · rw [fsC_t hf]
      exact fun z => by cases z
    · have h1 : ¬ (1 ≤ L f ∧ L f ≤ p) := fun z => hf ((hP f).mpr z)
      rcases nx_or n f with hx | ⟨z, hx⟩
      · rw [foC_n hx] at hp h
        by_cases h2 : 1 ≤ L f ∧ L f < s.1
        · rw [bst_t h2] at hp
          dsimp only at hp
          omega
        · rw [bst_f h2] at h
          omega
      · rw [fsC_s hf hx]
        rw [foC_s hx] at hp h
        refine fzB hP k (bst L s f) z.2 hp ?_
        by_cases h2 : 1 ≤ L f ∧ L f < s.1
        · rw [bst_t h2] at hp ⊢
          dsimp only at hp ⊢
          omega
        · rw [bst_f h2] at h ⊢
          exact h
theorem fzG {n : Nat} {L : (Nat → Nat) → Nat} {P : (Nat → Nat) → Bool} {p : Nat} (hP : ∀ f, P f = true ↔ 1 ≤ L f ∧ L f ≤ p) : ∀ k s f, (foC n (bst L) k s f).1 = p → (foC n (bst L) k s f).1 < s.1 → fsC n P k f = some (foC n (bst L) k s f).2
  | 0, s, f, _, h => by
    have h : s.1 < s.1 := h
    omega
  | k + 1, s, f, hp, h => by
    have hb : (foC n (bst L) (k + 1) s f).1 ≤ (bst L s f).1 ∧ ((foC n (bst L) (k + 1) s f).1 = (bst L s f).1 → (foC n (bst L) (k + 1) s f).2 = (bst L s f).2) := by
      rcases nx_or n f with hx | ⟨z, hx⟩
      · rw [foC_n hx]; exact ⟨Nat.le_refl _, fun _ => rfl⟩
      · rw [foC_s hx]; exact bsD k _ _
    by_cases hf : P f = true
    · have h1 := (hP f).mp hf
      have h2 : 1 ≤ L f ∧ L f < s.1 := by omega
      rw [bst_t h2] at hb
      dsimp only at hb
      rw [fsC_t hf, hb.2 (by omega)]
    · have h1 : ¬ (1 ≤ L f ∧ L f ≤ p) := fun z => hf ((hP f).mpr z)
      rcases nx_or n f with hx | ⟨z, hx⟩
      · rw [foC_n hx] at hp h
        by_cases h2 : 1 ≤ L f ∧ L f < s.1
        · rw [bst_t h2] at hp
          dsimp only at hp
          omega
        · rw [bst_f h2] at h
          omega
      · rw [fsC_s hf hx]
        rw [foC_s hx] at hp h ⊢
        refine fzG hP k (bst L s f) z.2 hp ?_
        by_cases h2 : 1 ≤ L f ∧ L f < s.1
        · rw [bst_t h2] at hp ⊢
          dsimp only at hp ⊢
          omega
        · rw [bst_f h2] at h ⊢
          exact h
def loL (kd nd : Nat → Nat) (lw how n : Nat) : (Nat → Nat) → Nat := fun f => leP kd nd how f n 1 lw
def beT (kd nd : Nat → Nat) (lw how n : Nat) : Nat × (Nat → Nat) := foC n (bst (loL kd nd lw how n)) 5040 (1000, fun i => i) (fun i => i)
theorem beT_b (kd nd : Nat → Nat) (lw how n : Nat) : 1 ≤ (beT kd nd lw how n).1 ∧ (beT kd nd lw how n).1 ≤ 1000 := ⟨bs_pos 5040 (1000, fun i => i) _ (by decide), (bsD 5040 (1000, fun i => i) _).1⟩
theorem SvL.far {I I' : IntM} {J J' : LngM} {a b n : Nat} {kd nd : Nat → Nat} {lw how P : Nat} {ln : Nat → Nat} {p : Nat} (hab : a + 13 ≤ b ∨ b + 13 ≤ a) (hF : FrS b I J I' J') (hL : SvL I J a n kd nd lw how P ln p) : SvL I' J' a n kd nd lw how P ln p :=
  ⟨⟨by rw [hF.1 _ _ (by omega)]; exact hL.1.1, AtI.congr (fun k => hF.1 _ _ (by omega)) hL.1.2.1, AtI.congr (fun k => hF.1 _ _ (by omega)) hL.1.2.2⟩, ⟨by rw [hF.1 _ _ (by omega)]; exact hL.2.1.1, by rw [hF.1 _ _ (by omega)]; exact hL.2.1.2.1, by rw [hF.2 _ _ (by omega)]; exact hL.2.1.2.2⟩, AtI.congr (fun k => hF.1 _ _ (by omega)) hL.2.2.1, fun i hi => by rw [hF.2 _ _ (by omega), hF.1 _ _ (by omega)]; exact hL.2.2.2 i hi⟩
theorem q_num0 (I : IntM) (J : LngM) {a : Nat} (hL : LSit a) (hZ : SzS I a) {n : Nat} {kd nd : Nat → Nat} (hn : n ≤ 7) (hQ : SQ I a n kd nd) : CtP 3 m_X7_seatByNumbers [.ref a] I J (fun r I1 J1 => r = none ∧ FrS a I J I1 J1 ∧ SQ I1 a n kd nd ∧ AtI I1 (a + 6) n (fun i => i)) := by
  refine CtP_mono (c_S_num I J hL hZ hn hQ.1) (fun r I1 J1 q => ?_)
  obtain ⟨rfl, rfl, rfl⟩ := q
  have g : ∀ x k, ¬ (x = a + 6) → putI I (a + 6) n nI x k = I x k := fun x k h => by
    unfold putI
    rw [if_neg (by omega)]
  refine ⟨rfl, ⟨fun x k h => g x k (by omega), fun _ _ _ => rfl⟩, ⟨by rw [g _ _ (by omega)]; exact hQ.1, AtI.congr (fun k => g _ _ (by omega)) hQ.2.1, AtI.congr (fun k => g _ _ (by omega)) hQ.2.2⟩, fun k hk => ?_⟩
  unfold putI
  rw [if_pos ⟨rfl, hk⟩]
/-- rules, with a line seated: an evening's picture at its beginning -/
theorem q_rulesL (I : IntM) (J : LngM) {a : Nat} (hL : LSit a) (hZ : SzS I a) {n : Nat} {kd nd : Nat → Nat} {how pot lw : Nat} {f : Nat → Nat} (hh : how ≤ 1) (hp : pot ≤ 999) (hQ : SQ I a n kd nd) (hA : AtI I (a + 6) n f) : CtP 2 m_X7_rules [.ref a, .int (nI lw), .int (nI how), .int (nI pot)] I J (fun r I1 J1 => r = none ∧ FrS a I J I1 J1 ∧ SvL I1 J1 a n kd nd lw how (pot * un how) f 0) := by
  refine CtP_mono (q_rules I J hL hZ (n := n) (kd := kd) (nd := nd) (lw := lw) hh hp hQ) (fun r I1 J1 q => ?_)
  obtain ⟨rfl, h2, h3, h4, h5⟩ := q
  refine ⟨rfl, h2, h3, h4, AtI.congr h5 hA, fun i hi => ?_⟩
  obtain rfl : i = 0 := by omega
  exact ⟨h4.2.2, (FrS.Z h2 hZ).2.2.2.2⟩
theorem q_next0 (I : IntM) (J : LngM) {a : Nat} (hL : LSit a) (hZ : SzS I a) {n : Nat} {kd nd : Nat → Nat} {lw how P : Nat} {ln : Nat → Nat} (h1 : 1 ≤ n) (hn : n ≤ 7) (hP : Pm n ln) (hS : SvL I J a n kd nd lw how P ln 0) : CtP 4 m_X7_seatNext [.ref a] I J (fun r I1 J1 => FrS a I J I1 J1 ∧ J1 = J ∧ match nx n ln with | none => r = some (.int (-1)) ∧ I1 = I | some q => r = some (.int (nI q.1)) ∧ q.1 < n ∧ Pm n q.2 ∧ SvL I1 J1 a n kd nd lw how P q.2 0) := by
  obtain ⟨hQ, hR, hA, hU⟩ := hS
  refine CtP_mono (c_S_next I J hL hZ h1 hn hQ.1 hA (fun i hi => Nat.lt_of_lt_of_le (hP.1 i hi) hn)) (fun r I1 J1 q => ?_)
  obtain ⟨rfl, q⟩ := q
  cases hx : nx n ln with
  | none =>
    rw [hx] at q
    obtain ⟨rfl, rfl⟩ := q
    exact ⟨FrS.rf, rfl, rfl, rfl⟩
  | some z =>
    rw [hx] at q
    obtain ⟨rfl, hA1, hF, hb⟩ := q
    have g : ∀ x k, ¬ (x = a + 6) → I1 x k = I x k := fun x k h => hF x k (by omega)
    refine ⟨⟨fun x k h => g x k (by omega), fun _ _ _ => rfl⟩, rfl, rfl, by omega, Pm_nx h1 hP hx, ⟨by rw [g _ _ (by omega)]; exact hQ.1, AtI.congr (fun k => g _ _ (by omega)) hQ.2.1, AtI.congr (fun k => g _ _ (by omega)) hQ.2.2⟩, ⟨by rw [g _ _ (by omega)]; exact hR.1, by rw [g _ _ (by omega)]; exact hR.2.1, hR.2.2⟩, hA1, fun i hi => ?_⟩
    have h9 := hU i hi
    obtain rfl : i = 0 := by omega
    rw [g _ _ (by omega)]
    exact h9

set_option maxRecDepth 100000 in
set_option maxHeartbeats 4000000 in
theorem lp_lo (I : IntM) (J : LngM) {n : Nat} {kd nd od : Nat → Nat} {lw pot : Nat} (hK : CK I n kd nd od lw pot) {how : Nat} (h1 : 1 ≤ n) (hh : how ≤ 1) {T : Nat × (Nat → Nat)} (Q : Option Value → IntM → LngM → Prop) (hq : ∀ I1 J1, FrC I J I1 J1 → CK I1 n kd nd od lw pot → (T.1 ≤ 999 → AtI I1 75 n T.2) → VP m_X5_leastOfOrders 6 169 [(3, .int (nI (T.1 - 1)))] [] I1 J1 Q) : ∀ k i f p s, i + k = 5040 → ends n k f → Pm n f → p ≤ n → 1 ≤ s.1 → s.1 ≤ 1000 → foC n (bst (loL kd nd lw how n)) k s f = T → ∀ I1 J1, FrC I J I1 J1 → CK I1 n kd nd od lw pot → SvL I1 J1 48 n kd nd lw how ((s.1 - 1) * un how) f p → (s.1 ≤ 999 → AtI I1 75 n s.2) → VP m_X5_leastOfOrders 6 38 [(0, .ref 47), (1, .ref 8), (2, .int (nI how)), (3, .int (nI (s.1 - 1))), (4, .int (nI p)), (5, .int (nI i))] [] I1 J1 Q := by
  intro k
  induction k with
  | zero => intro i f p s hik he; exact he.elim
  | succ k ih =>
    intro i f p s hik he hPf hpn hs1 hs2 hT I1 J1 c1 k1 s1 a1
    have fin : ∀ I4 J4 (fr : Int32), T = s → FrC I J I4 J4 → CK I4 n kd nd od lw pot → (s.1 ≤ 999 → AtI I4 75 n s.2) → VP m_X5_leastOfOrders 6 169 [(3, .int (nI (s.1 - 1)))] [] I4 J4 Q := by
      intro I4 J4 fr e c4 k4 a4
      have h9 := hq I4 J4 c4 k4
      rw [e] at h9
      exact h9 a4
    refine V_il i_X5_leastOfOrders_38 rfl ?_
    refine V_c i_X5_leastOfOrders_40 ?_
    refine V_ic_ge_f i_X5_leastOfOrders_43 (nI_ge (show i < 5040 by omega) (by decide)) ?_
    refine V_il i_X5_leastOfOrders_46 rfl ?_
    refine V_if_lt_f i_X5_leastOfOrders_48 (nI_pos (by have := hK.n7; omega)) ?_
    refine V_il i_X5_leastOfOrders_51 rfl ?_
    refine V_c i_X5_leastOfOrders_52 ?_
    refine V_ic_lt i_X5_leastOfOrders_53 (fun c53 => ?_) (fun c53 => ?_)
    · have d0 := (nI_ltI (a := s.1 - 1) (b := 1) (by omega) (by decide)).mp c53
      have e0 := bs1 (n := n) (L := (loL kd nd lw how n)) (k := k + 1) (s := s) (f := f) (by omega) bs_pos hs1
      rw [hT] at e0
      refine V_L (L' := [(3, _)]) ⟨rfl, trivial⟩ ?_
      exact fin I1 J1 0 e0 c1 k1 a1
    · have d0 : ¬ s.1 - 1 < 1 := fun z => c53 ((nI_ltI (a := s.1 - 1) (b := 1) (by omega) (by decide)).mpr z)
      refine V_al i_X5_leastOfOrders_56 rfl ?_
      refine V_getR i_X5_leastOfOrders_57 rfl rfl ?_
      refine V_il i_X5_leastOfOrders_60 rfl ?_
      refine P_callV1 i_X5_leastOfOrders_62 mi_X7_serve rfl ⟨_, _, rfl⟩ (by decide) (Nat.le_of_ble_eq_true rfl) (q_serveF I1 J1 LS_48 k1.Z48 k1.n7 hh k1.l3 (show s.1 - 1 ≤ 999 by omega) k1.kd k1.nd hPf hpn s1) (fun r I2 J2 q => ?_)
      obtain ⟨rfl, f2, s2⟩ := q
      have k2 := FrS.K (by decide) f2 k1
      have c2 := FrC.tr c1 (FrS.C (by decide) (by decide) f2)
      have a2 : (s.1 ≤ 999 → AtI I2 75 n s.2) := fun z => AtI.congr (fun k => f2.1 _ _ (by omega)) (a1 z)
      refine V_al i_X5_leastOfOrders_65 rfl ?_
      refine V_getR i_X5_leastOfOrders_66 rfl rfl ?_
      refine V_al i_X5_leastOfOrders_69 rfl ?_
      refine V_getR i_X5_leastOfOrders_70 rfl rfl ?_
      refine P_callV0v i_X5_leastOfOrders_73 mi_X7_fedAll rfl ⟨_, _, rfl⟩ (by decide) (Nat.le_of_ble_eq_true rfl) (c_S_fedAll _ _ LS_48 k2.Z48 k2.n7 s2.1.1) ?_
      rw [(s2.2.2.2 n (Nat.le_refl n)).2, fdS_set hPf]
      refine P_callV1v i_X5_leastOfOrders_76 mi_X7_isAll rfl ⟨_, _, rfl⟩ (by decide) (Nat.le_of_ble_eq_true rfl) (c_S_isAll _ _ LS_48 k2.Z48 _) ?_
      rw [bc_set hK.n7, s2.1.1]
      refine V_is (L' := [(0, _), (1, _), (2, _), (3, _), (5, _), (6, _)]) i_X5_leastOfOrders_79 (by decide) ⟨rfl, rfl, rfl, rfl, rfl, rfl, trivial⟩ ?_
      refine V_il i_X5_leastOfOrders_81 rfl ?_
      refine V_if_eq i_X5_leastOfOrders_83 (fun c83 => ?_) (fun c83 => ?_)
      · have d1 : ¬ (1 ≤ (loL kd nd lw how n) f ∧ (loL kd nd lw how n) f < s.1) := fun z => no01 c83 (congrArg nI (of_decide_eq_true ((allF_1 hK.n7).mpr ((leP_iff hK.n7 (by omega) (by omega)).mpr ⟨z.1, by have := z.2; unfold loL at this; omega⟩))))
        rw [if_neg (no01 c83)]
        refine V_L (L' := [(0, _), (1, _), (2, _), (3, _), (5, _), (6, _)]) ⟨rfl, rfl, rfl, rfl, rfl, rfl, trivial⟩ ?_
        have k6 := k2
        have c6 := c2
        refine V_al i_X5_leastOfOrders_136 rfl ?_
        refine V_getR i_X5_leastOfOrders_137 rfl rfl ?_
        refine P_callV0 i_X5_leastOfOrders_140 mi_X7_seatNext rfl ⟨_, _, rfl⟩ (by decide) (Nat.le_of_ble_eq_true rfl) (q_next I2 J2 LS_48 k6.Z48 h1 hK.n7 hPf s2) (fun r I7 J7 q => ?_)
        rcases nx_or n f with hx | ⟨z, hx⟩
        · rw [hx] at q
          obtain ⟨f7, -, rfl, -⟩ := q
          have k7 := FrS.K (by decide) f7 k6
          have c7 := FrC.tr c6 (FrS.C (by decide) (by decide) f7)
          refine V_is (L' := [(0, _), (1, _), (2, _), (3, _), (4, _), (5, _), (6, _)]) i_X5_leastOfOrders_143 (by decide) ⟨rfl, rfl, rfl, rfl, rfl, rfl, rfl, trivial⟩ ?_
          refine V_il i_X5_leastOfOrders_145 rfl ?_
          refine V_if_eq_t i_X5_leastOfOrders_147 rfl ?_
          refine V_il i_X5_leastOfOrders_159 rfl ?_
          refine V_is (L' := [(0, _), (1, _), (2, _), (3, _), (4, _), (5, _)]) i_X5_leastOfOrders_161 (by decide) ⟨rfl, rfl, rfl, rfl, rfl, rfl, trivial⟩ ?_
          refine V_iinc (L' := [(0, _), (1, _), (2, _), (3, _), (4, _), (5, _)]) (n' := 1) i_X5_leastOfOrders_163 (by decide) rfl (by decide) ⟨rfl, rfl, rfl, rfl, rfl, rfl, trivial⟩ ?_
          refine V_goto i_X5_leastOfOrders_166 ?_
          refine V_L (L' := [(0, _), (1, _), (2, _), (3, _), (4, _), (5, _)]) ⟨rfl, rfl, rfl, rfl, rfl, rfl, trivial⟩ ?_
          rw [foC_n hx, bst_f d1] at hT
          refine V_il i_X5_leastOfOrders_38 rfl ?_
          refine V_c i_X5_leastOfOrders_40 ?_
          refine V_ic_ge i_X5_leastOfOrders_43 (fun _ => ?_) (fun _ => ?_)
          · exact V_L (L' := [(3, _)]) ⟨rfl, trivial⟩ (fin I7 J7 0 hT.symm c7 k7 (fun z => AtI.congr (fun k => f7.1 _ _ (by omega)) (a2 z)))
          · refine V_il i_X5_leastOfOrders_46 rfl ?_
            refine V_if_lt_t i_X5_leastOfOrders_48 (by decide) ?_
            exact V_L (L' := [(3, _)]) ⟨rfl, trivial⟩ (fin I7 J7 0 hT.symm c7 k7 (fun z => AtI.congr (fun k => f7.1 _ _ (by omega)) (a2 z)))
        · rw [hx] at q
          obtain ⟨f7, -, rfl, hz, hPz, s7⟩ := q
          have k7 := FrS.K (by decide) f7 k6
          have c7 := FrC.tr c6 (FrS.C (by decide) (by decide) f7)
          refine V_is (L' := [(0, _), (1, _), (2, _), (3, _), (4, _), (5, _), (6, _)]) i_X5_leastOfOrders_143 (by decide) ⟨rfl, rfl, rfl, rfl, rfl, rfl, rfl, trivial⟩ ?_
          refine V_il i_X5_leastOfOrders_145 rfl ?_
          refine V_if_eq_t i_X5_leastOfOrders_147 rfl ?_
          refine V_il i_X5_leastOfOrders_159 rfl ?_
          refine V_is (L' := [(0, _), (1, _), (2, _), (3, _), (4, _), (5, _)]) i_X5_leastOfOrders_161 (by decide) ⟨rfl, rfl, rfl, rfl, rfl, rfl, trivial⟩ ?_
          refine V_iinc (L' := [(0, _), (1, _), (2, _), (3, _), (4, _), (5, _)]) (n' := 1) i_X5_leastOfOrders_163 (by decide) rfl (by decide) ⟨rfl, rfl, rfl, rfl, rfl, rfl, trivial⟩ ?_
          refine V_goto i_X5_leastOfOrders_166 ?_
          refine V_L (L' := [(0, _), (1, _), (2, _), (3, _), (4, _), (5, _)]) ⟨rfl, rfl, rfl, rfl, rfl, rfl, trivial⟩ ?_
          rw [foC_s hx, bst_f d1] at hT
          rw [show nI i + 1 = nI (i + 1) from nI_1 i]
          exact ih (i + 1) z.2 z.1 s (by omega) (ends_s he hx) hPz (Nat.le_of_lt hz) hs1 hs2 hT I7 J7 c7 k7 s7 (fun z => AtI.congr (fun k => f7.1 _ _ (by omega)) (a2 z))
      · have d1 : 1 ≤ (loL kd nd lw how n) f ∧ (loL kd nd lw how n) f < s.1 := by
          have z := (leP_iff (kd := kd) (nd := nd) (l := lw) (how := how) (ov := f) (ev := 1) (p := s.1 - 1) hK.n7 (by omega) (by omega)).mp ((allF_1 hK.n7).mp (decide_eq_true ((nI_eq (by have := cntN_le (fdE kd nd lw how ((s.1 - 1) * un how) f n) n; have := hK.n7; omega) (by have := hK.n7; omega)).mp (yes01 c83))))
          unfold loL
          exact ⟨z.1, by omega⟩
        rw [if_pos (yes01 c83)]
        refine V_al i_X5_leastOfOrders_86 rfl ?_
        refine V_getR i_X5_leastOfOrders_87 rfl rfl ?_
        refine V_getR i_X5_leastOfOrders_90 rfl rfl ?_
        refine V_al i_X5_leastOfOrders_93 rfl ?_
        refine V_getR i_X5_leastOfOrders_94 rfl rfl ?_
        refine V_c i_X5_leastOfOrders_97 ?_
        refine V_c i_X5_leastOfOrders_98 ?_
        refine V_c i_X5_leastOfOrders_99 ?_
        refine P_callV4u i_X5_leastOfOrders_101 mi_X3_moveTo rfl ⟨_, _, rfl⟩ (by decide) (Nat.le_of_ble_eq_true rfl) (c_I_moveTo I2 J2 (x := 53) (n := 7) (y := 74) (n2 := 7) (s := 7) (t := 7) (a := 0) (b := 0) (c := 7) ⟨rfl, rfl, rfl, by decide⟩ ⟨rfl, rfl, rfl, by decide⟩ k2.Z48.2.2.1 k2.Z.2.2.2.2.2.2.1 (by decide) (by decide) (by decide) (by decide)) ?_
        obtain ⟨I3, hI3⟩ : ∃ x, x = cpI I2 (53 + 1) 0 (74 + 1) 0 7 := ⟨_, rfl⟩
        rw [← hI3]
        have x3 : ∀ x k, ¬ noZ x → I3 x k = I2 x k := fun x k h => by
          rw [hI3]
          unfold cpI
          rw [if_neg (fun z => h (Or.inr (Or.inl z.1)))]
        have k3 := CK.xz x3 k2
        have c3 := FrC.tr c2 (FrC.xz (J := J2) x3 (fun _ _ _ => rfl))
        have s3 := SvL.xz (J := J2) (J' := J2) x3 (fun _ _ _ => rfl) (by unfold noZ; omega) s2
        have a3 : AtI I3 75 n f := fun k hk => by
          rw [hI3]
          unfold cpI
          rw [if_pos ⟨rfl, Nat.zero_le _, by have := hK.n7; omega⟩, show 0 + (k - 0) = k by omega]
          exact s2.2.2.1 k hk
        refine V_al i_X5_leastOfOrders_104 rfl ?_
        refine V_al i_X5_leastOfOrders_105 rfl ?_
        refine V_al i_X5_leastOfOrders_106 rfl ?_
        refine V_getR i_X5_leastOfOrders_107 rfl rfl ?_
        refine V_al i_X5_leastOfOrders_110 rfl ?_
        refine V_getI i_X5_leastOfOrders_111 rfl ?_
        rw [k3.lw]
        refine V_il i_X5_leastOfOrders_114 rfl ?_
        refine V_c i_X5_leastOfOrders_115 ?_
        refine V_il i_X5_leastOfOrders_116 rfl ?_
        refine P_callV6 i_X5_leastOfOrders_117 mi_X5_lowest rfl ⟨_, _, rfl⟩ (by decide) (Nat.le_of_ble_eq_true rfl) (c_lowest I3 J2 k3 (y := 74) ⟨rfl, rfl, rfl, by decide⟩ k3.Z.2.2.2.2.2.2.1 (by decide) a3 hPf k3.l3 hh (show 1 ≤ 7 by decide) (show 1 ≤ s.1 - 1 by omega) (show s.1 - 1 ≤ 999 by omega)) (fun r I4 J4 q => ?_)
        obtain ⟨v, rfl, f4, hv⟩ := q
        have e4 := leP_top hK.n7 (show 1 ≤ s.1 - 1 by omega) (show s.1 - 1 ≤ 999 by omega) hv
        rw [if_pos (show 1 ≤ leP kd nd how f n 1 lw ∧ leP kd nd how f n 1 lw ≤ s.1 - 1 from ⟨d1.1, by have := d1.2; unfold loL at this; omega⟩), show leP kd nd how f n 1 lw = (loL kd nd lw how n) f from rfl] at e4
        subst e4
        have k4 := FrS.K (by decide) f4 k3
        have c4 := FrC.tr c3 (FrS.C (by decide) (by decide) f4)
        have s4 := SvL.far (by decide) f4 s3
        have a4 : AtI I4 75 n f := AtI.congr (fun k => f4.1 _ _ (by omega)) a3
        refine V_c i_X5_leastOfOrders_120 ?_
        refine V_isub i_X5_leastOfOrders_121 ?_
        rw [nI_sub1 d1.1]
        refine V_is (L' := [(0, _), (1, _), (2, _), (3, _), (5, _), (6, _)]) i_X5_leastOfOrders_122 (by decide) ⟨rfl, rfl, rfl, rfl, rfl, rfl, trivial⟩ ?_
        refine V_al i_X5_leastOfOrders_123 rfl ?_
        refine V_getR i_X5_leastOfOrders_124 rfl rfl ?_
        refine V_al i_X5_leastOfOrders_127 rfl ?_
        refine V_getI i_X5_leastOfOrders_128 rfl ?_
        rw [k4.lw]
        refine V_il i_X5_leastOfOrders_131 rfl ?_
        refine V_il i_X5_leastOfOrders_132 rfl ?_
        refine P_callV3 i_X5_leastOfOrders_133 mi_X7_rules rfl ⟨_, _, rfl⟩ (by decide) (Nat.le_of_ble_eq_true rfl) (q_rulesL I4 J4 LS_48 k4.Z48 (f := f) hh (show (loL kd nd lw how n) f - 1 ≤ 999 by omega) s4.1 s4.2.2.1) (fun r I6 J6 q => ?_)
        obtain ⟨rfl, f6, s6⟩ := q
        have k6 := FrS.K (by decide) f6 k4
        have c6 := FrC.tr c4 (FrS.C (by decide) (by decide) f6)
        have a6 : AtI I6 75 n f := AtI.congr (fun k => f6.1 _ _ (by omega)) a4
        refine V_L (L' := [(0, _), (1, _), (2, _), (3, _), (5, _), (6, _)]) ⟨rfl, rfl, rfl, rfl, rfl, rfl, trivial⟩ ?_
        refine V_al i_X5_leastOfOrders_136 rfl ?_
        refine V_getR i_X5_leastOfOrders_137 rfl rfl ?_
        refine P_callV0 i_X5_leastOfOrders_140 mi_X7_seatNext rfl ⟨_, _, rfl⟩ (by decide) (Nat.le_of_ble_eq_true rfl) (q_next0 I6 J6 LS_48 k6.Z48 h1 hK.n7 hPf s6) (fun r I7 J7 q => ?_)
        rcases nx_or n f with hx | ⟨z, hx⟩
        · rw [hx] at q
          obtain ⟨f7, -, rfl, -⟩ := q
          have k7 := FrS.K (by decide) f7 k6
          have c7 := FrC.tr c6 (FrS.C (by decide) (by decide) f7)
          refine V_is (L' := [(0, _), (1, _), (2, _), (3, _), (4, _), (5, _), (6, _)]) i_X5_leastOfOrders_143 (by decide) ⟨rfl, rfl, rfl, rfl, rfl, rfl, rfl, trivial⟩ ?_
          refine V_il i_X5_leastOfOrders_145 rfl ?_
          refine V_if_eq_f i_X5_leastOfOrders_147 (by decide) ?_
          refine V_il i_X5_leastOfOrders_150 rfl ?_
          refine V_if_le i_X5_leastOfOrders_152 (fun c152 => ?_) (fun c152 => ?_)
          · have d2 := c152
            refine V_il i_X5_leastOfOrders_159 rfl ?_
            refine V_is (L' := [(0, _), (1, _), (2, _), (3, _), (4, _), (5, _)]) i_X5_leastOfOrders_161 (by decide) ⟨rfl, rfl, rfl, rfl, rfl, rfl, trivial⟩ ?_
            refine V_iinc (L' := [(0, _), (1, _), (2, _), (3, _), (4, _), (5, _)]) (n' := 1) i_X5_leastOfOrders_163 (by decide) rfl (by decide) ⟨rfl, rfl, rfl, rfl, rfl, rfl, trivial⟩ ?_
            refine V_goto i_X5_leastOfOrders_166 ?_
            refine V_L (L' := [(0, _), (1, _), (2, _), (3, _), (4, _), (5, _)]) ⟨rfl, rfl, rfl, rfl, rfl, rfl, trivial⟩ ?_
            rw [foC_n hx, bst_t d1] at hT
            refine V_il i_X5_leastOfOrders_38 rfl ?_
            refine V_c i_X5_leastOfOrders_40 ?_
            refine V_ic_ge i_X5_leastOfOrders_43 (fun _ => ?_) (fun _ => ?_)
            · exact V_L (L' := [(3, _)]) ⟨rfl, trivial⟩ (by have h9 := hq I7 J7 c7 k7; rw [← hT] at h9; exact h9 (fun _ => AtI.congr (fun k => f7.1 _ _ (by omega)) a6))
            · refine V_il i_X5_leastOfOrders_46 rfl ?_
              refine V_if_lt_t i_X5_leastOfOrders_48 (by decide) ?_
              exact V_L (L' := [(3, _)]) ⟨rfl, trivial⟩ (by have h9 := hq I7 J7 c7 k7; rw [← hT] at h9; exact h9 (fun _ => AtI.congr (fun k => f7.1 _ _ (by omega)) a6))
          · exact absurd (show (0 : Int32) < -1 from Int32.not_le.mp c152) (by decide)
        · rw [hx] at q
          obtain ⟨f7, -, rfl, hz, hPz, s7⟩ := q
          have k7 := FrS.K (by decide) f7 k6
          have c7 := FrC.tr c6 (FrS.C (by decide) (by decide) f7)
          refine V_is (L' := [(0, _), (1, _), (2, _), (3, _), (4, _), (5, _), (6, _)]) i_X5_leastOfOrders_143 (by decide) ⟨rfl, rfl, rfl, rfl, rfl, rfl, rfl, trivial⟩ ?_
          refine V_il i_X5_leastOfOrders_145 rfl ?_
          refine V_if_eq_f i_X5_leastOfOrders_147 (by decide) ?_
          refine V_il i_X5_leastOfOrders_150 rfl ?_
          refine V_if_le i_X5_leastOfOrders_152 (fun c152 => ?_) (fun c152 => ?_)
          · have d2 : z.1 = 0 := by
              have := (nI_leI (a := z.1) (b := 0) (by have := hK.n7; omega) (by decide)).mp c152
              omega
            rw [d2]
            refine V_il i_X5_leastOfOrders_159 rfl ?_
            refine V_is (L' := [(0, _), (1, _), (2, _), (3, _), (4, _), (5, _)]) i_X5_leastOfOrders_161 (by decide) ⟨rfl, rfl, rfl, rfl, rfl, rfl, trivial⟩ ?_
            refine V_iinc (L' := [(0, _), (1, _), (2, _), (3, _), (4, _), (5, _)]) (n' := 1) i_X5_leastOfOrders_163 (by decide) rfl (by decide) ⟨rfl, rfl, rfl, rfl, rfl, rfl, trivial⟩ ?_
            refine V_goto i_X5_leastOfOrders_166 ?_
            refine V_L (L' := [(0, _), (1, _), (2, _), (3, _), (4, _), (5, _)]) ⟨rfl, rfl, rfl, rfl, rfl, rfl, trivial⟩ ?_
            rw [foC_s hx, bst_t d1] at hT
            rw [show nI i + 1 = nI (i + 1) from nI_1 i]
            exact ih (i + 1) z.2 0 ((loL kd nd lw how n) f, f) (by omega) (ends_s he hx) hPz (Nat.zero_le _) d1.1 (by dsimp only; omega) hT I7 J7 c7 k7 s7 (fun _ => AtI.congr (fun k => f7.1 _ _ (by omega)) a6)
          · have d2 := c152
            refine V_c i_X5_leastOfOrders_155 ?_
            refine V_goto i_X5_leastOfOrders_156 ?_
            refine V_is (L' := [(0, _), (1, _), (2, _), (3, _), (4, _), (5, _)]) i_X5_leastOfOrders_161 (by decide) ⟨rfl, rfl, rfl, rfl, rfl, rfl, trivial⟩ ?_
            refine V_iinc (L' := [(0, _), (1, _), (2, _), (3, _), (4, _), (5, _)]) (n' := 1) i_X5_leastOfOrders_163 (by decide) rfl (by decide) ⟨rfl, rfl, rfl, rfl, rfl, rfl, trivial⟩ ?_
            refine V_goto i_X5_leastOfOrders_166 ?_
            refine V_L (L' := [(0, _), (1, _), (2, _), (3, _), (4, _), (5, _)]) ⟨rfl, rfl, rfl, rfl, rfl, rfl, trivial⟩ ?_
            rw [foC_s hx, bst_t d1] at hT
            rw [show nI i + 1 = nI (i + 1) from nI_1 i]
            exact ih (i + 1) z.2 0 ((loL kd nd lw how n) f, f) (by omega) (ends_s he hx) hPz (Nat.zero_le _) d1.1 (by dsimp only; omega) hT I7 J7 c7 k7 s7 (fun _ => AtI.congr (fun k => f7.1 _ _ (by omega)) a6)
set_option maxRecDepth 100000 in
set_option maxHeartbeats 4000000 in
theorem c_lo (I : IntM) (J : LngM) {n : Nat} {kd nd od : Nat → Nat} {lw pot : Nat} (hK : CK I n kd nd od lw pot) {how : Nat} (h1 : 1 ≤ n) (hh : how ≤ 1) : CtP 6 m_X5_leastOfOrders [.ref 47, .ref 8, .int (nI how)] I J (fun r I1 J1 => r = some (.int (nI (if (beT kd nd lw how n).1 = 1000 then 0 else (beT kd nd lw how n).1))) ∧ FrC I J I1 J1 ∧ CK I1 n kd nd od lw pot ∧ ((beT kd nd lw how n).1 ≤ 999 → AtI I1 75 n (beT kd nd lw how n).2)) := by
  refine CtP_of (by decide) rfl (Nat.le_of_ble_eq_true rfl) ?_
  refine V_c i_X5_leastOfOrders_0 ?_
  refine V_is (L' := [(0, _), (1, _), (2, _), (3, _)]) i_X5_leastOfOrders_3 (by decide) ⟨rfl, rfl, rfl, rfl, trivial⟩ ?_
  refine V_c i_X5_leastOfOrders_4 ?_
  refine V_is (L' := [(0, _), (1, _), (2, _), (3, _), (4, _)]) i_X5_leastOfOrders_5 (by decide) ⟨rfl, rfl, rfl, rfl, rfl, trivial⟩ ?_
  refine V_al i_X5_leastOfOrders_7 rfl ?_
  refine V_getR i_X5_leastOfOrders_8 rfl rfl ?_
  refine V_al i_X5_leastOfOrders_11 rfl ?_
  refine P_callV1 i_X5_leastOfOrders_12 mi_X7_invite rfl ⟨_, _, rfl⟩ (by decide) (Nat.le_of_ble_eq_true rfl) (q_invite I J LS_48 hK.Z48 hK.n7 hK.C) (fun r I2 J2 q => ?_)
  obtain ⟨rfl, f2, s2, -⟩ := q
  have k2 := FrS.K (by decide) f2 hK
  refine V_al i_X5_leastOfOrders_15 rfl ?_
  refine V_getR i_X5_leastOfOrders_16 rfl rfl ?_
  refine P_callV0 i_X5_leastOfOrders_19 mi_X7_seatByNumbers rfl ⟨_, _, rfl⟩ (by decide) (Nat.le_of_ble_eq_true rfl) (q_num0 I2 J2 LS_48 k2.Z48 k2.n7 s2) (fun r I3 J3 q => ?_)
  obtain ⟨rfl, f3, s3, a3⟩ := q
  have k3 := FrS.K (by decide) f3 k2
  refine V_al i_X5_leastOfOrders_22 rfl ?_
  refine V_getR i_X5_leastOfOrders_23 rfl rfl ?_
  refine V_al i_X5_leastOfOrders_26 rfl ?_
  refine V_getI i_X5_leastOfOrders_27 rfl ?_
  rw [k3.lw]
  refine V_il i_X5_leastOfOrders_30 rfl ?_
  refine V_il i_X5_leastOfOrders_31 rfl ?_
  refine P_callV3 i_X5_leastOfOrders_32 mi_X7_rules rfl ⟨_, _, rfl⟩ (by decide) (Nat.le_of_ble_eq_true rfl) (q_rulesL (pot := 999) I3 J3 LS_48 k3.Z48 (f := fun i => i) hh (by decide) s3 a3) (fun r I4 J4 q => ?_)
  obtain ⟨rfl, f4, s4⟩ := q
  have k4 := FrS.K (by decide) f4 k3
  have c4 := FrS.C (by decide) (by decide) (FrS.tr f2 (FrS.tr f3 f4))
  refine V_c i_X5_leastOfOrders_35 ?_
  refine V_is (L' := [(0, _), (1, _), (2, _), (3, _), (4, _), (5, _)]) i_X5_leastOfOrders_36 (by decide) ⟨rfl, rfl, rfl, rfl, rfl, rfl, trivial⟩ ?_
  refine V_L (L' := [(0, _), (1, _), (2, _), (3, _), (4, _), (5, _)]) ⟨rfl, rfl, rfl, rfl, rfl, rfl, trivial⟩ ?_
  refine lp_lo I J hK h1 hh (T := (beT kd nd lw how n)) _ (fun I5 J5 c5 k5 a5 => ?_) 5040 0 (fun i => i) 0 (1000, fun i => i) rfl (ends_id h1 hK.n7) (Pm_id n) (Nat.zero_le _) (by decide) (by decide) rfl I4 J4 c4 k4 s4 (fun z => absurd z (by decide))
  have hb := beT_b kd nd lw how n
  refine V_il i_X5_leastOfOrders_169 rfl ?_
  refine V_c i_X5_leastOfOrders_170 ?_
  refine V_ic_ne i_X5_leastOfOrders_173 (fun c173 => ?_) (fun c173 => ?_)
  · have d1 : ¬ (beT kd nd lw how n).1 = 1000 := fun z => c173 (by rw [z]; rfl)
    rw [if_neg d1]
    refine V_il i_X5_leastOfOrders_180 rfl ?_
    refine V_c i_X5_leastOfOrders_181 ?_
    refine V_iadd i_X5_leastOfOrders_182 ?_
    exact P_iret i_X5_leastOfOrders_183 rfl ⟨by rw [nI_1, Nat.sub_add_cancel hb.1], c5, k5, a5⟩
  · have d1 : (beT kd nd lw how n).1 = 1000 := by have := (nI_eq (a := (beT kd nd lw how n).1 - 1) (b := 999) (by omega) (by decide)).mp c173; omega
    rw [if_pos d1]
    refine V_c i_X5_leastOfOrders_176 ?_
    refine V_goto i_X5_leastOfOrders_177 ?_
    exact P_iret i_X5_leastOfOrders_183 rfl ⟨rfl, c5, k5, a5⟩
