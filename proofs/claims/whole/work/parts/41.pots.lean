
/-! ===== the least pots ===== -/
def fuS (kd nd : Nat → Nat) (l how P : Nat) (ov : Nat → Nat) (n : Nat) : Nat → Nat := fun t => match t with
  | 0 => 0
  | t + 1 => fuS kd nd l how P ov n t ||| setN (fdE kd nd l how P (fun i => ov ((i + t) % n)) n) n
theorem fuS_lt {kd nd : Nat → Nat} {l how P : Nat} {ov : Nat → Nat} {n : Nat} (hn : n ≤ 7) : ∀ t, fuS kd nd l how P ov n t < 128
  | 0 => by unfold fuS; omega
  | t + 1 => by
    unfold fuS
    exact Nat.or_lt_two_pow (n := 7) (fuS_lt hn t) (setN_lt _ n hn)

set_option maxRecDepth 100000 in
set_option maxHeartbeats 4000000 in
theorem lp_feeds (I : IntM) (J : LngM) {n : Nat} {kd nd od : Nat → Nat} {lw pot : Nat} (hK : CK I n kd nd od lw pot) (hs : SQ I 61 n kd nd) {y : Nat} (hO : LI y 7) (hOz : I y 1 = nI 7) (hy : y + 1 < 61 ∨ 74 ≤ y) {ov : Nat → Nat} (hov : AtI I (y + 1) n ov) (hPo : Pm n ov) {l how ev p : Nat} (hl : l ≤ 3) (hh : how ≤ 1) (hev : ev ≤ 7) (hp : p ≤ 999) (hr : SR I J 61 l how (p * un how)) (Q : Option Value → IntM → LngM → Prop) (hq : ∀ I1 J1, FrS 61 I J I1 J1 → SQ I1 61 n kd nd → VP m_X5_feeds 4 60 [(0, .ref 47), (6, .int (nI (fuS kd nd l how (p * un how) ov n ev)))] [] I1 J1 Q) : VP m_X5_feeds 4 17 [(0, .ref 47), (1, .ref y), (4, .int (nI ev)), (6, .int 0), (7, .int 0)] [] I J Q := by
  have key : ∀ i, i ≤ ev → ∀ I1 J1, FrS 61 I J I1 J1 → SQ I1 61 n kd nd → SR I1 J1 61 l how (p * un how) → VP m_X5_feeds 4 17 [(0, .ref 47), (1, .ref y), (4, .int (nI ev)), (6, .int (nI (fuS kd nd l how (p * un how) ov n i))), (7, .int (nI i))] [] I1 J1 Q := by
    refine down ev ?_ (fun i hi ih => ?_)
    · intro I1 J1 f1 s1 r1
      refine V_il i_X5_feeds_17 rfl ?_
      refine V_il i_X5_feeds_19 rfl ?_
      refine V_ic_ge_t i_X5_feeds_21 (Int32.le_refl _) ?_
      exact V_L (L' := [(0, _), (6, _)]) ⟨rfl, rfl, trivial⟩ (hq I1 J1 f1 s1)
    · intro I1 J1 f1 s1 r1
      have k1 := FrS.K (by decide) f1 hK
      refine V_il i_X5_feeds_17 rfl ?_
      refine V_il i_X5_feeds_19 rfl ?_
      refine V_ic_ge_f i_X5_feeds_21 (nI_ge hi (by omega)) ?_
      refine V_al i_X5_feeds_24 rfl ?_
      refine V_getR i_X5_feeds_25 rfl rfl ?_
      refine V_al i_X5_feeds_28 rfl ?_
      refine V_il i_X5_feeds_29 rfl ?_
      refine P_callV2 i_X5_feeds_31 mi_X7_seatTurned rfl ⟨_, _, rfl⟩ (by decide) (Nat.le_of_ble_eq_true rfl) (q_turn I1 J1 LS_61 k1.Z61 k1.n7 s1 r1 (y := y) hO (by rw [f1.1 _ _ (by omega)]; exact hOz) (by omega) (AtI.congr (fun k => f1.1 _ _ (by omega)) hov) (show i ≤ 100 by omega)) (fun r I2 J2 q => ?_)
      obtain ⟨rfl, f2, s2, r2, a2, -⟩ := q
      have k2 := FrS.K (by decide) f2 k1
      refine V_al i_X5_feeds_34 rfl ?_
      refine V_getR i_X5_feeds_35 rfl rfl ?_
      refine V_c i_X5_feeds_38 ?_
      refine P_callV1 i_X5_feeds_39 mi_X7_serve rfl ⟨_, _, rfl⟩ (by decide) (Nat.le_of_ble_eq_true rfl) (q_serve I2 J2 LS_61 k2.Z61 k2.n7 hh hl hp k2.kd k2.nd (Pm_turn hPo i) s2 r2 a2) (fun r I3 J3 q => ?_)
      obtain ⟨rfl, f3, s3, r3, a3, d3⟩ := q
      have k3 := FrS.K (by decide) f3 k2
      refine V_il i_X5_feeds_42 rfl ?_
      refine V_al i_X5_feeds_44 rfl ?_
      refine V_getR i_X5_feeds_45 rfl rfl ?_
      refine P_callV0v i_X5_feeds_48 mi_X7_fedAll rfl ⟨_, _, rfl⟩ (by decide) (Nat.le_of_ble_eq_true rfl) (c_S_fedAll _ _ LS_61 k3.Z61 k3.n7 s3.1) ?_
      rw [(d3.1 n (Nat.le_refl n)).2, fdS_set (Pm_turn hPo i)]
      refine V_ior i_X5_feeds_51 ?_
      rw [or_nI]
      refine V_is (L' := [(0, _), (1, _), (4, _), (6, _), (7, _)]) i_X5_feeds_52 (by decide) ⟨rfl, rfl, rfl, rfl, rfl, trivial⟩ ?_
      refine V_iinc (L' := [(0, _), (1, _), (4, _), (6, _), (7, _)]) (n' := 1) i_X5_feeds_54 (by decide) rfl (by decide) ⟨rfl, rfl, rfl, rfl, rfl, trivial⟩ ?_
      refine V_goto i_X5_feeds_57 ?_
      refine V_L (L' := [(0, _), (1, _), (4, _), (6, _), (7, _)]) ⟨rfl, rfl, rfl, rfl, rfl, trivial⟩ ?_
      rw [show nI i + 1 = nI (i + 1) from nI_1 i]
      exact ih I3 J3 (FrS.tr f1 (FrS.tr f2 f3)) s3 r3
  exact key 0 (Nat.zero_le _) I J FrS.rf hs hr
set_option maxRecDepth 100000 in
set_option maxHeartbeats 4000000 in
theorem c_feeds (I : IntM) (J : LngM) {n : Nat} {kd nd od : Nat → Nat} {lw pot : Nat} (hK : CK I n kd nd od lw pot) (hs : SQ I 61 n kd nd) {y : Nat} (hO : LI y 7) (hOz : I y 1 = nI 7) (hy : y + 1 < 61 ∨ 74 ≤ y) {ov : Nat → Nat} (hov : AtI I (y + 1) n ov) (hPo : Pm n ov) {l how ev p : Nat} (hl : l ≤ 3) (hh : how ≤ 1) (hev : ev ≤ 7) (hp : p ≤ 999) : CtP 4 m_X5_feeds [.ref 47, .ref y, .int (nI l), .int (nI how), .int (nI ev), .int (nI p)] I J (fun r I1 J1 => r = some (.int (if popc (fuS kd nd l how (p * un how) ov n ev) = n then 1 else 0)) ∧ FrS 61 I J I1 J1 ∧ SQ I1 61 n kd nd) := by
  refine CtP_of (by decide) rfl (Nat.le_of_ble_eq_true rfl) ?_
  refine V_c i_X5_feeds_0 ?_
  refine V_is (L' := [(0, _), (1, _), (2, _), (3, _), (4, _), (5, _), (6, _)]) i_X5_feeds_1 (by decide) ⟨rfl, rfl, rfl, rfl, rfl, rfl, rfl, trivial⟩ ?_
  refine V_al i_X5_feeds_3 rfl ?_
  refine V_getR i_X5_feeds_4 rfl rfl ?_
  refine V_il i_X5_feeds_7 rfl ?_
  refine V_il i_X5_feeds_8 rfl ?_
  refine V_il i_X5_feeds_9 rfl ?_
  refine P_callV3 i_X5_feeds_11 mi_X7_rules rfl ⟨_, _, rfl⟩ (by decide) (Nat.le_of_ble_eq_true rfl) (q_rules I J LS_61 hK.Z61 hh hp hs) (fun r I1 J1 q => ?_)
  obtain ⟨rfl, f1, s1, r1, -⟩ := q
  have k1 := FrS.K (by decide) f1 hK
  refine V_c i_X5_feeds_14 ?_
  refine V_is (L' := [(0, _), (1, _), (4, _), (6, _), (7, _)]) i_X5_feeds_15 (by decide) ⟨rfl, rfl, rfl, rfl, rfl, trivial⟩ ?_
  refine V_L (L' := [(0, _), (1, _), (4, _), (6, _), (7, _)]) ⟨rfl, rfl, rfl, rfl, rfl, trivial⟩ ?_
  refine lp_feeds I1 J1 k1 s1 hO (by rw [f1.1 _ _ (by omega)]; exact hOz) hy (AtI.congr (fun k => f1.1 _ _ (by omega)) hov) hPo hl hh hev hp r1 _ (fun I2 J2 f2 s2 => ?_)
  have k2 := FrS.K (by decide) f2 k1
  refine V_al i_X5_feeds_60 rfl ?_
  refine V_getR i_X5_feeds_61 rfl rfl ?_
  refine V_il i_X5_feeds_64 rfl ?_
  refine P_callV1v i_X5_feeds_66 mi_X7_isAll rfl ⟨_, _, rfl⟩ (by decide) (Nat.le_of_ble_eq_true rfl) (c_S_isAll _ _ LS_61 k2.Z61 _) ?_
  exact P_zret i_X5_feeds_69 rfl (by split <;> simp) ⟨by rw [s2.1, bc_tab _ (fuS_lt hK.n7 ev)]; simp only [nI_eq (show popc (fuS kd nd l how (p * un how) ov n ev) < 2 ^ 31 by have := popc_le (fuS kd nd l how (p * un how) ov n ev); omega) (show n < 2 ^ 31 by have := hK.n7; omega)], FrS.tr f1 f2, s2⟩
def fdP (kd nd : Nat → Nat) (l how : Nat) (ov : Nat → Nat) (n ev p : Nat) : Prop := popc (fuS kd nd l how (p * un how) ov n ev) = n
theorem fuS_bit {kd nd : Nat → Nat} {l how P : Nat} {ov : Nat → Nat} {n k : Nat} : ∀ t, (fuS kd nd l how P ov n t).testBit k = true ↔ k < n ∧ ∃ j, j < t ∧ fdE kd nd l how P (fun i => ov ((i + j) % n)) n k = true
  | 0 => by
    unfold fuS
    simp
  | t + 1 => by
    unfold fuS
    rw [Nat.testBit_or, Bool.or_eq_true, fuS_bit t, setN_bit, Bool.and_eq_true, decide_eq_true_eq]
    constructor
    · rintro (⟨h, j, hj, e⟩ | ⟨h, e⟩)
      · exact ⟨h, j, by omega, e⟩
      · exact ⟨h, t, by omega, e⟩
    · rintro ⟨h, j, hj, e⟩
      by_cases hjt : j = t
      · exact Or.inr ⟨h, by rw [← hjt]; exact e⟩
      · exact Or.inl ⟨h, j, by omega, e⟩
theorem popc_all {w n : Nat} (hn : n ≤ 7) (hw : ∀ k, w.testBit k = true → k < n) : popc w = n ↔ ∀ k, k < n → w.testBit k = true := by
  have e : popc w = cntN (fun k => w.testBit k) n := by
    unfold popc
    exact cntN_more hn (fun k h1 h2 => by
      cases h : w.testBit k with
      | false => rfl
      | true => exact absurd (hw k h) (by omega))
  rw [e]
  exact cntN_all
theorem fdP_iff {kd nd : Nat → Nat} {l how : Nat} {ov : Nat → Nat} {n ev p : Nat} (hn : n ≤ 7) : fdP kd nd l how ov n ev p ↔ ∀ k, k < n → ∃ j, j < ev ∧ fdE kd nd l how (p * un how) (fun i => ov ((i + j) % n)) n k = true := by
  unfold fdP
  rw [popc_all hn (fun k h => ((fuS_bit ev).mp h).1)]
  exact ⟨fun h k hk => ((fuS_bit ev).mp (h k hk)).2, fun h k hk => (fuS_bit ev).mpr ⟨hk, h k hk⟩⟩
theorem fdP_mono {kd nd : Nat → Nat} {l how : Nat} {ov : Nat → Nat} {n ev p q : Nat} (hn : n ≤ 7) (hpq : p ≤ q) (h : fdP kd nd l how ov n ev p) : fdP kd nd l how ov n ev q := (fdP_iff hn).mpr (fun k hk => by
  obtain ⟨j, hj, e⟩ := (fdP_iff hn).mp h k hk
  exact ⟨j, hj, fdE_mono (Nat.mul_le_mul_right _ hpq) e⟩)
set_option maxRecDepth 100000 in
set_option maxHeartbeats 4000000 in
theorem lp_lowest (I : IntM) (J : LngM) {n : Nat} {kd nd od : Nat → Nat} {lw pot : Nat} (hK : CK I n kd nd od lw pot) (hs : SQ I 61 n kd nd) {y : Nat} (hO : LI y 7) (hOz : I y 1 = nI 7) (hy : y + 1 < 61 ∨ 74 ≤ y) {ov : Nat → Nat} (hov : AtI I (y + 1) n ov) (hPo : Pm n ov) {l how ev top : Nat} (hl : l ≤ 3) (hh : how ≤ 1) (hev : ev ≤ 7) (ht : top ≤ 999) (Q : Option Value → IntM → LngM → Prop) (hq : ∀ v I1 J1, FrS 61 I J I1 J1 → (1 ≤ v ∧ v ≤ top ∧ fdP kd nd l how ov n ev v ∧ ∀ q, 1 ≤ q → q < v → ¬ fdP kd nd l how ov n ev q) → Q (some (.int (nI v))) I1 J1) : ∀ d i lo hi, d + i = 32 → 1 ≤ lo → lo ≤ hi → hi ≤ top → hi - lo < 2 ^ d → fdP kd nd l how ov n ev hi → (∀ q, 1 ≤ q → q < lo → ¬ fdP kd nd l how ov n ev q) → ∀ I1 J1, FrS 61 I J I1 J1 → SQ I1 61 n kd nd → VP m_X5_lowest 5 35 [(0, .ref 47), (2, .ref y), (3, .int (nI l)), (4, .int (nI how)), (5, .int (nI ev)), (7, .int (nI lo)), (8, .int (nI hi)), (9, .int (nI i))] [] I1 J1 Q := by
  intro d
  induction d with
  | zero =>
    intro i lo hi hd h1 h2 h3 h4 h5 h6 I1 J1 f1 s1
    have e : hi = lo := by omega
    subst e
    refine V_il i_X5_lowest_35 rfl ?_
    refine V_c i_X5_lowest_37 ?_
    refine V_ic_ge_t i_X5_lowest_39 (nI_le (show 32 ≤ i by omega) (by omega)) ?_
    refine V_il i_X5_lowest_92 rfl ?_
    exact P_iret i_X5_lowest_94 rfl (hq _ I1 J1 f1 ⟨h1, h3, h5, h6⟩)
  | succ d ih =>
    intro i lo hi hd h1 h2 h3 h4 h5 h6 I1 J1 f1 s1
    have k1 := FrS.K (by decide) f1 hK
    rw [Nat.pow_succ] at h4
    refine V_il i_X5_lowest_35 rfl ?_
    refine V_c i_X5_lowest_37 ?_
    refine V_ic_ge_f i_X5_lowest_39 (nI_ge (show i < 32 by omega) (by decide)) ?_
    refine V_il i_X5_lowest_42 rfl ?_
    refine V_il i_X5_lowest_44 rfl ?_
    refine V_ic_ge i_X5_lowest_46 (fun c46 => ?_) (fun c46 => ?_)
    · rw [nI_leI (by omega) (by omega)] at c46
      refine V_il i_X5_lowest_92 rfl ?_
      exact P_iret i_X5_lowest_94 rfl (hq hi I1 J1 f1 ⟨by omega, h3, h5, fun q a b => h6 q a (by omega)⟩)
    · rw [nI_leI (by omega) (by omega)] at c46
      refine V_il i_X5_lowest_49 rfl ?_
      refine V_il i_X5_lowest_51 rfl ?_
      refine V_iadd i_X5_lowest_53 ?_
      refine V_c i_X5_lowest_54 ?_
      refine V_idiv i_X5_lowest_55 (by decide) ?_
      rw [nI_add, show (2 : Int32) = nI 2 from rfl, pk_div (by omega) (by decide) (by decide)]
      refine V_is (L' := [(0, _), (2, _), (3, _), (4, _), (5, _), (7, _), (8, _), (9, _), (10, _)]) i_X5_lowest_56 (by decide) ⟨rfl, rfl, rfl, rfl, rfl, rfl, rfl, rfl, rfl, trivial⟩ ?_
      refine V_al i_X5_lowest_58 rfl ?_
      refine V_al i_X5_lowest_59 rfl ?_
      refine V_il i_X5_lowest_60 rfl ?_
      refine V_il i_X5_lowest_61 rfl ?_
      refine V_il i_X5_lowest_63 rfl ?_
      refine V_il i_X5_lowest_65 rfl ?_
      refine P_callV5 i_X5_lowest_67 mi_X5_feeds rfl ⟨_, _, rfl⟩ (by decide) (Nat.le_of_ble_eq_true rfl) (c_feeds I1 J1 k1 s1 hO (by rw [f1.1 _ _ (by omega)]; exact hOz) hy (AtI.congr (fun k => f1.1 _ _ (by omega)) hov) hPo hl hh hev (show (lo + hi) / 2 ≤ 999 by omega)) (fun r I2 J2 q => ?_)
      obtain ⟨rfl, f2, s2⟩ := q
      refine V_if_eq i_X5_lowest_70 (fun c70 => ?_) (fun c70 => ?_)
      · have d1 := no01 c70
        refine V_il i_X5_lowest_80 rfl ?_
        refine V_c i_X5_lowest_82 ?_
        refine V_iadd i_X5_lowest_83 ?_
        refine V_is (L' := [(0, _), (2, _), (3, _), (4, _), (5, _), (7, _), (8, _), (9, _)]) i_X5_lowest_84 (by decide) ⟨rfl, rfl, rfl, rfl, rfl, rfl, rfl, rfl, trivial⟩ ?_
        refine V_iinc (L' := [(0, _), (2, _), (3, _), (4, _), (5, _), (7, _), (8, _), (9, _)]) (n' := 1) i_X5_lowest_86 (by decide) rfl (by decide) ⟨rfl, rfl, rfl, rfl, rfl, rfl, rfl, rfl, trivial⟩ ?_
        refine V_goto i_X5_lowest_89 ?_
        refine V_L (L' := [(0, _), (2, _), (3, _), (4, _), (5, _), (7, _), (8, _), (9, _)]) ⟨rfl, rfl, rfl, rfl, rfl, rfl, rfl, rfl, trivial⟩ ?_
        rw [show nI i + 1 = nI (i + 1) from nI_1 i, show nI ((lo + hi) / 2) + 1 = nI ((lo + hi) / 2 + 1) from nI_1 _]
        exact ih (i + 1) ((lo + hi) / 2 + 1) hi (by omega) (by omega) (by omega) h3 (by omega) h5 (fun q a b z => d1 (fdP_mono hK.n7 (show q ≤ (lo + hi) / 2 by omega) z)) I2 J2 (FrS.tr f1 f2) s2
      · have d1 := yes01 c70
        refine V_il i_X5_lowest_73 rfl ?_
        refine V_is (L' := [(0, _), (2, _), (3, _), (4, _), (5, _), (7, _), (8, _), (9, _)]) i_X5_lowest_75 (by decide) ⟨rfl, rfl, rfl, rfl, rfl, rfl, rfl, rfl, trivial⟩ ?_
        refine V_goto i_X5_lowest_77 ?_
        refine V_iinc (L' := [(0, _), (2, _), (3, _), (4, _), (5, _), (7, _), (8, _), (9, _)]) (n' := 1) i_X5_lowest_86 (by decide) rfl (by decide) ⟨rfl, rfl, rfl, rfl, rfl, rfl, rfl, rfl, trivial⟩ ?_
        refine V_goto i_X5_lowest_89 ?_
        refine V_L (L' := [(0, _), (2, _), (3, _), (4, _), (5, _), (7, _), (8, _), (9, _)]) ⟨rfl, rfl, rfl, rfl, rfl, rfl, rfl, rfl, trivial⟩ ?_
        rw [show nI i + 1 = nI (i + 1) from nI_1 i]
        exact ih (i + 1) lo ((lo + hi) / 2) (by omega) h1 (by omega) (by omega) (by omega) d1 h6 I2 J2 (FrS.tr f1 f2) s2
set_option maxRecDepth 100000 in
set_option maxHeartbeats 4000000 in
theorem c_lowest (I : IntM) (J : LngM) {n : Nat} {kd nd od : Nat → Nat} {lw pot : Nat} (hK : CK I n kd nd od lw pot) {y : Nat} (hO : LI y 7) (hOz : I y 1 = nI 7) (hy : y + 1 < 61 ∨ 74 ≤ y) {ov : Nat → Nat} (hov : AtI I (y + 1) n ov) (hPo : Pm n ov) {l how ev top : Nat} (hl : l ≤ 3) (hh : how ≤ 1) (hev : ev ≤ 7) (h1t : 1 ≤ top) (ht : top ≤ 999) : CtP 5 m_X5_lowest [.ref 47, .ref 8, .ref y, .int (nI l), .int (nI how), .int (nI ev), .int (nI top)] I J (fun r I1 J1 => ∃ v, r = some (.int (nI v)) ∧ FrS 61 I J I1 J1 ∧ ((v = 0 ∧ ¬ fdP kd nd l how ov n ev top) ∨ (1 ≤ v ∧ v ≤ top ∧ fdP kd nd l how ov n ev v ∧ ∀ q, 1 ≤ q → q < v → ¬ fdP kd nd l how ov n ev q))) := by
  refine CtP_of (by decide) rfl (Nat.le_of_ble_eq_true rfl) ?_
  refine V_al i_X5_lowest_0 rfl ?_
  refine V_getR i_X5_lowest_1 rfl rfl ?_
  refine V_al i_X5_lowest_4 rfl ?_
  refine P_callV1 i_X5_lowest_5 mi_X7_invite rfl ⟨_, _, rfl⟩ (by decide) (Nat.le_of_ble_eq_true rfl) (q_invite I J LS_61 hK.Z61 hK.n7 hK.C) (fun r I1 J1 q => ?_)
  obtain ⟨rfl, f1, s1, -⟩ := q
  have k1 := FrS.K (by decide) f1 hK
  have ov1 : AtI I1 (y + 1) n ov := AtI.congr (fun k => f1.1 _ _ (by omega)) hov
  have oz1 : I1 y 1 = nI 7 := by rw [f1.1 _ _ (by omega)]; exact hOz
  refine V_al i_X5_lowest_8 rfl ?_
  refine V_al i_X5_lowest_9 rfl ?_
  refine V_il i_X5_lowest_10 rfl ?_
  refine V_il i_X5_lowest_11 rfl ?_
  refine V_il i_X5_lowest_13 rfl ?_
  refine V_il i_X5_lowest_15 rfl ?_
  refine P_callV5 i_X5_lowest_17 mi_X5_feeds rfl ⟨_, _, rfl⟩ (by decide) (Nat.le_of_ble_eq_true rfl) (c_feeds I1 J1 k1 s1 hO oz1 hy ov1 hPo hl hh hev ht) (fun r I2 J2 q => ?_)
  obtain ⟨rfl, f2, s2⟩ := q
  have k2 := FrS.K (by decide) f2 k1
  refine V_if_ne i_X5_lowest_20 (fun c20 => ?_) (fun c20 => ?_)
  · have d1 := yes01 c20
    refine V_c i_X5_lowest_25 ?_
    refine V_is (L' := [(0, _), (2, _), (3, _), (4, _), (5, _), (6, _), (7, _)]) i_X5_lowest_26 (by decide) ⟨rfl, rfl, rfl, rfl, rfl, rfl, rfl, trivial⟩ ?_
    refine V_il i_X5_lowest_28 rfl ?_
    refine V_is (L' := [(0, _), (2, _), (3, _), (4, _), (5, _), (7, _), (8, _)]) i_X5_lowest_30 (by decide) ⟨rfl, rfl, rfl, rfl, rfl, rfl, rfl, trivial⟩ ?_
    refine V_c i_X5_lowest_32 ?_
    refine V_is (L' := [(0, _), (2, _), (3, _), (4, _), (5, _), (7, _), (8, _), (9, _)]) i_X5_lowest_33 (by decide) ⟨rfl, rfl, rfl, rfl, rfl, rfl, rfl, rfl, trivial⟩ ?_
    refine V_L (L' := [(0, _), (2, _), (3, _), (4, _), (5, _), (7, _), (8, _), (9, _)]) ⟨rfl, rfl, rfl, rfl, rfl, rfl, rfl, rfl, trivial⟩ ?_
    refine lp_lowest I2 J2 k2 s2 hO (by rw [f2.1 _ _ (by omega)]; exact oz1) hy (AtI.congr (fun k => f2.1 _ _ (by omega)) ov1) hPo hl hh hev ht _ (fun v I3 J3 f3 hv => ⟨v, rfl, FrS.tr f1 (FrS.tr f2 f3), Or.inr hv⟩) 32 0 1 top rfl (Nat.le_refl _) h1t (Nat.le_refl _) (by omega) d1 (fun q a b => by omega) I2 J2 FrS.rf s2
  · have d1 := no01 c20
    refine V_c i_X5_lowest_23 ?_
    exact P_iret i_X5_lowest_24 rfl ⟨0, rfl, FrS.tr f1 f2, Or.inl ⟨rfl, d1⟩⟩
