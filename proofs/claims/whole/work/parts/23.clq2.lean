
/-! ===== the class's calls that keep the state: loops ===== -/
def bwL (lt : Nat → Nat → Prop) [DecidableRel lt] : Nat → Nat := fun n => match n with
  | 0 => 0
  | m + 1 => if lt (bwL lt m) m then m else bwL lt m
theorem bwL_le (lt : Nat → Nat → Prop) [DecidableRel lt] : ∀ m, bwL lt (m + 1) ≤ m
  | 0 => by
    show (if lt (bwL lt 0) 0 then 0 else bwL lt 0) ≤ 0
    split
    · exact Nat.le_refl _
    · exact Nat.le_refl _
  | m + 1 => by
    show (if lt (bwL lt (m + 1)) (m + 1) then m + 1 else bwL lt (m + 1)) ≤ m + 1
    split
    · exact Nat.le_refl _
    · exact Nat.le_succ_of_le (bwL_le lt m)
theorem bwL_t {lt : Nat → Nat → Prop} [DecidableRel lt] {m : Nat} (h : lt (bwL lt m) m) : bwL lt (m + 1) = m := if_pos h
theorem bwL_f {lt : Nat → Nat → Prop} [DecidableRel lt] {m : Nat} (h : ¬ lt (bwL lt m) m) : bwL lt (m + 1) = bwL lt m := if_neg h
theorem bwL_1 (lt : Nat → Nat → Prop) [DecidableRel lt] : bwL lt 1 = 0 := Nat.le_zero.mp (bwL_le lt 0)
/-- the first greatest of f 0 .. f (m - 1) -/
def bw (f : Nat → Nat) : Nat → Nat := bwL (fun a b => f a < f b)
def mo (f : Nat → Nat) (i : Nat) : Int64 := if i = 0 then -1 else lN (f (bw f i))
theorem mo_s (f : Nat → Nat) (i : Nat) : mo f (i + 1) = lN (f (bw f (i + 1))) := if_neg (by omega)
theorem m1_lt {x : Nat} (h : x < 2 ^ 62) : ¬ lN x ≤ -1 := fun q => by
  have e := (lZ_le (a := (x : Int)) (b := -1) (by omega) (by omega) (by decide) (by decide)).mp (by rw [← lZ_N]; exact q)
  omega
theorem bw_T {f : Nat → Nat} {i : Nat} (hb : ∀ j, f j < 2 ^ 62) (h : lN (f i) ≤ mo f i) : bw f (i + 1) = bw f i ∧ 0 < i := by
  unfold mo at h
  by_cases h0 : i = 0
  · rw [if_pos h0] at h
    exact absurd h (m1_lt (hb i))
  · rw [if_neg h0] at h
    have h1 := hb i
    have h2 := hb (bw f i)
    have := (pk_lLE (by omega) (by omega)).mp h
    exact ⟨bwL_f (by show ¬ f (bw f i) < f i; omega), by omega⟩
theorem bw_F {f : Nat → Nat} {i : Nat} (hb : ∀ j, f j < 2 ^ 62) (h : ¬ lN (f i) ≤ mo f i) : bw f (i + 1) = i := by
  unfold mo at h
  by_cases h0 : i = 0
  · subst h0
    exact bwL_1 _
  · rw [if_neg h0] at h
    have h1 := hb i
    have h2 := hb (bw f i)
    have : ¬ f i ≤ f (bw f i) := fun q => h ((pk_lLE (by omega) (by omega)).mpr q)
    exact bwL_t (by show f (bw f i) < f i; omega)
theorem FrS.rfK {a : Nat} {I : IntM} {J : LngM} : FrS a I J I J := FrS.rf

set_option maxRecDepth 100000 in
set_option maxHeartbeats 4000000 in
theorem c_favours0 (I : IntM) (J : LngM) {n : Nat} {kd nd od : Nat → Nat} {lw pot : Nat} (hK : CK I n kd nd od lw pot) {x y : Int32} (h : hasC n x = 0 ∨ howv y = 0) : CtP 5 m_X10_favours [.ref 0, .int x, .int y] I J (QC I J (.int (-1)) none none none) := by
  refine CtP_of (by decide) rfl (Nat.le_of_ble_eq_true rfl) ?_
  refine V_al i_X10_favours_0 rfl ?_
  refine V_getR i_X10_favours_1 rfl rfl ?_
  refine V_il i_X10_favours_4 rfl ?_
  refine P_callV1v i_X10_favours_5 mi_X0_has rfl ⟨_, _, rfl⟩ (by decide) (Nat.le_of_ble_eq_true rfl) (c_C_has _ _ hK.sz _) ?_
  refine V_if_eq i_X10_favours_8 (fun c8 => ?_) (fun c8 => ?_)
  · refine V_c i_X10_favours_18 ?_
    exact P_iret i_X10_favours_19 rfl ⟨rfl, I, J, FrC.rf, hK.Z, rfl, rfl⟩
  · refine V_il i_X10_favours_11 rfl ?_
    refine P_callS1v i_X10_favours_12 ms_X10_isHow (by decide) (Nat.le_of_ble_eq_true rfl) (c_isHow _ _ _) ?_
    refine V_if_ne_f i_X10_favours_15 (by rcases h with h | h; exact absurd h c8; exact h) ?_
    refine V_c i_X10_favours_18 ?_
    exact P_iret i_X10_favours_19 rfl ⟨rfl, I, J, FrC.rf, hK.Z, rfl, rfl⟩
set_option maxRecDepth 100000 in
set_option maxHeartbeats 4000000 in
theorem lp_favours (I : IntM) (J : LngM) {n : Nat} {kd nd od : Nat → Nat} {lw pot : Nat} (hK : CK I n kd nd od lw pot) {k how : Nat} (hh : how ≤ 1) (hk : k < n) {f : Nat → Nat} (hf : f = mvT kd nd lw how (pot * un how) od n k) (Q : Option Value → IntM → LngM → Prop) (hq : ∀ I1 J1, FrS 21 I J I1 J1 → VP m_X10_favours 5 84 [(0, .ref 0), (2, .int (nI how)), (3, .int (nI (bw f n))), (4, .long (mo f n))] [] I1 J1 Q) : VP m_X10_favours 5 30 [(0, .ref 0), (1, .int (nI k)), (2, .int (nI how)), (3, .int 0), (4, .long (-1)), (6, .int 0)] [] I J Q := by
  have hfb : ∀ j, f j < 2 ^ 62 := fun j => by rw [hf]; exact Nat.lt_trans (tkB hK.p9 _) (by decide)
  have key : ∀ i, i ≤ n → ∀ I1 J1, FrS 21 I J I1 J1 → VP m_X10_favours 5 30 [(0, .ref 0), (1, .int (nI k)), (2, .int (nI how)), (3, .int (nI (bw f i))), (4, .long (mo f i)), (6, .int (nI i))] [] I1 J1 Q := by
    refine down n ?_ (fun i hi ih => ?_)
    · intro I1 J1 f1
      have k1 := FrS.K (Or.inl rfl) f1 hK
      refine V_il i_X10_favours_30 rfl ?_
      refine V_al i_X10_favours_32 rfl ?_
      refine V_getR i_X10_favours_33 rfl rfl ?_
      refine V_getI i_X10_favours_36 rfl ?_
      refine V_ic_ge_t i_X10_favours_39 (by rw [k1.sz]; exact Int32.le_refl _) ?_
      exact V_L (L' := [(0, _), (2, _), (3, _), (4, _)]) ⟨rfl, rfl, rfl, rfl, trivial⟩ (hq I1 J1 f1)
    · intro I1 J1 f1
      have k1 := FrS.K (Or.inl rfl) f1 hK
      refine V_il i_X10_favours_30 rfl ?_
      refine V_al i_X10_favours_32 rfl ?_
      refine V_getR i_X10_favours_33 rfl rfl ?_
      refine V_getI i_X10_favours_36 rfl ?_
      refine V_ic_ge_f i_X10_favours_39 (by rw [k1.sz]; exact nI_ge hi (by have := hK.n7; omega)) ?_
      refine V_al i_X10_favours_42 rfl ?_
      refine V_il i_X10_favours_43 rfl ?_
      refine V_il i_X10_favours_44 rfl ?_
      refine V_il i_X10_favours_46 rfl ?_
      refine P_callV3 i_X10_favours_47 mi_X10_serveMoved rfl ⟨_, _, rfl⟩ (by decide) (Nat.le_of_ble_eq_true rfl) (c_srvMoved I1 J1 k1 hh hk hi) (fun r I2 J2 q => ?_)
      obtain ⟨rfl, f2, s2, d2⟩ := q
      have e2 : J2 29 k = lN (f i) := by rw [hf]; exact d2.2 k hk
      refine V_al i_X10_favours_50 rfl ?_
      refine V_getR i_X10_favours_51 rfl rfl ?_
      refine V_getR i_X10_favours_54 rfl rfl ?_
      refine V_il i_X10_favours_57 rfl ?_
      refine P_callV1v i_X10_favours_58 mi_X4_get rfl ⟨_, _, rfl⟩ (by decide) (Nat.le_of_ble_eq_true rfl) (c_L_get _ _ (x := 28) (n := 7) ⟨rfl, rfl, rfl, by decide⟩ (k := k) (by have := hK.n7; omega)) ?_
      rw [show J2 (28 + 1) k = lN (f i) from e2]
      refine V_ls (L' := [(0, _), (1, _), (2, _), (3, _), (4, _), (6, _), (7, _)]) i_X10_favours_61 (by decide) ⟨rfl, rfl, rfl, rfl, rfl, rfl, rfl, trivial⟩ ?_
      refine V_ll i_X10_favours_63 rfl ?_
      refine V_ll i_X10_favours_65 rfl ?_
      refine V_lcmp i_X10_favours_67 ?_
      refine V_if_le i_X10_favours_68 (fun c68 => ?_) (fun c68 => ?_)
      · have c9 := bw_T hfb (lgc_le.mp c68)
        refine V_iinc (L' := [(0, _), (1, _), (2, _), (3, _), (4, _), (6, _)]) (n' := 1) i_X10_favours_78 (by decide) rfl (by decide) ⟨rfl, rfl, rfl, rfl, rfl, rfl, trivial⟩ ?_
        refine V_goto i_X10_favours_81 ?_
        refine V_L (L' := [(0, _), (1, _), (2, _), (3, _), (4, _), (6, _)]) ⟨rfl, rfl, rfl, rfl, rfl, rfl, trivial⟩ ?_
        rw [show nI i + 1 = nI (i + 1) from nI_1 i]
        have ih2 := ih I2 J2 (FrS.tr f1 f2)
        rw [c9.1, show mo f (i + 1) = mo f i from by rw [mo_s, c9.1]; unfold mo; rw [if_neg (by omega)]] at ih2
        exact ih2
      · have c9 := bw_F hfb (fun q => c68 (lgc_le.mpr q))
        refine V_ll i_X10_favours_71 rfl ?_
        refine V_ls (L' := [(0, _), (1, _), (2, _), (4, _), (6, _)]) i_X10_favours_73 (by decide) ⟨rfl, rfl, rfl, rfl, rfl, trivial⟩ ?_
        refine V_il i_X10_favours_75 rfl ?_
        refine V_is (L' := [(0, _), (1, _), (2, _), (3, _), (4, _), (6, _)]) i_X10_favours_77 (by decide) ⟨rfl, rfl, rfl, rfl, rfl, rfl, trivial⟩ ?_
        refine V_iinc (L' := [(0, _), (1, _), (2, _), (3, _), (4, _), (6, _)]) (n' := 1) i_X10_favours_78 (by decide) rfl (by decide) ⟨rfl, rfl, rfl, rfl, rfl, rfl, trivial⟩ ?_
        refine V_goto i_X10_favours_81 ?_
        refine V_L (L' := [(0, _), (1, _), (2, _), (3, _), (4, _), (6, _)]) ⟨rfl, rfl, rfl, rfl, rfl, rfl, trivial⟩ ?_
        rw [show nI i + 1 = nI (i + 1) from nI_1 i]
        have ih2 := ih I2 J2 (FrS.tr f1 f2)
        rw [mo_s, c9] at ih2
        exact ih2
  exact key 0 (Nat.zero_le _) I J FrS.rf
set_option maxRecDepth 100000 in
set_option maxHeartbeats 4000000 in
theorem c_favours (I : IntM) (J : LngM) {n : Nat} {kd nd od : Nat → Nat} {lw pot : Nat} (hK : CK I n kd nd od lw pot) {k how : Nat} (hh : how ≤ 1) (hk : k < n) : CtP 5 m_X10_favours [.ref 0, .int (nI k), .int (nI how)] I J (QC I J (.int (nI (bw (mvT kd nd lw how (pot * un how) od n k) n))) none (some (((mvT kd nd lw how (pot * un how) od n k (bw (mvT kd nd lw how (pot * un how) od n k) n) : Nat) : Int), un how)) none) := by
  refine CtP_of (by decide) rfl (Nat.le_of_ble_eq_true rfl) ?_
  refine V_al i_X10_favours_0 rfl ?_
  refine V_getR i_X10_favours_1 rfl rfl ?_
  refine V_il i_X10_favours_4 rfl ?_
  refine P_callV1v i_X10_favours_5 mi_X0_has rfl ⟨_, _, rfl⟩ (by decide) (Nat.le_of_ble_eq_true rfl) (c_C_has _ _ hK.sz _) ?_
  refine V_if_eq_f i_X10_favours_8 (by rw [hasC_nI hK.n7 hk]; decide) ?_
  refine V_il i_X10_favours_11 rfl ?_
  refine P_callS1v i_X10_favours_12 ms_X10_isHow (by decide) (Nat.le_of_ble_eq_true rfl) (c_isHow _ _ _) ?_
  refine V_if_ne_t i_X10_favours_15 (by rw [howv_nI hh]; decide) ?_
  refine V_c i_X10_favours_20 ?_
  refine V_is (L' := [(0, _), (1, _), (2, _), (3, _)]) i_X10_favours_21 (by decide) ⟨rfl, rfl, rfl, rfl, trivial⟩ ?_
  refine V_cl i_X10_favours_22 ?_
  refine V_ls (L' := [(0, _), (1, _), (2, _), (3, _), (4, _)]) i_X10_favours_25 (by decide) ⟨rfl, rfl, rfl, rfl, rfl, trivial⟩ ?_
  refine V_c i_X10_favours_27 ?_
  refine V_is (L' := [(0, _), (1, _), (2, _), (3, _), (4, _), (6, _)]) i_X10_favours_28 (by decide) ⟨rfl, rfl, rfl, rfl, rfl, rfl, trivial⟩ ?_
  refine V_L (L' := [(0, _), (1, _), (2, _), (3, _), (4, _), (6, _)]) ⟨rfl, rfl, rfl, rfl, rfl, rfl, trivial⟩ ?_
  refine lp_favours I J hK hh hk rfl _ (fun I1 J1 f1 => ?_)
  have k1 := FrS.K (Or.inl rfl) f1 hK
  refine V_al i_X10_favours_84 rfl ?_
  refine V_ll i_X10_favours_85 rfl ?_
  refine V_il i_X10_favours_87 rfl ?_
  rw [show mo (mvT kd nd lw how (pot * un how) od n k) n = _ from if_neg (by omega), lZ_N]
  refine P_callV2u i_X10_favours_88 mi_X10_tellShare rfl ⟨_, _, rfl⟩ (by decide) (Nat.le_of_ble_eq_true rfl) (c_tellS I1 J1 hh (by rw [Int.natAbs_natCast]; exact Nat.lt_trans (tkB hK.p9 _) (by decide))) ?_
  refine V_il i_X10_favours_91 rfl ?_
  exact P_iret i_X10_favours_92 rfl ⟨rfl, I1, J1, FrS.C (by decide) (by decide) f1, k1.Z, rfl, rfl⟩
def tuT (kd nd : Nat → Nat) (lw how P : Nat) (od : Nat → Nat) (n k t : Nat) : Nat := tkS kd nd lw how P (fun i => od ((i + t) % n)) (plN (fun i => od ((i + t) % n)) k n)
set_option maxRecDepth 100000 in
set_option maxHeartbeats 4000000 in
theorem lp_week (I : IntM) (J : LngM) {n : Nat} {kd nd od : Nat → Nat} {lw pot : Nat} (hK : CK I n kd nd od lw pot) {k how dd : Nat} (hh : how ≤ 1) (hk : k < n) (hdd : dd ≤ 7) (hs : SQ I 21 n kd nd) (hr : SR I J 21 lw how (pot * un how)) (Q : Option Value → IntM → LngM → Prop) (hq : ∀ I1 J1, FrS 21 I J I1 J1 → VP m_X10_week 5 122 [(0, .ref 0), (3, .int (nI how)), (4, .long (lN (sumN (tuT kd nd lw how (pot * un how) od n k) dd)))] [] I1 J1 Q) : VP m_X10_week 5 70 [(0, .ref 0), (1, .int (nI k)), (2, .int (nI dd)), (3, .int (nI how)), (4, .long 0), (6, .int 0)] [] I J Q := by
  have key : ∀ i, i ≤ dd → ∀ I1 J1, FrS 21 I J I1 J1 → SQ I1 21 n kd nd → SR I1 J1 21 lw how (pot * un how) → VP m_X10_week 5 70 [(0, .ref 0), (1, .int (nI k)), (2, .int (nI dd)), (3, .int (nI how)), (4, .long (lN (sumN (tuT kd nd lw how (pot * un how) od n k) i))), (6, .int (nI i))] [] I1 J1 Q := by
    refine down dd ?_ (fun i hi ih => ?_)
    · intro I1 J1 f1 s1 r1
      refine V_il i_X10_week_70 rfl ?_
      refine V_il i_X10_week_72 rfl ?_
      refine V_ic_ge_t i_X10_week_73 (Int32.le_refl _) ?_
      exact V_L (L' := [(0, _), (3, _), (4, _)]) ⟨rfl, rfl, rfl, trivial⟩ (hq I1 J1 f1)
    · intro I1 J1 f1 s1 r1
      have k1 := FrS.K (Or.inl rfl) f1 hK
      have z1 := k1.Z21
      refine V_il i_X10_week_70 rfl ?_
      refine V_il i_X10_week_72 rfl ?_
      refine V_ic_ge_f i_X10_week_73 (nI_ge hi (by omega)) ?_
      refine V_al i_X10_week_76 rfl ?_
      refine V_getR i_X10_week_77 rfl rfl ?_
      refine V_al i_X10_week_80 rfl ?_
      refine V_getR i_X10_week_81 rfl rfl ?_
      refine V_getR i_X10_week_84 rfl rfl ?_
      refine V_il i_X10_week_87 rfl ?_
      refine P_callV2 i_X10_week_89 mi_X7_seatTurned rfl ⟨_, _, rfl⟩ (by decide) (Nat.le_of_ble_eq_true rfl) (q_turn I1 J1 LS_21 z1 k1.n7 s1 r1 (y := 13) ⟨rfl, rfl, rfl, by decide⟩ k1.z13 (by decide) k1.od (show i ≤ 100 by omega)) (fun r I2 J2 q => ?_)
      obtain ⟨rfl, f2, s2, r2, a2, -⟩ := q
      have k2 : CK I2 n kd nd od lw pot := FrS.K (by decide) f2 k1
      have z2 := FrS.Z f2 z1
      refine V_al i_X10_week_92 rfl ?_
      refine V_getR i_X10_week_93 rfl rfl ?_
      refine V_c i_X10_week_96 ?_
      refine P_callV1 i_X10_week_97 mi_X7_serve rfl ⟨_, _, rfl⟩ (by decide) (Nat.le_of_ble_eq_true rfl) (q_serve I2 J2 LS_21 z2 k2.n7 hh k2.l3 k2.p9 k2.kd k2.nd (Pm_turn k2.P i) s2 r2 a2) (fun r I3 J3 q => ?_)
      obtain ⟨rfl, f3, s3, r3, a3, d3⟩ := q
      have k3 : CK I3 n kd nd od lw pot := FrS.K (by decide) f3 k2
      have z3 := FrS.Z f3 z2
      refine V_ll i_X10_week_100 rfl ?_
      refine V_al i_X10_week_102 rfl ?_
      refine V_getR i_X10_week_103 rfl rfl ?_
      refine V_getR i_X10_week_106 rfl rfl ?_
      refine V_il i_X10_week_109 rfl ?_
      refine P_callV1v i_X10_week_110 mi_X4_get rfl ⟨_, _, rfl⟩ (by decide) (Nat.le_of_ble_eq_true rfl) (c_L_get _ _ (x := 28) (n := 7) ⟨rfl, rfl, rfl, by decide⟩ (k := k) (by have := hK.n7; omega)) ?_
      rw [show J3 (28 + 1) k = lN (tuT kd nd lw how (pot * un how) od n k i) from d3.2 k hk]
      refine V_ladd i_X10_week_113 ?_
      rw [lN_add]
      refine V_ls (L' := [(0, _), (1, _), (2, _), (3, _), (4, _), (6, _)]) i_X10_week_114 (by decide) ⟨rfl, rfl, rfl, rfl, rfl, rfl, trivial⟩ ?_
      refine V_iinc (L' := [(0, _), (1, _), (2, _), (3, _), (4, _), (6, _)]) (n' := 1) i_X10_week_116 (by decide) rfl (by decide) ⟨rfl, rfl, rfl, rfl, rfl, rfl, trivial⟩ ?_
      refine V_goto i_X10_week_119 ?_
      refine V_L (L' := [(0, _), (1, _), (2, _), (3, _), (4, _), (6, _)]) ⟨rfl, rfl, rfl, rfl, rfl, rfl, trivial⟩ ?_
      rw [show nI i + 1 = nI (i + 1) from nI_1 i]
      exact ih I3 J3 (FrS.tr f1 (FrS.tr f2 f3)) s3 r3
  exact key 0 (Nat.zero_le _) I J FrS.rf hs hr
theorem week_b {kd nd od : Nat → Nat} {lw how pot n k dd : Nat} (hp : pot ≤ 999) (hd : dd ≤ 7) : sumN (tuT kd nd lw how (pot * un how) od n k) dd < 2 ^ 62 := by
  have h := sumN_le (f := tuT kd nd lw how (pot * un how) od n k) (c := 2 ^ 43) (n := dd) (fun q _ => Nat.le_of_lt (tkB hp _))
  have h2 := Nat.mul_le_mul_right (2 ^ 43) hd
  omega
theorem nI_ge1 {a : Nat} (h : 1 ≤ a) (h7 : a ≤ 7) : ¬ nI a < 1 := nI_nlt (b := 1) h (by omega)
set_option maxRecDepth 100000 in
set_option maxHeartbeats 4000000 in
theorem c_week (I : IntM) (J : LngM) {n : Nat} {kd nd od : Nat → Nat} {lw pot : Nat} (hK : CK I n kd nd od lw pot) {k how dd : Nat} (hh : how ≤ 1) (hk : k < n) (hd1 : 1 ≤ dd) (hdd : dd ≤ 7) : CtP 5 m_X10_week [.ref 0, .int (nI k), .int (nI dd), .int (nI how)] I J (QC I J (.int 1) none (some (((sumN (tuT kd nd lw how (pot * un how) od n k) dd : Nat) : Int), un how)) none) := by
  refine CtP_of (by decide) rfl (Nat.le_of_ble_eq_true rfl) ?_
  have k0 := hK
  have z0 := hK.Z21
  refine V_al i_X10_week_0 rfl ?_
  refine V_getR i_X10_week_1 rfl rfl ?_
  refine V_il i_X10_week_4 rfl ?_
  refine P_callV1v i_X10_week_5 mi_X0_has rfl ⟨_, _, rfl⟩ (by decide) (Nat.le_of_ble_eq_true rfl) (c_C_has _ _ hK.sz _) ?_
  refine V_if_eq_f i_X10_week_8 (by rw [hasC_nI hK.n7 hk]; decide) ?_
  refine V_il i_X10_week_11 rfl ?_
  refine V_c i_X10_week_12 ?_
  refine V_ic_lt_f i_X10_week_13 (nI_ge1 hd1 hdd) ?_
  refine V_il i_X10_week_16 rfl ?_
  refine V_c i_X10_week_17 ?_
  refine V_ic_gt_f i_X10_week_19 (nI_nlt hdd (by decide)) ?_
  refine V_il i_X10_week_22 rfl ?_
  refine P_callS1v i_X10_week_23 ms_X10_isHow (by decide) (Nat.le_of_ble_eq_true rfl) (c_isHow _ _ _) ?_
  refine V_if_ne_t i_X10_week_26 (by rw [howv_nI hh]; decide) ?_
  refine V_al i_X10_week_31 rfl ?_
  refine V_getR i_X10_week_32 rfl rfl ?_
  refine V_al i_X10_week_35 rfl ?_
  refine V_getR i_X10_week_36 rfl rfl ?_
  refine P_callV1 i_X10_week_39 mi_X7_invite rfl ⟨_, _, rfl⟩ (by decide) (Nat.le_of_ble_eq_true rfl) (q_invite I J LS_21 z0 k0.n7 k0.C) (fun r I1 J1 q => ?_)
  obtain ⟨rfl, f1, s1, -⟩ := q
  have k1 : CK I1 n kd nd od lw pot := FrS.K (by decide) f1 k0
  have z1 := FrS.Z f1 z0
  refine V_al i_X10_week_42 rfl ?_
  refine V_getR i_X10_week_43 rfl rfl ?_
  refine V_al i_X10_week_46 rfl ?_
  refine V_getR i_X10_week_47 rfl rfl ?_
  refine V_getI i_X10_week_50 rfl ?_
  rw [k1.lw]
  refine V_il i_X10_week_53 rfl ?_
  refine V_al i_X10_week_54 rfl ?_
  refine V_getR i_X10_week_55 rfl rfl ?_
  refine V_getI i_X10_week_58 rfl ?_
  rw [k1.pt]
  refine P_callV3 i_X10_week_61 mi_X7_rules rfl ⟨_, _, rfl⟩ (by decide) (Nat.le_of_ble_eq_true rfl) (q_rules I1 J1 LS_21 z1 hh k1.p9 s1) (fun r I2 J2 q => ?_)
  obtain ⟨rfl, f2, s2, r2, -⟩ := q
  have k2 : CK I2 n kd nd od lw pot := FrS.K (by decide) f2 k1
  have z2 := FrS.Z f2 z1
  refine V_cl i_X10_week_64 ?_
  refine V_ls (L' := [(0, _), (1, _), (2, _), (3, _), (4, _)]) i_X10_week_65 (by decide) ⟨rfl, rfl, rfl, rfl, rfl, trivial⟩ ?_
  refine V_c i_X10_week_67 ?_
  refine V_is (L' := [(0, _), (1, _), (2, _), (3, _), (4, _), (6, _)]) i_X10_week_68 (by decide) ⟨rfl, rfl, rfl, rfl, rfl, rfl, trivial⟩ ?_
  refine V_L (L' := [(0, _), (1, _), (2, _), (3, _), (4, _), (6, _)]) ⟨rfl, rfl, rfl, rfl, rfl, rfl, trivial⟩ ?_
  refine lp_week I2 J2 k2 hh hk hdd s2 r2 _ (fun I3 J3 f3 => ?_)
  refine V_al i_X10_week_122 rfl ?_
  refine V_ll i_X10_week_123 rfl ?_
  refine V_il i_X10_week_125 rfl ?_
  rw [lZ_N]
  refine P_callV2u i_X10_week_126 mi_X10_tellShare rfl ⟨_, _, rfl⟩ (by decide) (Nat.le_of_ble_eq_true rfl) (c_tellS I3 J3 hh (by rw [Int.natAbs_natCast]; exact week_b hK.p9 hdd)) ?_
  refine V_c i_X10_week_129 ?_
  exact P_iret i_X10_week_130 rfl ⟨rfl, I3, J3, FrS.C (by decide) (by decide) (FrS.tr f1 (FrS.tr f2 f3)), (FrS.K (by decide) f3 k2).Z, rfl, rfl⟩
set_option maxRecDepth 100000 in
set_option maxHeartbeats 4000000 in
theorem c_week0 (I : IntM) (J : LngM) {n : Nat} {kd nd od : Nat → Nat} {lw pot : Nat} (hK : CK I n kd nd od lw pot) {x y z : Int32} (h : hasC n x = 0 ∨ y < 1 ∨ 7 < y ∨ howv z = 0) : CtP 5 m_X10_week [.ref 0, .int x, .int y, .int z] I J (QC I J (.int (-1)) none none none) := by
  refine CtP_of (by decide) rfl (Nat.le_of_ble_eq_true rfl) ?_
  refine V_al i_X10_week_0 rfl ?_
  refine V_getR i_X10_week_1 rfl rfl ?_
  refine V_il i_X10_week_4 rfl ?_
  refine P_callV1v i_X10_week_5 mi_X0_has rfl ⟨_, _, rfl⟩ (by decide) (Nat.le_of_ble_eq_true rfl) (c_C_has _ _ hK.sz _) ?_
  refine V_if_eq i_X10_week_8 (fun c8 => ?_) (fun c8 => ?_)
  · refine V_c i_X10_week_29 ?_
    exact P_iret i_X10_week_30 rfl ⟨rfl, I, J, FrC.rf, hK.Z, rfl, rfl⟩
  · refine V_il i_X10_week_11 rfl ?_
    refine V_c i_X10_week_12 ?_
    refine V_ic_lt i_X10_week_13 (fun c13 => ?_) (fun c13 => ?_)
    · refine V_c i_X10_week_29 ?_
      exact P_iret i_X10_week_30 rfl ⟨rfl, I, J, FrC.rf, hK.Z, rfl, rfl⟩
    · refine V_il i_X10_week_16 rfl ?_
      refine V_c i_X10_week_17 ?_
      refine V_ic_gt i_X10_week_19 (fun c19 => ?_) (fun c19 => ?_)
      · refine V_c i_X10_week_29 ?_
        exact P_iret i_X10_week_30 rfl ⟨rfl, I, J, FrC.rf, hK.Z, rfl, rfl⟩
      · refine V_il i_X10_week_22 rfl ?_
        refine P_callS1v i_X10_week_23 ms_X10_isHow (by decide) (Nat.le_of_ble_eq_true rfl) (c_isHow _ _ _) ?_
        refine V_if_ne_f i_X10_week_26 (by rcases h with h | h | h | h; exact absurd h c8; exact absurd h c13; exact absurd h c19; exact h) ?_
        refine V_c i_X10_week_29 ?_
        exact P_iret i_X10_week_30 rfl ⟨rfl, I, J, FrC.rf, hK.Z, rfl, rfl⟩
def twT (kd nd : Nat → Nat) (lw how P : Nat) (od : Nat → Nat) (n k : Nat) : Nat := tkS kd nd lw how P od (plN od k n) + tkS kd nd lw how P (fun i => od (n - 1 - i)) (plN (fun i => od (n - 1 - i)) k n)
def twE (kd nd : Nat → Nat) (lw how P : Nat) (od : Nat → Nat) (n k : Nat) : Bool := decide (nd k * un how ≤ twT kd nd lw how P od n k)
set_option maxRecDepth 100000 in
set_option maxHeartbeats 4000000 in
theorem lp_two (I8 : IntM) (J8 : LngM) {n : Nat} {kd nd od : Nat → Nat} {lw pot : Nat} (hK : CK I8 n kd nd od lw pot) {how : Nat} (hh : how ≤ 1) (e1 : ∀ k, k < n → J8 29 k = lN (tkS kd nd lw how (pot * un how) od (plN od k n))) (d8 : SvD I8 J8 34 n kd nd lw how (pot * un how) (fun i => od (n - 1 - i))) (Q : Option Value → IntM → LngM → Prop) (hq : VP m_X10_two 4 195 [(0, .ref 0), (2, .int (nI (setN (twE kd nd lw how (pot * un how) od n) n)))] [] I8 J8 Q) : VP m_X10_two 4 124 [(0, .ref 0), (1, .int (nI how)), (2, .int 0), (3, .int 0)] [] I8 J8 Q := by
  have k8 := hK
  have key : ∀ i, i ≤ n → VP m_X10_two 4 124 [(0, .ref 0), (1, .int (nI how)), (2, .int (nI (setN (twE kd nd lw how (pot * un how) od n) i))), (3, .int (nI i))] [] I8 J8 Q := by
    refine down n ?_ (fun i hi ih => ?_)
    · refine V_il i_X10_two_124 rfl ?_
      refine V_al i_X10_two_125 rfl ?_
      refine V_getR i_X10_two_126 rfl rfl ?_
      refine V_getI i_X10_two_129 rfl ?_
      refine V_ic_ge_t i_X10_two_132 (by rw [k8.sz]; exact Int32.le_refl _) ?_
      exact V_L (L' := [(0, _), (2, _)]) ⟨rfl, rfl, trivial⟩ hq
    · have hnd := hK.nd i hi
      have b0 := Nat.mul_le_mul hnd (un_le how)
      have b1 := tkB (kd := kd) (nd := nd) (lw := lw) (how := how) (ln := od) hK.p9 (plN od i n)
      have b2 := tkB (kd := kd) (nd := nd) (lw := lw) (how := how) (ln := fun i => od (n - 1 - i)) hK.p9 (plN (fun i => od (n - 1 - i)) i n)
      refine V_il i_X10_two_124 rfl ?_
      refine V_al i_X10_two_125 rfl ?_
      refine V_getR i_X10_two_126 rfl rfl ?_
      refine V_getI i_X10_two_129 rfl ?_
      refine V_ic_ge_f i_X10_two_132 (by rw [k8.sz]; exact nI_ge hi (by have := hK.n7; omega)) ?_
      refine V_al i_X10_two_135 rfl ?_
      refine V_getR i_X10_two_136 rfl rfl ?_
      refine V_getR i_X10_two_139 rfl rfl ?_
      refine V_il i_X10_two_142 rfl ?_
      refine P_callV1v i_X10_two_143 mi_X4_get rfl ⟨_, _, rfl⟩ (by decide) (Nat.le_of_ble_eq_true rfl) (c_L_get _ _ (x := 28) (n := 7) ⟨rfl, rfl, rfl, by decide⟩ (k := i) (by have := hK.n7; omega)) ?_
      refine V_al i_X10_two_146 rfl ?_
      refine V_getR i_X10_two_147 rfl rfl ?_
      refine V_getR i_X10_two_150 rfl rfl ?_
      refine V_il i_X10_two_153 rfl ?_
      refine P_callV1v i_X10_two_154 mi_X4_get rfl ⟨_, _, rfl⟩ (by decide) (Nat.le_of_ble_eq_true rfl) (c_L_get _ _ (x := 41) (n := 7) ⟨rfl, rfl, rfl, by decide⟩ (k := i) (by have := hK.n7; omega)) ?_
      rw [show J8 (28 + 1) i = lN (tkS kd nd lw how (pot * un how) od (plN od i n)) from e1 i hi, show J8 (41 + 1) i = lN (tkS kd nd lw how (pot * un how) (fun i => od (n - 1 - i)) (plN (fun i => od (n - 1 - i)) i n)) from d8.2 i hi]
      refine V_ladd i_X10_two_157 ?_
      rw [lN_add]
      refine V_ls (L' := [(0, _), (1, _), (2, _), (3, _), (4, _)]) i_X10_two_158 (by decide) ⟨rfl, rfl, rfl, rfl, rfl, trivial⟩ ?_
      refine V_ll i_X10_two_160 rfl ?_
      refine V_al i_X10_two_162 rfl ?_
      refine V_getR i_X10_two_163 rfl rfl ?_
      refine V_getR i_X10_two_166 rfl rfl ?_
      refine V_il i_X10_two_169 rfl ?_
      refine P_callV1v i_X10_two_170 mi_X3_get rfl ⟨_, _, rfl⟩ (by decide) (Nat.le_of_ble_eq_true rfl) (c_I_getN (x := 11) (n := 7) (s := 7) (k := i) _ _ ⟨rfl, rfl, rfl, by decide⟩ k8.C.2.2.2.2.2.1 rfl (by have := hK.n7; omega) (by decide)) ?_
      rw [show I8 (11 + 1) i = nI (nd i) from k8.C.2.2.1 i hi]
      refine V_i2l i_X10_two_173 ?_
      rw [nI_long (by omega)]
      refine V_il i_X10_two_174 rfl ?_
      refine P_callS1v i_X10_two_175 ms_X8_unit (by decide) (Nat.le_of_ble_eq_true rfl) (c_unit _ _ hh) ?_
      refine V_lmul i_X10_two_178 ?_
      rw [lN_mul]
      refine V_lcmp i_X10_two_179 ?_
      refine V_if_lt i_X10_two_180 (fun c180 => ?_) (fun c180 => ?_)
      · have c9 : ¬ twE kd nd lw how (pot * un how) od n i = true := fun q => by have q2 := of_decide_eq_true q; unfold twT at q2; have := (pk_lLT (by omega) (by omega)).mp (lgc_lt.mp c180); omega
        refine V_iinc (L' := [(0, _), (1, _), (2, _), (3, _)]) (n' := 1) i_X10_two_189 (by decide) rfl (by decide) ⟨rfl, rfl, rfl, rfl, trivial⟩ ?_
        refine V_goto i_X10_two_192 ?_
        refine V_L (L' := [(0, _), (1, _), (2, _), (3, _)]) ⟨rfl, rfl, rfl, rfl, trivial⟩ ?_
        rw [show nI i + 1 = nI (i + 1) from nI_1 i]
        have ih2 := ih
        rw [show setN (twE kd nd lw how (pot * un how) od n) (i + 1) = setN (twE kd nd lw how (pot * un how) od n) i from if_neg c9] at ih2
        exact ih2
      · have c9 : twE kd nd lw how (pot * un how) od n i = true := decide_eq_true (by unfold twT; exact Nat.le_of_not_lt (fun q => c180 (lgc_lt.mpr ((pk_lLT (by omega) (by omega)).mpr q))))
        refine V_il i_X10_two_183 rfl ?_
        refine V_c i_X10_two_184 ?_
        refine V_il i_X10_two_185 rfl ?_
        refine V_ishl i_X10_two_186 ?_
        rw [shl1 (by have := hK.n7; omega)]
        refine V_ior i_X10_two_187 ?_
        rw [or_nI]
        refine V_is (L' := [(0, _), (1, _), (2, _), (3, _)]) i_X10_two_188 (by decide) ⟨rfl, rfl, rfl, rfl, trivial⟩ ?_
        refine V_iinc (L' := [(0, _), (1, _), (2, _), (3, _)]) (n' := 1) i_X10_two_189 (by decide) rfl (by decide) ⟨rfl, rfl, rfl, rfl, trivial⟩ ?_
        refine V_goto i_X10_two_192 ?_
        refine V_L (L' := [(0, _), (1, _), (2, _), (3, _)]) ⟨rfl, rfl, rfl, rfl, trivial⟩ ?_
        rw [show nI i + 1 = nI (i + 1) from nI_1 i]
        have ih2 := ih
        rw [show setN (twE kd nd lw how (pot * un how) od n) (i + 1) = setN (twE kd nd lw how (pot * un how) od n) i ||| 2 ^ i from if_pos c9] at ih2
        exact ih2
  exact key 0 (Nat.zero_le _)
set_option maxRecDepth 100000 in
set_option maxHeartbeats 4000000 in
theorem c_two (I : IntM) (J : LngM) {n : Nat} {kd nd od : Nat → Nat} {lw pot : Nat} (hK : CK I n kd nd od lw pot) {how : Nat} (hh : how ≤ 1) : CtP 4 m_X10_two [.ref 0, .int (nI how)] I J (QC I J (.int (nI (setN (twE kd nd lw how (pot * un how) od n) n))) (some (nI (popc (setN (twE kd nd lw how (pot * un how) od n) n)))) none none) := by
  refine CtP_of (by decide) rfl (Nat.le_of_ble_eq_true rfl) ?_
  have k0 := hK
  have z0 := hK.Z21
  refine V_il i_X10_two_0 rfl ?_
  refine P_callS1v i_X10_two_1 ms_X10_isHow (by decide) (Nat.le_of_ble_eq_true rfl) (c_isHow _ _ _) ?_
  refine V_if_ne_t i_X10_two_4 (by rw [howv_nI hh]; decide) ?_
  refine V_al i_X10_two_9 rfl ?_
  refine V_getR i_X10_two_10 rfl rfl ?_
  refine V_al i_X10_two_13 rfl ?_
  refine V_getR i_X10_two_14 rfl rfl ?_
  refine P_callV1 i_X10_two_17 mi_X7_invite rfl ⟨_, _, rfl⟩ (by decide) (Nat.le_of_ble_eq_true rfl) (q_invite I J LS_21 z0 k0.n7 k0.C) (fun r I1 J1 q => ?_)
  obtain ⟨rfl, f1, s1, -⟩ := q
  have k1 : CK I1 n kd nd od lw pot := FrS.K (by decide) f1 k0
  have z1 := FrS.Z f1 z0
  refine V_al i_X10_two_20 rfl ?_
  refine V_getR i_X10_two_21 rfl rfl ?_
  refine V_al i_X10_two_24 rfl ?_
  refine V_getR i_X10_two_25 rfl rfl ?_
  refine V_getI i_X10_two_28 rfl ?_
  rw [k1.lw]
  refine V_il i_X10_two_31 rfl ?_
  refine V_al i_X10_two_32 rfl ?_
  refine V_getR i_X10_two_33 rfl rfl ?_
  refine V_getI i_X10_two_36 rfl ?_
  rw [k1.pt]
  refine P_callV3 i_X10_two_39 mi_X7_rules rfl ⟨_, _, rfl⟩ (by decide) (Nat.le_of_ble_eq_true rfl) (q_rules I1 J1 LS_21 z1 hh k1.p9 s1) (fun r I2 J2 q => ?_)
  obtain ⟨rfl, f2, s2, r2, -⟩ := q
  have k2 : CK I2 n kd nd od lw pot := FrS.K (by decide) f2 k1
  have z2 := FrS.Z f2 z1
  refine V_al i_X10_two_42 rfl ?_
  refine V_getR i_X10_two_43 rfl rfl ?_
  refine V_al i_X10_two_46 rfl ?_
  refine V_getR i_X10_two_47 rfl rfl ?_
  refine V_getR i_X10_two_50 rfl rfl ?_
  refine V_c i_X10_two_53 ?_
  refine P_callV2 i_X10_two_54 mi_X7_seatTurned rfl ⟨_, _, rfl⟩ (by decide) (Nat.le_of_ble_eq_true rfl) (q_turn0 I2 J2 LS_21 z2 k2.n7 s2 r2 (y := 13) ⟨rfl, rfl, rfl, by decide⟩ k2.z13 (by decide) k2.od) (fun r I3 J3 q => ?_)
  obtain ⟨rfl, f3, s3, r3, a3, -⟩ := q
  have k3 : CK I3 n kd nd od lw pot := FrS.K (by decide) f3 k2
  have z3 := FrS.Z f3 z2
  refine V_al i_X10_two_57 rfl ?_
  refine V_getR i_X10_two_58 rfl rfl ?_
  refine V_c i_X10_two_61 ?_
  refine P_callV1 i_X10_two_62 mi_X7_serve rfl ⟨_, _, rfl⟩ (by decide) (Nat.le_of_ble_eq_true rfl) (q_serve I3 J3 LS_21 z3 k3.n7 hh k3.l3 k3.p9 k3.kd k3.nd k3.P s3 r3 a3) (fun r I4 J4 q => ?_)
  obtain ⟨rfl, f4, s4, r4, a4, d4⟩ := q
  have k4 : CK I4 n kd nd od lw pot := FrS.K (by decide) f4 k3
  have z4 := FrS.Z f4 z3
  refine V_al i_X10_two_65 rfl ?_
  refine V_getR i_X10_two_66 rfl rfl ?_
  refine V_al i_X10_two_69 rfl ?_
  refine V_getR i_X10_two_70 rfl rfl ?_
  have z4 := k4.Z34
  refine P_callV1 i_X10_two_73 mi_X7_invite rfl ⟨_, _, rfl⟩ (by decide) (Nat.le_of_ble_eq_true rfl) (q_invite I4 J4 LS_34 z4 k4.n7 k4.C) (fun r I5 J5 q => ?_)
  obtain ⟨rfl, f5, s5, -⟩ := q
  have k5 : CK I5 n kd nd od lw pot := FrS.K (by decide) f5 k4
  have z5 := FrS.Z f5 z4
  have g5 : FrC I J I5 J5 := FrC.tr (FrS.C (by decide) (by decide) (FrS.tr (FrS.tr (FrS.tr f1 f2) f3) f4)) (FrS.C (by decide) (by decide) f5)
  refine V_al i_X10_two_76 rfl ?_
  refine V_getR i_X10_two_77 rfl rfl ?_
  refine V_al i_X10_two_80 rfl ?_
  refine V_getR i_X10_two_81 rfl rfl ?_
  refine V_getI i_X10_two_84 rfl ?_
  rw [k5.lw]
  refine V_il i_X10_two_87 rfl ?_
  refine V_al i_X10_two_88 rfl ?_
  refine V_getR i_X10_two_89 rfl rfl ?_
  refine V_getI i_X10_two_92 rfl ?_
  rw [k5.pt]
  refine P_callV3 i_X10_two_95 mi_X7_rules rfl ⟨_, _, rfl⟩ (by decide) (Nat.le_of_ble_eq_true rfl) (q_rules I5 J5 LS_34 z5 hh k5.p9 s5) (fun r I6 J6 q => ?_)
  obtain ⟨rfl, f6, s6, r6, -⟩ := q
  have k6 : CK I6 n kd nd od lw pot := FrS.K (by decide) f6 k5
  have z6 := FrS.Z f6 z5
  refine V_al i_X10_two_98 rfl ?_
  refine V_getR i_X10_two_99 rfl rfl ?_
  refine V_al i_X10_two_102 rfl ?_
  refine V_getR i_X10_two_103 rfl rfl ?_
  refine V_getR i_X10_two_106 rfl rfl ?_
  refine P_callV1 i_X10_two_109 mi_X7_seatBackwards rfl ⟨_, _, rfl⟩ (by decide) (Nat.le_of_ble_eq_true rfl) (q_back I6 J6 LS_34 z6 k6.n7 s6 r6 (y := 13) ⟨rfl, rfl, rfl, by decide⟩ k6.z13 (by decide) k6.od) (fun r I7 J7 q => ?_)
  obtain ⟨rfl, f7, s7, r7, a7, -⟩ := q
  have k7 : CK I7 n kd nd od lw pot := FrS.K (by decide) f7 k6
  have z7 := FrS.Z f7 z6
  refine V_al i_X10_two_112 rfl ?_
  refine V_getR i_X10_two_113 rfl rfl ?_
  refine V_c i_X10_two_116 ?_
  refine P_callV1 i_X10_two_117 mi_X7_serve rfl ⟨_, _, rfl⟩ (by decide) (Nat.le_of_ble_eq_true rfl) (q_serve I7 J7 LS_34 z7 k7.n7 hh k7.l3 k7.p9 k7.kd k7.nd (Pm_back k7.P) s7 r7 a7) (fun r I8 J8 q => ?_)
  obtain ⟨rfl, f8, s8, r8, a8, d8⟩ := q
  have k8 : CK I8 n kd nd od lw pot := FrS.K (by decide) f8 k7
  have z8 := FrS.Z f8 z7
  refine V_c i_X10_two_120 ?_
  refine V_is (L' := [(0, _), (1, _), (2, _)]) i_X10_two_121 (by decide) ⟨rfl, rfl, rfl, trivial⟩ ?_
  refine V_c i_X10_two_122 ?_
  refine V_is (L' := [(0, _), (1, _), (2, _), (3, _)]) i_X10_two_123 (by decide) ⟨rfl, rfl, rfl, rfl, trivial⟩ ?_
  refine V_L (L' := [(0, _), (1, _), (2, _), (3, _)]) ⟨rfl, rfl, rfl, rfl, trivial⟩ ?_
  have e1 : ∀ k, k < n → J8 29 k = lN (tkS kd nd lw how (pot * un how) od (plN od k n)) := fun k hk => by rw [(FrS.tr (FrS.tr (FrS.tr f5 f6) f7) f8).2 29 k (by omega)]; exact d4.2 k hk
  refine lp_two I8 J8 k8 hh e1 d8 _ ?_
  refine V_al i_X10_two_195 rfl ?_
  refine V_il i_X10_two_196 rfl ?_
  refine P_callV1v i_X10_two_197 mi_X10_tellBits rfl ⟨_, _, rfl⟩ (by decide) (Nat.le_of_ble_eq_true rfl) (c_tellB I8 _ _) ?_
  exact P_iret i_X10_two_200 rfl ⟨rfl, I8, J8, FrC.tr g5 (FrS.C (by decide) (by decide) (FrS.tr (FrS.tr f6 f7) f8)), k8.Z, by rw [bc_tab _ (setN_lt _ n hK.n7)]; rfl, rfl⟩
set_option maxRecDepth 100000 in
set_option maxHeartbeats 4000000 in
theorem c_two0 (I : IntM) (J : LngM) {n : Nat} {kd nd od : Nat → Nat} {lw pot : Nat} (hK : CK I n kd nd od lw pot) {x : Int32} (h : howv x = 0) : CtP 4 m_X10_two [.ref 0, .int x] I J (QC I J (.int (-1)) none none none) := by
  refine CtP_of (by decide) rfl (Nat.le_of_ble_eq_true rfl) ?_
  refine V_il i_X10_two_0 rfl ?_
  refine P_callS1v i_X10_two_1 ms_X10_isHow (by decide) (Nat.le_of_ble_eq_true rfl) (c_isHow _ _ _) ?_
  refine V_if_ne_f i_X10_two_4 h ?_
  refine V_c i_X10_two_7 ?_
  exact P_iret i_X10_two_8 rfl ⟨rfl, I, J, FrC.rf, hK.Z, rfl, rfl⟩
def bwK (c t : Nat → Nat) : Nat → Nat := fun n => match n with
  | 0 => 0
  | m + 1 => if c (bwK c t m) < c m ∨ (c (bwK c t m) = c m ∧ t (bwK c t m) < t m) then m else bwK c t m
def moI (c t : Nat → Nat) (i : Nat) : Int32 := if i = 0 then -1 else nI (c (bwK c t i))
def moL (c t : Nat → Nat) (i : Nat) : Int64 := if i = 0 then -1 else lN (t (bwK c t i))
theorem moI_s (c t : Nat → Nat) (i : Nat) : moI c t (i + 1) = nI (c (bwK c t (i + 1))) := if_neg (by omega)
theorem moL_s (c t : Nat → Nat) (i : Nat) : moL c t (i + 1) = lN (t (bwK c t (i + 1))) := if_neg (by omega)
theorem bwK_1 (c t : Nat → Nat) : bwK c t 1 = 0 := by
  show (if c (bwK c t 0) < c 0 ∨ (c (bwK c t 0) = c 0 ∧ t (bwK c t 0) < t 0) then 0 else bwK c t 0) = 0
  split
  · rfl
  · rfl
theorem m1_ltI {x : Nat} (h : x < 2 ^ 31) : -1 < nI x := by
  rw [Int32.lt_iff_toInt_lt, nI_toInt h]
  have : (-1 : Int32).toInt = -1 := rfl
  omega
theorem kd_1 {c t : Nat → Nat} {i : Nat} (hc : ∀ j, c j < 2 ^ 31) (ht : ∀ j, t j < 2 ^ 62) (h : moI c t i < nI (c i)) : bwK c t (i + 1) = i := by
  by_cases h0 : i = 0
  · subst h0
    exact bwK_1 c t
  · unfold moI at h
    rw [if_neg h0] at h
    exact if_pos (Or.inl ((nI_ltI (hc _) (hc _)).mp h))
theorem kd_2 {c t : Nat → Nat} {i : Nat} (hc : ∀ j, c j < 2 ^ 31) (ht : ∀ j, t j < 2 ^ 62) (h1 : ¬ moI c t i < nI (c i)) (h2 : ¬ nI (c i) = moI c t i) : bwK c t (i + 1) = bwK c t i ∧ 0 < i := by
  by_cases h0 : i = 0
  · subst h0
    exact absurd (m1_ltI (hc 0)) h1
  · unfold moI at h1 h2
    rw [if_neg h0] at h1 h2
    rw [nI_ltI (hc _) (hc _)] at h1
    rw [nI_eq (hc _) (hc _)] at h2
    exact ⟨if_neg (by rintro (q | ⟨q, -⟩) <;> omega), by omega⟩
theorem kd_3 {c t : Nat → Nat} {i : Nat} (hc : ∀ j, c j < 2 ^ 31) (ht : ∀ j, t j < 2 ^ 62) (h1 : ¬ moI c t i < nI (c i)) (h2 : nI (c i) = moI c t i) (h3 : lN (t i) ≤ moL c t i) : bwK c t (i + 1) = bwK c t i ∧ 0 < i := by
  by_cases h0 : i = 0
  · subst h0
    exact absurd (m1_ltI (hc 0)) h1
  · unfold moI at h1 h2
    unfold moL at h3
    rw [if_neg h0] at h1 h2 h3
    rw [nI_ltI (hc _) (hc _)] at h1
    have b1 := ht i
    have b2 := ht (bwK c t i)
    rw [pk_lLE (by omega) (by omega)] at h3
    exact ⟨if_neg (by rintro (q | ⟨-, q⟩) <;> omega), by omega⟩
theorem kd_4 {c t : Nat → Nat} {i : Nat} (hc : ∀ j, c j < 2 ^ 31) (ht : ∀ j, t j < 2 ^ 62) (h1 : ¬ moI c t i < nI (c i)) (h2 : nI (c i) = moI c t i) (h3 : ¬ lN (t i) ≤ moL c t i) : bwK c t (i + 1) = i := by
  by_cases h0 : i = 0
  · subst h0
    exact bwK_1 c t
  · unfold moI at h2
    unfold moL at h3
    rw [if_neg h0] at h2 h3
    have b1 := ht i
    have b2 := ht (bwK c t i)
    rw [pk_lLE (by omega) (by omega)] at h3
    rw [nI_eq (hc _) (hc _)] at h2
    exact if_pos (Or.inr ⟨h2.symm, by omega⟩)
def kiC (kd nd : Nat → Nat) (how P : Nat) (od : Nat → Nat) (n l : Nat) : Nat := cntN (fdE kd nd l how P od n) n
def kiT (kd nd : Nat → Nat) (how P : Nat) (od : Nat → Nat) (n l : Nat) : Nat := thS kd nd l how P od n
def kiB (kd nd : Nat → Nat) (how P : Nat) (od : Nat → Nat) (n : Nat) : Nat := bwK (kiC kd nd how P od n) (kiT kd nd how P od n) 4

set_option maxRecDepth 100000 in
set_option maxHeartbeats 4000000 in
theorem lp_kind (I : IntM) (J : LngM) {n : Nat} {kd nd od : Nat → Nat} {lw pot : Nat} (hK : CK I n kd nd od lw pot) {how : Nat} (hh : how ≤ 1) {c t : Nat → Nat} (hcc : c = kiC kd nd how (pot * un how) od n) (htt : t = kiT kd nd how (pot * un how) od n) (hs : SQ I 21 n kd nd) (Q : Option Value → IntM → LngM → Prop) (hq : ∀ I1 J1, FrS 21 I J I1 J1 → VP m_X10_kind 4 149 [(0, .ref 0), (2, .int (nI (bwK c t 4))), (3, .int (moI c t 4))] [] I1 J1 Q) : VP m_X10_kind 4 45 [(0, .ref 0), (1, .int (nI how)), (2, .int 0), (3, .int (-1)), (4, .long (-1)), (6, .int 0)] [] I J Q := by
  have hc : ∀ j, c j < 2 ^ 31 := fun j => by rw [hcc]; exact Nat.lt_of_le_of_lt (cntN_le _ n) (by have := hK.n7; omega)
  have ht : ∀ j, t j < 2 ^ 62 := fun j => by rw [htt]; exact Nat.lt_trans (thB hK.p9 n) (by decide)
  have key : ∀ i, i ≤ 4 → ∀ I1 J1, FrS 21 I J I1 J1 → SQ I1 21 n kd nd → VP m_X10_kind 4 45 [(0, .ref 0), (1, .int (nI how)), (2, .int (nI (bwK c t i))), (3, .int (moI c t i)), (4, .long (moL c t i)), (6, .int (nI i))] [] I1 J1 Q := by
    refine down 4 ?_ (fun i hi ih => ?_)
    · intro I1 J1 f1 s1
      refine V_il i_X10_kind_45 rfl ?_
      refine V_c i_X10_kind_47 ?_
      refine V_ic_ge_t i_X10_kind_48 (Int32.le_refl _) ?_
      exact V_L (L' := [(0, _), (2, _), (3, _)]) ⟨rfl, rfl, rfl, trivial⟩ (hq I1 J1 f1)
    · intro I1 J1 f1 s1
      have k1 := FrS.K (Or.inl rfl) f1 hK
      have z1 := k1.Z21
      refine V_il i_X10_kind_45 rfl ?_
      refine V_c i_X10_kind_47 ?_
      refine V_ic_ge_f i_X10_kind_48 (nI_ge (show i < 4 by omega) (by decide)) ?_
      refine V_al i_X10_kind_51 rfl ?_
      refine V_getR i_X10_kind_52 rfl rfl ?_
      refine V_il i_X10_kind_55 rfl ?_
      refine V_il i_X10_kind_57 rfl ?_
      refine V_al i_X10_kind_58 rfl ?_
      refine V_getR i_X10_kind_59 rfl rfl ?_
      refine V_getI i_X10_kind_62 rfl ?_
      rw [k1.pt]
      refine P_callV3 i_X10_kind_65 mi_X7_rules rfl ⟨_, _, rfl⟩ (by decide) (Nat.le_of_ble_eq_true rfl) (q_rules I1 J1 LS_21 z1 hh k1.p9 s1) (fun r I2 J2 q => ?_)
      obtain ⟨rfl, f2, s2, r2, -⟩ := q
      have k2 : CK I2 n kd nd od lw pot := FrS.K (by decide) f2 k1
      have z2 := FrS.Z f2 z1
      refine V_al i_X10_kind_68 rfl ?_
      refine V_getR i_X10_kind_69 rfl rfl ?_
      refine V_al i_X10_kind_72 rfl ?_
      refine V_getR i_X10_kind_73 rfl rfl ?_
      refine V_getR i_X10_kind_76 rfl rfl ?_
      refine V_c i_X10_kind_79 ?_
      refine P_callV2 i_X10_kind_80 mi_X7_seatTurned rfl ⟨_, _, rfl⟩ (by decide) (Nat.le_of_ble_eq_true rfl) (q_turn0 I2 J2 LS_21 z2 k2.n7 s2 r2 (y := 13) ⟨rfl, rfl, rfl, by decide⟩ k2.z13 (by decide) k2.od) (fun r I3 J3 q => ?_)
      obtain ⟨rfl, f3, s3, r3, a3, -⟩ := q
      have k3 : CK I3 n kd nd od lw pot := FrS.K (by decide) f3 k2
      have z3 := FrS.Z f3 z2
      refine V_al i_X10_kind_83 rfl ?_
      refine V_getR i_X10_kind_84 rfl rfl ?_
      refine V_c i_X10_kind_87 ?_
      refine P_callV1 i_X10_kind_88 mi_X7_serve rfl ⟨_, _, rfl⟩ (by decide) (Nat.le_of_ble_eq_true rfl) (q_serve I3 J3 LS_21 z3 k3.n7 hh (show i ≤ 3 by omega) k3.p9 k3.kd k3.nd k3.P s3 r3 a3) (fun r I4 J4 q => ?_)
      obtain ⟨rfl, f4, s4, r4, a4, d4⟩ := q
      have k4 : CK I4 n kd nd od lw pot := FrS.K (by decide) f4 k3
      have z4 := FrS.Z f4 z3
      refine V_al i_X10_kind_91 rfl ?_
      refine V_getR i_X10_kind_92 rfl rfl ?_
      refine P_callV0v i_X10_kind_95 mi_X7_fedAll rfl ⟨_, _, rfl⟩ (by decide) (Nat.le_of_ble_eq_true rfl) (c_S_fedAll _ _ LS_21 z4 k4.n7 s4.1) ?_
      rw [(d4.1 n (Nat.le_refl n)).2, fdS_set hK.P]
      refine P_callS1v i_X10_kind_98 ms_J6_bitCount_0f7a4 (by decide) (Nat.le_of_ble_eq_true rfl) (c_bitCount _ _ _) ?_
      rw [bc_set hK.n7, show cntN (fdE kd nd i how (pot * un how) od n) n = c i from by rw [hcc]; rfl]
      refine V_is (L' := [(0, _), (1, _), (2, _), (3, _), (4, _), (6, _), (7, _)]) i_X10_kind_101 (by decide) ⟨rfl, rfl, rfl, rfl, rfl, rfl, rfl, trivial⟩ ?_
      refine V_il i_X10_kind_103 rfl ?_
      refine V_il i_X10_kind_105 rfl ?_
      refine V_ic_gt i_X10_kind_106 (fun c106 => ?_) (fun c106 => ?_)
      · have c9 := kd_1 hc ht c106
        refine V_il i_X10_kind_128 rfl ?_
        refine V_is (L' := [(0, _), (1, _), (2, _), (6, _), (7, _)]) i_X10_kind_130 (by decide) ⟨rfl, rfl, rfl, rfl, rfl, trivial⟩ ?_
        refine V_il i_X10_kind_131 rfl ?_
        refine V_is (L' := [(0, _), (1, _), (2, _), (3, _), (6, _)]) i_X10_kind_133 (by decide) ⟨rfl, rfl, rfl, rfl, rfl, trivial⟩ ?_
        refine V_al i_X10_kind_134 rfl ?_
        refine V_getR i_X10_kind_135 rfl rfl ?_
        refine P_callV0v i_X10_kind_138 mi_X7_rest rfl ⟨_, _, rfl⟩ (by decide) (Nat.le_of_ble_eq_true rfl) (c_S_rest _ _ LS_21 z4 k4.n7 s4.1) ?_
        rw [show J4 (21 + 10) n = lN (t i) from by rw [htt]; exact (d4.1 n (Nat.le_refl n)).1]
        refine V_ls (L' := [(0, _), (1, _), (2, _), (3, _), (4, _), (6, _)]) i_X10_kind_141 (by decide) ⟨rfl, rfl, rfl, rfl, rfl, rfl, trivial⟩ ?_
        refine V_iinc (L' := [(0, _), (1, _), (2, _), (3, _), (4, _), (6, _)]) (n' := 1) i_X10_kind_143 (by decide) rfl (by decide) ⟨rfl, rfl, rfl, rfl, rfl, rfl, trivial⟩ ?_
        refine V_goto i_X10_kind_146 ?_
        refine V_L (L' := [(0, _), (1, _), (2, _), (3, _), (4, _), (6, _)]) ⟨rfl, rfl, rfl, rfl, rfl, rfl, trivial⟩ ?_
        rw [show nI i + 1 = nI (i + 1) from nI_1 i]
        have ih2 := ih I4 J4 (FrS.tr f1 (FrS.tr f2 (FrS.tr f3 f4))) s4
        rw [moI_s, moL_s, c9] at ih2
        exact ih2
      · refine V_il i_X10_kind_109 rfl ?_
        refine V_il i_X10_kind_111 rfl ?_
        refine V_ic_ne i_X10_kind_112 (fun c112 => ?_) (fun c112 => ?_)
        · have c9 := kd_2 hc ht c106 c112
          refine V_iinc (L' := [(0, _), (1, _), (2, _), (3, _), (4, _), (6, _)]) (n' := 1) i_X10_kind_143 (by decide) rfl (by decide) ⟨rfl, rfl, rfl, rfl, rfl, rfl, trivial⟩ ?_
          refine V_goto i_X10_kind_146 ?_
          refine V_L (L' := [(0, _), (1, _), (2, _), (3, _), (4, _), (6, _)]) ⟨rfl, rfl, rfl, rfl, rfl, rfl, trivial⟩ ?_
          rw [show nI i + 1 = nI (i + 1) from nI_1 i]
          have ih2 := ih I4 J4 (FrS.tr f1 (FrS.tr f2 (FrS.tr f3 f4))) s4
          rw [c9.1, show moI c t (i + 1) = moI c t i from by rw [moI_s, c9.1]; unfold moI; rw [if_neg (by omega)], show moL c t (i + 1) = moL c t i from by rw [moL_s, c9.1]; unfold moL; rw [if_neg (by omega)]] at ih2
          exact ih2
        · refine V_al i_X10_kind_115 rfl ?_
          refine V_getR i_X10_kind_116 rfl rfl ?_
          refine P_callV0v i_X10_kind_119 mi_X7_rest rfl ⟨_, _, rfl⟩ (by decide) (Nat.le_of_ble_eq_true rfl) (c_S_rest _ _ LS_21 z4 k4.n7 s4.1) ?_
          rw [show J4 (21 + 10) n = lN (t i) from by rw [htt]; exact (d4.1 n (Nat.le_refl n)).1]
          refine V_ll i_X10_kind_122 rfl ?_
          refine V_lcmp i_X10_kind_124 ?_
          refine V_if_le i_X10_kind_125 (fun c125 => ?_) (fun c125 => ?_)
          · have c9 := kd_3 hc ht c106 c112 (lgc_le.mp c125)
            refine V_iinc (L' := [(0, _), (1, _), (2, _), (3, _), (4, _), (6, _)]) (n' := 1) i_X10_kind_143 (by decide) rfl (by decide) ⟨rfl, rfl, rfl, rfl, rfl, rfl, trivial⟩ ?_
            refine V_goto i_X10_kind_146 ?_
            refine V_L (L' := [(0, _), (1, _), (2, _), (3, _), (4, _), (6, _)]) ⟨rfl, rfl, rfl, rfl, rfl, rfl, trivial⟩ ?_
            rw [show nI i + 1 = nI (i + 1) from nI_1 i]
            have ih2 := ih I4 J4 (FrS.tr f1 (FrS.tr f2 (FrS.tr f3 f4))) s4
            rw [c9.1, show moI c t (i + 1) = moI c t i from by rw [moI_s, c9.1]; unfold moI; rw [if_neg (by omega)], show moL c t (i + 1) = moL c t i from by rw [moL_s, c9.1]; unfold moL; rw [if_neg (by omega)]] at ih2
            exact ih2
          · have c9 := kd_4 hc ht c106 c112 (fun q => c125 (lgc_le.mpr q))
            refine V_il i_X10_kind_128 rfl ?_
            refine V_is (L' := [(0, _), (1, _), (2, _), (6, _), (7, _)]) i_X10_kind_130 (by decide) ⟨rfl, rfl, rfl, rfl, rfl, trivial⟩ ?_
            refine V_il i_X10_kind_131 rfl ?_
            refine V_is (L' := [(0, _), (1, _), (2, _), (3, _), (6, _)]) i_X10_kind_133 (by decide) ⟨rfl, rfl, rfl, rfl, rfl, trivial⟩ ?_
            refine V_al i_X10_kind_134 rfl ?_
            refine V_getR i_X10_kind_135 rfl rfl ?_
            refine P_callV0v i_X10_kind_138 mi_X7_rest rfl ⟨_, _, rfl⟩ (by decide) (Nat.le_of_ble_eq_true rfl) (c_S_rest _ _ LS_21 z4 k4.n7 s4.1) ?_
            rw [show J4 (21 + 10) n = lN (t i) from by rw [htt]; exact (d4.1 n (Nat.le_refl n)).1]
            refine V_ls (L' := [(0, _), (1, _), (2, _), (3, _), (4, _), (6, _)]) i_X10_kind_141 (by decide) ⟨rfl, rfl, rfl, rfl, rfl, rfl, trivial⟩ ?_
            refine V_iinc (L' := [(0, _), (1, _), (2, _), (3, _), (4, _), (6, _)]) (n' := 1) i_X10_kind_143 (by decide) rfl (by decide) ⟨rfl, rfl, rfl, rfl, rfl, rfl, trivial⟩ ?_
            refine V_goto i_X10_kind_146 ?_
            refine V_L (L' := [(0, _), (1, _), (2, _), (3, _), (4, _), (6, _)]) ⟨rfl, rfl, rfl, rfl, rfl, rfl, trivial⟩ ?_
            rw [show nI i + 1 = nI (i + 1) from nI_1 i]
            have ih2 := ih I4 J4 (FrS.tr f1 (FrS.tr f2 (FrS.tr f3 f4))) s4
            rw [moI_s, moL_s, c9] at ih2
            exact ih2
  exact key 0 (Nat.zero_le _) I J FrS.rf hs
set_option maxRecDepth 100000 in
set_option maxHeartbeats 4000000 in
theorem c_kind (I : IntM) (J : LngM) {n : Nat} {kd nd od : Nat → Nat} {lw pot : Nat} (hK : CK I n kd nd od lw pot) {how : Nat} (hh : how ≤ 1) (h0 : 0 < n) : CtP 4 m_X10_kind [.ref 0, .int (nI how)] I J (QC I J (.int (nI (kiB kd nd how (pot * un how) od n))) (some (nI (kiC kd nd how (pot * un how) od n (kiB kd nd how (pot * un how) od n)))) none none) := by
  refine CtP_of (by decide) rfl (Nat.le_of_ble_eq_true rfl) ?_
  have k0 := hK
  have z0 := hK.Z21
  refine V_il i_X10_kind_0 rfl ?_
  refine P_callS1v i_X10_kind_1 ms_X10_isHow (by decide) (Nat.le_of_ble_eq_true rfl) (c_isHow _ _ _) ?_
  refine V_if_ne_t i_X10_kind_4 (by rw [howv_nI hh]; decide) ?_
  refine V_al i_X10_kind_9 rfl ?_
  refine V_getR i_X10_kind_10 rfl rfl ?_
  refine V_getI i_X10_kind_13 rfl ?_
  refine V_if_ne_t i_X10_kind_16 (by rw [hK.sz]; exact nI_ne0 h0 (by have := hK.n7; omega)) ?_
  refine V_c i_X10_kind_22 ?_
  refine V_is (L' := [(0, _), (1, _), (2, _)]) i_X10_kind_23 (by decide) ⟨rfl, rfl, rfl, trivial⟩ ?_
  refine V_c i_X10_kind_24 ?_
  refine V_is (L' := [(0, _), (1, _), (2, _), (3, _)]) i_X10_kind_25 (by decide) ⟨rfl, rfl, rfl, rfl, trivial⟩ ?_
  refine V_cl i_X10_kind_26 ?_
  refine V_ls (L' := [(0, _), (1, _), (2, _), (3, _), (4, _)]) i_X10_kind_29 (by decide) ⟨rfl, rfl, rfl, rfl, rfl, trivial⟩ ?_
  refine V_al i_X10_kind_31 rfl ?_
  refine V_getR i_X10_kind_32 rfl rfl ?_
  refine V_al i_X10_kind_35 rfl ?_
  refine V_getR i_X10_kind_36 rfl rfl ?_
  refine P_callV1 i_X10_kind_39 mi_X7_invite rfl ⟨_, _, rfl⟩ (by decide) (Nat.le_of_ble_eq_true rfl) (q_invite I J LS_21 z0 k0.n7 k0.C) (fun r I1 J1 q => ?_)
  obtain ⟨rfl, f1, s1, -⟩ := q
  have k1 : CK I1 n kd nd od lw pot := FrS.K (by decide) f1 k0
  have z1 := FrS.Z f1 z0
  refine V_c i_X10_kind_42 ?_
  refine V_is (L' := [(0, _), (1, _), (2, _), (3, _), (4, _), (6, _)]) i_X10_kind_43 (by decide) ⟨rfl, rfl, rfl, rfl, rfl, rfl, trivial⟩ ?_
  refine V_L (L' := [(0, _), (1, _), (2, _), (3, _), (4, _), (6, _)]) ⟨rfl, rfl, rfl, rfl, rfl, rfl, trivial⟩ ?_
  refine lp_kind I1 J1 k1 hh rfl rfl s1 _ (fun I2 J2 f2 => ?_)
  refine V_al i_X10_kind_149 rfl ?_
  refine V_il i_X10_kind_150 rfl ?_
  refine V_putI i_X10_kind_151 rfl ?_
  refine V_il i_X10_kind_154 rfl ?_
  exact P_iret i_X10_kind_155 rfl ⟨rfl, I2, J2, FrS.C (by decide) (by decide) (FrS.tr f1 f2), (FrS.K (by decide) f2 k1).Z, rfl, rfl⟩
set_option maxRecDepth 100000 in
set_option maxHeartbeats 4000000 in
theorem c_kind0 (I : IntM) (J : LngM) {n : Nat} {kd nd od : Nat → Nat} {lw pot : Nat} (hK : CK I n kd nd od lw pot) {x : Int32} (h : howv x = 0) : CtP 4 m_X10_kind [.ref 0, .int x] I J (QC I J (.int (-1)) none none none) := by
  refine CtP_of (by decide) rfl (Nat.le_of_ble_eq_true rfl) ?_
  refine V_il i_X10_kind_0 rfl ?_
  refine P_callS1v i_X10_kind_1 ms_X10_isHow (by decide) (Nat.le_of_ble_eq_true rfl) (c_isHow _ _ _) ?_
  refine V_if_ne_f i_X10_kind_4 h ?_
  refine V_c i_X10_kind_7 ?_
  exact P_iret i_X10_kind_8 rfl ⟨rfl, I, J, FrC.rf, hK.Z, rfl, rfl⟩
set_option maxRecDepth 100000 in
set_option maxHeartbeats 4000000 in
theorem c_kind1 (I : IntM) (J : LngM) {n : Nat} {kd nd od : Nat → Nat} {lw pot : Nat} (hK : CK I n kd nd od lw pot) {how : Nat} (hh : how ≤ 1) (h0 : n = 0) : CtP 4 m_X10_kind [.ref 0, .int (nI how)] I J (QC I J (.int (-4)) none none none) := by
  refine CtP_of (by decide) rfl (Nat.le_of_ble_eq_true rfl) ?_
  refine V_il i_X10_kind_0 rfl ?_
  refine P_callS1v i_X10_kind_1 ms_X10_isHow (by decide) (Nat.le_of_ble_eq_true rfl) (c_isHow _ _ _) ?_
  refine V_if_ne_t i_X10_kind_4 (by rw [howv_nI hh]; decide) ?_
  refine V_al i_X10_kind_9 rfl ?_
  refine V_getR i_X10_kind_10 rfl rfl ?_
  refine V_getI i_X10_kind_13 rfl ?_
  refine V_if_ne_f i_X10_kind_16 (by rw [hK.sz, h0]; rfl) ?_
  refine V_c i_X10_kind_19 ?_
  exact P_iret i_X10_kind_21 rfl ⟨rfl, I, J, FrC.rf, hK.Z, rfl, rfl⟩
theorem lN_subZ (a b : Nat) : lN a - lN b = lZ ((a : Int) - (b : Int)) := by rw [lZ_N, lZ_N, lZ_sub]
theorem p128 {i : Nat} (h : i < 7) : 2 ^ i < 128 := Nat.pow_lt_pow_right (a := 2) (m := i) (n := 7) (by decide) h
def scE (kd nd : Nat → Nat) (lw P : Nat) (od : Nat → Nat) (n : Nat) (k : Nat) : Bool := isK kd 2 k && decide (thS kd nd lw 0 P od n + un 0 ≤ thS (hon kd (2 ^ k)) nd lw 0 P od n)
set_option maxRecDepth 100000 in
set_option maxHeartbeats 4000000 in
theorem lp_scales (I : IntM) (J : LngM) {n : Nat} {kd nd od : Nat → Nat} {lw pot : Nat} (hK : CK I n kd nd od lw pot) (Q : Option Value → IntM → LngM → Prop) (hq : ∀ I1 J1, FrS 21 I J I1 J1 → VP m_X10_scales 6 67 [(0, .ref 0), (3, .int (nI (setN (scE kd nd lw (pot * un 0) od n) n)))] [] I1 J1 Q) : VP m_X10_scales 6 11 [(0, .ref 0), (1, .long (lN (thS kd nd lw 0 (pot * un 0) od n))), (3, .int 0), (4, .int 0)] [] I J Q := by
  have key : ∀ i, i ≤ n → ∀ I1 J1, FrS 21 I J I1 J1 → VP m_X10_scales 6 11 [(0, .ref 0), (1, .long (lN (thS kd nd lw 0 (pot * un 0) od n))), (3, .int (nI (setN (scE kd nd lw (pot * un 0) od n) i))), (4, .int (nI i))] [] I1 J1 Q := by
    refine down n ?_ (fun i hi ih => ?_)
    · intro I1 J1 f1
      have k1 := FrS.K (Or.inl rfl) f1 hK
      refine V_il i_X10_scales_11 rfl ?_
      refine V_al i_X10_scales_13 rfl ?_
      refine V_getR i_X10_scales_14 rfl rfl ?_
      refine V_getI i_X10_scales_17 rfl ?_
      refine V_ic_ge_t i_X10_scales_20 (by rw [k1.sz]; exact Int32.le_refl _) ?_
      exact V_L (L' := [(0, _), (3, _)]) ⟨rfl, rfl, trivial⟩ (hq I1 J1 f1)
    · intro I1 J1 f1
      have k1 := FrS.K (Or.inl rfl) f1 hK
      have b1 := thB (kd := kd) (nd := nd) (lw := lw) (how := 0) (ln := od) hK.p9 n
      have b2 := thB (kd := hon kd (2 ^ i)) (nd := nd) (lw := lw) (how := 0) (ln := od) hK.p9 n
      have b3 := un_le 0
      refine V_il i_X10_scales_11 rfl ?_
      refine V_al i_X10_scales_13 rfl ?_
      refine V_getR i_X10_scales_14 rfl rfl ?_
      refine V_getI i_X10_scales_17 rfl ?_
      refine V_ic_ge_f i_X10_scales_20 (by rw [k1.sz]; exact nI_ge hi (by have := hK.n7; omega)) ?_
      refine V_al i_X10_scales_23 rfl ?_
      refine V_getR i_X10_scales_24 rfl rfl ?_
      refine V_il i_X10_scales_27 rfl ?_
      refine V_c i_X10_scales_29 ?_
      refine P_callV2v i_X10_scales_30 mi_X0_isOf rfl ⟨_, _, rfl⟩ (by decide) (Nat.le_of_ble_eq_true rfl) (c_C_isOf _ _ k1.1 k1.C hi (by decide)) ?_
      refine V_if_eq i_X10_scales_33 (fun c33 => ?_) (fun c33 => ?_)
      · have c9 : ¬ scE kd nd lw (pot * un 0) od n i = true := fun q => by unfold scE at q; exact no01 c33 ((Bool.and_eq_true _ _).mp q).1
        refine V_iinc (L' := [(0, _), (1, _), (3, _), (4, _)]) (n' := 1) i_X10_scales_61 (by decide) rfl (by decide) ⟨rfl, rfl, rfl, rfl, trivial⟩ ?_
        refine V_goto i_X10_scales_64 ?_
        refine V_L (L' := [(0, _), (1, _), (3, _), (4, _)]) ⟨rfl, rfl, rfl, rfl, trivial⟩ ?_
        rw [show nI i + 1 = nI (i + 1) from nI_1 i]
        have ih2 := ih I1 J1 f1
        rw [show setN (scE kd nd lw (pot * un 0) od n) (i + 1) = setN (scE kd nd lw (pot * un 0) od n) i from if_neg c9] at ih2
        exact ih2
      · have c8 := yes01 c33
        refine V_al i_X10_scales_36 rfl ?_
        refine V_c i_X10_scales_37 ?_
        refine V_il i_X10_scales_38 rfl ?_
        refine V_ishl i_X10_scales_40 ?_
        rw [shl1 (by have := hK.n7; omega)]
        refine P_callV1 i_X10_scales_41 mi_X10_restWithHonest rfl ⟨_, _, rfl⟩ (by decide) (Nat.le_of_ble_eq_true rfl) (c_restH I1 J1 k1 (w := 2 ^ i) (p128 (by have := hK.n7; omega))) (fun r I2 J2 q => ?_)
        obtain ⟨rfl, f2, s2, d2⟩ := q
        refine V_ll i_X10_scales_44 rfl ?_
        refine V_lsub i_X10_scales_45 ?_
        rw [lN_subZ]
        refine V_c i_X10_scales_46 ?_
        refine P_callS1v i_X10_scales_47 ms_X8_unit (by decide) (Nat.le_of_ble_eq_true rfl) (c_unit _ _ (how := 0) (by decide)) ?_
        rw [lZ_N (un 0)]
        refine V_lcmp i_X10_scales_50 ?_
        refine V_if_lt i_X10_scales_51 (fun c51 => ?_) (fun c51 => ?_)
        · have c9 : ¬ scE kd nd lw (pot * un 0) od n i = true := fun q => by
            unfold scE at q
            have q2 := of_decide_eq_true ((Bool.and_eq_true _ _).mp q).2
            have q3 := (lZ_lt (by omega) (by omega) (by omega) (by omega)).mp (lgc_lt.mp c51)
            omega
          refine V_iinc (L' := [(0, _), (1, _), (3, _), (4, _)]) (n' := 1) i_X10_scales_61 (by decide) rfl (by decide) ⟨rfl, rfl, rfl, rfl, trivial⟩ ?_
          refine V_goto i_X10_scales_64 ?_
          refine V_L (L' := [(0, _), (1, _), (3, _), (4, _)]) ⟨rfl, rfl, rfl, rfl, trivial⟩ ?_
          rw [show nI i + 1 = nI (i + 1) from nI_1 i]
          have ih2 := ih I2 J2 (FrS.tr f1 f2)
          rw [show setN (scE kd nd lw (pot * un 0) od n) (i + 1) = setN (scE kd nd lw (pot * un 0) od n) i from if_neg c9] at ih2
          exact ih2
        · have c9 : scE kd nd lw (pot * un 0) od n i = true := by
            unfold scE
            refine (Bool.and_eq_true _ _).mpr ⟨c8, decide_eq_true ?_⟩
            refine Nat.le_of_not_lt (fun q => c51 (lgc_lt.mpr ((lZ_lt (by omega) (by omega) (by omega) (by omega)).mpr ?_)))
            omega
          refine V_il i_X10_scales_54 rfl ?_
          refine V_c i_X10_scales_55 ?_
          refine V_il i_X10_scales_56 rfl ?_
          refine V_ishl i_X10_scales_58 ?_
          rw [shl1 (by have := hK.n7; omega)]
          refine V_ior i_X10_scales_59 ?_
          rw [or_nI]
          refine V_is (L' := [(0, _), (1, _), (3, _), (4, _)]) i_X10_scales_60 (by decide) ⟨rfl, rfl, rfl, rfl, trivial⟩ ?_
          refine V_iinc (L' := [(0, _), (1, _), (3, _), (4, _)]) (n' := 1) i_X10_scales_61 (by decide) rfl (by decide) ⟨rfl, rfl, rfl, rfl, trivial⟩ ?_
          refine V_goto i_X10_scales_64 ?_
          refine V_L (L' := [(0, _), (1, _), (3, _), (4, _)]) ⟨rfl, rfl, rfl, rfl, trivial⟩ ?_
          rw [show nI i + 1 = nI (i + 1) from nI_1 i]
          have ih2 := ih I2 J2 (FrS.tr f1 f2)
          rw [show setN (scE kd nd lw (pot * un 0) od n) (i + 1) = setN (scE kd nd lw (pot * un 0) od n) i ||| 2 ^ i from if_pos c9] at ih2
          exact ih2
  exact key 0 (Nat.zero_le _) I J FrS.rf
set_option maxRecDepth 100000 in
set_option maxHeartbeats 4000000 in
theorem c_scales (I : IntM) (J : LngM) {n : Nat} {kd nd od : Nat → Nat} {lw pot : Nat} (hK : CK I n kd nd od lw pot) : CtP 6 m_X10_scales [.ref 0] I J (QC I J (.int (nI (setN (scE kd nd lw (pot * un 0) od n) n))) (some (nI (cntN (isK kd 2) n))) none none) := by
  refine CtP_of (by decide) rfl (Nat.le_of_ble_eq_true rfl) ?_
  refine V_al i_X10_scales_0 rfl ?_
  refine V_c i_X10_scales_1 ?_
  refine P_callV1 i_X10_scales_2 mi_X10_restWithHonest rfl ⟨_, _, rfl⟩ (by decide) (Nat.le_of_ble_eq_true rfl) (c_restH I J hK (w := 0) (by decide)) (fun r I1 J1 q => ?_)
  rw [hon_0] at q
  obtain ⟨rfl, f1, s1, d1⟩ := q
  have k1 := FrS.K (Or.inl rfl) f1 hK
  refine V_ls (L' := [(0, _), (1, _)]) i_X10_scales_5 (by decide) ⟨rfl, rfl, trivial⟩ ?_
  refine V_c i_X10_scales_6 ?_
  refine V_is (L' := [(0, _), (1, _), (3, _)]) i_X10_scales_7 (by decide) ⟨rfl, rfl, rfl, trivial⟩ ?_
  refine V_c i_X10_scales_8 ?_
  refine V_is (L' := [(0, _), (1, _), (3, _), (4, _)]) i_X10_scales_9 (by decide) ⟨rfl, rfl, rfl, rfl, trivial⟩ ?_
  refine V_L (L' := [(0, _), (1, _), (3, _), (4, _)]) ⟨rfl, rfl, rfl, rfl, trivial⟩ ?_
  refine lp_scales I1 J1 k1 _ (fun I2 J2 f2 => ?_)
  have k2 := FrS.K (Or.inl rfl) f2 k1
  refine V_al i_X10_scales_67 rfl ?_
  refine V_al i_X10_scales_68 rfl ?_
  refine V_getR i_X10_scales_69 rfl rfl ?_
  refine V_c i_X10_scales_72 ?_
  refine P_callV1v i_X10_scales_73 mi_X0_countOf rfl ⟨_, _, rfl⟩ (by decide) (Nat.le_of_ble_eq_true rfl) (c_C_countOf _ _ k2.1 k2.C (by decide)) ?_
  refine V_putI i_X10_scales_76 rfl ?_
  refine V_il i_X10_scales_79 rfl ?_
  exact P_iret i_X10_scales_80 rfl ⟨rfl, I2, J2, FrS.C (by decide) (by decide) (FrS.tr f1 f2), k2.Z, rfl, rfl⟩
theorem sumJ_N {w : Nat} {g : Nat → Int64} {f : Nat → Nat} : ∀ {n}, (∀ k, k < n → g k = lN (f k)) → sumJ (fun k => if w.testBit k = true then g k else 0) n = lN (sumN (fun k => if w.testBit k = true then f k else 0) n)
  | 0, _ => rfl
  | n + 1, h => by
    have ih := sumJ_N (w := w) (g := g) (f := f) (n := n) (fun k hk => h k (by omega))
    show sumJ (fun k => if w.testBit k = true then g k else 0) n + (if w.testBit n = true then g n else 0) = lN (sumN (fun k => if w.testBit k = true then f k else 0) n + (if w.testBit n = true then f n else 0))
    rw [ih, ← lN_add]
    by_cases hb : w.testBit n = true
    · rw [if_pos hb, if_pos hb, h n (by omega)]
    · rw [if_neg hb, if_neg hb]
      rfl
def tE (kd nd : Nat → Nat) (lw how P : Nat) (od : Nat → Nat) (n k : Nat) : Nat := tkS kd nd lw how P od (plN od k n)
def shE (kd nd : Nat → Nat) (lw P : Nat) (od : Nat → Nat) (n w : Nat) : Nat := sumN (fun k => if w.testBit k = true then tE kd nd lw 0 P od n k else 0) n
theorem shE_b {kd nd od : Nat → Nat} {lw pot n w : Nat} (hp : pot ≤ 999) (hn : n ≤ 7) : shE kd nd lw (pot * un 0) od n w < 2 ^ 50 := by
  have h := sumN_le (f := fun k => if w.testBit k = true then tE kd nd lw 0 (pot * un 0) od n k else 0) (c := 2 ^ 43) (n := n) (fun q _ => by
    show (if w.testBit q = true then tE kd nd lw 0 (pot * un 0) od n q else 0) ≤ 2 ^ 43
    split
    · exact Nat.le_of_lt (tkB hp _)
    · exact Nat.zero_le _)
  have h2 := Nat.mul_le_mul_right (2 ^ 43) hn
  unfold shE
  omega
set_option maxRecDepth 100000 in
set_option maxHeartbeats 4000000 in
theorem c_cheats (I : IntM) (J : LngM) {n : Nat} {kd nd od : Nat → Nat} {lw pot : Nat} (hK : CK I n kd nd od lw pot) : CtP 5 m_X10_cheats [.ref 0] I J (QC I J (.int 1) none (some ((((shE kd nd lw (pot * un 0) od n (setN (isK kd 2) n) : Nat) : Int) - ((shE (hon kd (setN (isK kd 2) n)) nd lw (pot * un 0) od n (setN (isK kd 2) n) : Nat) : Int)), un 0)) none) := by
  refine CtP_of (by decide) rfl (Nat.le_of_ble_eq_true rfl) ?_
  have hw := setN_lt (isK kd 2) n hK.n7
  have hb : (((shE kd nd lw (pot * un 0) od n (setN (isK kd 2) n) : Nat) : Int) - ((shE (hon kd (setN (isK kd 2) n)) nd lw (pot * un 0) od n (setN (isK kd 2) n) : Nat) : Int)).natAbs < 2 ^ 62 := by
    have b1 := shE_b (kd := kd) (nd := nd) (od := od) (lw := lw) (w := (setN (isK kd 2) n)) hK.p9 hK.n7
    have b2 := shE_b (kd := hon kd (setN (isK kd 2) n)) (nd := nd) (od := od) (lw := lw) (w := (setN (isK kd 2) n)) hK.p9 hK.n7
    omega
  refine V_al i_X10_cheats_0 rfl ?_
  refine V_getR i_X10_cheats_1 rfl rfl ?_
  refine V_c i_X10_cheats_4 ?_
  refine P_callV1v i_X10_cheats_5 mi_X0_setOf rfl ⟨_, _, rfl⟩ (by decide) (Nat.le_of_ble_eq_true rfl) (c_C_setOf _ _ hK.1 hK.C (by decide)) ?_
  refine V_is (L' := [(0, _), (1, _)]) i_X10_cheats_8 (by decide) ⟨rfl, rfl, trivial⟩ ?_
  refine V_al i_X10_cheats_9 rfl ?_
  refine V_c i_X10_cheats_10 ?_
  refine P_callV1 i_X10_cheats_11 mi_X10_restWithHonest rfl ⟨_, _, rfl⟩ (by decide) (Nat.le_of_ble_eq_true rfl) (c_restH I J hK (w := 0) (by decide)) (fun r I1 J1 q => ?_)
  rw [hon_0] at q
  obtain ⟨rfl, f1, s1, d1⟩ := q
  have k1 := FrS.K (Or.inl rfl) f1 hK
  refine V_pop2 i_X10_cheats_14 rfl ?_
  refine V_al i_X10_cheats_15 rfl ?_
  refine V_getR i_X10_cheats_16 rfl rfl ?_
  refine V_il i_X10_cheats_19 rfl ?_
  refine P_callV1v i_X10_cheats_20 mi_X7_takenBy rfl ⟨_, _, rfl⟩ (by decide) (Nat.le_of_ble_eq_true rfl) (c_S_taken _ _ LS_21 k1.Z21 hK.n7 s1 hw) ?_
  rw [sumJ_N (f := tE kd nd lw 0 (pot * un 0) od n) (fun k hk => d1.2 k hk)]
  refine V_ls (L' := [(0, _), (1, _), (2, _)]) i_X10_cheats_23 (by decide) ⟨rfl, rfl, rfl, trivial⟩ ?_
  refine V_al i_X10_cheats_24 rfl ?_
  refine V_il i_X10_cheats_25 rfl ?_
  refine P_callV1 i_X10_cheats_26 mi_X10_restWithHonest rfl ⟨_, _, rfl⟩ (by decide) (Nat.le_of_ble_eq_true rfl) (c_restH I1 J1 k1 hw) (fun r I2 J2 q => ?_)
  obtain ⟨rfl, f2, s2, d2⟩ := q
  have k2 := FrS.K (Or.inl rfl) f2 k1
  refine V_pop2 i_X10_cheats_29 rfl ?_
  refine V_al i_X10_cheats_30 rfl ?_
  refine V_ll i_X10_cheats_31 rfl ?_
  refine V_al i_X10_cheats_32 rfl ?_
  refine V_getR i_X10_cheats_33 rfl rfl ?_
  refine V_il i_X10_cheats_36 rfl ?_
  refine P_callV1v i_X10_cheats_37 mi_X7_takenBy rfl ⟨_, _, rfl⟩ (by decide) (Nat.le_of_ble_eq_true rfl) (c_S_taken _ _ LS_21 k2.Z21 hK.n7 s2 hw) ?_
  rw [sumJ_N (f := tE (hon kd (setN (isK kd 2) n)) nd lw 0 (pot * un 0) od n) (fun k hk => d2.2 k hk)]
  refine V_lsub i_X10_cheats_40 ?_
  rw [lN_subZ]
  refine V_c i_X10_cheats_41 ?_
  refine P_callV2u i_X10_cheats_42 mi_X10_tellShare rfl ⟨_, _, rfl⟩ (by decide) (Nat.le_of_ble_eq_true rfl) (c_tellS _ _ (how := 0) (by decide) hb) ?_
  refine V_c i_X10_cheats_45 ?_
  exact P_iret i_X10_cheats_46 rfl ⟨rfl, I2, J2, FrS.C (by decide) (by decide) (FrS.tr f1 f2), k2.Z, rfl, rfl⟩
