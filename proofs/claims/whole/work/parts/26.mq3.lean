
/-! ===== the reference: two, scales, cheats ===== -/
theorem FrJ.put (J : LngM) {a n : Nat} (f : Nat → Int64) (ha : a = 171 ∨ a = 172) : FrM (fun _ _ => 0) J (fun _ _ => 0) (putJ J a n f) := ⟨fun _ _ _ => rfl, fun x k q => by
  unfold putJ
  rw [if_neg (by unfold pJ at q; omega)]⟩
theorem FrM.J {I I' Ia Ib : IntM} {J J1 J2 : LngM} (h1 : FrM I J I' J1) (h2 : FrM Ia J1 Ib J2) : FrM I J I' J2 := ⟨h1.1, fun x k q => (h2.2 x k q).trans (h1.2 x k q)⟩

set_option maxRecDepth 100000 in
set_option maxHeartbeats 4000000 in
theorem lp_M_two1 (I : IntM) (J : LngM) {n : Nat} (hn : n ≤ 7) (hsz : I 146 19 = nI n) {how : Nat} (Q : Option Value → IntM → LngM → Prop) (hq : VP m_X11_two 7 66 [(0, .ref 146), (1, .int (nI how))] [] (putI I 157 n (fun p => I 156 (n - 1 - p))) J Q) : VP m_X11_two 7 33 [(0, .ref 146), (1, .int (nI how)), (2, .int 0)] [] I J Q := by
  have hz : ∀ i, putI I 157 i (fun p => I 156 (n - 1 - p)) 146 19 = nI n := fun i => by unfold putI; rw [if_neg (by omega)]; exact hsz
  have key : ∀ i, i ≤ n → VP m_X11_two 7 33 [(0, .ref 146), (1, .int (nI how)), (2, .int (nI i))] [] (putI I 157 i (fun p => I 156 (n - 1 - p))) J Q := by
    refine down n ?_ (fun i hi ih => ?_)
    · refine V_il i_X11_two_33 rfl ?_
      refine V_al i_X11_two_34 rfl ?_
      refine V_getI i_X11_two_35 rfl ?_
      refine V_ic_ge_t i_X11_two_38 (by rw [hz]; exact Int32.le_refl _) ?_
      exact V_L (L' := [(0, _), (1, _)]) ⟨rfl, rfl, trivial⟩ hq
    · refine V_il i_X11_two_33 rfl ?_
      refine V_al i_X11_two_34 rfl ?_
      refine V_getI i_X11_two_35 rfl ?_
      refine V_ic_ge_f i_X11_two_38 (by rw [hz i]; exact nI_ge hi (by omega)) ?_
      refine V_al i_X11_two_41 rfl ?_
      refine V_getR i_X11_two_42 rfl rfl ?_
      refine V_il i_X11_two_45 rfl ?_
      refine V_al i_X11_two_46 rfl ?_
      refine V_getR i_X11_two_47 rfl rfl ?_
      refine V_al i_X11_two_50 rfl ?_
      refine V_getI i_X11_two_51 rfl ?_
      rw [hz i]
      refine V_c i_X11_two_54 ?_
      refine V_isub i_X11_two_55 ?_
      refine V_il i_X11_two_56 rfl ?_
      refine V_isub i_X11_two_57 ?_
      rw [show (1 : Int32) = nI 1 from rfl, pk_sub (by omega), pk_sub (by omega)]
      refine K_iald (n - 1 - i) i_X11_two_58 rfl rfl (by omega) (by omega) ?_
      refine K_iast i i_X11_two_59 rfl rfl (by omega) (by omega) ?_
      refine V_iinc (L' := [(0, _), (1, _), (2, _)]) (n' := 1) i_X11_two_60 (by decide) rfl (by decide) ⟨rfl, rfl, rfl, trivial⟩ ?_
      refine V_goto i_X11_two_63 ?_
      refine V_L (L' := [(0, _), (1, _), (2, _)]) ⟨rfl, rfl, rfl, trivial⟩ ?_
      rw [show nI i + 1 = nI (i + 1) from nI_1 i]
      have e : putI I 157 i (fun p => I 156 (n - 1 - p)) 156 (n - 1 - i) = (fun p => I 156 (n - 1 - p)) i := by unfold putI; rw [if_neg (by omega)]
      rw [e, putI_s]
      exact ih
  have h0 := key 0 (Nat.zero_le _)
  rw [putI_0] at h0
  exact h0
theorem ro_ge {A u b : Nat} (hu : 0 < u) : ((b * rdN (A : Int) u : Nat) : Int) ≤ roN (A : Int) u ↔ b * u ≤ A := by
  have e := ro_cross (A : Int) u
  have hy := rd_pos (A := (A : Int)) hu
  have hu2 : (0 : Int) < (u : Int) := by omega
  generalize rdN (A : Int) u = Y at *
  generalize roN (A : Int) u = X at *
  have hy2 : (0 : Int) < (Y : Int) := by omega
  rw [Int.natCast_mul]
  constructor
  · intro h
    have h3 := Int.mul_le_mul_of_nonneg_right h (Int.le_of_lt hu2)
    rw [e, Int.mul_right_comm] at h3
    have h4 := Int.le_of_mul_le_mul_right h3 hy2
    rw [← Int.natCast_mul] at h4
    omega
  · intro h
    refine Int.le_of_mul_le_mul_right ?_ hu2
    rw [e, Int.mul_right_comm]
    refine Int.mul_le_mul_of_nonneg_right ?_ (Int.le_of_lt hy2)
    rw [← Int.natCast_mul]
    omega
set_option maxRecDepth 100000 in
set_option maxHeartbeats 4000000 in
theorem lp_M_two2 (I : IntM) (J : LngM) {n : Nat} {kd nd od : Nat → Nat} {lw pot : Nat} (hK : MK I n kd nd od lw pot) {how : Nat} (hh : how ≤ 1) (g1 : ∀ k, k < n → Fr (J 171 k) (J 172 k) ((tE kd nd lw how (pot * un how) od n k : Nat) : Int) (un how)) (g2 : ∀ k, k < n → Fr (J 158 k) (J 159 k) ((tE kd nd lw how (pot * un how) (fun i => od (n - 1 - i)) n k : Nat) : Int) (un how)) (Q : Option Value → IntM → LngM → Prop) (hq : ∀ J1, FrJ J J1 → VP m_X11_two 7 156 [(0, .ref 146), (2, .int (nI (setN (twE kd nd lw how (pot * un how) od n) n)))] [] I J1 Q) : VP m_X11_two 7 84 [(0, .ref 146), (2, .int 0), (3, .int 0)] [] I J Q := by
  have hu := un_pos how
  have key : ∀ i, i ≤ n → ∀ J1, (∀ x k, ¬ (x = 146 ∧ 23 ≤ k ∧ k ≤ 29) → J1 x k = J x k) → VP m_X11_two 7 84 [(0, .ref 146), (2, .int (nI (setN (twE kd nd lw how (pot * un how) od n) i))), (3, .int (nI i))] [] I J1 Q := by
    refine down n ?_ (fun i hi ih => ?_)
    · intro J1 j1
      refine V_il i_X11_two_84 rfl ?_
      refine V_al i_X11_two_85 rfl ?_
      refine V_getI i_X11_two_86 rfl ?_
      refine V_ic_ge_t i_X11_two_89 (by rw [hK.sz]; exact Int32.le_refl _) ?_
      exact V_L (L' := [(0, _), (2, _)]) ⟨rfl, rfl, trivial⟩ (hq J1 (fun x k a b c => j1 x k a))
    · intro J1 j1
      have hnd := hK.nd i hi
      have e1 : Fr (J1 171 i) (J1 172 i) ((tE kd nd lw how (pot * un how) od n i : Nat) : Int) (un how) := by rw [j1 _ _ (by omega), j1 _ _ (by omega)]; exact g1 i hi
      have e2 : Fr (J1 158 i) (J1 159 i) ((tE kd nd lw how (pot * un how) (fun i => od (n - 1 - i)) n i : Nat) : Int) (un how) := by rw [j1 _ _ (by omega), j1 _ _ (by omega)]; exact g2 i hi
      have h9 := loJ_get J1 ((twT kd nd lw how (pot * un how) od n i : Nat) : Int) (un how)
      have b1 : tE kd nd lw how (pot * un how) od n i < 2 ^ 43 := tkB hK.p9 _
      have b2 : tE kd nd lw how (pot * un how) (fun i => od (n - 1 - i)) n i < 2 ^ 43 := tkB hK.p9 _
      have eT : ((tE kd nd lw how (pot * un how) od n i : Nat) : Int) + ((tE kd nd lw how (pot * un how) (fun i => od (n - 1 - i)) n i : Nat) : Int) = ((twT kd nd lw how (pot * un how) od n i : Nat) : Int) := by rw [← Int.natCast_add]; rfl
      have b3 : twT kd nd lw how (pot * un how) od n i < 2 ^ 44 := by show tE kd nd lw how (pot * un how) od n i + tE kd nd lw how (pot * un how) (fun i => od (n - 1 - i)) n i < 2 ^ 44; omega
      have b4 := ro_abs (A := ((twT kd nd lw how (pot * un how) od n i : Nat) : Int)) hu
      rw [Int.natAbs_natCast] at b4
      have b5 := rd_le (A := ((twT kd nd lw how (pot * un how) od n i : Nat) : Int)) hu
      have b6 := un_le how
      have b7 : nd i * rdN ((twT kd nd lw how (pot * un how) od n i : Nat) : Int) (un how) ≤ 99 * 4586471424 := Nat.mul_le_mul hnd (by omega)
      refine V_il i_X11_two_84 rfl ?_
      refine V_al i_X11_two_85 rfl ?_
      refine V_getI i_X11_two_86 rfl ?_
      refine V_ic_ge_f i_X11_two_89 (by rw [hK.sz]; exact nI_ge hi (by have := hK.n7; omega)) ?_
      refine V_al i_X11_two_92 rfl ?_
      refine V_al i_X11_two_93 rfl ?_
      refine V_getR i_X11_two_94 rfl rfl ?_
      refine V_il i_X11_two_97 rfl ?_
      refine K_lald i i_X11_two_98 rfl rfl (by have := hK.n7; omega) (by omega) ?_
      refine V_al i_X11_two_99 rfl ?_
      refine V_getR i_X11_two_100 rfl rfl ?_
      refine V_il i_X11_two_103 rfl ?_
      refine K_lald i i_X11_two_104 rfl rfl (by have := hK.n7; omega) (by omega) ?_
      refine V_al i_X11_two_105 rfl ?_
      refine V_getR i_X11_two_106 rfl rfl ?_
      refine V_il i_X11_two_109 rfl ?_
      refine K_lald i i_X11_two_110 rfl rfl (by have := hK.n7; omega) (by omega) ?_
      refine V_al i_X11_two_111 rfl ?_
      refine V_getR i_X11_two_112 rfl rfl ?_
      refine V_il i_X11_two_115 rfl ?_
      refine K_lald i i_X11_two_116 rfl rfl (by have := hK.n7; omega) (by omega) ?_
      refine P_callV4u i_X11_two_117 mi_X11_sum rfl ⟨_, _, rfl⟩ (by decide) (Nat.le_of_ble_eq_true rfl) (c_M_sum I J1 (un_pos how) (un_33 how) (abs60 b1) (abs60 b2) e1 e2) ?_
      rw [eT]
      refine V_il i_X11_two_120 rfl ?_
      refine V_al i_X11_two_121 rfl ?_
      refine V_getJ i_X11_two_122 rfl ?_
      obtain ⟨h3, h4⟩ := h9
      rw [h3]
      refine V_al i_X11_two_125 rfl ?_
      refine V_getR i_X11_two_126 rfl rfl ?_
      refine V_il i_X11_two_129 rfl ?_
      refine K_iald i i_X11_two_130 rfl rfl (by have := hK.n7; omega) (by omega) ?_
      rw [hK.M.2.2 i hi]
      refine V_i2l i_X11_two_131 ?_
      rw [nI_long (by omega)]
      refine V_al i_X11_two_132 rfl ?_
      refine V_getJ i_X11_two_133 rfl ?_
      rw [h4]
      refine V_lmul i_X11_two_136 ?_
      rw [lN_mul]
      refine V_lcmp i_X11_two_137 ?_
      refine V_if_lt i_X11_two_138 (fun c138 => ?_) (fun c138 => ?_)
      · have c9 : ¬ twE kd nd lw how (pot * un how) od n i = true := fun q => by
          have q2 := of_decide_eq_true q
          have q3 := (ro_ge hu (b := nd i)).mpr q2
          exact absurd (lgc_lt.mp c138) (Int64.not_lt.mpr (by rw [lZ_N, lZ_le (by omega) (by omega) (by omega) (by omega)]; exact q3))
        refine V_c i_X11_two_147 ?_
        refine V_ior i_X11_two_148 ?_
        first | rw [or_n0] | rw [shl1 (by have := hK.n7; omega), or_nI]
        refine V_is (L' := [(0, _), (2, _), (3, _)]) i_X11_two_149 (by decide) ⟨rfl, rfl, rfl, trivial⟩ ?_
        refine V_iinc (L' := [(0, _), (2, _), (3, _)]) (n' := 1) i_X11_two_150 (by decide) rfl (by decide) ⟨rfl, rfl, rfl, trivial⟩ ?_
        refine V_goto i_X11_two_153 ?_
        refine V_L (L' := [(0, _), (2, _), (3, _)]) ⟨rfl, rfl, rfl, trivial⟩ ?_
        rw [show nI i + 1 = nI (i + 1) from nI_1 i]
        have ih2 := ih (loJ J1 ((twT kd nd lw how (pot * un how) od n i : Nat) : Int) (un how)) (fun x k a => by
          rw [← j1 x k a]
          unfold loJ uJ
          rw [if_neg (by omega), if_neg (by omega)])
        rw [show setN (twE kd nd lw how (pot * un how) od n) (i + 1) = setN (twE kd nd lw how (pot * un how) od n) i from if_neg c9] at ih2
        exact ih2
      · have c9 : twE kd nd lw how (pot * un how) od n i = true := decide_eq_true ((ro_ge hu (b := nd i)).mp (by
          have q3 := Int64.not_lt.mp (fun q => c138 (lgc_lt.mpr q))
          rw [lZ_N, lZ_le (by omega) (by omega) (by omega) (by omega)] at q3
          exact q3))
        refine V_c i_X11_two_141 ?_
        refine V_il i_X11_two_142 rfl ?_
        refine V_ishl i_X11_two_143 ?_
        refine V_goto i_X11_two_144 ?_
        refine V_ior i_X11_two_148 ?_
        first | rw [or_n0] | rw [shl1 (by have := hK.n7; omega), or_nI]
        refine V_is (L' := [(0, _), (2, _), (3, _)]) i_X11_two_149 (by decide) ⟨rfl, rfl, rfl, trivial⟩ ?_
        refine V_iinc (L' := [(0, _), (2, _), (3, _)]) (n' := 1) i_X11_two_150 (by decide) rfl (by decide) ⟨rfl, rfl, rfl, trivial⟩ ?_
        refine V_goto i_X11_two_153 ?_
        refine V_L (L' := [(0, _), (2, _), (3, _)]) ⟨rfl, rfl, rfl, trivial⟩ ?_
        rw [show nI i + 1 = nI (i + 1) from nI_1 i]
        have ih2 := ih (loJ J1 ((twT kd nd lw how (pot * un how) od n i : Nat) : Int) (un how)) (fun x k a => by
          rw [← j1 x k a]
          unfold loJ uJ
          rw [if_neg (by omega), if_neg (by omega)])
        rw [show setN (twE kd nd lw how (pot * un how) od n) (i + 1) = setN (twE kd nd lw how (pot * un how) od n) i ||| 2 ^ i from if_pos c9] at ih2
        exact ih2
  exact key 0 (Nat.zero_le _) J (fun _ _ _ => rfl)
set_option maxRecDepth 100000 in
set_option maxHeartbeats 4000000 in
theorem m_two (I : IntM) (J : LngM) {n : Nat} {kd nd od : Nat → Nat} {lw pot : Nat} (hK : MK I n kd nd od lw pot) {how : Nat} (hh : how ≤ 1) : CtP 7 m_X11_two [.ref 146, .int (nI how)] I J (QM I J (.int (nI (setN (twE kd nd lw how (pot * un how) od n) n))) (some (nI (popc (setN (twE kd nd lw how (pot * un how) od n) n)))) none none) := by
  refine CtP_of (by decide) rfl (Nat.le_of_ble_eq_true rfl) ?_
  refine V_il i_X11_two_0 rfl ?_
  refine P_callS1v i_X11_two_1 ms_X11_isHow (by decide) (Nat.le_of_ble_eq_true rfl) (c_M_isHow _ _ _) ?_
  refine V_if_ne_t i_X11_two_4 (by rw [howv_nI hh]; decide) ?_
  refine V_al i_X11_two_9 rfl ?_
  refine P_callV0 i_X11_two_10 mi_X11_seatsAsTold rfl ⟨_, _, rfl⟩ (by decide) (Nat.le_of_ble_eq_true rfl) (m_told I J hK) (fun r I1 Jx q => ?_)
  obtain ⟨rfl, f1, a1, rfl⟩ := q
  have k1 := FrM.K f1 hK
  refine V_al i_X11_two_13 rfl ?_
  refine V_il i_X11_two_14 rfl ?_
  refine V_al i_X11_two_15 rfl ?_
  refine V_getI i_X11_two_16 rfl ?_
  rw [k1.pt]
  refine V_al i_X11_two_19 rfl ?_
  refine V_getI i_X11_two_20 rfl ?_
  rw [k1.lw]
  refine V_c i_X11_two_23 ?_
  refine P_callV4 i_X11_two_24 mi_X11_goes rfl ⟨_, _, rfl⟩ (by decide) (Nat.le_of_ble_eq_true rfl) (m_goes0 I1 J k1 hh k1.l3 k1.p9  a1 k1.P) (fun r Ix J1 q => ?_)
  obtain ⟨rfl, rfl, j1, g1⟩ := q
  refine V_al i_X11_two_27 rfl ?_
  refine P_callV0u i_X11_two_28 mi_X11_keepsGot rfl ⟨_, _, rfl⟩ (by decide) (Nat.le_of_ble_eq_true rfl) (c_M_keeps I1 J1 k1.n7 k1.sz) ?_
  refine V_c i_X11_two_31 ?_
  refine V_is (L' := [(0, _), (1, _), (2, _)]) i_X11_two_32 (by decide) ⟨rfl, rfl, rfl, trivial⟩ ?_
  refine V_L (L' := [(0, _), (1, _), (2, _)]) ⟨rfl, rfl, rfl, trivial⟩ ?_
  refine lp_M_two1 I1 _ k1.n7 k1.sz _ ?_
  obtain ⟨I2, e2⟩ : ∃ I2, I2 = putI I1 157 n (fun p => I1 156 (n - 1 - p)) := ⟨_, rfl⟩
  obtain ⟨J2, d2⟩ : ∃ J2, J2 = putJ (putJ J1 171 n (J1 158)) 172 n (J1 159) := ⟨_, rfl⟩
  rw [← e2, ← d2]
  have f2 : FrM I1 J1 I2 J1 := by rw [e2]; exact putI_M _ _ _ _
  have a2 : AtI I2 157 n (fun p => od (n - 1 - p)) := by rw [e2]; exact putI_At (fun k hk => k1.od _ (by omega))
  have k2 := FrM.K f2 k1
  have hk2 : FrM I1 J1 I1 J2 := by
    rw [d2]
    refine ⟨fun _ _ _ => rfl, fun x k q => ?_⟩
    unfold putJ
    rw [if_neg (by unfold pJ at q; omega), if_neg (by unfold pJ at q; omega)]
  have u1 : ∀ k, k < n → J2 171 k = J1 158 k ∧ J2 172 k = J1 159 k := fun k hk => by
    rw [d2]
    unfold putJ
    rw [if_neg (by omega), if_pos ⟨rfl, hk⟩, if_pos ⟨rfl, hk⟩]
    exact ⟨rfl, rfl⟩
  refine V_al i_X11_two_66 rfl ?_
  refine V_il i_X11_two_67 rfl ?_
  refine V_al i_X11_two_68 rfl ?_
  refine V_getI i_X11_two_69 rfl ?_
  rw [k2.pt]
  refine V_al i_X11_two_72 rfl ?_
  refine V_getI i_X11_two_73 rfl ?_
  rw [k2.lw]
  refine V_c i_X11_two_76 ?_
  refine P_callV4 i_X11_two_77 mi_X11_goes rfl ⟨_, _, rfl⟩ (by decide) (Nat.le_of_ble_eq_true rfl) (m_goes0 I2 J2 k2 hh k2.l3 k2.p9 a2 (Pm_back k2.P)) (fun r Ix J3 q => ?_)
  obtain ⟨rfl, rfl, j3, g3⟩ := q
  refine V_c i_X11_two_80 ?_
  refine V_is (L' := [(0, _), (2, _)]) i_X11_two_81 (by decide) ⟨rfl, rfl, trivial⟩ ?_
  refine V_c i_X11_two_82 ?_
  refine V_is (L' := [(0, _), (2, _), (3, _)]) i_X11_two_83 (by decide) ⟨rfl, rfl, rfl, trivial⟩ ?_
  refine V_L (L' := [(0, _), (2, _), (3, _)]) ⟨rfl, rfl, rfl, trivial⟩ ?_
  refine lp_M_two2 I2 J3 k2 hh (fun k hk => ?_) (fun k hk => g3.2 k hk) _ (fun J4 j4 => ?_)
  · rw [j3 _ _ (by omega) (by omega) (by omega), j3 _ _ (by omega) (by omega) (by omega), (u1 k hk).1, (u1 k hk).2]
    exact g1.2 k hk
  refine V_al i_X11_two_156 rfl ?_
  refine V_il i_X11_two_157 rfl ?_
  refine P_callV1v i_X11_two_158 mi_X11_tellsSet rfl ⟨_, _, rfl⟩ (by decide) (Nat.le_of_ble_eq_true rfl) (c_M_tellsSet I2 J4 (setN_lt _ n hK.n7)) ?_
  exact P_iret i_X11_two_161 rfl ⟨rfl, I2, J4, FrM.J (FrM.tr f1 ⟨f2.1, fun _ _ _ => rfl⟩) (FrM.tr (FrJ.M I1 j1) (FrM.tr hk2 (FrM.tr (FrJ.M I1 j3) (FrJ.M I1 j4)))), rfl, rfl⟩
set_option maxRecDepth 100000 in
set_option maxHeartbeats 4000000 in
theorem m_two0 (I : IntM) (J : LngM) {n : Nat} {kd nd od : Nat → Nat} {lw pot : Nat} (hK : MK I n kd nd od lw pot) {x : Int32} (h : howv x = 0) : CtP 7 m_X11_two [.ref 146, .int x] I J (QM I J (.int (-1)) none none none) := by
  refine CtP_of (by decide) rfl (Nat.le_of_ble_eq_true rfl) ?_
  refine V_il i_X11_two_0 rfl ?_
  refine P_callS1v i_X11_two_1 ms_X11_isHow (by decide) (Nat.le_of_ble_eq_true rfl) (c_M_isHow _ _ _) ?_
  refine V_if_ne_f i_X11_two_4 h ?_
  refine V_c i_X11_two_7 ?_
  exact P_iret i_X11_two_8 rfl ⟨rfl, I, J, FrM.rf, rfl, rfl⟩
theorem fr_1 {A : Int} {u : Nat} (hu : 0 < u) : (rdN A u : Int) ≤ roN A u ↔ (u : Int) ≤ A := by
  have e := ro_cross A u
  have hy := rd_pos (A := A) hu
  have hu2 : (0 : Int) < (u : Int) := by omega
  generalize rdN A u = Y at *
  generalize roN A u = X at *
  have hy2 : (0 : Int) < (Y : Int) := by omega
  constructor
  · intro h
    have h3 := Int.mul_le_mul_of_nonneg_right h (Int.le_of_lt hu2)
    rw [e, Int.mul_comm (Y : Int) (u : Int)] at h3
    exact Int.le_of_mul_le_mul_right h3 hy2
  · intro h
    refine Int.le_of_mul_le_mul_right ?_ hu2
    rw [e, Int.mul_comm (Y : Int) (u : Int)]
    exact Int.mul_le_mul_of_nonneg_right h (Int.le_of_lt hy2)
theorem isK2 (kd : Nat → Nat) (k : Nat) : isK kd 2 k = decide (kd k = 2) := by
  unfold isK
  simp
set_option maxRecDepth 100000 in
set_option maxHeartbeats 4000000 in
theorem lp_M_scales (I : IntM) (J : LngM) {n : Nat} {kd nd od : Nat → Nat} {lw pot : Nat} (hK : MK I n kd nd od lw pot) (hS : AtI I 157 n od) {x y : Int64} (hF : Fr x y ((thS kd nd lw 0 (pot * un 0) od n : Nat) : Int) (un 0)) (Q : Option Value → IntM → LngM → Prop) (hq : ∀ J1, FrJ J J1 → VP m_X11_scales 7 117 [(0, .ref 146), (5, .int (nI (setN (scE kd nd lw (pot * un 0) od n) n)))] [] I J1 Q) : VP m_X11_scales 7 34 [(0, .ref 146), (1, .long x), (3, .long y), (5, .int 0), (6, .int 0)] [] I J Q := by
  have key : ∀ i, i ≤ n → ∀ J1, FrJ J J1 → VP m_X11_scales 7 34 [(0, .ref 146), (1, .long x), (3, .long y), (5, .int (nI (setN (scE kd nd lw (pot * un 0) od n) i))), (6, .int (nI i))] [] I J1 Q := by
    refine down n ?_ (fun i hi ih => ?_)
    · intro J1 j1
      refine V_il i_X11_scales_34 rfl ?_
      refine V_al i_X11_scales_36 rfl ?_
      refine V_getI i_X11_scales_37 rfl ?_
      refine V_ic_ge_t i_X11_scales_40 (by rw [hK.sz]; exact Int32.le_refl _) ?_
      exact V_L (L' := [(0, _), (5, _)]) ⟨rfl, rfl, trivial⟩ (hq J1 j1)
    · intro J1 j1
      have b1 := thB (kd := kd) (nd := nd) (lw := lw) (how := 0) (ln := od) hK.p9 n
      have b2 := thB (kd := hon kd (2 ^ i)) (nd := nd) (lw := lw) (how := 0) (ln := od) hK.p9 n
      have b3 := ro_abs (A := (((thS (hon kd (2 ^ i)) nd lw 0 (pot * un 0) od n : Nat) : Int) + -((thS kd nd lw 0 (pot * un 0) od n : Nat) : Int))) (un_pos 0)
      have b4 := rd_le (A := (((thS (hon kd (2 ^ i)) nd lw 0 (pot * un 0) od n : Nat) : Int) + -((thS kd nd lw 0 (pot * un 0) od n : Nat) : Int))) (un_pos 0)
      have b5 := un_le 0
      refine V_il i_X11_scales_34 rfl ?_
      refine V_al i_X11_scales_36 rfl ?_
      refine V_getI i_X11_scales_37 rfl ?_
      refine V_ic_ge_f i_X11_scales_40 (by rw [hK.sz]; exact nI_ge hi (by have := hK.n7; omega)) ?_
      refine V_al i_X11_scales_43 rfl ?_
      refine V_getR i_X11_scales_44 rfl rfl ?_
      refine V_il i_X11_scales_47 rfl ?_
      refine K_iald i i_X11_scales_49 rfl rfl (by have := hK.n7; omega) (by omega) ?_
      rw [hK.M.2.1 i hi]
      refine V_c i_X11_scales_50 ?_
      refine V_ic_ne i_X11_scales_51 (fun c51 => ?_) (fun c51 => ?_)
      · have c8 : ¬ kd i = 2 := fun q => c51 (by rw [q]; rfl)
        have c9 : ¬ scE kd nd lw (pot * un 0) od n i = true := fun q => by
          unfold scE at q
          have q2 := ((Bool.and_eq_true _ _).mp q).1
          rw [isK2] at q2
          exact c8 (of_decide_eq_true q2)
        refine V_iinc (L' := [(0, _), (1, _), (3, _), (5, _), (6, _)]) (n' := 1) i_X11_scales_111 (by decide) rfl (by decide) ⟨rfl, rfl, rfl, rfl, rfl, trivial⟩ ?_
        refine V_goto i_X11_scales_114 ?_
        refine V_L (L' := [(0, _), (1, _), (3, _), (5, _), (6, _)]) ⟨rfl, rfl, rfl, rfl, rfl, trivial⟩ ?_
        rw [show nI i + 1 = nI (i + 1) from nI_1 i]
        have ih2 := ih J1 j1
        rw [show setN (scE kd nd lw (pot * un 0) od n) (i + 1) = setN (scE kd nd lw (pot * un 0) od n) i from if_neg c9] at ih2
        exact ih2
      · have c8 : kd i = 2 := by
          rw [show (2 : Int32) = nI 2 from rfl, nI_eq (by have := hK.kd i hi; omega) (by decide)] at c51
          exact c51
        refine V_al i_X11_scales_54 rfl ?_
        refine V_c i_X11_scales_55 ?_
        refine V_al i_X11_scales_56 rfl ?_
        refine V_getI i_X11_scales_57 rfl ?_
        rw [hK.pt]
        refine V_al i_X11_scales_60 rfl ?_
        refine V_getI i_X11_scales_61 rfl ?_
        rw [hK.lw]
        refine V_c i_X11_scales_64 ?_
        refine V_il i_X11_scales_65 rfl ?_
        refine V_ishl i_X11_scales_67 ?_
        rw [shl1 (by have := hK.n7; omega)]
        refine P_callV4 i_X11_scales_68 mi_X11_goes rfl ⟨_, _, rfl⟩ (by decide) (Nat.le_of_ble_eq_true rfl) (m_goes I J1 hK (how := 0) (by decide) hK.l3 hK.p9 (w := 2 ^ i) (p128 (by have := hK.n7; omega)) hS hK.P) (fun r Ix J2 q => ?_)
        obtain ⟨rfl, rfl, j2, g2⟩ := q
        refine V_al i_X11_scales_71 rfl ?_
        refine V_al i_X11_scales_72 rfl ?_
        refine V_getJ i_X11_scales_73 rfl ?_
        refine V_al i_X11_scales_76 rfl ?_
        refine V_getJ i_X11_scales_77 rfl ?_
        refine V_ll i_X11_scales_80 rfl ?_
        refine V_lneg i_X11_scales_81 ?_
        refine V_ll i_X11_scales_82 rfl ?_
        refine P_callV4u i_X11_scales_83 mi_X11_sum rfl ⟨_, _, rfl⟩ (by decide) (Nat.le_of_ble_eq_true rfl) (c_M_sum I J2 (un_pos 0) (un_33 0) (abs60 b2) (by rw [Int.natAbs_neg]; exact abs60 b1) g2.1 hF.neg) ?_
        obtain ⟨h3, h4⟩ := loJ_get J2 (((thS (hon kd (2 ^ i)) nd lw 0 (pot * un 0) od n : Nat) : Int) + -((thS kd nd lw 0 (pot * un 0) od n : Nat) : Int)) (un 0)
        refine V_il i_X11_scales_86 rfl ?_
        refine V_al i_X11_scales_88 rfl ?_
        refine V_getJ i_X11_scales_89 rfl ?_
        rw [h3]
        refine V_al i_X11_scales_92 rfl ?_
        refine V_getJ i_X11_scales_93 rfl ?_
        rw [h4]
        refine V_lcmp i_X11_scales_96 ?_
        refine V_if_lt i_X11_scales_97 (fun c97 => ?_) (fun c97 => ?_)
        · have c9 : ¬ scE kd nd lw (pot * un 0) od n i = true := fun q => by
            unfold scE at q
            have q2 := of_decide_eq_true ((Bool.and_eq_true _ _).mp q).2
            have q3 := (fr_1 (A := (((thS (hon kd (2 ^ i)) nd lw 0 (pot * un 0) od n : Nat) : Int) + -((thS kd nd lw 0 (pot * un 0) od n : Nat) : Int))) (un_pos 0)).mpr (by omega)
            exact absurd (lgc_lt.mp c97) (Int64.not_lt.mpr (by rw [lZ_N, lZ_le (by omega) (by omega) (by omega) (by omega)]; exact q3))
          refine V_c i_X11_scales_107 ?_
          refine V_ior i_X11_scales_108 ?_
          first | rw [or_n0] | rw [shl1 (by have := hK.n7; omega), or_nI]
          refine V_is (L' := [(0, _), (1, _), (3, _), (5, _), (6, _)]) i_X11_scales_109 (by decide) ⟨rfl, rfl, rfl, rfl, rfl, trivial⟩ ?_
          refine V_iinc (L' := [(0, _), (1, _), (3, _), (5, _), (6, _)]) (n' := 1) i_X11_scales_111 (by decide) rfl (by decide) ⟨rfl, rfl, rfl, rfl, rfl, trivial⟩ ?_
          refine V_goto i_X11_scales_114 ?_
          refine V_L (L' := [(0, _), (1, _), (3, _), (5, _), (6, _)]) ⟨rfl, rfl, rfl, rfl, rfl, trivial⟩ ?_
          rw [show nI i + 1 = nI (i + 1) from nI_1 i]
          have ih2 := ih _ (FrJ.tr j1 (FrJ.tr j2 (FrJ.lo J2 (((thS (hon kd (2 ^ i)) nd lw 0 (pot * un 0) od n : Nat) : Int) + -((thS kd nd lw 0 (pot * un 0) od n : Nat) : Int)) (un 0))))
          rw [show setN (scE kd nd lw (pot * un 0) od n) (i + 1) = setN (scE kd nd lw (pot * un 0) od n) i from if_neg c9] at ih2
          exact ih2
        · have c9 : scE kd nd lw (pot * un 0) od n i = true := by
            have q3 := Int64.not_lt.mp (fun q => c97 (lgc_lt.mpr q))
            rw [lZ_N, lZ_le (by omega) (by omega) (by omega) (by omega)] at q3
            have q4 := (fr_1 (A := (((thS (hon kd (2 ^ i)) nd lw 0 (pot * un 0) od n : Nat) : Int) + -((thS kd nd lw 0 (pot * un 0) od n : Nat) : Int))) (un_pos 0)).mp q3
            unfold scE
            exact (Bool.and_eq_true _ _).mpr ⟨by rw [isK2]; exact decide_eq_true c8, decide_eq_true (by omega)⟩
          refine V_c i_X11_scales_100 ?_
          refine V_il i_X11_scales_101 rfl ?_
          refine V_ishl i_X11_scales_103 ?_
          refine V_goto i_X11_scales_104 ?_
          refine V_ior i_X11_scales_108 ?_
          first | rw [or_n0] | rw [shl1 (by have := hK.n7; omega), or_nI]
          refine V_is (L' := [(0, _), (1, _), (3, _), (5, _), (6, _)]) i_X11_scales_109 (by decide) ⟨rfl, rfl, rfl, rfl, rfl, trivial⟩ ?_
          refine V_iinc (L' := [(0, _), (1, _), (3, _), (5, _), (6, _)]) (n' := 1) i_X11_scales_111 (by decide) rfl (by decide) ⟨rfl, rfl, rfl, rfl, rfl, trivial⟩ ?_
          refine V_goto i_X11_scales_114 ?_
          refine V_L (L' := [(0, _), (1, _), (3, _), (5, _), (6, _)]) ⟨rfl, rfl, rfl, rfl, rfl, trivial⟩ ?_
          rw [show nI i + 1 = nI (i + 1) from nI_1 i]
          have ih2 := ih _ (FrJ.tr j1 (FrJ.tr j2 (FrJ.lo J2 (((thS (hon kd (2 ^ i)) nd lw 0 (pot * un 0) od n : Nat) : Int) + -((thS kd nd lw 0 (pot * un 0) od n : Nat) : Int)) (un 0))))
          rw [show setN (scE kd nd lw (pot * un 0) od n) (i + 1) = setN (scE kd nd lw (pot * un 0) od n) i ||| 2 ^ i from if_pos c9] at ih2
          exact ih2
  exact key 0 (Nat.zero_le _) J FrJ.rf
set_option maxRecDepth 100000 in
set_option maxHeartbeats 4000000 in
theorem m_scales (I : IntM) (J : LngM) {n : Nat} {kd nd od : Nat → Nat} {lw pot : Nat} (hK : MK I n kd nd od lw pot) : CtP 7 m_X11_scales [.ref 146] I J (QM I J (.int (nI (setN (scE kd nd lw (pot * un 0) od n) n))) (some (nI (cntN (isK kd 2) n))) none none) := by
  refine CtP_of (by decide) rfl (Nat.le_of_ble_eq_true rfl) ?_
  refine V_al i_X11_scales_0 rfl ?_
  refine P_callV0 i_X11_scales_1 mi_X11_seatsAsTold rfl ⟨_, _, rfl⟩ (by decide) (Nat.le_of_ble_eq_true rfl) (m_told I J hK) (fun r I1 Jx q => ?_)
  obtain ⟨rfl, f1, a1, rfl⟩ := q
  have k1 := FrM.K f1 hK
  refine V_al i_X11_scales_4 rfl ?_
  refine V_c i_X11_scales_5 ?_
  refine V_al i_X11_scales_6 rfl ?_
  refine V_getI i_X11_scales_7 rfl ?_
  rw [k1.pt]
  refine V_al i_X11_scales_10 rfl ?_
  refine V_getI i_X11_scales_11 rfl ?_
  rw [k1.lw]
  refine V_c i_X11_scales_14 ?_
  refine P_callV4 i_X11_scales_15 mi_X11_goes rfl ⟨_, _, rfl⟩ (by decide) (Nat.le_of_ble_eq_true rfl) (m_goes0 I1 J k1 (how := 0) (by decide) k1.l3 k1.p9  a1 k1.P) (fun r Ix J1 q => ?_)
  obtain ⟨rfl, rfl, j1, g1⟩ := q
  refine V_al i_X11_scales_18 rfl ?_
  refine V_getJ i_X11_scales_19 rfl ?_
  refine V_ls (L' := [(0, _), (1, _)]) i_X11_scales_22 (by decide) ⟨rfl, rfl, trivial⟩ ?_
  refine V_al i_X11_scales_23 rfl ?_
  refine V_getJ i_X11_scales_24 rfl ?_
  refine V_ls (L' := [(0, _), (1, _), (3, _)]) i_X11_scales_27 (by decide) ⟨rfl, rfl, rfl, trivial⟩ ?_
  refine V_c i_X11_scales_28 ?_
  refine V_is (L' := [(0, _), (1, _), (3, _), (5, _)]) i_X11_scales_29 (by decide) ⟨rfl, rfl, rfl, rfl, trivial⟩ ?_
  refine V_c i_X11_scales_31 ?_
  refine V_is (L' := [(0, _), (1, _), (3, _), (5, _), (6, _)]) i_X11_scales_32 (by decide) ⟨rfl, rfl, rfl, rfl, rfl, trivial⟩ ?_
  refine V_L (L' := [(0, _), (1, _), (3, _), (5, _), (6, _)]) ⟨rfl, rfl, rfl, rfl, rfl, trivial⟩ ?_
  refine lp_M_scales I1 J1 k1 a1 g1.1 _ (fun J2 j2 => ?_)
  refine V_al i_X11_scales_117 rfl ?_
  refine V_al i_X11_scales_118 rfl ?_
  refine P_callV0v i_X11_scales_119 mi_X11_cheatSet rfl ⟨_, _, rfl⟩ (by decide) (Nat.le_of_ble_eq_true rfl) (c_M_cset I1 J2 k1.n7 k1.M k1.kd) ?_
  refine P_callS1v i_X11_scales_122 ms_X11_ones (by decide) (Nat.le_of_ble_eq_true rfl) (c_M_ones _ _ (setN_lt _ n hK.n7)) ?_
  rw [popc_set hK.n7]
  refine V_putI i_X11_scales_125 rfl ?_
  refine V_il i_X11_scales_128 rfl ?_
  exact P_iret i_X11_scales_130 rfl ⟨rfl, I1, J2, FrM.tr f1 (FrJ.M _ (FrJ.tr j1 j2)), rfl, rfl⟩
def dfE (kd nd : Nat → Nat) (lw P : Nat) (od : Nat → Nat) (n w m : Nat) : Int := ((sumN (fun k => if w.testBit k = true then tE kd nd lw 0 P od n k else 0) m : Nat) : Int) - ((sumN (fun k => if w.testBit k = true then tE (hon kd w) nd lw 0 P od n k else 0) m : Nat) : Int)
theorem dfE_t {kd nd od : Nat → Nat} {lw P n w m : Nat} (h : w.testBit m = true) : dfE kd nd lw P od n w (m + 1) = dfE kd nd lw P od n w m + (((tE kd nd lw 0 P od n m : Nat) : Int) + -((tE (hon kd w) nd lw 0 P od n m : Nat) : Int)) := by
  unfold dfE
  show ((sumN (fun k => if w.testBit k = true then tE kd nd lw 0 P od n k else 0) m + (if w.testBit m = true then tE kd nd lw 0 P od n m else 0) : Nat) : Int) - ((sumN (fun k => if w.testBit k = true then tE (hon kd w) nd lw 0 P od n k else 0) m + (if w.testBit m = true then tE (hon kd w) nd lw 0 P od n m else 0) : Nat) : Int) = _
  rw [if_pos h, if_pos h]
  omega
theorem dfE_f {kd nd od : Nat → Nat} {lw P n w m : Nat} (h : ¬ w.testBit m = true) : dfE kd nd lw P od n w (m + 1) = dfE kd nd lw P od n w m := by
  unfold dfE
  show ((sumN (fun k => if w.testBit k = true then tE kd nd lw 0 P od n k else 0) m + (if w.testBit m = true then tE kd nd lw 0 P od n m else 0) : Nat) : Int) - ((sumN (fun k => if w.testBit k = true then tE (hon kd w) nd lw 0 P od n k else 0) m + (if w.testBit m = true then tE (hon kd w) nd lw 0 P od n m else 0) : Nat) : Int) = _
  rw [if_neg h, if_neg h]
  rfl
theorem dfE_b {kd nd od : Nat → Nat} {lw pot n w m : Nat} (hp : pot ≤ 999) (hm : m ≤ 7) : (dfE kd nd lw (pot * un 0) od n w m).natAbs < 2 ^ 50 := by
  have a : ∀ kd' : Nat → Nat, sumN (fun k => if w.testBit k = true then tE kd' nd lw 0 (pot * un 0) od n k else 0) m < 2 ^ 49 := fun kd' => by
    have h := sumN_le (f := fun k => if w.testBit k = true then tE kd' nd lw 0 (pot * un 0) od n k else 0) (c := 2 ^ 43) (n := m) (fun q _ => by
      show (if w.testBit q = true then tE kd' nd lw 0 (pot * un 0) od n q else 0) ≤ 2 ^ 43
      split
      · exact Nat.le_of_lt (tkB hp _)
      · exact Nat.zero_le _)
    have h2 := Nat.mul_le_mul_right (2 ^ 43) hm
    omega
  have h1 := a kd
  have h2 := a (hon kd w)
  unfold dfE
  omega
set_option maxRecDepth 100000 in
set_option maxHeartbeats 4000000 in
theorem lp_M_cheats (I : IntM) (J : LngM) {n : Nat} {kd nd od : Nat → Nat} {lw pot : Nat} (hK : MK I n kd nd od lw pot) {w : Nat} (hw : w = (setN (isK kd 2) n)) (g1 : ∀ k, k < n → Fr (J 171 k) (J 172 k) ((tE kd nd lw 0 (pot * un 0) od n k : Nat) : Int) (un 0)) (g2 : ∀ k, k < n → Fr (J 158 k) (J 159 k) ((tE (hon kd w) nd lw 0 (pot * un 0) od n k : Nat) : Int) (un 0)) (Q : Option Value → IntM → LngM → Prop) (hq : ∀ J1 x y, FrJ J J1 → Fr x y (dfE kd nd lw (pot * un 0) od n w n) (un 0) → VP m_X11_cheats 7 129 [(0, .ref 146), (1, .long x), (3, .long y)] [] I J1 Q) : VP m_X11_cheats 7 46 [(0, .ref 146), (1, .long 0), (3, .long 1), (5, .int 0)] [] I J Q := by
  have key : ∀ i, i ≤ n → ∀ J1 x y, (∀ x k, ¬ (x = 146 ∧ 23 ≤ k ∧ k ≤ 29) → J1 x k = J x k) → Fr x y (dfE kd nd lw (pot * un 0) od n w i) (un 0) → VP m_X11_cheats 7 46 [(0, .ref 146), (1, .long x), (3, .long y), (5, .int (nI i))] [] I J1 Q := by
    refine down n ?_ (fun i hi ih => ?_)
    · intro J1 x y j1 hF
      refine V_il i_X11_cheats_46 rfl ?_
      refine V_al i_X11_cheats_48 rfl ?_
      refine V_getI i_X11_cheats_49 rfl ?_
      refine V_ic_ge_t i_X11_cheats_52 (by rw [hK.sz]; exact Int32.le_refl _) ?_
      exact V_L (L' := [(0, _), (1, _), (3, _)]) ⟨rfl, rfl, rfl, trivial⟩ (hq J1 x y (fun x k a b c => j1 x k a) hF)
    · intro J1 x y j1 hF
      have e1 : Fr (J1 171 i) (J1 172 i) ((tE kd nd lw 0 (pot * un 0) od n i : Nat) : Int) (un 0) := by rw [j1 _ _ (by omega), j1 _ _ (by omega)]; exact g1 i hi
      have e2 : Fr (J1 158 i) (J1 159 i) ((tE (hon kd w) nd lw 0 (pot * un 0) od n i : Nat) : Int) (un 0) := by rw [j1 _ _ (by omega), j1 _ _ (by omega)]; exact g2 i hi
      have b1 : tE kd nd lw 0 (pot * un 0) od n i < 2 ^ 43 := tkB hK.p9 _
      have b2 : tE (hon kd w) nd lw 0 (pot * un 0) od n i < 2 ^ 43 := tkB hK.p9 _
      have b3 : (((tE kd nd lw 0 (pot * un 0) od n i : Nat) : Int) + -((tE (hon kd w) nd lw 0 (pot * un 0) od n i : Nat) : Int)).natAbs < 2 ^ 60 := by omega
      refine V_il i_X11_cheats_46 rfl ?_
      refine V_al i_X11_cheats_48 rfl ?_
      refine V_getI i_X11_cheats_49 rfl ?_
      refine V_ic_ge_f i_X11_cheats_52 (by rw [hK.sz]; exact nI_ge hi (by have := hK.n7; omega)) ?_
      refine V_al i_X11_cheats_55 rfl ?_
      refine V_getR i_X11_cheats_56 rfl rfl ?_
      refine V_il i_X11_cheats_59 rfl ?_
      refine K_iald i i_X11_cheats_61 rfl rfl (by have := hK.n7; omega) (by omega) ?_
      rw [hK.M.2.1 i hi]
      refine V_c i_X11_cheats_62 ?_
      refine V_ic_ne i_X11_cheats_63 (fun c63 => ?_) (fun c63 => ?_)
      · have c9 : ¬ w.testBit i = true := fun q => by
          rw [hw, setN_bit] at q
          have q2 := ((Bool.and_eq_true _ _).mp q).2
          rw [isK2] at q2
          exact c63 (by rw [of_decide_eq_true q2]; rfl)
        refine V_iinc (L' := [(0, _), (1, _), (3, _), (5, _)]) (n' := 1) i_X11_cheats_123 (by decide) rfl (by decide) ⟨rfl, rfl, rfl, rfl, trivial⟩ ?_
        refine V_goto i_X11_cheats_126 ?_
        refine V_L (L' := [(0, _), (1, _), (3, _), (5, _)]) ⟨rfl, rfl, rfl, rfl, trivial⟩ ?_
        rw [show nI i + 1 = nI (i + 1) from nI_1 i]
        exact ih J1 x y j1 (by rw [dfE_f c9]; exact hF)
      · have c9 : w.testBit i = true := by
          rw [show (2 : Int32) = nI 2 from rfl, nI_eq (by have := hK.kd i hi; omega) (by decide)] at c63
          rw [hw, setN_bit, isK2]
          exact (Bool.and_eq_true _ _).mpr ⟨decide_eq_true hi, decide_eq_true c63⟩
        refine V_al i_X11_cheats_66 rfl ?_
        refine V_al i_X11_cheats_67 rfl ?_
        refine V_getR i_X11_cheats_68 rfl rfl ?_
        refine V_il i_X11_cheats_71 rfl ?_
        refine K_lald i i_X11_cheats_73 rfl rfl (by have := hK.n7; omega) (by omega) ?_
        refine V_al i_X11_cheats_74 rfl ?_
        refine V_getR i_X11_cheats_75 rfl rfl ?_
        refine V_il i_X11_cheats_78 rfl ?_
        refine K_lald i i_X11_cheats_80 rfl rfl (by have := hK.n7; omega) (by omega) ?_
        refine V_al i_X11_cheats_81 rfl ?_
        refine V_getR i_X11_cheats_82 rfl rfl ?_
        refine V_il i_X11_cheats_85 rfl ?_
        refine K_lald i i_X11_cheats_87 rfl rfl (by have := hK.n7; omega) (by omega) ?_
        refine V_lneg i_X11_cheats_88 ?_
        refine V_al i_X11_cheats_89 rfl ?_
        refine V_getR i_X11_cheats_90 rfl rfl ?_
        refine V_il i_X11_cheats_93 rfl ?_
        refine K_lald i i_X11_cheats_95 rfl rfl (by have := hK.n7; omega) (by omega) ?_
        refine P_callV4u i_X11_cheats_96 mi_X11_sum rfl ⟨_, _, rfl⟩ (by decide) (Nat.le_of_ble_eq_true rfl) (c_M_sum I J1 (un_pos 0) (un_33 0) (abs60 b1) (by rw [Int.natAbs_neg]; exact abs60 b2) e1 e2.neg) ?_
        refine V_al i_X11_cheats_99 rfl ?_
        refine V_ll i_X11_cheats_100 rfl ?_
        refine V_ll i_X11_cheats_101 rfl ?_
        refine V_al i_X11_cheats_102 rfl ?_
        refine V_getJ i_X11_cheats_103 rfl ?_
        refine V_al i_X11_cheats_106 rfl ?_
        refine V_getJ i_X11_cheats_107 rfl ?_
        refine P_callV4u i_X11_cheats_110 mi_X11_sum rfl ⟨_, _, rfl⟩ (by decide) (Nat.le_of_ble_eq_true rfl) (c_M_sum I _ (un_pos 0) (un_33 0) (Nat.lt_trans (dfE_b hK.p9 (show i ≤ 7 by have := hK.n7; omega)) (by decide)) b3 hF (loJ_get J1 (((tE kd nd lw 0 (pot * un 0) od n i : Nat) : Int) + -((tE (hon kd w) nd lw 0 (pot * un 0) od n i : Nat) : Int)) (un 0))) ?_
        refine V_al i_X11_cheats_113 rfl ?_
        refine V_getJ i_X11_cheats_114 rfl ?_
        refine V_ls (L' := [(0, _), (1, _), (5, _)]) i_X11_cheats_117 (by decide) ⟨rfl, rfl, rfl, trivial⟩ ?_
        refine V_al i_X11_cheats_118 rfl ?_
        refine V_getJ i_X11_cheats_119 rfl ?_
        refine V_ls (L' := [(0, _), (1, _), (3, _), (5, _)]) i_X11_cheats_122 (by decide) ⟨rfl, rfl, rfl, rfl, trivial⟩ ?_
        refine V_iinc (L' := [(0, _), (1, _), (3, _), (5, _)]) (n' := 1) i_X11_cheats_123 (by decide) rfl (by decide) ⟨rfl, rfl, rfl, rfl, trivial⟩ ?_
        refine V_goto i_X11_cheats_126 ?_
        refine V_L (L' := [(0, _), (1, _), (3, _), (5, _)]) ⟨rfl, rfl, rfl, rfl, trivial⟩ ?_
        rw [show nI i + 1 = nI (i + 1) from nI_1 i]
        exact ih _ _ _ (fun x k a => by
          rw [← j1 x k a]
          unfold loJ uJ
          rw [if_neg (by omega), if_neg (by omega), if_neg (by omega), if_neg (by omega)]) (by
          have h9 := loJ_get (loJ J1 (((tE kd nd lw 0 (pot * un 0) od n i : Nat) : Int) + -((tE (hon kd w) nd lw 0 (pot * un 0) od n i : Nat) : Int)) (un 0)) (dfE kd nd lw (pot * un 0) od n w i + (((tE kd nd lw 0 (pot * un 0) od n i : Nat) : Int) + -((tE (hon kd w) nd lw 0 (pot * un 0) od n i : Nat) : Int))) (un 0)
          rw [← dfE_t c9] at h9
          rw [← dfE_t c9]
          exact h9)
  exact key 0 (Nat.zero_le _) J 0 1 (fun _ _ _ => rfl) (Fr_0 (un_pos 0))
set_option maxRecDepth 100000 in
set_option maxHeartbeats 4000000 in
theorem m_cheats (I : IntM) (J : LngM) {n : Nat} {kd nd od : Nat → Nat} {lw pot : Nat} (hK : MK I n kd nd od lw pot) : CtP 7 m_X11_cheats [.ref 146] I J (QM I J (.int 1) none (some ((((shE kd nd lw (pot * un 0) od n (setN (isK kd 2) n) : Nat) : Int) - ((shE (hon kd (setN (isK kd 2) n)) nd lw (pot * un 0) od n (setN (isK kd 2) n) : Nat) : Int)), un 0)) none) := by
  refine CtP_of (by decide) rfl (Nat.le_of_ble_eq_true rfl) ?_
  refine V_al i_X11_cheats_0 rfl ?_
  refine P_callV0 i_X11_cheats_1 mi_X11_seatsAsTold rfl ⟨_, _, rfl⟩ (by decide) (Nat.le_of_ble_eq_true rfl) (m_told I J hK) (fun r I1 Jx q => ?_)
  obtain ⟨rfl, f1, a1, rfl⟩ := q
  have k1 := FrM.K f1 hK
  refine V_al i_X11_cheats_4 rfl ?_
  refine V_c i_X11_cheats_5 ?_
  refine V_al i_X11_cheats_6 rfl ?_
  refine V_getI i_X11_cheats_7 rfl ?_
  rw [k1.pt]
  refine V_al i_X11_cheats_10 rfl ?_
  refine V_getI i_X11_cheats_11 rfl ?_
  rw [k1.lw]
  refine V_c i_X11_cheats_14 ?_
  refine P_callV4 i_X11_cheats_15 mi_X11_goes rfl ⟨_, _, rfl⟩ (by decide) (Nat.le_of_ble_eq_true rfl) (m_goes0 I1 J k1 (how := 0) (by decide) k1.l3 k1.p9  a1 k1.P) (fun r Ix J1 q => ?_)
  obtain ⟨rfl, rfl, j1, g1⟩ := q
  refine V_al i_X11_cheats_18 rfl ?_
  refine P_callV0u i_X11_cheats_19 mi_X11_keepsGot rfl ⟨_, _, rfl⟩ (by decide) (Nat.le_of_ble_eq_true rfl) (c_M_keeps I1 J1 k1.n7 k1.sz) ?_
  obtain ⟨J2, d2⟩ : ∃ J2, J2 = putJ (putJ J1 171 n (J1 158)) 172 n (J1 159) := ⟨_, rfl⟩
  rw [← d2]
  have hk2 : FrM I1 J1 I1 J2 := by
    rw [d2]
    refine ⟨fun _ _ _ => rfl, fun x k q => ?_⟩
    unfold putJ
    rw [if_neg (by unfold pJ at q; omega), if_neg (by unfold pJ at q; omega)]
  have u1 : ∀ k, k < n → J2 171 k = J1 158 k ∧ J2 172 k = J1 159 k := fun k hk => by
    rw [d2]
    unfold putJ
    rw [if_neg (by omega), if_pos ⟨rfl, hk⟩, if_pos ⟨rfl, hk⟩]
    exact ⟨rfl, rfl⟩
  have hw := setN_lt (isK kd 2) n hK.n7
  refine V_al i_X11_cheats_22 rfl ?_
  refine V_c i_X11_cheats_23 ?_
  refine V_al i_X11_cheats_24 rfl ?_
  refine V_getI i_X11_cheats_25 rfl ?_
  rw [k1.pt]
  refine V_al i_X11_cheats_28 rfl ?_
  refine V_getI i_X11_cheats_29 rfl ?_
  rw [k1.lw]
  refine V_al i_X11_cheats_32 rfl ?_
  refine P_callV0v i_X11_cheats_33 mi_X11_cheatSet rfl ⟨_, _, rfl⟩ (by decide) (Nat.le_of_ble_eq_true rfl) (c_M_cset I1 J2 k1.n7 k1.M k1.kd) ?_
  refine P_callV4 i_X11_cheats_36 mi_X11_goes rfl ⟨_, _, rfl⟩ (by decide) (Nat.le_of_ble_eq_true rfl) (m_goes I1 J2 k1 (how := 0) (by decide) k1.l3 k1.p9 hw a1 k1.P) (fun r Ix J3 q => ?_)
  obtain ⟨rfl, rfl, j3, g3⟩ := q
  refine V_cl i_X11_cheats_39 ?_
  refine V_ls (L' := [(0, _), (1, _)]) i_X11_cheats_40 (by decide) ⟨rfl, rfl, trivial⟩ ?_
  refine V_cl i_X11_cheats_41 ?_
  refine V_ls (L' := [(0, _), (1, _), (3, _)]) i_X11_cheats_42 (by decide) ⟨rfl, rfl, rfl, trivial⟩ ?_
  refine V_c i_X11_cheats_43 ?_
  refine V_is (L' := [(0, _), (1, _), (3, _), (5, _)]) i_X11_cheats_44 (by decide) ⟨rfl, rfl, rfl, rfl, trivial⟩ ?_
  refine V_L (L' := [(0, _), (1, _), (3, _), (5, _)]) ⟨rfl, rfl, rfl, rfl, trivial⟩ ?_
  refine lp_M_cheats I1 J3 k1 rfl (fun k hk => ?_) (fun k hk => g3.2 k hk) _ (fun J4 x y j4 hF => ?_)
  · rw [j3 _ _ (by omega) (by omega) (by omega), j3 _ _ (by omega) (by omega) (by omega), (u1 k hk).1, (u1 k hk).2]
    exact g1.2 k hk
  refine V_al i_X11_cheats_129 rfl ?_
  refine V_c i_X11_cheats_130 ?_
  refine V_ll i_X11_cheats_131 rfl ?_
  refine V_ll i_X11_cheats_132 rfl ?_
  refine P_callV3v i_X11_cheats_133 mi_X11_tells rfl ⟨_, _, rfl⟩ (by decide) (Nat.le_of_ble_eq_true rfl) (m_tells I1 J4 (un_pos 0) (un_62 0) (Nat.lt_trans (dfE_b hK.p9 hK.n7) (by decide)) hF) ?_
  exact P_iret i_X11_cheats_136 rfl ⟨rfl, I1, _, FrM.J f1 (FrM.tr (FrJ.M I1 j1) (FrM.tr hk2 (FrJ.M I1 (FrJ.tr j3 (FrJ.tr j4 (FrJ.lo _ _ _)))))), rfl, rfl⟩
