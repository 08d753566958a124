
/-! ===== even ===== -/
def ebN (kd nd : Nat → Nat) (lw how P : Nat) (od : Nat → Nat) (n t : Nat) : Nat := setN (fdE kd nd lw how P (fun i => od ((i + t) % n)) n) n
theorem ebN_lt {kd nd : Nat → Nat} {lw how P : Nat} {od : Nat → Nat} {n : Nat} (hn : n ≤ 7) (t : Nat) : ebN kd nd lw how P od n t < 128 := setN_lt _ n hn
theorem p7 {d : Nat} (hd : d ≤ 4) : 7 ^ d ≤ 2401 := Nat.pow_le_pow_right (show 0 < 7 by decide) hd
theorem vv_va {fb : Nat → Nat} {n d r : Nat} (h : svB n d r = true) : vvN fb n d r = feN fb n d r + 1 := if_pos (sv_va h)
theorem cD_lt {n d r : Nat} (hd1 : 1 ≤ d) (h : svB n d r = true) : ∀ i, i < d → cD d r i < n := fun i hi => vaB_get.mp (sv_va h) _ (by omega)

set_option maxRecDepth 100000 in
set_option maxHeartbeats 4000000 in
theorem lp_me1 (I : IntM) (J : LngM) {n : Nat} {kd nd od : Nat → Nat} {lw pot : Nat} (hK : CK I n kd nd od lw pot) {d how : Nat} (hh : how ≤ 1) (Q : Option Value → IntM → LngM → Prop) (hq : ∀ I1 J1, FrC I J I1 J1 → CK I1 n kd nd od lw pot → AtI I1 105 n (ebN kd nd lw how (pot * un how) od n) → VP m_X1_mostEven 4 83 [(0, .ref 90), (2, .int (nI d)), (4, .int (nI n))] [] I1 J1 Q) (I0 : IntM) (J0 : LngM) (c0 : FrC I J I0 J0) (k0 : CK I0 n kd nd od lw pot) (s0 : SQ I0 91 n kd nd) (r0 : SR I0 J0 91 lw how (pot * un how)) : VP m_X1_mostEven 4 33 [(0, .ref 90), (1, .ref 8), (2, .int (nI d)), (4, .int (nI n)), (5, .int 0)] [] I0 J0 Q := by
  have key : ∀ i, i ≤ n → ∀ I1 J1, FrC I J I1 J1 → CK I1 n kd nd od lw pot → SQ I1 91 n kd nd → SR I1 J1 91 lw how (pot * un how) → AtI I1 105 i (ebN kd nd lw how (pot * un how) od n) → VP m_X1_mostEven 4 33 [(0, .ref 90), (1, .ref 8), (2, .int (nI d)), (4, .int (nI n)), (5, .int (nI i))] [] I1 J1 Q := by
    refine down n ?_ (fun i hi ih => ?_)
    · intro I1 J1 c1 k1 s1 r1 e1
      refine V_il i_X1_mostEven_33 rfl ?_
      refine V_il i_X1_mostEven_35 rfl ?_
      refine V_ic_ge_t i_X1_mostEven_37 (Int32.le_refl _) ?_
      exact V_L (L' := [(0, _), (2, _), (4, _)]) ⟨rfl, rfl, rfl, trivial⟩ (hq I1 J1 c1 k1 e1)
    · intro I1 J1 c1 k1 s1 r1 e1
      refine V_il i_X1_mostEven_33 rfl ?_
      refine V_il i_X1_mostEven_35 rfl ?_
      refine V_ic_ge_f i_X1_mostEven_37 (nI_ge hi (by have := hK.n7; omega)) ?_
      refine V_al i_X1_mostEven_40 rfl ?_
      refine V_getR i_X1_mostEven_41 rfl rfl ?_
      refine V_al i_X1_mostEven_44 rfl ?_
      refine V_getR i_X1_mostEven_45 rfl rfl ?_
      refine V_il i_X1_mostEven_48 rfl ?_
      refine P_callV2 i_X1_mostEven_50 mi_X7_seatTurned rfl ⟨_, _, rfl⟩ (by decide) (Nat.le_of_ble_eq_true rfl) (q_turn I1 J1 LS_91 k1.Z91 k1.n7 s1 r1 (y := 13) ⟨rfl, rfl, rfl, by decide⟩ k1.z13 (by decide) k1.od (show i ≤ 100 by have := hK.n7; omega)) (fun r I2 J2 q => ?_)
      obtain ⟨rfl, f2, s2, r2, a2, -⟩ := q
      have k2 := FrS.K (by decide) f2 k1
      refine V_al i_X1_mostEven_53 rfl ?_
      refine V_getR i_X1_mostEven_54 rfl rfl ?_
      refine V_c i_X1_mostEven_57 ?_
      refine P_callV1 i_X1_mostEven_58 mi_X7_serve rfl ⟨_, _, rfl⟩ (by decide) (Nat.le_of_ble_eq_true rfl) (q_serve I2 J2 LS_91 k2.Z91 k2.n7 hh k2.l3 k2.p9 k2.kd k2.nd (Pm_turn k2.P i) s2 r2 a2) (fun r I3 J3 q => ?_)
      obtain ⟨rfl, f3, s3, r3, a3, d3⟩ := q
      have k3 := FrS.K (by decide) f3 k2
      have f9 := FrS.tr f2 f3
      refine V_al i_X1_mostEven_61 rfl ?_
      refine V_getR i_X1_mostEven_62 rfl rfl ?_
      refine V_il i_X1_mostEven_65 rfl ?_
      refine V_al i_X1_mostEven_67 rfl ?_
      refine V_getR i_X1_mostEven_68 rfl rfl ?_
      refine P_callV0v i_X1_mostEven_71 mi_X7_fedAll rfl ⟨_, _, rfl⟩ (by decide) (Nat.le_of_ble_eq_true rfl) (c_S_fedAll _ _ LS_91 k3.Z91 k3.n7 s3.1) ?_
      rw [(d3.1 n (Nat.le_refl n)).2, fdS_set (Pm_turn k3.P i)]
      refine P_callV2u i_X1_mostEven_74 mi_X3_set rfl ⟨_, _, rfl⟩ (by decide) (Nat.le_of_ble_eq_true rfl) (c_I_setN _ _ (x := 104) (n := 7) (s := 7) (k := i) _ ⟨rfl, rfl, rfl, by decide⟩ k3.Z.2.2.2.2.2.2.2.1 rfl (by have := hK.n7; omega) (by decide)) ?_
      refine V_iinc (L' := [(0, _), (1, _), (2, _), (4, _), (5, _)]) (n' := 1) i_X1_mostEven_77 (by decide) rfl (by decide) ⟨rfl, rfl, rfl, rfl, rfl, trivial⟩ ?_
      refine V_goto i_X1_mostEven_80 ?_
      refine V_L (L' := [(0, _), (1, _), (2, _), (4, _), (5, _)]) ⟨rfl, rfl, rfl, rfl, rfl, trivial⟩ ?_
      rw [show nI i + 1 = nI (i + 1) from nI_1 i]
      exact ih _ J3 (FrC.u (FrC.tr c1 (FrS.C (by decide) (by decide) f9)) (Or.inr (Or.inr (Or.inl rfl))) _ _) (k3.u (Or.inr (Or.inr (Or.inl rfl))) _ _) (SQ.xz (uI_xz (Or.inr (Or.inr (Or.inl rfl)))) (by unfold noZ; omega) s3) (SR.xz (uI_xz (Or.inr (Or.inr (Or.inl rfl)))) (fun _ _ _ => rfl) (by unfold noZ; omega) r3) (fun k hk => by
        by_cases hki : k = i
        · rw [hki, uI_eq]
          rfl
        · rw [uI_nk hki, f9.1 _ _ (by omega)]
          exact e1 k (by omega))
  exact key 0 (Nat.zero_le _) I0 J0 c0 k0 s0 r0 (fun k hk => absurd hk (Nat.not_lt_zero k))
set_option maxRecDepth 100000 in
set_option maxHeartbeats 4000000 in
theorem lp_me2 (I : IntM) (J : LngM) {n : Nat} {kd nd od : Nat → Nat} {lw pot : Nat} (hK : CK I n kd nd od lw pot) {d how : Nat} (h1 : 1 ≤ n) (hd1 : 1 ≤ d) (hd : d ≤ 4) (Q : Option Value → IntM → LngM → Prop) (hq : ∀ I1 J1, FrC I J I1 J1 → CK I1 n kd nd od lw pot → I1 90 5 = nI (evN (ebN kd nd lw how (pot * un how) od n) n d (7 ^ d)).2 → VP m_X1_mostEven 4 158 [(5, .int (bIv (evN (ebN kd nd lw how (pot * un how) od n) n d (7 ^ d)).1))] [] I1 J1 Q) : ∀ k r i, 7 ^ d - r ≤ k → r < 7 ^ d → svB n d r = true → i ≤ r → ∀ I1 J1, FrC I J I1 J1 → CK I1 n kd nd od lw pot → AtI I1 105 n (ebN kd nd lw how (pot * un how) od n) → AtI I1 107 d (cD d r) → (0 < r → I1 90 5 = nI (evN (ebN kd nd lw how (pot * un how) od n) n d r).2) → VP m_X1_mostEven 4 101 [(0, .ref 90), (2, .int (nI d)), (4, .int (nI n)), (5, .int (bIv (evN (ebN kd nd lw how (pot * un how) od n) n d r).1)), (6, .int 1), (7, .int (nI i))] [] I1 J1 Q := by
  intro k
  induction k with
  | zero => intro r i hk hr; omega
  | succ k ih =>
    intro r i hk hr hs hir I1 J1 c1 k1 e1 a1 o1
    have hp7 := p7 hd
    have hev := ev_le (fb := (ebN kd nd lw how (pot * un how) od n)) (n := n) (d := d) r
    have hfe := fwN_le (T := tmN (ebN kd nd lw how (pot * un how) od n) (dg r) d) (d := d) n
    change feN (ebN kd nd lw how (pot * un how) od n) n d r ≤ d at hfe
    have tail : ∀ I3 J3, FrC I J I3 J3 → CK I3 n kd nd od lw pot → AtI I3 105 n (ebN kd nd lw how (pot * un how) od n) → AtI I3 107 d (cD d r) → I3 90 5 = nI (evN (ebN kd nd lw how (pot * un how) od n) n d (r + 1)).2 → VP m_X1_mostEven 4 143 [(0, .ref 90), (2, .int (nI d)), (4, .int (nI n)), (5, .int (bIv (evN (ebN kd nd lw how (pot * un how) od n) n d (r + 1)).1)), (7, .int (nI i))] [] I3 J3 Q := by
      intro I3 J3 c3 k3 e3 a3 o3
      refine V_al i_X1_mostEven_143 rfl ?_
      refine V_il i_X1_mostEven_144 rfl ?_
      refine V_il i_X1_mostEven_146 rfl ?_
      refine P_callV2 i_X1_mostEven_147 mi_X1_chooseNext rfl ⟨_, _, rfl⟩ (by decide) (Nat.le_of_ble_eq_true rfl) (c_cn I3 J3 h1 hK.n7 hd k3.Z.2.2.2.2.2.2.2.2.1 a3 (cD_lt hd1 hs) hd1) (fun r9 I4 J4 q => ?_)
      obtain ⟨rfl, x4, q⟩ := q
      have k4 := CK.xz (fun x k h => x4 x k (fun z => h (Or.inr (Or.inr (Or.inr (Or.inl z)))))) k3
      have c4 := FrC.tr c3 (FrC.xz (J := J4) (fun x k h => x4 x k (fun z => h (Or.inr (Or.inr (Or.inr (Or.inl z)))))) (fun _ _ _ => rfl))
      rcases q with ⟨h0, rfl⟩ | ⟨h0, rfl, a4⟩
      · refine V_is (L' := [(0, _), (2, _), (4, _), (5, _), (6, _), (7, _)]) i_X1_mostEven_150 (by decide) ⟨rfl, rfl, rfl, rfl, rfl, rfl, trivial⟩ ?_
        refine V_iinc (L' := [(0, _), (2, _), (4, _), (5, _), (6, _), (7, _)]) (n' := 1) i_X1_mostEven_152 (by decide) rfl (by decide) ⟨rfl, rfl, rfl, rfl, rfl, rfl, trivial⟩ ?_
        refine V_goto i_X1_mostEven_155 ?_
        refine V_L (L' := [(0, _), (2, _), (4, _), (5, _), (6, _), (7, _)]) ⟨rfl, rfl, rfl, rfl, rfl, rfl, trivial⟩ ?_
        have e7 : evN (ebN kd nd lw how (pot * un how) od n) n d (7 ^ d) = evN (ebN kd nd lw how (pot * un how) od n) n d (r + 1) := by
          have h9 := ev_skip (fb := (ebN kd nd lw how (pot * un how) od n)) (n := n) hd1 hd (7 ^ d - (r + 1)) (r + 1) (by omega) (fun y a b => next_none h1 hK.n7 hd1 hd hr hs h0 y a (by omega))
          rw [show r + 1 + (7 ^ d - (r + 1)) = 7 ^ d by omega] at h9
          exact h9
        refine V_il i_X1_mostEven_101 rfl ?_
        refine V_c i_X1_mostEven_103 ?_
        refine V_ic_ge i_X1_mostEven_106 (fun _ => ?_) (fun _ => ?_)
        · exact V_L (L' := [(5, _)]) ⟨rfl, trivial⟩ (by have h9 := hq I4 J4 c4 k4 (by rw [x4 _ _ (by decide), e7]; exact o3); rw [e7] at h9; exact h9)
        · refine V_il i_X1_mostEven_109 rfl ?_
          refine V_if_eq_t i_X1_mostEven_111 rfl ?_
          exact V_L (L' := [(5, _)]) ⟨rfl, trivial⟩ (by have h9 := hq I4 J4 c4 k4 (by rw [x4 _ _ (by decide), e7]; exact o3); rw [e7] at h9; exact h9)
      · refine V_is (L' := [(0, _), (2, _), (4, _), (5, _), (6, _), (7, _)]) i_X1_mostEven_150 (by decide) ⟨rfl, rfl, rfl, rfl, rfl, rfl, trivial⟩ ?_
        refine V_iinc (L' := [(0, _), (2, _), (4, _), (5, _), (6, _), (7, _)]) (n' := 1) i_X1_mostEven_152 (by decide) rfl (by decide) ⟨rfl, rfl, rfl, rfl, rfl, rfl, trivial⟩ ?_
        refine V_goto i_X1_mostEven_155 ?_
        refine V_L (L' := [(0, _), (2, _), (4, _), (5, _), (6, _), (7, _)]) ⟨rfl, rfl, rfl, rfl, rfl, rfl, trivial⟩ ?_
        obtain ⟨r', b1, b2, b3, b4, b5⟩ := next_some h1 hK.n7 hd1 hd hr hs h0
        have e7 : evN (ebN kd nd lw how (pot * un how) od n) n d r' = evN (ebN kd nd lw how (pot * un how) od n) n d (r + 1) := by
          have h9 := ev_skip (fb := (ebN kd nd lw how (pot * un how) od n)) (n := n) hd1 hd (r' - (r + 1)) (r + 1) (by omega) (fun y a b => b4 y a (by omega))
          rw [show r + 1 + (r' - (r + 1)) = r' by omega] at h9
          exact h9
        rw [show nI i + 1 = nI (i + 1) from nI_1 i, ← e7]
        exact ih r' (i + 1) (by omega) b2 b3 (by omega) I4 J4 c4 k4 (AtI.congr (fun q => x4 _ _ (by decide)) e3) (fun q hq => (a4 q hq).trans (congrArg nI (b5 q hq).symm)) (fun _ => by rw [x4 _ _ (by decide), e7]; exact o3)
    refine V_il i_X1_mostEven_101 rfl ?_
    refine V_c i_X1_mostEven_103 ?_
    refine V_ic_ge_f i_X1_mostEven_106 (nI_ge (show i < 2401 by omega) (by decide)) ?_
    refine V_il i_X1_mostEven_109 rfl ?_
    refine V_if_eq_f i_X1_mostEven_111 (by decide) ?_
    refine V_al i_X1_mostEven_114 rfl ?_
    refine V_il i_X1_mostEven_115 rfl ?_
    refine V_il i_X1_mostEven_117 rfl ?_
    refine P_callV2v i_X1_mostEven_118 mi_X1_leastOftenFed rfl ⟨_, _, rfl⟩ (by decide) (Nat.le_of_ble_eq_true rfl) (c_lof I1 J1 hK.n7 hd k1.Z.2.2.2.2.2.2.2.2.1 k1.Z.2.2.2.2.2.2.2.1 a1 (cD_lt hd1 hs) e1 (fun t _ => ebN_lt hK.n7 t)) ?_
    rw [fe_cD hd1 hd, show nI (feN (ebN kd nd lw how (pot * un how) od n) n d r) = bIv (feN (ebN kd nd lw how (pot * un how) od n) n d r + 1) from (bIv_s _).symm]
    refine V_is (L' := [(0, _), (2, _), (4, _), (5, _), (7, _), (8, _)]) i_X1_mostEven_121 (by decide) ⟨rfl, rfl, rfl, rfl, rfl, rfl, trivial⟩ ?_
    refine V_il i_X1_mostEven_123 rfl ?_
    refine V_il i_X1_mostEven_125 rfl ?_
    refine V_ic_le i_X1_mostEven_127 (fun c127 => ?_) (fun c127 => ?_)
    · have d1 := ev_f (fb := (ebN kd nd lw how (pot * un how) od n)) (n := n) (d := d) (x := r) (by rw [vv_va hs]; exact fun z => absurd ((bIv_lt (by omega) (by omega)).mpr z) (Int32.not_lt.mpr c127))
      refine V_L (L' := [(0, _), (2, _), (4, _), (5, _), (7, _)]) ⟨rfl, rfl, rfl, rfl, rfl, trivial⟩ ?_
      have h9 := tail I1 J1 c1 k1 e1 a1
      rw [d1] at h9
      refine h9 (o1 (Nat.pos_of_ne_zero (fun z => ?_)))
      subst z
      have h8 := ev_ge (fb := (ebN kd nd lw how (pot * un how) od n)) (n := n) (d := d) 1 0 (by decide)
      rw [show (0 : Nat) + 1 = 1 from rfl] at d1
      rw [d1, vv_va hs] at h8
      exact absurd h8 (Nat.not_succ_le_zero _)
    · have d1 := ev_t (fb := (ebN kd nd lw how (pot * un how) od n)) (n := n) (d := d) (x := r) (by rw [vv_va hs]; exact (bIv_lt (by omega) (by omega)).mp (Int32.not_le.mp c127))
      rw [vv_va hs] at d1
      refine V_il i_X1_mostEven_130 rfl ?_
      refine V_is (L' := [(0, _), (2, _), (4, _), (5, _), (7, _)]) i_X1_mostEven_132 (by decide) ⟨rfl, rfl, rfl, rfl, rfl, trivial⟩ ?_
      refine V_al i_X1_mostEven_134 rfl ?_
      refine V_al i_X1_mostEven_135 rfl ?_
      refine V_il i_X1_mostEven_136 rfl ?_
      refine P_callV1v i_X1_mostEven_137 mi_X1_figures rfl ⟨_, _, rfl⟩ (by decide) (Nat.le_of_ble_eq_true rfl) (c_fig I1 J1 hd k1.Z.2.2.2.2.2.2.2.2.1 a1) ?_
      rw [fg_val hd hr]
      refine V_putI i_X1_mostEven_140 rfl ?_
      refine V_L (L' := [(0, _), (2, _), (4, _), (5, _), (7, _)]) ⟨rfl, rfl, rfl, rfl, rfl, trivial⟩ ?_
      have h9 := tail _ J1 (FrC.u c1 (Or.inr (Or.inr (Or.inr (Or.inr (Or.inr rfl))))) _ _) (k1.u (Or.inr (Or.inr (Or.inr (Or.inr (Or.inr rfl))))) _ _) (AtI.congr (fun q => uI_nx (by decide)) e1) (AtI.congr (fun q => uI_nx (by decide)) a1) (by rw [uI_eq, d1])
      rw [d1] at h9
      exact h9
set_option maxRecDepth 100000 in
set_option maxHeartbeats 4000000 in
theorem c_me (I : IntM) (J : LngM) {n : Nat} {kd nd od : Nat → Nat} {lw pot : Nat} (hK : CK I n kd nd od lw pot) {d how : Nat} (h1 : 1 ≤ n) (hd1 : 1 ≤ d) (hd : d ≤ 4) (hh : how ≤ 1) : CtP 4 m_X1_mostEven [.ref 90, .ref 8, .int (nI d), .int (nI how)] I J (fun r I1 J1 => r = some (.int (bIv (evN (ebN kd nd lw how (pot * un how) od n) n d (7 ^ d)).1)) ∧ FrC I J I1 J1 ∧ CK I1 n kd nd od lw pot ∧ I1 90 5 = nI (evN (ebN kd nd lw how (pot * un how) od n) n d (7 ^ d)).2) := by
  refine CtP_of (by decide) rfl (Nat.le_of_ble_eq_true rfl) ?_
  refine V_al i_X1_mostEven_0 rfl ?_
  refine V_getI i_X1_mostEven_1 rfl ?_
  rw [hK.sz]
  refine V_is (L' := [(0, _), (1, _), (2, _), (3, _), (4, _)]) i_X1_mostEven_4 (by decide) ⟨rfl, rfl, rfl, rfl, rfl, trivial⟩ ?_
  refine V_al i_X1_mostEven_6 rfl ?_
  refine V_getR i_X1_mostEven_7 rfl rfl ?_
  refine V_al i_X1_mostEven_10 rfl ?_
  refine P_callV1 i_X1_mostEven_11 mi_X7_invite rfl ⟨_, _, rfl⟩ (by decide) (Nat.le_of_ble_eq_true rfl) (q_invite I J LS_91 hK.Z91 hK.n7 hK.C) (fun r I2 J2 q => ?_)
  obtain ⟨rfl, f2, s2, -⟩ := q
  have k2 := FrS.K (by decide) f2 hK
  refine V_al i_X1_mostEven_14 rfl ?_
  refine V_getR i_X1_mostEven_15 rfl rfl ?_
  refine V_al i_X1_mostEven_18 rfl ?_
  refine V_getI i_X1_mostEven_19 rfl ?_
  rw [k2.lw]
  refine V_il i_X1_mostEven_22 rfl ?_
  refine V_al i_X1_mostEven_23 rfl ?_
  refine V_getI i_X1_mostEven_24 rfl ?_
  rw [k2.pt]
  refine P_callV3 i_X1_mostEven_27 mi_X7_rules rfl ⟨_, _, rfl⟩ (by decide) (Nat.le_of_ble_eq_true rfl) (q_rules I2 J2 LS_91 k2.Z91 hh k2.p9 s2) (fun r I3 J3 q => ?_)
  obtain ⟨rfl, f3, s3, r3, -⟩ := q
  have k3 := FrS.K (by decide) f3 k2
  refine V_c i_X1_mostEven_30 ?_
  refine V_is (L' := [(0, _), (1, _), (2, _), (4, _), (5, _)]) i_X1_mostEven_31 (by decide) ⟨rfl, rfl, rfl, rfl, rfl, trivial⟩ ?_
  refine V_L (L' := [(0, _), (1, _), (2, _), (4, _), (5, _)]) ⟨rfl, rfl, rfl, rfl, rfl, trivial⟩ ?_
  refine lp_me1 I J hK hh _ (fun I5 J5 c5 k5 e5 => ?_) I3 J3 (FrS.C (by decide) (by decide) (FrS.tr f2 f3)) k3 s3 r3
  refine V_al i_X1_mostEven_83 rfl ?_
  refine V_getR i_X1_mostEven_84 rfl rfl ?_
  refine V_c i_X1_mostEven_87 ?_
  refine V_c i_X1_mostEven_88 ?_
  refine P_callV2u i_X1_mostEven_89 mi_X3_reset rfl ⟨_, _, rfl⟩ (by decide) (Nat.le_of_ble_eq_true rfl) (c_I_reset _ _ (x := 106) (n := 4) (s := 4) ⟨rfl, rfl, rfl, by decide⟩ (by decide) 0) ?_
  obtain ⟨I6, hI6⟩ : ∃ x, x = fillI (uI I5 106 1 (nI 4)) (106 + 1) 4 0 := ⟨_, rfl⟩
  rw [← hI6]
  have x6 : ∀ x k, x ≠ 107 → I6 x k = I5 x k := fun x k h => by
    rw [hI6]
    unfold fillI
    rw [if_neg (fun z => h z.1)]
    unfold uI
    by_cases z : x = 106 ∧ k = 1
    · rw [if_pos z, z.1, z.2]
      exact k5.Z.2.2.2.2.2.2.2.2.1.symm
    · rw [if_neg z]
  have k6 := CK.xz (fun x k h => x6 x k (fun z => h (Or.inr (Or.inr (Or.inr (Or.inl z)))))) k5
  have c6 := FrC.tr c5 (FrC.xz (J := J5) (fun x k h => x6 x k (fun z => h (Or.inr (Or.inr (Or.inr (Or.inl z)))))) (fun _ _ _ => rfl))
  refine V_c i_X1_mostEven_92 ?_
  refine V_is (L' := [(0, _), (2, _), (4, _), (5, _)]) i_X1_mostEven_93 (by decide) ⟨rfl, rfl, rfl, rfl, trivial⟩ ?_
  refine V_c i_X1_mostEven_95 ?_
  refine V_is (L' := [(0, _), (2, _), (4, _), (5, _), (6, _)]) i_X1_mostEven_96 (by decide) ⟨rfl, rfl, rfl, rfl, rfl, trivial⟩ ?_
  refine V_c i_X1_mostEven_98 ?_
  refine V_is (L' := [(0, _), (2, _), (4, _), (5, _), (6, _), (7, _)]) i_X1_mostEven_99 (by decide) ⟨rfl, rfl, rfl, rfl, rfl, rfl, trivial⟩ ?_
  refine V_L (L' := [(0, _), (2, _), (4, _), (5, _), (6, _), (7, _)]) ⟨rfl, rfl, rfl, rfl, rfl, rfl, trivial⟩ ?_
  refine lp_me2 I J hK (how := how) h1 hd1 hd _ (fun I7 J7 c7 k7 o7 => ?_) (7 ^ d) 0 0 (Nat.sub_le _ _) (Nat.pow_pos (by decide)) (sv_0 h1 hd1 hd) (Nat.le_refl 0) I6 J5 c6 k6 (AtI.congr (fun q => x6 _ _ (by decide)) e5) (fun q hq => ?_) (fun z => absurd z (Nat.lt_irrefl 0))
  · refine V_il i_X1_mostEven_158 rfl ?_
    exact P_iret i_X1_mostEven_160 rfl ⟨rfl, c7, k7, o7⟩
  · rw [hI6]
    unfold fillI
    rw [if_pos ⟨rfl, by omega⟩]
    unfold cD dg
    rw [Nat.zero_div]
    rfl
set_option maxRecDepth 100000 in
set_option maxHeartbeats 4000000 in
theorem c_even0 (I : IntM) (J : LngM) {n : Nat} {kd nd od : Nat → Nat} {lw pot : Nat} (hK : CK I n kd nd od lw pot) {x y : Int32} (h : x < 1 ∨ 4 < x ∨ howv y = 0) : CtP 5 m_X10_even [.ref 0, .int x, .int y] I J (QC I J (.int (-1)) none none none) := by
  refine CtP_of (by decide) rfl (Nat.le_of_ble_eq_true rfl) ?_
  refine V_il i_X10_even_0 rfl ?_
  refine V_c i_X10_even_1 ?_
  refine V_ic_lt i_X10_even_2 (fun c2 => ?_) (fun c2 => ?_)
  · refine V_c i_X10_even_17 ?_
    exact P_iret i_X10_even_18 rfl ⟨rfl, I, J, FrC.rf, hK.Z, rfl, rfl⟩
  · refine V_il i_X10_even_5 rfl ?_
    refine V_c i_X10_even_6 ?_
    refine V_ic_gt i_X10_even_7 (fun c7 => ?_) (fun c7 => ?_)
    · refine V_c i_X10_even_17 ?_
      exact P_iret i_X10_even_18 rfl ⟨rfl, I, J, FrC.rf, hK.Z, rfl, rfl⟩
    · refine V_il i_X10_even_10 rfl ?_
      refine P_callS1v i_X10_even_11 ms_X10_isHow (by decide) (Nat.le_of_ble_eq_true rfl) (c_isHow _ _ _) ?_
      refine V_if_ne_f i_X10_even_14 (by rcases h with h | h | h; exact absurd h c2; exact absurd h c7; exact h) ?_
      refine V_c i_X10_even_17 ?_
      exact P_iret i_X10_even_18 rfl ⟨rfl, I, J, FrC.rf, hK.Z, rfl, rfl⟩
set_option maxRecDepth 100000 in
set_option maxHeartbeats 4000000 in
theorem c_even1 (I : IntM) (J : LngM) {n : Nat} {kd nd od : Nat → Nat} {lw pot : Nat} (hK : CK I n kd nd od lw pot) {d how : Nat} (hd1 : 1 ≤ d) (hd : d ≤ 4) (hh : how ≤ 1) (h0 : n = 0) : CtP 5 m_X10_even [.ref 0, .int (nI d), .int (nI how)] I J (QC I J (.int (-4)) none none none) := by
  refine CtP_of (by decide) rfl (Nat.le_of_ble_eq_true rfl) ?_
  refine V_il i_X10_even_0 rfl ?_
  refine V_c i_X10_even_1 ?_
  refine V_ic_lt_f i_X10_even_2 (nI_nlt (b := 1) hd1 (by omega)) ?_
  refine V_il i_X10_even_5 rfl ?_
  refine V_c i_X10_even_6 ?_
  refine V_ic_gt_f i_X10_even_7 (nI_nlt (a := 4) hd (by decide)) ?_
  refine V_il i_X10_even_10 rfl ?_
  refine P_callS1v i_X10_even_11 ms_X10_isHow (by decide) (Nat.le_of_ble_eq_true rfl) (c_isHow _ _ _) ?_
  refine V_if_ne_t i_X10_even_14 (by rw [howv_nI hh]; decide) ?_
  refine V_al i_X10_even_19 rfl ?_
  refine V_getR i_X10_even_20 rfl rfl ?_
  refine V_getI i_X10_even_23 rfl ?_
  refine V_if_ne_f i_X10_even_26 (by rw [hK.sz, h0]; rfl) ?_
  refine V_c i_X10_even_29 ?_
  exact P_iret i_X10_even_31 rfl ⟨rfl, I, J, FrC.rf, hK.Z, rfl, rfl⟩
set_option maxRecDepth 100000 in
set_option maxHeartbeats 4000000 in
theorem c_even (I : IntM) (J : LngM) {n : Nat} {kd nd od : Nat → Nat} {lw pot : Nat} (hK : CK I n kd nd od lw pot) {d how : Nat} (hd1 : 1 ≤ d) (hd : d ≤ 4) (hh : how ≤ 1) (h0 : 0 < n) : CtP 5 m_X10_even [.ref 0, .int (nI d), .int (nI how)] I J (QC I J (.int (bIv (evN (ebN kd nd lw how (pot * un how) od n) n d (7 ^ d)).1)) (some (nI (evN (ebN kd nd lw how (pot * un how) od n) n d (7 ^ d)).2)) none none) := by
  refine CtP_of (by decide) rfl (Nat.le_of_ble_eq_true rfl) ?_
  refine V_il i_X10_even_0 rfl ?_
  refine V_c i_X10_even_1 ?_
  refine V_ic_lt_f i_X10_even_2 (nI_nlt (b := 1) hd1 (by omega)) ?_
  refine V_il i_X10_even_5 rfl ?_
  refine V_c i_X10_even_6 ?_
  refine V_ic_gt_f i_X10_even_7 (nI_nlt (a := 4) hd (by decide)) ?_
  refine V_il i_X10_even_10 rfl ?_
  refine P_callS1v i_X10_even_11 ms_X10_isHow (by decide) (Nat.le_of_ble_eq_true rfl) (c_isHow _ _ _) ?_
  refine V_if_ne_t i_X10_even_14 (by rw [howv_nI hh]; decide) ?_
  refine V_al i_X10_even_19 rfl ?_
  refine V_getR i_X10_even_20 rfl rfl ?_
  refine V_getI i_X10_even_23 rfl ?_
  refine V_if_ne_t i_X10_even_26 (by rw [hK.sz]; exact nI_ne0 h0 (by have := hK.n7; omega)) ?_
  refine V_al i_X10_even_32 rfl ?_
  refine V_getR i_X10_even_33 rfl rfl ?_
  refine V_al i_X10_even_36 rfl ?_
  refine V_getR i_X10_even_37 rfl rfl ?_
  refine V_il i_X10_even_40 rfl ?_
  refine V_il i_X10_even_41 rfl ?_
  refine P_callV3 i_X10_even_42 mi_X1_mostEven rfl ⟨_, _, rfl⟩ (by decide) (Nat.le_of_ble_eq_true rfl) (c_me I J hK h0 hd1 hd hh) (fun r9 I1 J1 q => ?_)
  obtain ⟨rfl, c1, k1, o1⟩ := q
  refine V_is (L' := [(0, _), (3, _)]) i_X10_even_45 (by decide) ⟨rfl, rfl, trivial⟩ ?_
  refine V_al i_X10_even_46 rfl ?_
  refine V_al i_X10_even_47 rfl ?_
  refine V_getR i_X10_even_48 rfl rfl ?_
  refine V_getI i_X10_even_51 rfl ?_
  rw [o1]
  refine V_putI i_X10_even_54 rfl ?_
  refine V_il i_X10_even_57 rfl ?_
  exact P_iret i_X10_even_58 rfl ⟨rfl, I1, J1, c1, k1.Z, rfl, rfl⟩
