
/-! ===== by how many orders most are fed ===== -/
theorem nx_or (n : Nat) (f : Nat → Nat) : nx n f = none ∨ ∃ z, nx n f = some z := by
  cases nx n f with
  | none => exact Or.inl rfl
  | some z => exact Or.inr ⟨z, rfl⟩
def stM (c : (Nat → Nat) → Int32) : Int32 × Int32 → (Nat → Nat) → Int32 × Int32 := fun s f => if s.1 < c f then (c f, 1) else if c f = s.1 then (s.1, s.2 + 1) else s
theorem stM_1 {c : (Nat → Nat) → Int32} {s : Int32 × Int32} {f : Nat → Nat} (h : s.1 < c f) : stM c s f = (c f, 1) := if_pos h
theorem stM_2 {c : (Nat → Nat) → Int32} {s : Int32 × Int32} {f : Nat → Nat} (h : ¬ s.1 < c f) (h2 : c f = s.1) : stM c s f = (s.1, s.2 + 1) := by
  unfold stM
  rw [if_neg h, if_pos h2]
theorem stM_3 {c : (Nat → Nat) → Int32} {s : Int32 × Int32} {f : Nat → Nat} (h : ¬ s.1 < c f) (h2 : ¬ c f = s.1) : stM c s f = s := by
  unfold stM
  rw [if_neg h, if_neg h2]
def cfN (kd nd : Nat → Nat) (lw how P n : Nat) (f : Nat → Nat) : Int32 := nI (cntN (fdE kd nd lw how P f n) n)
def moT (kd nd : Nat → Nat) (lw how P n : Nat) : Int32 × Int32 := foC n (stM (cfN kd nd lw how P n)) 5040 (-1, 0) (fun i => i)
theorem uI_or {I : IntM} {a k : Nat} {v : Int32} : uI I a k v a k = v := uI_eq

theorem m_next (I : IntM) (J : LngM) {n : Nat} {kd nd od : Nat → Nat} {lw pot : Nat} (hK : MK I n kd nd od lw pot) {ln : Nat → Nat} (h1 : 1 ≤ n) (hA : AtI I 157 n ln) (hP : Pm n ln) : CtP 2 m_X11_nextSeats [.ref 146] I J (fun r I1 J1 => J = J1 ∧ FrM I J I1 J1 ∧ match nx n ln with | none => r = some (.int 0) | some q => r = some (.int 1) ∧ AtI I1 157 n q.2 ∧ Pm n q.2) := by
  refine CtP_mono (c_M_next I J h1 hK.n7 hK.sz hA hP) (fun r I1 J1 q => ?_)
  obtain ⟨rfl, q⟩ := q
  cases hx : nx n ln with
  | none =>
    rw [hx] at q
    obtain ⟨rfl, rfl⟩ := q
    exact ⟨rfl, FrM.rf, rfl⟩
  | some z =>
    rw [hx] at q
    exact ⟨rfl, RowF.M _ q.2.2, q.1, q.2.1, Pm_nx h1 hP hx⟩
theorem m_first (I : IntM) (J : LngM) {n : Nat} {kd nd od : Nat → Nat} {lw pot : Nat} (hK : MK I n kd nd od lw pot) : CtP 1 m_X11_firstSeats [.ref 146] I J (fun r I1 J1 => r = none ∧ FrM I J I1 J1 ∧ AtI I1 157 n (fun i => i) ∧ J = J1) := by
  refine CtP_mono (c_M_first I J hK.n7 hK.sz) (fun r I1 J1 q => ?_)
  obtain ⟨rfl, rfl, rfl⟩ := q
  exact ⟨rfl, putI_M _ _ _ _, putI_At (fun _ _ => rfl), rfl⟩
set_option maxRecDepth 100000 in
set_option maxHeartbeats 4000000 in
theorem lp_mostFed (I : IntM) (J : LngM) {n : Nat} {kd nd od : Nat → Nat} {lw pot : Nat} (hK : CK I n kd nd od lw pot) {how : Nat} (h1 : 1 ≤ n) (hh : how ≤ 1) {T : Int32 × Int32} (Q : Option Value → IntM → LngM → Prop) (hq : ∀ I1 J1, FrC I J I1 J1 → CK I1 n kd nd od lw pot → I1 76 1 = T.2 → VP m_X9_mostFed 5 127 [(3, .int T.1)] [] I1 J1 Q) : ∀ k i f p s, i + k = 5040 → ends n k f → Pm n f → p ≤ n → foC n (stM (cfN kd nd lw how (pot * un how) n)) k s f = T → ∀ I1 J1, FrC I J I1 J1 → CK I1 n kd nd od lw pot → SvL I1 J1 77 n kd nd lw how (pot * un how) f p → I1 76 1 = s.2 → VP m_X9_mostFed 5 44 [(0, .ref 76), (3, .int s.1), (4, .int (nI p)), (5, .int (nI i))] [] I1 J1 Q := by
  intro k
  induction k with
  | zero => intro i f p s hik he; exact he.elim
  | succ k ih =>
    intro i f p s hik he hPf hpn hT I1 J1 c1 k1 s1 o1
    have tail : ∀ s' I3 J3, stM (cfN kd nd lw how (pot * un how) n) s f = s' → FrC I J I3 J3 → CK I3 n kd nd od lw pot → SvL I3 J3 77 n kd nd lw how (pot * un how) f n → I3 76 1 = s'.2 → VP m_X9_mostFed 5 112 [(0, .ref 76), (3, .int s'.1), (5, .int (nI i))] [] I3 J3 Q := by
      intro s' I3 J3 hs c3 k3 s3 o3
      refine V_al i_X9_mostFed_112 rfl ?_
      refine V_getR i_X9_mostFed_113 rfl rfl ?_
      refine P_callV0 i_X9_mostFed_116 mi_X7_seatNext rfl ⟨_, _, rfl⟩ (by decide) (Nat.le_of_ble_eq_true rfl) (q_next I3 J3 LS_77 k3.Z77 h1 hK.n7 hPf s3) (fun r I4 J4 q => ?_)
      rcases nx_or n f with hx | ⟨z, hx⟩
      · rw [hx] at q
        obtain ⟨f4, -, rfl, -⟩ := q
        have k4 := FrS.K (by decide) f4 k3
        have c4 := FrC.tr c3 (FrS.C (by decide) (by decide) f4)
        refine V_is (L' := [(0, _), (3, _), (4, _), (5, _)]) i_X9_mostFed_119 (by decide) ⟨rfl, rfl, rfl, rfl, trivial⟩ ?_
        refine V_iinc (L' := [(0, _), (3, _), (4, _), (5, _)]) (n' := 1) i_X9_mostFed_121 (by decide) rfl (by decide) ⟨rfl, rfl, rfl, rfl, trivial⟩ ?_
        refine V_goto i_X9_mostFed_124 ?_
        refine V_L (L' := [(0, _), (3, _), (4, _), (5, _)]) ⟨rfl, rfl, rfl, rfl, trivial⟩ ?_
        rw [foC_n hx, hs] at hT
        refine V_il i_X9_mostFed_44 rfl ?_
        refine V_c i_X9_mostFed_46 ?_
        refine V_ic_ge i_X9_mostFed_49 (fun _ => ?_) (fun _ => ?_)
        · exact V_L (L' := [(3, _)]) ⟨rfl, trivial⟩ (by rw [hT]; exact hq I4 J4 c4 k4 (by rw [f4.1 _ _ (by omega), o3, hT]))
        · refine V_il i_X9_mostFed_52 rfl ?_
          refine V_if_lt_t i_X9_mostFed_54 (by decide) ?_
          exact V_L (L' := [(3, _)]) ⟨rfl, trivial⟩ (by rw [hT]; exact hq I4 J4 c4 k4 (by rw [f4.1 _ _ (by omega), o3, hT]))
      · rw [hx] at q
        obtain ⟨f4, -, rfl, hz, hPz, s4⟩ := q
        have k4 := FrS.K (by decide) f4 k3
        have c4 := FrC.tr c3 (FrS.C (by decide) (by decide) f4)
        refine V_is (L' := [(0, _), (3, _), (4, _), (5, _)]) i_X9_mostFed_119 (by decide) ⟨rfl, rfl, rfl, rfl, trivial⟩ ?_
        refine V_iinc (L' := [(0, _), (3, _), (4, _), (5, _)]) (n' := 1) i_X9_mostFed_121 (by decide) rfl (by decide) ⟨rfl, rfl, rfl, rfl, trivial⟩ ?_
        refine V_goto i_X9_mostFed_124 ?_
        refine V_L (L' := [(0, _), (3, _), (4, _), (5, _)]) ⟨rfl, rfl, rfl, rfl, trivial⟩ ?_
        rw [foC_s hx, hs] at hT
        rw [show nI i + 1 = nI (i + 1) from nI_1 i]
        exact ih (i + 1) z.2 z.1 s' (by omega) (ends_s he hx) hPz (Nat.le_of_lt hz) hT I4 J4 c4 k4 s4 (by rw [f4.1 _ _ (by omega), o3])
    refine V_il i_X9_mostFed_44 rfl ?_
    refine V_c i_X9_mostFed_46 ?_
    refine V_ic_ge_f i_X9_mostFed_49 (nI_ge (show i < 5040 by omega) (by decide)) ?_
    refine V_il i_X9_mostFed_52 rfl ?_
    refine V_if_lt_f i_X9_mostFed_54 (nI_pos (by have := hK.n7; omega)) ?_
    refine V_al i_X9_mostFed_57 rfl ?_
    refine V_getR i_X9_mostFed_58 rfl rfl ?_
    refine V_il i_X9_mostFed_61 rfl ?_
    refine P_callV1 i_X9_mostFed_63 mi_X7_serve rfl ⟨_, _, rfl⟩ (by decide) (Nat.le_of_ble_eq_true rfl) (q_serveF I1 J1 LS_77 k1.Z77 k1.n7 hh k1.l3 k1.p9 k1.kd k1.nd hPf hpn s1) (fun r I2 J2 q => ?_)
    obtain ⟨rfl, f2, s2⟩ := q
    have k2 := FrS.K (by decide) f2 k1
    have c2 := FrC.tr c1 (FrS.C (by decide) (by decide) f2)
    have o2 : I2 76 1 = s.2 := by rw [f2.1 _ _ (by omega)]; exact o1
    refine V_al i_X9_mostFed_66 rfl ?_
    refine V_getR i_X9_mostFed_67 rfl rfl ?_
    refine P_callV0v i_X9_mostFed_70 mi_X7_fedAll rfl ⟨_, _, rfl⟩ (by decide) (Nat.le_of_ble_eq_true rfl) (c_S_fedAll _ _ LS_77 k2.Z77 k2.n7 s2.1.1) ?_
    rw [(s2.2.2.2 n (Nat.le_refl n)).2, fdS_set hPf]
    refine P_callS1v i_X9_mostFed_73 ms_J6_bitCount_0f7a4 (by decide) (Nat.le_of_ble_eq_true rfl) (c_bitCount _ _ _) ?_
    rw [bc_set hK.n7, show nI (cntN (fdE kd nd lw how (pot * un how) f n) n) = (cfN kd nd lw how (pot * un how) n) f from rfl]
    refine V_is (L' := [(0, _), (3, _), (5, _), (6, _)]) i_X9_mostFed_76 (by decide) ⟨rfl, rfl, rfl, rfl, trivial⟩ ?_
    refine V_il i_X9_mostFed_78 rfl ?_
    refine V_il i_X9_mostFed_80 rfl ?_
    refine V_ic_le i_X9_mostFed_81 (fun c81 => ?_) (fun c81 => ?_)
    · have d1 := Int32.not_lt.mpr c81
      refine V_L (L' := [(0, _), (3, _), (5, _), (6, _)]) ⟨rfl, rfl, rfl, rfl, trivial⟩ ?_
      refine V_al i_X9_mostFed_92 rfl ?_
      refine V_dup i_X9_mostFed_93 rfl ?_
      refine V_getI i_X9_mostFed_94 rfl ?_
      refine V_il i_X9_mostFed_97 rfl ?_
      refine V_il i_X9_mostFed_99 rfl ?_
      refine V_ic_ne i_X9_mostFed_100 (fun c100 => ?_) (fun c100 => ?_)
      · have d2 := c100
        refine V_c i_X9_mostFed_107 ?_
        refine V_iadd i_X9_mostFed_108 ?_
        refine V_putI i_X9_mostFed_109 rfl ?_
        refine V_L (L' := [(0, _), (3, _), (5, _)]) ⟨rfl, rfl, rfl, trivial⟩ ?_
        exact tail s _ _ (stM_3 d1 d2) (FrC.u c2 (Or.inl rfl) 1 _) (k2.u (Or.inl rfl) 1 _) (SvL.xz (fun x k h => uI_xz (Or.inl rfl) x k h) (fun _ _ _ => rfl) (by unfold noZ; omega) s2) (by rw [uI_eq, o2]; exact Int32.add_zero _)
      · have d2 := c100
        refine V_c i_X9_mostFed_103 ?_
        refine V_goto i_X9_mostFed_104 ?_
        refine V_iadd i_X9_mostFed_108 ?_
        refine V_putI i_X9_mostFed_109 rfl ?_
        refine V_L (L' := [(0, _), (3, _), (5, _)]) ⟨rfl, rfl, rfl, trivial⟩ ?_
        exact tail (s.1, s.2 + 1) _ _ (stM_2 d1 d2) (FrC.u c2 (Or.inl rfl) 1 _) (k2.u (Or.inl rfl) 1 _) (SvL.xz (fun x k h => uI_xz (Or.inl rfl) x k h) (fun _ _ _ => rfl) (by unfold noZ; omega) s2) (by rw [uI_eq, o2])
    · have d1 := Int32.not_le.mp c81
      refine V_il i_X9_mostFed_84 rfl ?_
      refine V_is (L' := [(0, _), (3, _), (5, _), (6, _)]) i_X9_mostFed_86 (by decide) ⟨rfl, rfl, rfl, rfl, trivial⟩ ?_
      refine V_al i_X9_mostFed_87 rfl ?_
      refine V_c i_X9_mostFed_88 ?_
      refine V_putI i_X9_mostFed_89 rfl ?_
      refine V_L (L' := [(0, _), (3, _), (5, _), (6, _)]) ⟨rfl, rfl, rfl, rfl, trivial⟩ ?_
      refine V_al i_X9_mostFed_92 rfl ?_
      refine V_dup i_X9_mostFed_93 rfl ?_
      refine V_getI i_X9_mostFed_94 rfl ?_
      rw [uI_eq]
      refine V_il i_X9_mostFed_97 rfl ?_
      refine V_il i_X9_mostFed_99 rfl ?_
      refine V_ic_ne_f i_X9_mostFed_100 rfl ?_
      refine V_c i_X9_mostFed_103 ?_
      refine V_goto i_X9_mostFed_104 ?_
      refine V_iadd i_X9_mostFed_108 ?_
      refine V_putI i_X9_mostFed_109 rfl ?_
      refine V_L (L' := [(0, _), (3, _), (5, _)]) ⟨rfl, rfl, rfl, trivial⟩ ?_
      exact tail ((cfN kd nd lw how (pot * un how) n) f, 1) _ _ (stM_1 d1) (FrC.u c2 (Or.inl rfl) 1 _ |>.u (Or.inl rfl) 1 _) ((k2.u (Or.inl rfl) 1 _).u (Or.inl rfl) 1 _) (SvL.xz (fun x k h => by rw [uI_xz (Or.inl rfl) x k h, uI_xz (Or.inl rfl) x k h]) (fun _ _ _ => rfl) (by unfold noZ; omega) s2) (by rw [uI_eq]; rfl)
set_option maxRecDepth 100000 in
set_option maxHeartbeats 4000000 in
theorem c_mostFed (I : IntM) (J : LngM) {n : Nat} {kd nd od : Nat → Nat} {lw pot : Nat} (hK : CK I n kd nd od lw pot) {how : Nat} (h1 : 1 ≤ n) (hh : how ≤ 1) : CtP 5 m_X9_mostFed [.ref 76, .ref 8, .int (nI how)] I J (fun r I1 J1 => r = some (.int (moT kd nd lw how (pot * un how) n).1) ∧ FrC I J I1 J1 ∧ CK I1 n kd nd od lw pot ∧ I1 76 1 = (moT kd nd lw how (pot * un how) n).2) := by
  refine CtP_of (by decide) rfl (Nat.le_of_ble_eq_true rfl) ?_
  refine V_c i_X9_mostFed_0 ?_
  refine V_is (L' := [(0, _), (1, _), (2, _), (3, _)]) i_X9_mostFed_1 (by decide) ⟨rfl, rfl, rfl, rfl, trivial⟩ ?_
  refine V_al i_X9_mostFed_2 rfl ?_
  refine V_c i_X9_mostFed_3 ?_
  refine V_putI i_X9_mostFed_4 rfl ?_
  obtain ⟨I1, hI1⟩ : ∃ x, x = uI I 76 1 0 := ⟨_, rfl⟩
  rw [← hI1]
  have k1 : CK I1 n kd nd od lw pot := by rw [hI1]; exact hK.u (Or.inl rfl) _ _
  have c1 : FrC I J I1 J := by rw [hI1]; exact FrC.u FrC.rf (Or.inl rfl) _ _
  refine V_al i_X9_mostFed_7 rfl ?_
  refine V_getR i_X9_mostFed_8 rfl rfl ?_
  refine V_al i_X9_mostFed_11 rfl ?_
  refine P_callV1 i_X9_mostFed_12 mi_X7_invite rfl ⟨_, _, rfl⟩ (by decide) (Nat.le_of_ble_eq_true rfl) (q_invite I1 J LS_77 k1.Z77 k1.n7 k1.C) (fun r I2 J2 q => ?_)
  obtain ⟨rfl, f2, s2, -⟩ := q
  have k2 := FrS.K (by decide) f2 k1
  refine V_al i_X9_mostFed_15 rfl ?_
  refine V_getR i_X9_mostFed_16 rfl rfl ?_
  refine V_al i_X9_mostFed_19 rfl ?_
  refine V_getI i_X9_mostFed_20 rfl ?_
  rw [k2.lw]
  refine V_il i_X9_mostFed_23 rfl ?_
  refine V_al i_X9_mostFed_24 rfl ?_
  refine V_getI i_X9_mostFed_25 rfl ?_
  rw [k2.pt]
  refine P_callV3 i_X9_mostFed_28 mi_X7_rules rfl ⟨_, _, rfl⟩ (by decide) (Nat.le_of_ble_eq_true rfl) (q_rules I2 J2 LS_77 k2.Z77 hh k2.p9 s2) (fun r I3 J3 q => ?_)
  obtain ⟨rfl, f3, s3, r3, -⟩ := q
  have k3 := FrS.K (by decide) f3 k2
  refine V_al i_X9_mostFed_31 rfl ?_
  refine V_getR i_X9_mostFed_32 rfl rfl ?_
  refine P_callV0 i_X9_mostFed_35 mi_X7_seatByNumbers rfl ⟨_, _, rfl⟩ (by decide) (Nat.le_of_ble_eq_true rfl) (q_num I3 J3 LS_77 k3.Z77 k3.n7 s3 r3) (fun r I4 J4 q => ?_)
  obtain ⟨rfl, f4, s4, -⟩ := q
  have k4 := FrS.K (by decide) f4 k3
  have c4 := FrC.tr c1 (FrS.C (by decide) (by decide) (FrS.tr f2 (FrS.tr f3 f4)))
  refine V_c i_X9_mostFed_38 ?_
  refine V_is (L' := [(0, _), (3, _), (4, _)]) i_X9_mostFed_39 (by decide) ⟨rfl, rfl, rfl, trivial⟩ ?_
  refine V_c i_X9_mostFed_41 ?_
  refine V_is (L' := [(0, _), (3, _), (4, _), (5, _)]) i_X9_mostFed_42 (by decide) ⟨rfl, rfl, rfl, rfl, trivial⟩ ?_
  refine V_L (L' := [(0, _), (3, _), (4, _), (5, _)]) ⟨rfl, rfl, rfl, rfl, trivial⟩ ?_
  refine lp_mostFed I J hK h1 hh (T := (moT kd nd lw how (pot * un how) n)) _ (fun I5 J5 c5 k5 o5 => ?_) 5040 0 (fun i => i) 0 (-1, 0) rfl (ends_id h1 hK.n7) (Pm_id n) (Nat.zero_le _) rfl I4 J4 c4 k4 s4 (by rw [f4.1 _ _ (by omega), f3.1 _ _ (by omega), f2.1 _ _ (by omega), hI1, uI_eq])
  refine V_il i_X9_mostFed_127 rfl ?_
  exact P_iret i_X9_mostFed_128 rfl ⟨rfl, c5, k5, o5⟩
set_option maxRecDepth 100000 in
set_option maxHeartbeats 4000000 in
theorem c_most0 (I : IntM) (J : LngM) {n : Nat} {kd nd od : Nat → Nat} {lw pot : Nat} (hK : CK I n kd nd od lw pot) {x : Int32} (h : howv x = 0) : CtP 6 m_X10_most [.ref 0, .int x] I J (QC I J (.int (-1)) none none none) := by
  refine CtP_of (by decide) rfl (Nat.le_of_ble_eq_true rfl) ?_
  refine V_il i_X10_most_0 rfl ?_
  refine P_callS1v i_X10_most_1 ms_X10_isHow (by decide) (Nat.le_of_ble_eq_true rfl) (c_isHow _ _ _) ?_
  refine V_if_ne_f i_X10_most_4 h ?_
  refine V_c i_X10_most_7 ?_
  exact P_iret i_X10_most_8 rfl ⟨rfl, I, J, FrC.rf, hK.Z, rfl, rfl⟩
set_option maxRecDepth 100000 in
set_option maxHeartbeats 4000000 in
theorem c_most1 (I : IntM) (J : LngM) {n : Nat} {kd nd od : Nat → Nat} {lw pot : Nat} (hK : CK I n kd nd od lw pot) {how : Nat} (hh : how ≤ 1) (h0 : n = 0) : CtP 6 m_X10_most [.ref 0, .int (nI how)] I J (QC I J (.int (-4)) none none none) := by
  refine CtP_of (by decide) rfl (Nat.le_of_ble_eq_true rfl) ?_
  refine V_il i_X10_most_0 rfl ?_
  refine P_callS1v i_X10_most_1 ms_X10_isHow (by decide) (Nat.le_of_ble_eq_true rfl) (c_isHow _ _ _) ?_
  refine V_if_ne_t i_X10_most_4 (by rw [howv_nI hh]; decide) ?_
  refine V_al i_X10_most_9 rfl ?_
  refine V_getR i_X10_most_10 rfl rfl ?_
  refine V_getI i_X10_most_13 rfl ?_
  refine V_if_ne_f i_X10_most_16 (by rw [hK.sz, h0]; rfl) ?_
  refine V_c i_X10_most_19 ?_
  exact P_iret i_X10_most_21 rfl ⟨rfl, I, J, FrC.rf, hK.Z, rfl, rfl⟩
set_option maxRecDepth 100000 in
set_option maxHeartbeats 4000000 in
theorem c_most (I : IntM) (J : LngM) {n : Nat} {kd nd od : Nat → Nat} {lw pot : Nat} (hK : CK I n kd nd od lw pot) {how : Nat} (hh : how ≤ 1) (h0 : 0 < n) : CtP 6 m_X10_most [.ref 0, .int (nI how)] I J (QC I J (.int (moT kd nd lw how (pot * un how) n).1) (some (moT kd nd lw how (pot * un how) n).2) none none) := by
  refine CtP_of (by decide) rfl (Nat.le_of_ble_eq_true rfl) ?_
  refine V_il i_X10_most_0 rfl ?_
  refine P_callS1v i_X10_most_1 ms_X10_isHow (by decide) (Nat.le_of_ble_eq_true rfl) (c_isHow _ _ _) ?_
  refine V_if_ne_t i_X10_most_4 (by rw [howv_nI hh]; decide) ?_
  refine V_al i_X10_most_9 rfl ?_
  refine V_getR i_X10_most_10 rfl rfl ?_
  refine V_getI i_X10_most_13 rfl ?_
  refine V_if_ne_t i_X10_most_16 (by rw [hK.sz]; exact nI_ne0 h0 (by have := hK.n7; omega)) ?_
  refine V_al i_X10_most_22 rfl ?_
  refine V_getR i_X10_most_23 rfl rfl ?_
  refine V_al i_X10_most_26 rfl ?_
  refine V_getR i_X10_most_27 rfl rfl ?_
  refine V_il i_X10_most_30 rfl ?_
  refine P_callV2 i_X10_most_31 mi_X9_mostFed rfl ⟨_, _, rfl⟩ (by decide) (Nat.le_of_ble_eq_true rfl) (c_mostFed I J hK h0 hh) (fun r I1 J1 q => ?_)
  obtain ⟨rfl, c1, k1, o1⟩ := q
  refine V_is (L' := [(0, _), (2, _)]) i_X10_most_34 (by decide) ⟨rfl, rfl, trivial⟩ ?_
  refine V_al i_X10_most_35 rfl ?_
  refine V_al i_X10_most_36 rfl ?_
  refine V_getR i_X10_most_37 rfl rfl ?_
  refine V_getI i_X10_most_40 rfl ?_
  rw [o1]
  refine V_putI i_X10_most_43 rfl ?_
  refine V_il i_X10_most_46 rfl ?_
  exact P_iret i_X10_most_47 rfl ⟨rfl, I1, J1, c1, k1.Z, rfl, rfl⟩
set_option maxRecDepth 100000 in
set_option maxHeartbeats 4000000 in
theorem m_most0 (I : IntM) (J : LngM) {n : Nat} {kd nd od : Nat → Nat} {lw pot : Nat} (hK : MK I n kd nd od lw pot) {x : Int32} (h : howv x = 0) : CtP 7 m_X11_most [.ref 146, .int x] I J (QM I J (.int (-1)) none none none) := by
  refine CtP_of (by decide) rfl (Nat.le_of_ble_eq_true rfl) ?_
  refine V_il i_X11_most_0 rfl ?_
  refine P_callS1v i_X11_most_1 ms_X11_isHow (by decide) (Nat.le_of_ble_eq_true rfl) (c_M_isHow _ _ _) ?_
  refine V_if_ne_f i_X11_most_4 h ?_
  refine V_c i_X11_most_7 ?_
  exact P_iret i_X11_most_8 rfl ⟨rfl, I, J, FrM.rf, rfl, rfl⟩
set_option maxRecDepth 100000 in
set_option maxHeartbeats 4000000 in
theorem m_most1 (I : IntM) (J : LngM) {n : Nat} {kd nd od : Nat → Nat} {lw pot : Nat} (hK : MK I n kd nd od lw pot) {how : Nat} (hh : how ≤ 1) (h0 : n = 0) : CtP 7 m_X11_most [.ref 146, .int (nI how)] I J (QM I J (.int (-4)) none none none) := by
  refine CtP_of (by decide) rfl (Nat.le_of_ble_eq_true rfl) ?_
  refine V_il i_X11_most_0 rfl ?_
  refine P_callS1v i_X11_most_1 ms_X11_isHow (by decide) (Nat.le_of_ble_eq_true rfl) (c_M_isHow _ _ _) ?_
  refine V_if_ne_t i_X11_most_4 (by rw [howv_nI hh]; decide) ?_
  refine V_al i_X11_most_9 rfl ?_
  refine V_getI i_X11_most_10 rfl ?_
  refine V_if_ne_f i_X11_most_13 (by rw [hK.sz, h0]; rfl) ?_
  refine V_c i_X11_most_16 ?_
  exact P_iret i_X11_most_18 rfl ⟨rfl, I, J, FrM.rf, rfl, rfl⟩
set_option maxRecDepth 100000 in
set_option maxHeartbeats 4000000 in
theorem lp_M_most (I : IntM) (J : LngM) {n : Nat} {kd nd od : Nat → Nat} {lw pot : Nat} (hK : MK I n kd nd od lw pot) {how : Nat} (h1 : 1 ≤ n) (hh : how ≤ 1) {T : Int32 × Int32} (Q : Option Value → IntM → LngM → Prop) (hq : ∀ I1 J1, FrM I J I1 J1 → VP m_X11_most 7 104 [(0, .ref 146), (2, .int T.1), (3, .int T.2)] [] I1 J1 Q) : ∀ k f s, ends n k f → Pm n f → foC n (stM (cfN kd nd lw how (pot * un how) n)) k s f = T → ∀ I1 J1, FrM I J I1 J1 → AtI I1 157 n f → VP m_X11_most 7 30 [(0, .ref 146), (1, .int (nI how)), (2, .int s.1), (3, .int s.2), (4, .int 1)] [] I1 J1 Q := by
  intro k
  induction k with
  | zero => intro f s he; exact he.elim
  | succ k ih =>
    intro f s he hPf hT I1 J1 f1 hA
    have k1 := FrM.K f1 hK
    refine V_il i_X11_most_30 rfl ?_
    refine V_if_eq_f i_X11_most_32 (by decide) ?_
    refine V_al i_X11_most_35 rfl ?_
    refine V_il i_X11_most_36 rfl ?_
    refine V_al i_X11_most_37 rfl ?_
    refine V_getI i_X11_most_38 rfl ?_
    rw [k1.pt]
    refine V_al i_X11_most_41 rfl ?_
    refine V_getI i_X11_most_42 rfl ?_
    rw [k1.lw]
    refine V_c i_X11_most_45 ?_
    refine P_callV4 i_X11_most_46 mi_X11_goes rfl ⟨_, _, rfl⟩ (by decide) (Nat.le_of_ble_eq_true rfl) (m_goes0 I1 J1 k1 hh k1.l3 k1.p9 hA hPf) (fun r Ix J2 q => ?_)
    obtain ⟨rfl, rfl, j2, g2⟩ := q
    have f2 := FrM.tr f1 (FrJ.M I1 j2)
    refine V_al i_X11_most_49 rfl ?_
    refine P_callV0v i_X11_most_50 mi_X11_fedSet rfl ⟨_, _, rfl⟩ (by decide) (Nat.le_of_ble_eq_true rfl) (m_fset I1 J2 k1 k1.p9 g2) ?_
    refine P_callS1v i_X11_most_53 ms_X11_ones (by decide) (Nat.le_of_ble_eq_true rfl) (c_M_ones _ _ (setN_lt _ n hK.n7)) ?_
    rw [popc_set hK.n7, show nI (cntN (fdE kd nd lw how (pot * un how) f n) n) = (cfN kd nd lw how (pot * un how) n) f from rfl]
    refine V_is (L' := [(0, _), (1, _), (2, _), (3, _), (5, _)]) i_X11_most_56 (by decide) ⟨rfl, rfl, rfl, rfl, rfl, trivial⟩ ?_
    refine V_il i_X11_most_58 rfl ?_
    refine V_il i_X11_most_60 rfl ?_
    refine V_ic_le i_X11_most_61 (fun c61 => ?_) (fun c61 => ?_)
    · have d1 := Int32.not_lt.mpr c61
      refine V_il i_X11_most_68 rfl ?_
      refine V_il i_X11_most_70 rfl ?_
      refine V_ic_ne i_X11_most_71 (fun c71 => ?_) (fun c71 => ?_)
      · refine V_il i_X11_most_80 rfl ?_
        refine V_is (L' := [(0, _), (1, _), (2, _), (3, _), (5, _)]) i_X11_most_81 (by decide) ⟨rfl, rfl, rfl, rfl, rfl, trivial⟩ ?_
        refine V_L (L' := [(0, _), (1, _), (2, _), (3, _), (5, _)]) ⟨rfl, rfl, rfl, rfl, rfl, trivial⟩ ?_
        refine V_il i_X11_most_82 rfl ?_
        refine V_il i_X11_most_84 rfl ?_
        refine V_ic_le_t i_X11_most_85 c61 ?_
        refine V_il i_X11_most_93 rfl ?_
        refine V_is (L' := [(0, _), (1, _), (2, _), (3, _)]) i_X11_most_94 (by decide) ⟨rfl, rfl, rfl, rfl, trivial⟩ ?_
        refine V_al i_X11_most_95 rfl ?_
        refine P_callV0 i_X11_most_96 mi_X11_nextSeats rfl ⟨_, _, rfl⟩ (by decide) (Nat.le_of_ble_eq_true rfl) (m_next I1 J2 k1 h1 hA hPf) (fun r I3 J3 q => ?_)
        rcases nx_or n f with hx | ⟨z, hx⟩
        · rw [hx] at q
          obtain ⟨rfl, f3, rfl⟩ := q
          refine V_is (L' := [(0, _), (1, _), (2, _), (3, _), (4, _)]) i_X11_most_99 (by decide) ⟨rfl, rfl, rfl, rfl, rfl, trivial⟩ ?_
          refine V_goto i_X11_most_101 ?_
          refine V_L (L' := [(0, _), (1, _), (2, _), (3, _), (4, _)]) ⟨rfl, rfl, rfl, rfl, rfl, trivial⟩ ?_
          rw [foC_n hx, stM_3 d1 c71] at hT
          refine V_il i_X11_most_30 rfl ?_
          refine V_if_eq_t i_X11_most_32 rfl ?_
          exact V_L (L' := [(0, _), (2, _), (3, _)]) ⟨rfl, rfl, rfl, trivial⟩ (by have h9 := hq I3 J2 (FrM.tr f2 f3); rw [← hT] at h9; exact h9)
        · rw [hx] at q
          obtain ⟨rfl, f3, rfl, a3, hPz⟩ := q
          refine V_is (L' := [(0, _), (1, _), (2, _), (3, _), (4, _)]) i_X11_most_99 (by decide) ⟨rfl, rfl, rfl, rfl, rfl, trivial⟩ ?_
          refine V_goto i_X11_most_101 ?_
          refine V_L (L' := [(0, _), (1, _), (2, _), (3, _), (4, _)]) ⟨rfl, rfl, rfl, rfl, rfl, trivial⟩ ?_
          rw [foC_s hx, stM_3 d1 c71] at hT
          exact ih z.2 s (ends_s he hx) hPz hT I3 J2 (FrM.tr f2 f3) a3
      · refine V_il i_X11_most_74 rfl ?_
        refine V_c i_X11_most_75 ?_
        refine V_iadd i_X11_most_76 ?_
        refine V_goto i_X11_most_77 ?_
        refine V_is (L' := [(0, _), (1, _), (2, _), (3, _), (5, _)]) i_X11_most_81 (by decide) ⟨rfl, rfl, rfl, rfl, rfl, trivial⟩ ?_
        refine V_L (L' := [(0, _), (1, _), (2, _), (3, _), (5, _)]) ⟨rfl, rfl, rfl, rfl, rfl, trivial⟩ ?_
        refine V_il i_X11_most_82 rfl ?_
        refine V_il i_X11_most_84 rfl ?_
        refine V_ic_le_t i_X11_most_85 c61 ?_
        refine V_il i_X11_most_93 rfl ?_
        refine V_is (L' := [(0, _), (1, _), (2, _), (3, _)]) i_X11_most_94 (by decide) ⟨rfl, rfl, rfl, rfl, trivial⟩ ?_
        refine V_al i_X11_most_95 rfl ?_
        refine P_callV0 i_X11_most_96 mi_X11_nextSeats rfl ⟨_, _, rfl⟩ (by decide) (Nat.le_of_ble_eq_true rfl) (m_next I1 J2 k1 h1 hA hPf) (fun r I3 J3 q => ?_)
        rcases nx_or n f with hx | ⟨z, hx⟩
        · rw [hx] at q
          obtain ⟨rfl, f3, rfl⟩ := q
          refine V_is (L' := [(0, _), (1, _), (2, _), (3, _), (4, _)]) i_X11_most_99 (by decide) ⟨rfl, rfl, rfl, rfl, rfl, trivial⟩ ?_
          refine V_goto i_X11_most_101 ?_
          refine V_L (L' := [(0, _), (1, _), (2, _), (3, _), (4, _)]) ⟨rfl, rfl, rfl, rfl, rfl, trivial⟩ ?_
          rw [foC_n hx, stM_2 d1 c71] at hT
          refine V_il i_X11_most_30 rfl ?_
          refine V_if_eq_t i_X11_most_32 rfl ?_
          exact V_L (L' := [(0, _), (2, _), (3, _)]) ⟨rfl, rfl, rfl, trivial⟩ (by have h9 := hq I3 J2 (FrM.tr f2 f3); rw [← hT] at h9; exact h9)
        · rw [hx] at q
          obtain ⟨rfl, f3, rfl, a3, hPz⟩ := q
          refine V_is (L' := [(0, _), (1, _), (2, _), (3, _), (4, _)]) i_X11_most_99 (by decide) ⟨rfl, rfl, rfl, rfl, rfl, trivial⟩ ?_
          refine V_goto i_X11_most_101 ?_
          refine V_L (L' := [(0, _), (1, _), (2, _), (3, _), (4, _)]) ⟨rfl, rfl, rfl, rfl, rfl, trivial⟩ ?_
          rw [foC_s hx, stM_2 d1 c71] at hT
          exact ih z.2 (s.1, s.2 + 1) (ends_s he hx) hPz hT I3 J2 (FrM.tr f2 f3) a3
    · have d1 := Int32.not_le.mp c61
      refine V_c i_X11_most_64 ?_
      refine V_goto i_X11_most_65 ?_
      refine V_is (L' := [(0, _), (1, _), (2, _), (3, _), (5, _)]) i_X11_most_81 (by decide) ⟨rfl, rfl, rfl, rfl, rfl, trivial⟩ ?_
      refine V_L (L' := [(0, _), (1, _), (2, _), (3, _), (5, _)]) ⟨rfl, rfl, rfl, rfl, rfl, trivial⟩ ?_
      refine V_il i_X11_most_82 rfl ?_
      refine V_il i_X11_most_84 rfl ?_
      refine V_ic_le_f i_X11_most_85 c61 ?_
      refine V_il i_X11_most_88 rfl ?_
      refine V_goto i_X11_most_90 ?_
      refine V_is (L' := [(0, _), (1, _), (2, _), (3, _)]) i_X11_most_94 (by decide) ⟨rfl, rfl, rfl, rfl, trivial⟩ ?_
      refine V_al i_X11_most_95 rfl ?_
      refine P_callV0 i_X11_most_96 mi_X11_nextSeats rfl ⟨_, _, rfl⟩ (by decide) (Nat.le_of_ble_eq_true rfl) (m_next I1 J2 k1 h1 hA hPf) (fun r I3 J3 q => ?_)
      rcases nx_or n f with hx | ⟨z, hx⟩
      · rw [hx] at q
        obtain ⟨rfl, f3, rfl⟩ := q
        refine V_is (L' := [(0, _), (1, _), (2, _), (3, _), (4, _)]) i_X11_most_99 (by decide) ⟨rfl, rfl, rfl, rfl, rfl, trivial⟩ ?_
        refine V_goto i_X11_most_101 ?_
        refine V_L (L' := [(0, _), (1, _), (2, _), (3, _), (4, _)]) ⟨rfl, rfl, rfl, rfl, rfl, trivial⟩ ?_
        rw [foC_n hx, stM_1 d1] at hT
        refine V_il i_X11_most_30 rfl ?_
        refine V_if_eq_t i_X11_most_32 rfl ?_
        exact V_L (L' := [(0, _), (2, _), (3, _)]) ⟨rfl, rfl, rfl, trivial⟩ (by have h9 := hq I3 J2 (FrM.tr f2 f3); rw [← hT] at h9; exact h9)
      · rw [hx] at q
        obtain ⟨rfl, f3, rfl, a3, hPz⟩ := q
        refine V_is (L' := [(0, _), (1, _), (2, _), (3, _), (4, _)]) i_X11_most_99 (by decide) ⟨rfl, rfl, rfl, rfl, rfl, trivial⟩ ?_
        refine V_goto i_X11_most_101 ?_
        refine V_L (L' := [(0, _), (1, _), (2, _), (3, _), (4, _)]) ⟨rfl, rfl, rfl, rfl, rfl, trivial⟩ ?_
        rw [foC_s hx, stM_1 d1] at hT
        exact ih z.2 ((cfN kd nd lw how (pot * un how) n) f, 1) (ends_s he hx) hPz hT I3 J2 (FrM.tr f2 f3) a3
set_option maxRecDepth 100000 in
set_option maxHeartbeats 4000000 in
theorem m_most (I : IntM) (J : LngM) {n : Nat} {kd nd od : Nat → Nat} {lw pot : Nat} (hK : MK I n kd nd od lw pot) {how : Nat} (hh : how ≤ 1) (h0 : 0 < n) : CtP 7 m_X11_most [.ref 146, .int (nI how)] I J (QM I J (.int (moT kd nd lw how (pot * un how) n).1) (some (moT kd nd lw how (pot * un how) n).2) none none) := by
  refine CtP_of (by decide) rfl (Nat.le_of_ble_eq_true rfl) ?_
  refine V_il i_X11_most_0 rfl ?_
  refine P_callS1v i_X11_most_1 ms_X11_isHow (by decide) (Nat.le_of_ble_eq_true rfl) (c_M_isHow _ _ _) ?_
  refine V_if_ne_t i_X11_most_4 (by rw [howv_nI hh]; decide) ?_
  refine V_al i_X11_most_9 rfl ?_
  refine V_getI i_X11_most_10 rfl ?_
  refine V_if_ne_t i_X11_most_13 (by rw [hK.sz]; exact nI_ne0 h0 (by have := hK.n7; omega)) ?_
  refine V_c i_X11_most_19 ?_
  refine V_is (L' := [(0, _), (1, _), (2, _)]) i_X11_most_20 (by decide) ⟨rfl, rfl, rfl, trivial⟩ ?_
  refine V_c i_X11_most_21 ?_
  refine V_is (L' := [(0, _), (1, _), (2, _), (3, _)]) i_X11_most_22 (by decide) ⟨rfl, rfl, rfl, rfl, trivial⟩ ?_
  refine V_al i_X11_most_23 rfl ?_
  refine P_callV0 i_X11_most_24 mi_X11_firstSeats rfl ⟨_, _, rfl⟩ (by decide) (Nat.le_of_ble_eq_true rfl) (m_first I J hK) (fun r I1 Jx q => ?_)
  obtain ⟨rfl, f1, a1, rfl⟩ := q
  refine V_c i_X11_most_27 ?_
  refine V_is (L' := [(0, _), (1, _), (2, _), (3, _), (4, _)]) i_X11_most_28 (by decide) ⟨rfl, rfl, rfl, rfl, rfl, trivial⟩ ?_
  refine V_L (L' := [(0, _), (1, _), (2, _), (3, _), (4, _)]) ⟨rfl, rfl, rfl, rfl, rfl, trivial⟩ ?_
  refine lp_M_most I J hK h0 hh (T := (moT kd nd lw how (pot * un how) n)) _ (fun I2 J2 f2 => ?_) 5040 (fun i => i) (-1, 0) (ends_id h0 hK.n7) (Pm_id n) rfl I1 J f1 a1
  refine V_al i_X11_most_104 rfl ?_
  refine V_il i_X11_most_105 rfl ?_
  refine V_putI i_X11_most_106 rfl ?_
  refine V_il i_X11_most_109 rfl ?_
  exact P_iret i_X11_most_110 rfl ⟨rfl, I2, J2, f2, rfl, rfl⟩
theorem p_most {I : IntM} {J : LngM} (h : Inv I J) (x : Int32) : Pair 6 m_X10_most [.ref 0, .int x] 7 m_X11_most [.ref 146, .int x] I J := by
  obtain ⟨n, kd, nd, od, lw, pot, hP, hK, hM⟩ := h.K
  by_cases hx : howv x = 0
  · exact Pair.q h (fun _ => no_f) (c_most0 I J hK hx) (fun I1 J1 e1 e2 => m_most0 I1 J1 (hM I1 e1) hx)
  obtain ⟨how, hh, rfl⟩ := howv_yes hx
  rcases Nat.eq_zero_or_pos n with h0 | h0
  · exact Pair.q h (fun _ => no_f) (c_most1 I J hK hh h0) (fun I1 J1 e1 e2 => m_most1 I1 J1 (hM I1 e1) hh h0)
  exact Pair.q h (fun _ => no_f) (c_most I J hK hh h0) (fun I1 J1 e1 e2 => m_most I1 J1 (hM I1 e1) hh h0)
