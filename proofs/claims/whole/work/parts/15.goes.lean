
/-! ===== goes: a whole evening, by the reference ===== -/
theorem tk_dvd {M X kd N d : Nat} (hX : M ∣ X) (hN : M ∣ N) (hd : d = 2 ∨ d = 3 ∨ d = 4) : M ∣ tk kd N (24 * X) d := by
  have hm : ∃ c, may (24 * X) d = 2 * (c * X) := by
    unfold may
    rcases hd with rfl | rfl | rfl
    · exact ⟨6, by omega⟩
    · exact ⟨8, by omega⟩
    · exact ⟨9, by omega⟩
  have hc : ∃ c, may (24 * X) d + (24 * X - may (24 * X) d) / 2 = c * X := by
    unfold may
    rcases hd with rfl | rfl | rfl
    · exact ⟨18, by omega⟩
    · exact ⟨20, by omega⟩
    · exact ⟨21, by omega⟩
  obtain ⟨c, hc1⟩ := hm
  obtain ⟨c2, hc2⟩ := hc
  have mX : ∀ c, M ∣ c * X := fun c => Nat.dvd_trans hX (Nat.dvd_mul_left _ _)
  have m2 : M ∣ may (24 * X) d := by rw [hc1, ← Nat.mul_assoc]; exact mX _
  have m1 : M ∣ may (24 * X) d / 2 := by rw [hc1, Nat.mul_div_cancel_left _ (by decide)]; exact mX _
  unfold tk
  split
  · exact m1
  · split
    · rw [hc2]; exact mX _
    · split
      · rcases Nat.le_total (may (24 * X) d) N with h | h
        · rw [Nat.min_eq_left h]; exact m2
        · rw [Nat.min_eq_right h]; exact hN
      · split
        · exact mX _
        · split
          · rcases Nat.le_total (may (24 * X) d / 2) N with h | h
            · rw [Nat.min_eq_left h]; exact m1
            · rw [Nat.min_eq_right h]; exact hN
          · exact m2
theorem un0 : un 0 = 24 ^ 7 := by decide
theorem pow_split {i : Nat} (hi : i < 7) : 24 ^ (7 - i) = 24 * 24 ^ (7 - (i + 1)) := by
  rw [show 7 - i = (7 - (i + 1)) + 1 by omega, Nat.pow_succ, Nat.mul_comm]
/-- by parts, what is there is a whole number of 24ths as often as it can be asked -/
theorem step24 {i kd nd g d : Nat} (hi : i < 7) (hg : 24 ^ (7 - i) ∣ g) (hd : d = 2 ∨ d = 3 ∨ d = 4) : (∃ k, g = 24 * k) ∧ 24 ^ (7 - (i + 1)) ∣ tk kd (nd * un 0) g d ∧ 24 ^ (7 - (i + 1)) ∣ g - tk kd (nd * un 0) g d := by
  obtain ⟨h, rfl⟩ := hg
  rw [pow_split hi, Nat.mul_assoc]
  have h1 : 24 ^ (7 - (i + 1)) ∣ 24 ^ (7 - (i + 1)) * h := Nat.dvd_mul_right _ _
  have h2 : 24 ^ (7 - (i + 1)) ∣ nd * un 0 := by
    rw [un0]
    exact Nat.dvd_trans (Nat.pow_dvd_pow 24 (by omega)) (Nat.dvd_mul_left _ _)
  have h3 := tk_dvd (kd := kd) h1 h2 hd
  exact ⟨⟨_, rfl⟩, h3, Nat.dvd_sub (Nat.dvd_trans h1 (Nat.dvd_mul_left _ _)) h3⟩
theorem thS24 (kd nd : Nat → Nat) (lw pot : Nat) (ln : Nat → Nat) : ∀ i, i ≤ 7 → 24 ^ (7 - i) ∣ thS kd nd lw 0 (pot * un 0) ln i
  | 0, _ => by
    unfold thS
    rw [un0]
    exact Nat.dvd_mul_left _ _
  | i + 1, hi => by
    have ih := thS24 kd nd lw pot ln i (by omega)
    exact (step24 (by omega) ih (dv_cases lw i)).2.2
theorem bit_shr_tab : ∀ w, w < 128 → ∀ k, k < 7 → ((nI w >>> (nI k &&& 31) &&& 1) = 1 ↔ w.testBit k = true) := by decide +kernel
theorem bit_shr {w k : Nat} (hw : w < 128) (hk : k < 7) : ((nI w >>> (nI k &&& 31) &&& 1) = 1 ↔ w.testBit k = true) := bit_shr_tab w hw k hk
/-- kinds, but some are mere eaters -/
def hon (kd : Nat → Nat) (w : Nat) : Nat → Nat := fun k => if w.testBit k = true then 0 else kd k
theorem hon_0 (kd : Nat → Nat) : hon kd 0 = kd := by funext k; simp [hon]
/-- what goes() leaves -/
def GoesQ (J : LngM) (n : Nat) (kd nd : Nat → Nat) (lw how P : Nat) (ln : Nat → Nat) (m : Nat) (J' : LngM) : Prop := Fr (J' 146 28) (J' 146 29) ((thS kd nd lw how P ln m : Nat) : Int) (un how) ∧ (∀ i, i < m → Fr (J' 158 (ln i)) (J' 159 (ln i)) ((tkS kd nd lw how P ln i : Nat) : Int) (un how)) ∧ ∀ x k, ¬ (x = 146 ∧ (k = 23 ∨ k = 24 ∨ k = 28 ∨ k = 29)) → x ≠ 158 → x ≠ 159 → J' x k = J x k
/-- the company, as the reference has it -/
def MCo (I : IntM) (n : Nat) (kd nd : Nat → Nat) : Prop := I 146 19 = nI n ∧ AtI I 154 n kd ∧ AtI I 155 n nd

set_option maxRecDepth 100000 in
set_option maxHeartbeats 4000000 in
theorem lp_M_goes (I : IntM) (J : LngM) {n lw how pot w : Nat} {kd nd ln : Nat → Nat} (hn : n ≤ 7) (hh : how ≤ 1) (hlw : lw ≤ 3) (hp : pot ≤ 999) (hw : w < 128) (hM : MCo I n kd nd) (hkd : ∀ k, k < n → kd k ≤ 5) (hnd : ∀ k, k < n → nd k ≤ 99) (hS : AtI I 157 n ln) (hln : ∀ i, i < n → ln i < n) (hinj : ∀ i j, i < n → j < n → ln i = ln j → i = j) (Q : Option Value → IntM → LngM → Prop) (h0 : Fr (J 146 28) (J 146 29) ((pot * un how : Nat) : Int) (un how)) (hq : ∀ J1, GoesQ J n (hon kd w) nd lw how (pot * un how) ln n J1 → Q none I J1) : VP m_X11_goes 6 14 [(0, .ref 146), (1, .int (nI how)), (3, .int (nI lw)), (4, .int (nI w)), (5, .int 0)] [] I J Q := by
  have key : ∀ i, i ≤ n → ∀ J1, GoesQ J n (hon kd w) nd lw how (pot * un how) ln i J1 → VP m_X11_goes 6 14 [(0, .ref 146), (1, .int (nI how)), (3, .int (nI lw)), (4, .int (nI w)), (5, .int (nI i))] [] I J1 Q := by
    refine down n ?_ (fun i hi ih => ?_)
    · intro J1 hG
      refine V_il i_X11_goes_14 rfl ?_
      refine V_al i_X11_goes_16 rfl ?_
      refine V_getI i_X11_goes_17 rfl ?_
      refine V_ic_ge_t i_X11_goes_20 (by rw [hM.1]; exact Int32.le_refl _) ?_
      exact P_vret i_X11_goes_145 rfl (hq J1 hG)
    · intro J1 hG
      have hi7 : i < 7 := by omega
      have hl := hln i hi
      have hl7 : ln i < 7 := by omega
      have hkd9 : hon kd w (ln i) ≤ 5 := by unfold hon; split; omega; exact hkd _ hl
      have hP : pot * un how < 2 ^ 43 := mul_un hp
      have hth : thS (hon kd w) nd lw how (pot * un how) ln i < 2 ^ 50 := by have := thS_le (hon kd w) nd lw how (pot * un how) ln i; omega
      have htl := tkS_le (hon kd w) nd lw how (pot * un how) ln i
      have h24 : how = 0 → ∃ k, thS (hon kd w) nd lw how (pot * un how) ln i = 24 * k := by
        intro h
        subst h
        exact (step24 (kd := 0) (nd := 0) hi7 (thS24 (hon kd w) nd lw pot ln i (by omega)) (dv_cases lw i)).1
      refine V_il i_X11_goes_14 rfl ?_
      refine V_al i_X11_goes_16 rfl ?_
      refine V_getI i_X11_goes_17 rfl ?_
      refine V_ic_ge_f i_X11_goes_20 (by rw [hM.1]; exact nI_ge hi (by omega)) ?_
      refine V_al i_X11_goes_23 rfl ?_
      refine V_getR i_X11_goes_24 rfl rfl ?_
      refine V_il i_X11_goes_27 rfl ?_
      refine K_iald i i_X11_goes_29 rfl rfl hi7 (by omega) ?_
      rw [hS i hi]
      refine V_is (L' := [(0, _), (1, _), (3, _), (4, _), (5, _), (6, _)]) i_X11_goes_30 (by decide) ⟨rfl, rfl, rfl, rfl, rfl, rfl, trivial⟩ ?_
      refine V_al i_X11_goes_32 rfl ?_
      refine V_il i_X11_goes_33 rfl ?_
      refine V_il i_X11_goes_34 rfl ?_
      refine V_il i_X11_goes_36 rfl ?_
      refine V_ishr i_X11_goes_38 ?_
      refine V_c i_X11_goes_39 ?_
      refine V_iand i_X11_goes_40 ?_
      refine V_c i_X11_goes_41 ?_
      refine V_ic_ne i_X11_goes_42 (fun c42 => ?_) (fun c42 => ?_)
      · rw [bit_shr hw hl7] at c42
        refine V_al i_X11_goes_49 rfl ?_
        refine V_getR i_X11_goes_50 rfl rfl ?_
        refine V_il i_X11_goes_53 rfl ?_
        refine K_iald (ln i) i_X11_goes_55 rfl rfl hl7 (by omega) ?_
        rw [hM.2.1 _ hl, show nI (kd (ln i)) = nI (hon kd w (ln i)) from by unfold hon; rw [if_neg c42]]
        refine V_al i_X11_goes_56 rfl ?_
        refine V_getR i_X11_goes_57 rfl rfl ?_
        refine V_il i_X11_goes_60 rfl ?_
        refine K_iald (ln i) i_X11_goes_62 rfl rfl hl7 (by omega) ?_
        rw [hM.2.2 _ hl]
        refine V_al i_X11_goes_63 rfl ?_
        refine V_getJ i_X11_goes_64 rfl ?_
        refine V_al i_X11_goes_67 rfl ?_
        refine V_getJ i_X11_goes_68 rfl ?_
        refine V_il i_X11_goes_71 rfl ?_
        refine V_il i_X11_goes_72 rfl ?_
        refine P_callS2v i_X11_goes_74 ms_X11_parts (by decide) (Nat.le_of_ble_eq_true rfl) (c_M_parts I J1 hlw (by omega)) ?_
        refine P_callV6u i_X11_goes_77 mi_X11_takes rfl ⟨_, _, rfl⟩ (by decide) (Nat.le_of_ble_eq_true rfl) (c_M_takes I J1 hh hkd9 hth (hnd _ hl) (dv_cases lw i) h24 hG.1) ?_
        rw [show tk (hon kd w (ln i)) (nd (ln i) * un how) (thS (hon kd w) nd lw how (pot * un how) ln i) (dv lw i) = tkS (hon kd w) nd lw how (pot * un how) ln i from rfl]
        refine V_al i_X11_goes_80 rfl ?_
        refine V_getR i_X11_goes_81 rfl rfl ?_
        refine V_il i_X11_goes_84 rfl ?_
        refine V_al i_X11_goes_86 rfl ?_
        refine V_getJ i_X11_goes_87 rfl ?_
        refine K_last (ln i) i_X11_goes_90 rfl rfl hl7 (by omega) ?_
        refine V_al i_X11_goes_91 rfl ?_
        refine V_getR i_X11_goes_92 rfl rfl ?_
        refine V_il i_X11_goes_95 rfl ?_
        refine V_al i_X11_goes_97 rfl ?_
        refine V_getJ i_X11_goes_98 rfl ?_
        refine K_last (ln i) i_X11_goes_101 rfl rfl hl7 (by omega) ?_
        refine V_al i_X11_goes_102 rfl ?_
        refine V_al i_X11_goes_103 rfl ?_
        refine V_getJ i_X11_goes_104 rfl ?_
        refine V_al i_X11_goes_107 rfl ?_
        refine V_getJ i_X11_goes_108 rfl ?_
        refine V_al i_X11_goes_111 rfl ?_
        refine V_getJ i_X11_goes_112 rfl ?_
        refine V_lneg i_X11_goes_115 ?_
        refine V_al i_X11_goes_116 rfl ?_
        refine V_getJ i_X11_goes_117 rfl ?_
        generalize hJ2 : uJ (uJ (loJ J1 ((tkS (hon kd w) nd lw how (pot * un how) ln i : Nat) : Int) (un how)) 158 (ln i) (loJ J1 ((tkS (hon kd w) nd lw how (pot * un how) ln i : Nat) : Int) (un how) 146 23)) 159 (ln i) (uJ (loJ J1 ((tkS (hon kd w) nd lw how (pot * un how) ln i : Nat) : Int) (un how)) 158 (ln i) (loJ J1 ((tkS (hon kd w) nd lw how (pot * un how) ln i : Nat) : Int) (un how) 146 23) 146 24) = J2
        have a1 : J2 146 28 = J1 146 28 := by rw [← hJ2]; simp [uJ, loJ]
        have a2 : J2 146 29 = J1 146 29 := by rw [← hJ2]; simp [uJ, loJ]
        have a3 : J2 146 23 = lZ (roN ((tkS (hon kd w) nd lw how (pot * un how) ln i : Nat) : Int) (un how)) := by rw [← hJ2]; simp [uJ, loJ]
        have a4 : J2 146 24 = lN (rdN ((tkS (hon kd w) nd lw how (pot * un how) ln i : Nat) : Int) (un how)) := by rw [← hJ2]; simp [uJ, loJ]
        have hsum := c_M_sum I J2 (a := J2 146 28) (b := J2 146 29) (un_pos how) (by have := un_le how; omega) (A := ((thS (hon kd w) nd lw how (pot * un how) ln i : Nat) : Int)) (C := -((tkS (hon kd w) nd lw how (pot * un how) ln i : Nat) : Int)) (by omega) (by omega) (by rw [a1, a2]; exact hG.1) (Fr.neg (a := J2 146 23) (b := J2 146 24) ⟨a3, a4⟩)
        rw [show ((thS (hon kd w) nd lw how (pot * un how) ln i : Nat) : Int) + -((tkS (hon kd w) nd lw how (pot * un how) ln i : Nat) : Int) = ((thS (hon kd w) nd lw how (pot * un how) ln (i + 1) : Nat) : Int) from by rw [← Int.sub_eq_add_neg, ← Int.natCast_sub htl]; rfl] at hsum
        refine P_callV4u i_X11_goes_120 mi_X11_sum rfl ⟨_, _, rfl⟩ (by decide) (Nat.le_of_ble_eq_true rfl) hsum ?_
        refine V_al i_X11_goes_123 rfl ?_
        refine V_al i_X11_goes_124 rfl ?_
        refine V_getJ i_X11_goes_125 rfl ?_
        refine V_putJ i_X11_goes_128 rfl ?_
        refine V_al i_X11_goes_131 rfl ?_
        refine V_al i_X11_goes_132 rfl ?_
        refine V_getJ i_X11_goes_133 rfl ?_
        refine V_putJ i_X11_goes_136 rfl ?_
        refine V_iinc (L' := [(0, _), (1, _), (3, _), (4, _), (5, _)]) (n' := 1) i_X11_goes_139 (by decide) rfl (by decide) ⟨rfl, rfl, rfl, rfl, rfl, trivial⟩ ?_
        refine V_goto i_X11_goes_142 ?_
        refine V_L (L' := [(0, _), (1, _), (3, _), (4, _), (5, _)]) ⟨rfl, rfl, rfl, rfl, rfl, trivial⟩ ?_
        rw [show nI i + 1 = nI (i + 1) from nI_1 i]
        refine ih _ ⟨?_, fun j hj => ?_, fun x k h1 h2 h3 => ?_⟩
        · exact ⟨by simp [uJ, loJ], by simp [uJ, loJ]⟩
        · rcases Nat.lt_or_ge j i with h | h
          · have hne : ln j ≠ ln i := fun q => by have := hinj j i (by omega) hi q; omega
            have g := hG.2.1 j h
            refine ⟨?_, ?_⟩
            · rw [← hJ2]; simp [uJ, loJ, hne]; exact g.1
            · rw [← hJ2]; simp [uJ, loJ, hne]; exact g.2
          · obtain rfl : j = i := by omega
            refine ⟨?_, ?_⟩
            · rw [← hJ2]; simp [uJ, loJ]
            · rw [← hJ2]; simp [uJ, loJ]
        · rw [← hG.2.2 x k h1 h2 h3, ← hJ2]
          unfold loJ uJ
          repeat rw [if_neg (by omega)]
      · rw [bit_shr hw hl7] at c42
        refine V_c i_X11_goes_45 ?_
        refine V_goto i_X11_goes_46 ?_
        rw [show (0 : Int32) = nI (hon kd w (ln i)) from by unfold hon; rw [if_pos (by simpa using c42)]; rfl]
        refine V_al i_X11_goes_56 rfl ?_
        refine V_getR i_X11_goes_57 rfl rfl ?_
        refine V_il i_X11_goes_60 rfl ?_
        refine K_iald (ln i) i_X11_goes_62 rfl rfl hl7 (by omega) ?_
        rw [hM.2.2 _ hl]
        refine V_al i_X11_goes_63 rfl ?_
        refine V_getJ i_X11_goes_64 rfl ?_
        refine V_al i_X11_goes_67 rfl ?_
        refine V_getJ i_X11_goes_68 rfl ?_
        refine V_il i_X11_goes_71 rfl ?_
        refine V_il i_X11_goes_72 rfl ?_
        refine P_callS2v i_X11_goes_74 ms_X11_parts (by decide) (Nat.le_of_ble_eq_true rfl) (c_M_parts I J1 hlw (by omega)) ?_
        refine P_callV6u i_X11_goes_77 mi_X11_takes rfl ⟨_, _, rfl⟩ (by decide) (Nat.le_of_ble_eq_true rfl) (c_M_takes I J1 hh hkd9 hth (hnd _ hl) (dv_cases lw i) h24 hG.1) ?_
        rw [show tk (hon kd w (ln i)) (nd (ln i) * un how) (thS (hon kd w) nd lw how (pot * un how) ln i) (dv lw i) = tkS (hon kd w) nd lw how (pot * un how) ln i from rfl]
        refine V_al i_X11_goes_80 rfl ?_
        refine V_getR i_X11_goes_81 rfl rfl ?_
        refine V_il i_X11_goes_84 rfl ?_
        refine V_al i_X11_goes_86 rfl ?_
        refine V_getJ i_X11_goes_87 rfl ?_
        refine K_last (ln i) i_X11_goes_90 rfl rfl hl7 (by omega) ?_
        refine V_al i_X11_goes_91 rfl ?_
        refine V_getR i_X11_goes_92 rfl rfl ?_
        refine V_il i_X11_goes_95 rfl ?_
        refine V_al i_X11_goes_97 rfl ?_
        refine V_getJ i_X11_goes_98 rfl ?_
        refine K_last (ln i) i_X11_goes_101 rfl rfl hl7 (by omega) ?_
        refine V_al i_X11_goes_102 rfl ?_
        refine V_al i_X11_goes_103 rfl ?_
        refine V_getJ i_X11_goes_104 rfl ?_
        refine V_al i_X11_goes_107 rfl ?_
        refine V_getJ i_X11_goes_108 rfl ?_
        refine V_al i_X11_goes_111 rfl ?_
        refine V_getJ i_X11_goes_112 rfl ?_
        refine V_lneg i_X11_goes_115 ?_
        refine V_al i_X11_goes_116 rfl ?_
        refine V_getJ i_X11_goes_117 rfl ?_
        generalize hJ2 : uJ (uJ (loJ J1 ((tkS (hon kd w) nd lw how (pot * un how) ln i : Nat) : Int) (un how)) 158 (ln i) (loJ J1 ((tkS (hon kd w) nd lw how (pot * un how) ln i : Nat) : Int) (un how) 146 23)) 159 (ln i) (uJ (loJ J1 ((tkS (hon kd w) nd lw how (pot * un how) ln i : Nat) : Int) (un how)) 158 (ln i) (loJ J1 ((tkS (hon kd w) nd lw how (pot * un how) ln i : Nat) : Int) (un how) 146 23) 146 24) = J2
        have a1 : J2 146 28 = J1 146 28 := by rw [← hJ2]; simp [uJ, loJ]
        have a2 : J2 146 29 = J1 146 29 := by rw [← hJ2]; simp [uJ, loJ]
        have a3 : J2 146 23 = lZ (roN ((tkS (hon kd w) nd lw how (pot * un how) ln i : Nat) : Int) (un how)) := by rw [← hJ2]; simp [uJ, loJ]
        have a4 : J2 146 24 = lN (rdN ((tkS (hon kd w) nd lw how (pot * un how) ln i : Nat) : Int) (un how)) := by rw [← hJ2]; simp [uJ, loJ]
        have hsum := c_M_sum I J2 (a := J2 146 28) (b := J2 146 29) (un_pos how) (by have := un_le how; omega) (A := ((thS (hon kd w) nd lw how (pot * un how) ln i : Nat) : Int)) (C := -((tkS (hon kd w) nd lw how (pot * un how) ln i : Nat) : Int)) (by omega) (by omega) (by rw [a1, a2]; exact hG.1) (Fr.neg (a := J2 146 23) (b := J2 146 24) ⟨a3, a4⟩)
        rw [show ((thS (hon kd w) nd lw how (pot * un how) ln i : Nat) : Int) + -((tkS (hon kd w) nd lw how (pot * un how) ln i : Nat) : Int) = ((thS (hon kd w) nd lw how (pot * un how) ln (i + 1) : Nat) : Int) from by rw [← Int.sub_eq_add_neg, ← Int.natCast_sub htl]; rfl] at hsum
        refine P_callV4u i_X11_goes_120 mi_X11_sum rfl ⟨_, _, rfl⟩ (by decide) (Nat.le_of_ble_eq_true rfl) hsum ?_
        refine V_al i_X11_goes_123 rfl ?_
        refine V_al i_X11_goes_124 rfl ?_
        refine V_getJ i_X11_goes_125 rfl ?_
        refine V_putJ i_X11_goes_128 rfl ?_
        refine V_al i_X11_goes_131 rfl ?_
        refine V_al i_X11_goes_132 rfl ?_
        refine V_getJ i_X11_goes_133 rfl ?_
        refine V_putJ i_X11_goes_136 rfl ?_
        refine V_iinc (L' := [(0, _), (1, _), (3, _), (4, _), (5, _)]) (n' := 1) i_X11_goes_139 (by decide) rfl (by decide) ⟨rfl, rfl, rfl, rfl, rfl, trivial⟩ ?_
        refine V_goto i_X11_goes_142 ?_
        refine V_L (L' := [(0, _), (1, _), (3, _), (4, _), (5, _)]) ⟨rfl, rfl, rfl, rfl, rfl, trivial⟩ ?_
        rw [show nI i + 1 = nI (i + 1) from nI_1 i]
        refine ih _ ⟨?_, fun j hj => ?_, fun x k h1 h2 h3 => ?_⟩
        · exact ⟨by simp [uJ, loJ], by simp [uJ, loJ]⟩
        · rcases Nat.lt_or_ge j i with h | h
          · have hne : ln j ≠ ln i := fun q => by have := hinj j i (by omega) hi q; omega
            have g := hG.2.1 j h
            refine ⟨?_, ?_⟩
            · rw [← hJ2]; simp [uJ, loJ, hne]; exact g.1
            · rw [← hJ2]; simp [uJ, loJ, hne]; exact g.2
          · obtain rfl : j = i := by omega
            refine ⟨?_, ?_⟩
            · rw [← hJ2]; simp [uJ, loJ]
            · rw [← hJ2]; simp [uJ, loJ]
        · rw [← hG.2.2 x k h1 h2 h3, ← hJ2]
          unfold loJ uJ
          repeat rw [if_neg (by omega)]
  refine key 0 (Nat.zero_le _) J ⟨h0, fun i hi => by omega, fun _ _ _ _ _ => rfl⟩
set_option maxRecDepth 100000 in
set_option maxHeartbeats 4000000 in
theorem c_M_goes (I : IntM) (J : LngM) {n lw how pot w : Nat} {kd nd ln : Nat → Nat} (hn : n ≤ 7) (hh : how ≤ 1) (hlw : lw ≤ 3) (hp : pot ≤ 999) (hw : w < 128) (hM : MCo I n kd nd) (hkd : ∀ k, k < n → kd k ≤ 5) (hnd : ∀ k, k < n → nd k ≤ 99) (hS : AtI I 157 n ln) (hln : ∀ i, i < n → ln i < n) (hinj : ∀ i j, i < n → j < n → ln i = ln j → i = j) : CtP 6 m_X11_goes [.ref 146, .int (nI how), .int (nI pot), .int (nI lw), .int (nI w)] I J (fun r I1 J1 => r = none ∧ I1 = I ∧ GoesQ J n (hon kd w) nd lw how (pot * un how) ln n J1) := by
  refine CtP_of (by decide) rfl (Nat.le_of_ble_eq_true rfl) ?_
  refine V_al i_X11_goes_0 rfl ?_
  refine V_il i_X11_goes_1 rfl ?_
  refine V_i2l i_X11_goes_2 ?_
  rw [nI_long (by omega)]
  refine V_putJ i_X11_goes_3 rfl ?_
  refine V_al i_X11_goes_6 rfl ?_
  refine V_cl i_X11_goes_7 ?_
  refine V_putJ i_X11_goes_8 rfl ?_
  refine V_c i_X11_goes_11 ?_
  refine V_is (L' := [(0, _), (1, _), (3, _), (4, _), (5, _)]) i_X11_goes_12 (by decide) ⟨rfl, rfl, rfl, rfl, rfl, trivial⟩ ?_
  refine V_L (L' := [(0, _), (1, _), (3, _), (4, _), (5, _)]) ⟨rfl, rfl, rfl, rfl, rfl, trivial⟩ ?_
  refine lp_M_goes I (uJ (uJ J 146 28 (lN pot)) 146 29 1) hn hh hlw hp hw hM hkd hnd hS hln hinj _ ?_ (fun J1 hG => ⟨rfl, rfl, hG.1, hG.2.1, fun x k h1 h2 h3 => ?_⟩)
  · have h := Fr.of_pot how pot
    exact ⟨by rw [uJ_ne _ _ (by decide), uJ_eq]; exact h.1, by rw [uJ_eq]; exact h.2⟩
  · rw [hG.2.2 x k h1 h2 h3, uJ_ne _ _ (fun q => by cases q; omega), uJ_ne _ _ (fun q => by cases q; omega)]
