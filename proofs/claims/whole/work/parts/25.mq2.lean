
/-! ===== the reference: denominators, comparisons, loops ===== -/
def CD (lw : Nat) : Nat → Nat := fun i => match i with
  | 0 => 1
  | i + 1 => CD lw i * (2 * dv lw i)
theorem CD_le (lw : Nat) : ∀ i, CD lw i ≤ 8 ^ i
  | 0 => Nat.le_refl _
  | i + 1 => by
    have h := CD_le lw i
    have hd : 2 * dv lw i ≤ 8 := by rcases dv_cases lw i with h | h | h <;> omega
    rw [Nat.pow_succ]
    exact Nat.mul_le_mul h hd
theorem CD_pos (lw : Nat) : ∀ i, 0 < CD lw i
  | 0 => Nat.zero_lt_one
  | i + 1 => by
    have h := CD_pos lw i
    have hd : 0 < 2 * dv lw i := by rcases dv_cases lw i with h | h | h <;> omega
    exact Nat.mul_pos h hd
theorem den_m {u g C d t : Nat} (m : Nat) (hm : t * (2 * d) = g * m) (h : u ∣ g * C) : u ∣ t * (C * (2 * d)) := by
  have e : t * (C * (2 * d)) = g * C * m := by rw [Nat.mul_left_comm, hm, Nat.mul_left_comm, Nat.mul_assoc]
  rw [e]
  exact Nat.dvd_trans h (Nat.dvd_mul_right _ _)
theorem den_n {u N C : Nat} (h : u ∣ N) : u ∣ N * C := Nat.dvd_trans h (Nat.dvd_mul_right _ _)
theorem tk_den {kd N g d u C : Nat} (hd : d = 2 ∨ d = 3 ∨ d = 4) (h24 : ∃ k, g = 24 * k) (h : u ∣ g * C) (hN : u ∣ N) : u ∣ tk kd N g d * (C * (2 * d)) := by
  obtain ⟨q, rfl⟩ := h24
  unfold tk may
  rcases hd with rfl | rfl | rfl
  · repeat' split
    · exact den_m 1 (by omega) h
    · exact den_m 3 (by omega) h
    · rcases Nat.le_total (24 * q * (2 - 1) / 2) N with hx | hx
      · rw [Nat.min_eq_left hx]; exact den_m 2 (by omega) h
      · rw [Nat.min_eq_right hx]; exact den_n hN
    · exact den_m 4 (by omega) h
    · rcases Nat.le_total (24 * q * (2 - 1) / 2 / 2) N with hx | hx
      · rw [Nat.min_eq_left hx]; exact den_m 1 (by omega) h
      · rw [Nat.min_eq_right hx]; exact den_n hN
    · exact den_m 2 (by omega) h
  · repeat' split
    · exact den_m 2 (by omega) h
    · exact den_m 5 (by omega) h
    · rcases Nat.le_total (24 * q * (3 - 1) / 3) N with hx | hx
      · rw [Nat.min_eq_left hx]; exact den_m 4 (by omega) h
      · rw [Nat.min_eq_right hx]; exact den_n hN
    · exact den_m 6 (by omega) h
    · rcases Nat.le_total (24 * q * (3 - 1) / 3 / 2) N with hx | hx
      · rw [Nat.min_eq_left hx]; exact den_m 2 (by omega) h
      · rw [Nat.min_eq_right hx]; exact den_n hN
    · exact den_m 4 (by omega) h
  · repeat' split
    · exact den_m 3 (by omega) h
    · exact den_m 7 (by omega) h
    · rcases Nat.le_total (24 * q * (4 - 1) / 4) N with hx | hx
      · rw [Nat.min_eq_left hx]; exact den_m 6 (by omega) h
      · rw [Nat.min_eq_right hx]; exact den_n hN
    · exact den_m 8 (by omega) h
    · rcases Nat.le_total (24 * q * (4 - 1) / 4 / 2) N with hx | hx
      · rw [Nat.min_eq_left hx]; exact den_m 3 (by omega) h
      · rw [Nat.min_eq_right hx]; exact den_n hN
    · exact den_m 6 (by omega) h
theorem th_den (kd nd : Nat → Nat) (lw pot : Nat) (ln : Nat → Nat) : ∀ i, i < 7 → un 0 ∣ thS kd nd lw 0 (pot * un 0) ln i * CD lw i ∧ un 0 ∣ tkS kd nd lw 0 (pot * un 0) ln i * CD lw (i + 1)
  | 0, _ => by
    have h0 : un 0 ∣ thS kd nd lw 0 (pot * un 0) ln 0 * CD lw 0 := ⟨pot, by show pot * un 0 * 1 = un 0 * pot; rw [Nat.mul_one, Nat.mul_comm]⟩
    exact ⟨h0, tk_den (dv_cases lw 0) (step24 (i := 0) (kd := 0) (nd := 0) (by omega) (thS24 kd nd lw pot ln 0 (by omega)) (dv_cases lw 0)).1 h0 ⟨nd (ln 0), Nat.mul_comm _ _⟩⟩
  | i + 1, hi => by
    have ih := th_den kd nd lw pot ln i (by omega)
    have h0 : un 0 ∣ thS kd nd lw 0 (pot * un 0) ln (i + 1) * CD lw (i + 1) := by
      show un 0 ∣ (thS kd nd lw 0 (pot * un 0) ln i - tkS kd nd lw 0 (pot * un 0) ln i) * (CD lw (i + 1))
      rw [Nat.sub_mul]
      refine Nat.dvd_sub ?_ ih.2
      show un 0 ∣ thS kd nd lw 0 (pot * un 0) ln i * (CD lw i * (2 * dv lw i))
      rw [← Nat.mul_assoc]
      exact Nat.dvd_trans ih.1 (Nat.dvd_mul_right _ _)
    exact ⟨h0, tk_den (dv_cases lw (i + 1)) (step24 (i := i + 1) (kd := 0) (nd := 0) hi (thS24 kd nd lw pot ln (i + 1) (by omega)) (dv_cases lw (i + 1))).1 h0 ⟨nd (ln (i + 1)), Nat.mul_comm _ _⟩⟩
theorem rd_den {A u C : Nat} (hu : 0 < u) (hC : 0 < C) (h : u ∣ A * C) : rdN (A : Int) u ≤ C := by
  unfold rdN
  rw [Int.natAbs_natCast]
  have hg : 0 < Nat.gcd A u := Nat.gcd_pos_of_pos_right _ hu
  have h1 : u / Nat.gcd A u ∣ (A / Nat.gcd A u) * C := by
    have e1 : A / Nat.gcd A u * C = A * C / Nat.gcd A u := by rw [Nat.div_mul_right_comm (Nat.gcd_dvd_left A u)]
    rw [e1]
    exact Nat.div_dvd_div (Nat.gcd_dvd_right A u) h
  have h2 : Nat.Coprime (u / Nat.gcd A u) (A / Nat.gcd A u) := by
    rw [Nat.coprime_comm]
    exact Nat.coprime_div_gcd_div_gcd hg
  exact Nat.le_of_dvd hC (h2.dvd_of_dvd_mul_left h1)
theorem rd_un1 (A : Int) : rdN A (un 1) ≤ 2 ^ 21 := Nat.le_trans (rd_le (by decide)) (by decide)
theorem tk_rd {kd nd : Nat → Nat} {lw how pot : Nat} {ln : Nat → Nat} (hh : how ≤ 1) {i : Nat} (hi : i < 7) : rdN ((tkS kd nd lw how (pot * un how) ln i : Nat) : Int) (un how) ≤ 2 ^ 21 := by
  obtain rfl | rfl : how = 0 ∨ how = 1 := by omega
  · refine Nat.le_trans (rd_den (un_pos 0) (CD_pos lw (i + 1)) (th_den kd nd lw pot ln i hi).2) ?_
    exact Nat.le_trans (CD_le lw (i + 1)) (Nat.le_trans (Nat.pow_le_pow_right (by decide) (show i + 1 ≤ 7 by omega)) (by decide))
  · exact rd_un1 _
theorem th_rd {kd nd : Nat → Nat} {lw how pot : Nat} {ln : Nat → Nat} (hh : how ≤ 1) {i : Nat} (hi : i ≤ 7) : rdN ((thS kd nd lw how (pot * un how) ln i : Nat) : Int) (un how) ≤ 2 ^ 21 := by
  obtain rfl | rfl : how = 0 ∨ how = 1 := by omega
  · cases i with
    | zero => exact Nat.le_trans (rd_den (un_pos 0) (CD_pos lw 0) (th_den kd nd lw pot ln 0 (by decide)).1) (show 1 ≤ 2 ^ 21 by decide)
    | succ i =>
      have ih := th_den kd nd lw pot ln i (by omega)
      have h0 : un 0 ∣ thS kd nd lw 0 (pot * un 0) ln (i + 1) * CD lw (i + 1) := by
        show un 0 ∣ (thS kd nd lw 0 (pot * un 0) ln i - tkS kd nd lw 0 (pot * un 0) ln i) * (CD lw (i + 1))
        rw [Nat.sub_mul]
        refine Nat.dvd_sub ?_ ih.2
        show un 0 ∣ thS kd nd lw 0 (pot * un 0) ln i * (CD lw i * (2 * dv lw i))
        rw [← Nat.mul_assoc]
        exact Nat.dvd_trans ih.1 (Nat.dvd_mul_right _ _)
      refine Nat.le_trans (rd_den (un_pos 0) (CD_pos lw (i + 1)) h0) ?_
      exact Nat.le_trans (CD_le lw (i + 1)) (Nat.le_trans (Nat.pow_le_pow_right (by decide) hi) (by decide))
  · exact rd_un1 _
/-- the upper number of at most 999 pieces -/
theorem ro_le999 {A u : Nat} (hu : 0 < u) (h : A ≤ 999 * u) : 0 ≤ roN (A : Int) u ∧ roN (A : Int) u ≤ 999 * (rdN (A : Int) u : Int) := by
  have e := ro_cross (A : Int) u
  have hu2 : (0 : Int) < (u : Int) := by omega
  constructor
  · unfold roN
    exact Int.ediv_nonneg (by omega) (by omega)
  · refine Int.le_of_mul_le_mul_right ?_ hu2
    rw [e, Int.mul_right_comm]
    exact Int.mul_le_mul_of_nonneg_right (by omega) (by omega)
theorem Fr_cmp {a b c d : Int64} {A C u : Nat} (hu : 0 < u) (h1 : Fr a b (A : Int) u) (h2 : Fr c d (C : Int) u) (hA : A ≤ 999 * u) (hC : C ≤ 999 * u) (rA : rdN (A : Int) u ≤ 2 ^ 21) (rC : rdN (C : Int) u ≤ 2 ^ 21) : a * d ≤ c * b ↔ A ≤ C := by
  obtain ⟨rfl, rfl⟩ := h1
  obtain ⟨rfl, rfl⟩ := h2
  obtain ⟨p1, p2⟩ := ro_le999 hu hA
  obtain ⟨q1, q2⟩ := ro_le999 hu hC
  have y1 := rd_pos (A := (A : Int)) hu
  have y2 := rd_pos (A := (C : Int)) hu
  have e1 := ro_cross (A : Int) u
  have e2 := ro_cross (C : Int) u
  generalize rdN (A : Int) u = Y at *
  generalize rdN (C : Int) u = W at *
  generalize roN (A : Int) u = X at *
  generalize roN (C : Int) u = Z at *
  have hu2 : (0 : Int) < (u : Int) := by omega
  have b1 : X * (W : Int) ≤ (999 * 2 ^ 21) * (2 ^ 21) := Int.mul_le_mul (by omega) (by omega) (by omega) (by omega)
  have b2 : Z * (Y : Int) ≤ (999 * 2 ^ 21) * (2 ^ 21) := Int.mul_le_mul (by omega) (by omega) (by omega) (by omega)
  have c1 : 0 ≤ X * (W : Int) := Int.mul_nonneg p1 (by omega)
  have c2 : 0 ≤ Z * (Y : Int) := Int.mul_nonneg q1 (by omega)
  rw [lZ_N, lZ_N, lZ_mul, lZ_mul, lZ_le (by omega) (by omega) (by omega) (by omega)]
  have k1 : X * (W : Int) * u = (A : Int) * ((Y : Int) * W) := by rw [Int.mul_right_comm, e1, Int.mul_assoc]
  have k2 : Z * (Y : Int) * u = (C : Int) * ((Y : Int) * W) := by rw [Int.mul_right_comm, e2, Int.mul_assoc, Int.mul_comm (W : Int) (Y : Int)]
  have hyw : (0 : Int) < (Y : Int) * W := Int.mul_pos (by omega) (by omega)
  constructor
  · intro h
    have h3 := Int.mul_le_mul_of_nonneg_right h (Int.le_of_lt hu2)
    rw [k1, k2] at h3
    have := Int.le_of_mul_le_mul_right h3 hyw
    omega
  · intro h
    refine Int.le_of_mul_le_mul_right ?_ hu2
    rw [k1, k2]
    exact Int.mul_le_mul_of_nonneg_right (by omega) (Int.le_of_lt hyw)

theorem tk999 {kd nd : Nat → Nat} {lw how pot : Nat} {ln : Nat → Nat} (hp : pot ≤ 999) (i : Nat) : tkS kd nd lw how (pot * un how) ln i ≤ 999 * un how := Nat.le_trans (tkS_le _ _ _ _ _ _ _) (Nat.le_trans (thS_le _ _ _ _ _ _ _) (Nat.mul_le_mul_right _ hp))
theorem th999 {kd nd : Nat → Nat} {lw how pot : Nat} {ln : Nat → Nat} (hp : pot ≤ 999) (i : Nat) : thS kd nd lw how (pot * un how) ln i ≤ 999 * un how := Nat.le_trans (thS_le _ _ _ _ _ _ _) (Nat.mul_le_mul_right _ hp)
/-- the best so far, as the reference holds it -/
def BF (f : Nat → Nat) (b u i : Nat) (z : Int64) (x y : Int64) : Prop := (i = 0 ∧ x = z ∧ y = 1) ∨ (0 < i ∧ Fr x y ((f b : Nat) : Int) u)
theorem Fr_m1 {a b : Int64} {A u : Nat} (hu : 0 < u) (hu2 : u < 2 ^ 62) (h : Fr a b (A : Int) u) (hA : A < 2 ^ 62) : ¬ a * 1 ≤ -1 * b := by
  obtain ⟨rfl, rfl⟩ := h
  have h1 : 0 ≤ roN (A : Int) u := by unfold roN; exact Int.ediv_nonneg (by omega) (by omega)
  have h2 := ro_abs (A := (A : Int)) hu
  rw [Int.natAbs_natCast] at h2
  have h3 := rd_pos (A := (A : Int)) hu
  have h4 := rd_le (A := (A : Int)) hu
  rw [lZ_N, show (-1 : Int64) = lZ (-1) from rfl, show (1 : Int64) = lZ 1 from rfl, lZ_mul, lZ_mul, lZ_le (by omega) (by omega) (by omega) (by omega)]
  omega
theorem BF_T {f : Nat → Nat} {u i : Nat} {x y a b : Int64} (hu : 0 < u) (hu2 : u < 2 ^ 50) (hf : ∀ j, f j ≤ 999 * u ∧ rdN ((f j : Nat) : Int) u ≤ 2 ^ 21) (hB : BF f (bw f i) u i (-1) x y) (hF : Fr a b ((f i : Nat) : Int) u) (h : a * y ≤ x * b) : bw f (i + 1) = bw f i ∧ 0 < i := by
  rcases hB with ⟨rfl, rfl, rfl⟩ | ⟨h0, h1⟩
  · exact absurd h (Fr_m1 hu (by omega) hF (by have := (hf 0).1; omega))
  · have := (Fr_cmp hu hF h1 (hf _).1 (hf _).1 (hf _).2 (hf _).2).mp h
    exact ⟨bwL_f (by show ¬ f (bw f i) < f i; omega), h0⟩
theorem BF_F {f : Nat → Nat} {u i : Nat} {x y a b : Int64} (hu : 0 < u) (hf : ∀ j, f j ≤ 999 * u ∧ rdN ((f j : Nat) : Int) u ≤ 2 ^ 21) (hB : BF f (bw f i) u i (-1) x y) (hF : Fr a b ((f i : Nat) : Int) u) (h : ¬ a * y ≤ x * b) : bw f (i + 1) = i := by
  rcases hB with ⟨rfl, rfl, rfl⟩ | ⟨h0, h1⟩
  · exact bwL_1 _
  · have : ¬ f i ≤ f (bw f i) := fun q => h ((Fr_cmp hu hF h1 (hf _).1 (hf _).1 (hf _).2 (hf _).2).mpr q)
    exact bwL_t (by show f (bw f i) < f i; omega)

set_option maxRecDepth 100000 in
set_option maxHeartbeats 4000000 in
theorem m_favours0 (I : IntM) (J : LngM) {n : Nat} {kd nd od : Nat → Nat} {lw pot : Nat} (hK : MK I n kd nd od lw pot) {x y : Int32} (h : hasC n x = 0 ∨ howv y = 0) : CtP 7 m_X11_favours [.ref 146, .int x, .int y] I J (QM I J (.int (-1)) none none none) := by
  refine CtP_of (by decide) rfl (Nat.le_of_ble_eq_true rfl) ?_
  refine V_al i_X11_favours_0 rfl ?_
  refine V_il i_X11_favours_1 rfl ?_
  refine P_callV1v i_X11_favours_2 mi_X11_isEater rfl ⟨_, _, rfl⟩ (by decide) (Nat.le_of_ble_eq_true rfl) (c_M_isEater _ _ hK.n7 hK.sz _) ?_
  refine V_if_eq i_X11_favours_5 (fun c5 => ?_) (fun c5 => ?_)
  · refine V_c i_X11_favours_15 ?_
    exact P_iret i_X11_favours_16 rfl ⟨rfl, I, J, FrM.rf, rfl, rfl⟩
  · refine V_il i_X11_favours_8 rfl ?_
    refine P_callS1v i_X11_favours_9 ms_X11_isHow (by decide) (Nat.le_of_ble_eq_true rfl) (c_M_isHow _ _ _) ?_
    refine V_if_ne_f i_X11_favours_12 (by rcases h with h | h; exact absurd h c5; exact h) ?_
    refine V_c i_X11_favours_15 ?_
    exact P_iret i_X11_favours_16 rfl ⟨rfl, I, J, FrM.rf, rfl, rfl⟩
set_option maxRecDepth 100000 in
set_option maxHeartbeats 4000000 in
theorem lp_M_favours (I : IntM) (J : LngM) {n : Nat} {kd nd od : Nat → Nat} {lw pot : Nat} (hK : MK I n kd nd od lw pot) {k how : Nat} (hh : how ≤ 1) (hk : k < n) {f : Nat → Nat} (hf : f = mvT kd nd lw how (pot * un how) od n k) (Q : Option Value → IntM → LngM → Prop) (hq : ∀ I1 J1 x y, FrM I J I1 J1 → BF f (bw f n) (un how) n (-1) x y → VP m_X11_favours 7 107 [(0, .ref 146), (3, .int (nI (bw f n))), (4, .long x), (6, .long y)] [] I1 J1 Q) : VP m_X11_favours 7 30 [(0, .ref 146), (1, .int (nI k)), (2, .int (nI how)), (3, .int 0), (4, .long (-1)), (6, .long 1), (8, .int 0)] [] I J Q := by
  have hfb : ∀ j, f j ≤ 999 * un how ∧ rdN ((f j : Nat) : Int) (un how) ≤ 2 ^ 21 := fun j => by
    rw [hf]
    exact ⟨tk999 hK.p9 _, tk_rd hh (by have h1 := hK.n7; have h2 := plN_lt (od := mvS od (plN od k n) k j) (k := k) (n := n) (by omega); omega)⟩
  have key : ∀ i, i ≤ n → ∀ I1 J1 x y, FrM I J I1 J1 → BF f (bw f i) (un how) i (-1) x y → VP m_X11_favours 7 30 [(0, .ref 146), (1, .int (nI k)), (2, .int (nI how)), (3, .int (nI (bw f i))), (4, .long x), (6, .long y), (8, .int (nI i))] [] I1 J1 Q := by
    refine down n ?_ (fun i hi ih => ?_)
    · intro I1 J1 x y f1 hB
      have k1 := FrM.K f1 hK
      refine V_il i_X11_favours_30 rfl ?_
      refine V_al i_X11_favours_32 rfl ?_
      refine V_getI i_X11_favours_33 rfl ?_
      refine V_ic_ge_t i_X11_favours_36 (by rw [k1.sz]; exact Int32.le_refl _) ?_
      exact V_L (L' := [(0, _), (3, _), (4, _), (6, _)]) ⟨rfl, rfl, rfl, rfl, trivial⟩ (hq I1 J1 x y f1 hB)
    · intro I1 J1 x y f1 hB
      have k1 := FrM.K f1 hK
      refine V_il i_X11_favours_30 rfl ?_
      refine V_al i_X11_favours_32 rfl ?_
      refine V_getI i_X11_favours_33 rfl ?_
      refine V_ic_ge_f i_X11_favours_36 (by rw [k1.sz]; exact nI_ge hi (by have := hK.n7; omega)) ?_
      refine V_al i_X11_favours_39 rfl ?_
      refine V_il i_X11_favours_40 rfl ?_
      refine V_il i_X11_favours_41 rfl ?_
      refine P_callV2 i_X11_favours_43 mi_X11_seatsWith rfl ⟨_, _, rfl⟩ (by decide) (Nat.le_of_ble_eq_true rfl) (m_with I1 J1 k1 hk hi) (fun r I2 Jx q => ?_)
      obtain ⟨rfl, f2, a2, rfl⟩ := q
      have k2 := FrM.K f2 k1
      refine V_al i_X11_favours_46 rfl ?_
      refine V_il i_X11_favours_47 rfl ?_
      refine V_al i_X11_favours_48 rfl ?_
      refine V_getI i_X11_favours_49 rfl ?_
      rw [k2.pt]
      refine V_al i_X11_favours_52 rfl ?_
      refine V_getI i_X11_favours_53 rfl ?_
      rw [k2.lw]
      refine V_c i_X11_favours_56 ?_
      refine P_callV4 i_X11_favours_57 mi_X11_goes rfl ⟨_, _, rfl⟩ (by decide) (Nat.le_of_ble_eq_true rfl) (m_goes0 I2 J1 k2 hh k2.l3 k2.p9 a2 (Pm_mv hK.P (Pm_place hK.P hk).1 (Pm_place hK.P hk).2 hi)) (fun r Ix J2 q => ?_)
      obtain ⟨rfl, rfl, j2, g2⟩ := q
      have e2 : Fr (J2 158 k) (J2 159 k) ((f i : Nat) : Int) (un how) := by rw [hf]; exact g2.2 k hk
      refine V_al i_X11_favours_60 rfl ?_
      refine V_getR i_X11_favours_61 rfl rfl ?_
      refine V_il i_X11_favours_64 rfl ?_
      refine K_lald k i_X11_favours_65 rfl rfl (by have := hK.n7; omega) (by omega) ?_
      refine V_ll i_X11_favours_66 rfl ?_
      refine V_lmul i_X11_favours_68 ?_
      refine V_ll i_X11_favours_69 rfl ?_
      refine V_al i_X11_favours_71 rfl ?_
      refine V_getR i_X11_favours_72 rfl rfl ?_
      refine V_il i_X11_favours_75 rfl ?_
      refine K_lald k i_X11_favours_76 rfl rfl (by have := hK.n7; omega) (by omega) ?_
      refine V_lmul i_X11_favours_77 ?_
      refine V_lcmp i_X11_favours_78 ?_
      refine V_if_le i_X11_favours_79 (fun c79 => ?_) (fun c79 => ?_)
      · have c9 := BF_T (un_pos how) (Nat.lt_of_le_of_lt (un_le how) (by decide)) hfb hB e2 (lgc_le.mp c79)
        refine V_iinc (L' := [(0, _), (1, _), (2, _), (3, _), (4, _), (6, _), (8, _)]) (n' := 1) i_X11_favours_101 (by decide) rfl (by decide) ⟨rfl, rfl, rfl, rfl, rfl, rfl, rfl, trivial⟩ ?_
        refine V_goto i_X11_favours_104 ?_
        refine V_L (L' := [(0, _), (1, _), (2, _), (3, _), (4, _), (6, _), (8, _)]) ⟨rfl, rfl, rfl, rfl, rfl, rfl, rfl, trivial⟩ ?_
        rw [show nI i + 1 = nI (i + 1) from nI_1 i]
        have ih2 := ih I2 J2 x y (FrM.tr f1 (FrM.tr f2 (FrJ.M _ j2))) (by rw [c9.1]; rcases hB with q | q; exact absurd q.1 (by omega); exact Or.inr ⟨by omega, q.2⟩)
        rw [c9.1] at ih2
        exact ih2
      · have c9 := BF_F (un_pos how) hfb hB e2 (fun q => c79 (lgc_le.mpr q))
        refine V_il i_X11_favours_82 rfl ?_
        refine V_is (L' := [(0, _), (1, _), (2, _), (3, _), (8, _)]) i_X11_favours_84 (by decide) ⟨rfl, rfl, rfl, rfl, rfl, trivial⟩ ?_
        refine V_al i_X11_favours_85 rfl ?_
        refine V_getR i_X11_favours_86 rfl rfl ?_
        refine V_il i_X11_favours_89 rfl ?_
        refine K_lald k i_X11_favours_90 rfl rfl (by have := hK.n7; omega) (by omega) ?_
        refine V_ls (L' := [(0, _), (1, _), (2, _), (3, _), (4, _), (8, _)]) i_X11_favours_91 (by decide) ⟨rfl, rfl, rfl, rfl, rfl, rfl, trivial⟩ ?_
        refine V_al i_X11_favours_93 rfl ?_
        refine V_getR i_X11_favours_94 rfl rfl ?_
        refine V_il i_X11_favours_97 rfl ?_
        refine K_lald k i_X11_favours_98 rfl rfl (by have := hK.n7; omega) (by omega) ?_
        refine V_ls (L' := [(0, _), (1, _), (2, _), (3, _), (4, _), (6, _), (8, _)]) i_X11_favours_99 (by decide) ⟨rfl, rfl, rfl, rfl, rfl, rfl, rfl, trivial⟩ ?_
        refine V_iinc (L' := [(0, _), (1, _), (2, _), (3, _), (4, _), (6, _), (8, _)]) (n' := 1) i_X11_favours_101 (by decide) rfl (by decide) ⟨rfl, rfl, rfl, rfl, rfl, rfl, rfl, trivial⟩ ?_
        refine V_goto i_X11_favours_104 ?_
        refine V_L (L' := [(0, _), (1, _), (2, _), (3, _), (4, _), (6, _), (8, _)]) ⟨rfl, rfl, rfl, rfl, rfl, rfl, rfl, trivial⟩ ?_
        rw [show nI i + 1 = nI (i + 1) from nI_1 i]
        have ih2 := ih I2 J2 (J2 158 k) (J2 159 k) (FrM.tr f1 (FrM.tr f2 (FrJ.M _ j2))) (by rw [c9]; exact Or.inr ⟨by omega, e2⟩)
        rw [c9] at ih2
        exact ih2
  exact key 0 (Nat.zero_le _) I J (-1) 1 FrM.rf (Or.inl ⟨rfl, rfl, rfl⟩)
set_option maxRecDepth 100000 in
set_option maxHeartbeats 4000000 in
theorem m_favours (I : IntM) (J : LngM) {n : Nat} {kd nd od : Nat → Nat} {lw pot : Nat} (hK : MK I n kd nd od lw pot) {k how : Nat} (hh : how ≤ 1) (hk : k < n) : CtP 7 m_X11_favours [.ref 146, .int (nI k), .int (nI how)] I J (QM I J (.int (nI (bw (mvT kd nd lw how (pot * un how) od n k) n))) none (some (((mvT kd nd lw how (pot * un how) od n k (bw (mvT kd nd lw how (pot * un how) od n k) n) : Nat) : Int), un how)) none) := by
  refine CtP_of (by decide) rfl (Nat.le_of_ble_eq_true rfl) ?_
  refine V_al i_X11_favours_0 rfl ?_
  refine V_il i_X11_favours_1 rfl ?_
  refine P_callV1v i_X11_favours_2 mi_X11_isEater rfl ⟨_, _, rfl⟩ (by decide) (Nat.le_of_ble_eq_true rfl) (c_M_isEater _ _ hK.n7 hK.sz _) ?_
  refine V_if_eq_f i_X11_favours_5 (by rw [hasC_nI hK.n7 hk]; decide) ?_
  refine V_il i_X11_favours_8 rfl ?_
  refine P_callS1v i_X11_favours_9 ms_X11_isHow (by decide) (Nat.le_of_ble_eq_true rfl) (c_M_isHow _ _ _) ?_
  refine V_if_ne_t i_X11_favours_12 (by rw [howv_nI hh]; decide) ?_
  refine V_c i_X11_favours_17 ?_
  refine V_is (L' := [(0, _), (1, _), (2, _), (3, _)]) i_X11_favours_18 (by decide) ⟨rfl, rfl, rfl, rfl, trivial⟩ ?_
  refine V_cl i_X11_favours_19 ?_
  refine V_ls (L' := [(0, _), (1, _), (2, _), (3, _), (4, _)]) i_X11_favours_22 (by decide) ⟨rfl, rfl, rfl, rfl, rfl, trivial⟩ ?_
  refine V_cl i_X11_favours_24 ?_
  refine V_ls (L' := [(0, _), (1, _), (2, _), (3, _), (4, _), (6, _)]) i_X11_favours_25 (by decide) ⟨rfl, rfl, rfl, rfl, rfl, rfl, trivial⟩ ?_
  refine V_c i_X11_favours_27 ?_
  refine V_is (L' := [(0, _), (1, _), (2, _), (3, _), (4, _), (6, _), (8, _)]) i_X11_favours_28 (by decide) ⟨rfl, rfl, rfl, rfl, rfl, rfl, rfl, trivial⟩ ?_
  refine V_L (L' := [(0, _), (1, _), (2, _), (3, _), (4, _), (6, _), (8, _)]) ⟨rfl, rfl, rfl, rfl, rfl, rfl, rfl, trivial⟩ ?_
  refine lp_M_favours I J hK hh hk rfl _ (fun I1 J1 x y f1 hB => ?_)
  have hB2 : Fr x y ((mvT kd nd lw how (pot * un how) od n k (bw (mvT kd nd lw how (pot * un how) od n k) n) : Nat) : Int) (un how) := by
    rcases hB with q | q
    · exact absurd q.1 (by omega)
    · exact q.2
  refine V_al i_X11_favours_107 rfl ?_
  refine V_il i_X11_favours_108 rfl ?_
  refine V_ll i_X11_favours_109 rfl ?_
  refine V_ll i_X11_favours_111 rfl ?_
  refine P_callV3v i_X11_favours_113 mi_X11_tells rfl ⟨_, _, rfl⟩ (by decide) (Nat.le_of_ble_eq_true rfl) (m_tells I1 J1 (un_pos how) (un_62 how) (abs62 (tkB hK.p9 _)) hB2) ?_
  exact P_iret i_X11_favours_116 rfl ⟨rfl, I1, _, FrM.tr f1 (FrJ.M _ (FrJ.lo _ _ _)), rfl, rfl⟩
theorem in_yes {d lo hi : Nat} (h1 : lo ≤ d) (h2 : d ≤ hi) (h3 : hi < 2 ^ 31) : inL (nI d).toInt64 (lN lo) (lN hi) = 1 := by
  unfold inL
  rw [nI_long (by omega), if_neg (by rw [pk_lLT (by omega) (by omega)]; omega), if_neg (by rw [pk_lLT (by omega) (by omega)]; omega)]
theorem in_no {y : Int32} (q : y < 1 ∨ 7 < y) : inL y.toInt64 1 7 = 0 := by
  unfold inL
  rcases q with q | q
  · rw [if_pos (by rw [Int64.lt_iff_toInt_lt, Int32.toInt_toInt64]; exact Int32.lt_iff_toInt_lt.mp q)]
  · by_cases h : y.toInt64 < 1
    · rw [if_pos h]
    · rw [if_neg h, if_pos (by rw [Int64.lt_iff_toInt_lt, Int32.toInt_toInt64]; exact Int32.lt_iff_toInt_lt.mp q)]
set_option maxRecDepth 100000 in
set_option maxHeartbeats 4000000 in
theorem m_week0 (I : IntM) (J : LngM) {n : Nat} {kd nd od : Nat → Nat} {lw pot : Nat} (hK : MK I n kd nd od lw pot) {x y z : Int32} (h : hasC n x = 0 ∨ y < 1 ∨ 7 < y ∨ howv z = 0) : CtP 7 m_X11_week [.ref 146, .int x, .int y, .int z] I J (QM I J (.int (-1)) none none none) := by
  refine CtP_of (by decide) rfl (Nat.le_of_ble_eq_true rfl) ?_
  refine V_al i_X11_week_0 rfl ?_
  refine V_il i_X11_week_1 rfl ?_
  refine P_callV1v i_X11_week_2 mi_X11_isEater rfl ⟨_, _, rfl⟩ (by decide) (Nat.le_of_ble_eq_true rfl) (c_M_isEater _ _ hK.n7 hK.sz _) ?_
  refine V_if_eq i_X11_week_5 (fun c5 => ?_) (fun c5 => ?_)
  · refine V_c i_X11_week_27 ?_
    exact P_iret i_X11_week_28 rfl ⟨rfl, I, J, FrM.rf, rfl, rfl⟩
  · refine V_il i_X11_week_8 rfl ?_
    refine V_i2l i_X11_week_9 ?_
    refine V_cl i_X11_week_10 ?_
    refine V_cl i_X11_week_11 ?_
    refine P_callS3v i_X11_week_14 ms_X11_in (by decide) (Nat.le_of_ble_eq_true rfl) (c_M_in _ _ _ _ _) ?_
    refine V_if_eq i_X11_week_17 (fun c17 => ?_) (fun c17 => ?_)
    · refine V_c i_X11_week_27 ?_
      exact P_iret i_X11_week_28 rfl ⟨rfl, I, J, FrM.rf, rfl, rfl⟩
    · have c17 : ¬ (y < 1 ∨ 7 < y) := fun q => c17 (in_no q)
      refine V_il i_X11_week_20 rfl ?_
      refine P_callS1v i_X11_week_21 ms_X11_isHow (by decide) (Nat.le_of_ble_eq_true rfl) (c_M_isHow _ _ _) ?_
      refine V_if_ne_f i_X11_week_24 (by rcases h with h | h | h | h; exact absurd h c5; exact absurd (Or.inl h) c17; exact absurd (Or.inr h) c17; exact h) ?_
      refine V_c i_X11_week_27 ?_
      exact P_iret i_X11_week_28 rfl ⟨rfl, I, J, FrM.rf, rfl, rfl⟩
theorem week_b60 {kd nd od : Nat → Nat} {lw how pot n k dd : Nat} (hp : pot ≤ 999) (hd : dd ≤ 7) : sumN (tuT kd nd lw how (pot * un how) od n k) dd < 2 ^ 50 := by
  have h := sumN_le (f := tuT kd nd lw how (pot * un how) od n k) (c := 2 ^ 43) (n := dd) (fun q _ => Nat.le_of_lt (tkB hp _))
  have h2 := Nat.mul_le_mul_right (2 ^ 43) hd
  omega
theorem Fr_0 {u : Nat} (hu : 0 < u) : Fr 0 1 ((0 : Nat) : Int) u := by
  have h := ro_one (x := 0) (A := ((0 : Nat) : Int)) (y := 1) (u := u) (by omega) hu (by simp)
  unfold Fr
  rw [← h.1, ← h.2, (ro_1 _).1, (ro_1 _).2]
  exact ⟨rfl, rfl⟩
set_option maxRecDepth 100000 in
set_option maxHeartbeats 4000000 in
theorem lp_M_week (I : IntM) (J : LngM) {n : Nat} {kd nd od : Nat → Nat} {lw pot : Nat} (hK : MK I n kd nd od lw pot) {k how dd : Nat} (hh : how ≤ 1) (hk : k < n) (hdd : dd ≤ 7) (Q : Option Value → IntM → LngM → Prop) (hq : ∀ I1 J1 x y, FrM I J I1 J1 → Fr x y ((sumN (tuT kd nd lw how (pot * un how) od n k) dd : Nat) : Int) (un how) → VP m_X11_week 7 107 [(0, .ref 146), (4, .long x), (6, .long y)] [] I1 J1 Q) : VP m_X11_week 7 38 [(0, .ref 146), (1, .int (nI k)), (2, .int (nI dd)), (3, .int (nI how)), (4, .long 0), (6, .long 1), (8, .int 0)] [] I J Q := by
  have key : ∀ i, i ≤ dd → ∀ I1 J1 x y, FrM I J I1 J1 → Fr x y ((sumN (tuT kd nd lw how (pot * un how) od n k) i : Nat) : Int) (un how) → VP m_X11_week 7 38 [(0, .ref 146), (1, .int (nI k)), (2, .int (nI dd)), (3, .int (nI how)), (4, .long x), (6, .long y), (8, .int (nI i))] [] I1 J1 Q := by
    refine down dd ?_ (fun i hi ih => ?_)
    · intro I1 J1 x y f1 hB
      refine V_il i_X11_week_38 rfl ?_
      refine V_il i_X11_week_40 rfl ?_
      refine V_ic_ge_t i_X11_week_41 (Int32.le_refl _) ?_
      exact V_L (L' := [(0, _), (4, _), (6, _)]) ⟨rfl, rfl, rfl, trivial⟩ (hq I1 J1 x y f1 hB)
    · intro I1 J1 x y f1 hB
      have k1 := FrM.K f1 hK
      refine V_il i_X11_week_38 rfl ?_
      refine V_il i_X11_week_40 rfl ?_
      refine V_ic_ge_f i_X11_week_41 (nI_ge hi (by omega)) ?_
      refine V_al i_X11_week_44 rfl ?_
      refine V_il i_X11_week_45 rfl ?_
      refine V_al i_X11_week_47 rfl ?_
      refine V_getI i_X11_week_48 rfl ?_
      refine V_irem i_X11_week_51 (by rw [k1.sz]; exact nI_ne0 (by omega) (by have := hK.n7; omega)) ?_
      rw [k1.sz, pk_rem (by omega) (by omega) (by have := hK.n7; omega)]
      refine P_callV1 i_X11_week_52 mi_X11_seatsTurned rfl ⟨_, _, rfl⟩ (by decide) (Nat.le_of_ble_eq_true rfl) (m_turned I1 J1 k1 (t := i % n) (by have := Nat.mod_lt i (show 0 < n by omega); have := hK.n7; omega)) (fun r I2 Jx q => ?_)
      rw [show (fun p => od ((p + i % n) % n)) = fun p => od ((p + i) % n) from funext fun p => by rw [Nat.add_mod_mod]] at q
      obtain ⟨rfl, f2, a2, rfl⟩ := q
      have k2 := FrM.K f2 k1
      refine V_al i_X11_week_55 rfl ?_
      refine V_il i_X11_week_56 rfl ?_
      refine V_al i_X11_week_57 rfl ?_
      refine V_getI i_X11_week_58 rfl ?_
      rw [k2.pt]
      refine V_al i_X11_week_61 rfl ?_
      refine V_getI i_X11_week_62 rfl ?_
      rw [k2.lw]
      refine V_c i_X11_week_65 ?_
      refine P_callV4 i_X11_week_66 mi_X11_goes rfl ⟨_, _, rfl⟩ (by decide) (Nat.le_of_ble_eq_true rfl) (m_goes0 I2 J1 k2 hh k2.l3 k2.p9 a2 (Pm_turn hK.P i)) (fun r Ix J2 q => ?_)
      obtain ⟨rfl, rfl, j2, g2⟩ := q
      have e2 : Fr (J2 158 k) (J2 159 k) ((tuT kd nd lw how (pot * un how) od n k i : Nat) : Int) (un how) := g2.2 k hk
      refine V_al i_X11_week_69 rfl ?_
      refine V_ll i_X11_week_70 rfl ?_
      refine V_ll i_X11_week_72 rfl ?_
      refine V_al i_X11_week_74 rfl ?_
      refine V_getR i_X11_week_75 rfl rfl ?_
      refine V_il i_X11_week_78 rfl ?_
      refine K_lald k i_X11_week_79 rfl rfl (by have := hK.n7; omega) (by omega) ?_
      refine V_al i_X11_week_80 rfl ?_
      refine V_getR i_X11_week_81 rfl rfl ?_
      refine V_il i_X11_week_84 rfl ?_
      refine K_lald k i_X11_week_85 rfl rfl (by have := hK.n7; omega) (by omega) ?_
      refine P_callV4u i_X11_week_86 mi_X11_sum rfl ⟨_, _, rfl⟩ (by decide) (Nat.le_of_ble_eq_true rfl) (c_M_sum I2 J2 (un_pos how) (un_33 how) (by rw [Int.natAbs_natCast]; exact Nat.lt_of_lt_of_le (week_b60 hK.p9 (show i ≤ 7 by omega)) (by decide)) (by rw [Int.natAbs_natCast]; exact Nat.lt_trans (tkB hK.p9 _) (by decide)) hB e2) ?_
      refine V_al i_X11_week_89 rfl ?_
      refine V_getJ i_X11_week_90 rfl ?_
      refine V_ls (L' := [(0, _), (1, _), (2, _), (3, _), (4, _), (8, _)]) i_X11_week_93 (by decide) ⟨rfl, rfl, rfl, rfl, rfl, rfl, trivial⟩ ?_
      refine V_al i_X11_week_95 rfl ?_
      refine V_getJ i_X11_week_96 rfl ?_
      refine V_ls (L' := [(0, _), (1, _), (2, _), (3, _), (4, _), (6, _), (8, _)]) i_X11_week_99 (by decide) ⟨rfl, rfl, rfl, rfl, rfl, rfl, rfl, trivial⟩ ?_
      refine V_iinc (L' := [(0, _), (1, _), (2, _), (3, _), (4, _), (6, _), (8, _)]) (n' := 1) i_X11_week_101 (by decide) rfl (by decide) ⟨rfl, rfl, rfl, rfl, rfl, rfl, rfl, trivial⟩ ?_
      refine V_goto i_X11_week_104 ?_
      refine V_L (L' := [(0, _), (1, _), (2, _), (3, _), (4, _), (6, _), (8, _)]) ⟨rfl, rfl, rfl, rfl, rfl, rfl, rfl, trivial⟩ ?_
      rw [show nI i + 1 = nI (i + 1) from nI_1 i]
      exact ih I2 _ _ _ (FrM.tr f1 (FrM.tr f2 (FrJ.M _ (FrJ.tr j2 (FrJ.lo _ _ _))))) (by
        have h9 := loJ_get J2 (((sumN (tuT kd nd lw how (pot * un how) od n k) i : Nat) : Int) + ((tuT kd nd lw how (pot * un how) od n k i : Nat) : Int)) (un how)
        rw [← Int.natCast_add] at h9
        rw [← Int.natCast_add]
        exact h9)
  exact key 0 (Nat.zero_le _) I J 0 1 FrM.rf (Fr_0 (un_pos how))
set_option maxRecDepth 100000 in
set_option maxHeartbeats 4000000 in
theorem m_week (I : IntM) (J : LngM) {n : Nat} {kd nd od : Nat → Nat} {lw pot : Nat} (hK : MK I n kd nd od lw pot) {k how dd : Nat} (hh : how ≤ 1) (hk : k < n) (hd1 : 1 ≤ dd) (hdd : dd ≤ 7) : CtP 7 m_X11_week [.ref 146, .int (nI k), .int (nI dd), .int (nI how)] I J (QM I J (.int 1) none (some (((sumN (tuT kd nd lw how (pot * un how) od n k) dd : Nat) : Int), un how)) none) := by
  refine CtP_of (by decide) rfl (Nat.le_of_ble_eq_true rfl) ?_
  refine V_al i_X11_week_0 rfl ?_
  refine V_il i_X11_week_1 rfl ?_
  refine P_callV1v i_X11_week_2 mi_X11_isEater rfl ⟨_, _, rfl⟩ (by decide) (Nat.le_of_ble_eq_true rfl) (c_M_isEater _ _ hK.n7 hK.sz _) ?_
  refine V_if_eq_f i_X11_week_5 (by rw [hasC_nI hK.n7 hk]; decide) ?_
  refine V_il i_X11_week_8 rfl ?_
  refine V_i2l i_X11_week_9 ?_
  refine V_cl i_X11_week_10 ?_
  refine V_cl i_X11_week_11 ?_
  refine P_callS3v i_X11_week_14 ms_X11_in (by decide) (Nat.le_of_ble_eq_true rfl) (c_M_in _ _ _ _ _) ?_
  refine V_if_eq_f i_X11_week_17 (by rw [show inL (nI dd).toInt64 1 7 = 1 from in_yes (lo := 1) (hi := 7) hd1 hdd (by decide)]; decide) ?_
  refine V_il i_X11_week_20 rfl ?_
  refine P_callS1v i_X11_week_21 ms_X11_isHow (by decide) (Nat.le_of_ble_eq_true rfl) (c_M_isHow _ _ _) ?_
  refine V_if_ne_t i_X11_week_24 (by rw [howv_nI hh]; decide) ?_
  refine V_cl i_X11_week_29 ?_
  refine V_ls (L' := [(0, _), (1, _), (2, _), (3, _), (4, _)]) i_X11_week_30 (by decide) ⟨rfl, rfl, rfl, rfl, rfl, trivial⟩ ?_
  refine V_cl i_X11_week_32 ?_
  refine V_ls (L' := [(0, _), (1, _), (2, _), (3, _), (4, _), (6, _)]) i_X11_week_33 (by decide) ⟨rfl, rfl, rfl, rfl, rfl, rfl, trivial⟩ ?_
  refine V_c i_X11_week_35 ?_
  refine V_is (L' := [(0, _), (1, _), (2, _), (3, _), (4, _), (6, _), (8, _)]) i_X11_week_36 (by decide) ⟨rfl, rfl, rfl, rfl, rfl, rfl, rfl, trivial⟩ ?_
  refine V_L (L' := [(0, _), (1, _), (2, _), (3, _), (4, _), (6, _), (8, _)]) ⟨rfl, rfl, rfl, rfl, rfl, rfl, rfl, trivial⟩ ?_
  refine lp_M_week I J hK hh hk hdd _ (fun I1 J1 x y f1 hB => ?_)
  refine V_al i_X11_week_107 rfl ?_
  refine V_c i_X11_week_108 ?_
  refine V_ll i_X11_week_109 rfl ?_
  refine V_ll i_X11_week_111 rfl ?_
  refine P_callV3v i_X11_week_113 mi_X11_tells rfl ⟨_, _, rfl⟩ (by decide) (Nat.le_of_ble_eq_true rfl) (m_tells I1 J1 (un_pos how) (un_62 how) (by rw [Int.natAbs_natCast]; exact Nat.lt_of_lt_of_le (week_b60 hK.p9 hdd) (by decide)) hB) ?_
  exact P_iret i_X11_week_116 rfl ⟨rfl, I1, _, FrM.tr f1 (FrJ.M _ (FrJ.lo _ _ _)), rfl, rfl⟩
theorem or_n0 (a : Int32) : a ||| 0 = a := Int32.or_zero
theorem kB_1 {c t : Nat → Nat} {i : Nat} (hc : ∀ j, c j < 2 ^ 31) (h : moI c t i < nI (c i)) : bwK c t (i + 1) = i := by
  by_cases h0 : i = 0
  · subst h0
    exact bwK_1 c t
  · unfold moI at h
    rw [if_neg h0] at h
    exact if_pos (Or.inl ((nI_ltI (hc _) (hc _)).mp h))
theorem kB_2 {c t : Nat → Nat} {i : Nat} (hc : ∀ j, c j < 2 ^ 31) (h1 : ¬ moI c t i < nI (c i)) (h2 : ¬ nI (c i) = moI c t i) : bwK c t (i + 1) = bwK c t i ∧ 0 < i := by
  by_cases h0 : i = 0
  · subst h0
    exact absurd (m1_ltI (hc 0)) h1
  · unfold moI at h1 h2
    rw [if_neg h0] at h1 h2
    rw [nI_ltI (hc _) (hc _)] at h1
    rw [nI_eq (hc _) (hc _)] at h2
    exact ⟨if_neg (by rintro (q | ⟨q, -⟩) <;> omega), by omega⟩
theorem kM_3 {c t : Nat → Nat} {i u : Nat} {x y a b : Int64} (hc : ∀ j, c j < 2 ^ 31) (hu : 0 < u) (hf : ∀ j, t j ≤ 999 * u ∧ rdN ((t j : Nat) : Int) u ≤ 2 ^ 21) (hB : BF t (bwK c t i) u i 0 x y) (hF : Fr a b ((t i : Nat) : Int) u) (h1 : ¬ moI c t i < nI (c i)) (h2 : nI (c i) = moI c t i) (h3 : a * y ≤ x * b) : bwK c t (i + 1) = bwK c t i ∧ 0 < i := by
  rcases hB with ⟨rfl, -, -⟩ | ⟨h0, hx⟩
  · exact absurd (m1_ltI (hc 0)) h1
  · have h4 := (Fr_cmp hu hF hx (hf _).1 (hf _).1 (hf _).2 (hf _).2).mp h3
    unfold moI at h1 h2
    rw [if_neg (by omega)] at h1 h2
    rw [nI_ltI (hc _) (hc _)] at h1
    exact ⟨if_neg (by rintro (q | ⟨-, q⟩) <;> omega), h0⟩
theorem kM_4 {c t : Nat → Nat} {i u : Nat} {x y a b : Int64} (hc : ∀ j, c j < 2 ^ 31) (hu : 0 < u) (hf : ∀ j, t j ≤ 999 * u ∧ rdN ((t j : Nat) : Int) u ≤ 2 ^ 21) (hB : BF t (bwK c t i) u i 0 x y) (hF : Fr a b ((t i : Nat) : Int) u) (h1 : ¬ moI c t i < nI (c i)) (h2 : nI (c i) = moI c t i) (h3 : ¬ a * y ≤ x * b) : bwK c t (i + 1) = i := by
  rcases hB with ⟨rfl, -, -⟩ | ⟨h0, hx⟩
  · exact bwK_1 c t
  · have h4 : ¬ t i ≤ t (bwK c t i) := fun q => h3 ((Fr_cmp hu hF hx (hf _).1 (hf _).1 (hf _).2 (hf _).2).mpr q)
    unfold moI at h2
    rw [if_neg (by omega), nI_eq (hc _) (hc _)] at h2
    exact if_pos (Or.inr ⟨h2.symm, by omega⟩)

set_option maxRecDepth 100000 in
set_option maxHeartbeats 4000000 in
theorem lp_M_kind (I : IntM) (J : LngM) {n : Nat} {kd nd od : Nat → Nat} {lw pot : Nat} (hK : MK I n kd nd od lw pot) {how : Nat} (hh : how ≤ 1) {c t : Nat → Nat} (hcc : c = kiC kd nd how (pot * un how) od n) (htt : t = kiT kd nd how (pot * un how) od n) (hS : AtI I 157 n od) (Q : Option Value → IntM → LngM → Prop) (hq : ∀ J1, FrJ J J1 → VP m_X11_kind 7 117 [(0, .ref 146), (2, .int (nI (bwK c t 4))), (3, .int (moI c t 4))] [] I J1 Q) : VP m_X11_kind 7 36 [(0, .ref 146), (1, .int (nI how)), (2, .int 0), (3, .int (-1)), (4, .long 0), (6, .long 1), (8, .int 0)] [] I J Q := by
  have hc : ∀ j, c j < 2 ^ 31 := fun j => by rw [hcc]; exact Nat.lt_of_le_of_lt (cntN_le _ n) (by have := hK.n7; omega)
  have htb : ∀ j, t j ≤ 999 * un how ∧ rdN ((t j : Nat) : Int) (un how) ≤ 2 ^ 21 := fun j => by
    rw [htt]
    exact ⟨th999 hK.p9 _, th_rd hh hK.n7⟩
  have key : ∀ i, i ≤ 4 → ∀ J1 x y, FrJ J J1 → BF t (bwK c t i) (un how) i 0 x y → VP m_X11_kind 7 36 [(0, .ref 146), (1, .int (nI how)), (2, .int (nI (bwK c t i))), (3, .int (moI c t i)), (4, .long x), (6, .long y), (8, .int (nI i))] [] I J1 Q := by
    refine down 4 ?_ (fun i hi ih => ?_)
    · intro J1 x y f1 hB
      refine V_il i_X11_kind_36 rfl ?_
      refine V_c i_X11_kind_38 ?_
      refine V_ic_ge_t i_X11_kind_39 (Int32.le_refl _) ?_
      exact V_L (L' := [(0, _), (2, _), (3, _)]) ⟨rfl, rfl, rfl, trivial⟩ (hq J1 f1)
    · intro J1 x y f1 hB
      refine V_il i_X11_kind_36 rfl ?_
      refine V_c i_X11_kind_38 ?_
      refine V_ic_ge_f i_X11_kind_39 (nI_ge (show i < 4 by omega) (by decide)) ?_
      refine V_al i_X11_kind_42 rfl ?_
      refine V_il i_X11_kind_43 rfl ?_
      refine V_al i_X11_kind_44 rfl ?_
      refine V_getI i_X11_kind_45 rfl ?_
      rw [hK.pt]
      refine V_il i_X11_kind_48 rfl ?_
      refine V_c i_X11_kind_50 ?_
      refine P_callV4 i_X11_kind_51 mi_X11_goes rfl ⟨_, _, rfl⟩ (by decide) (Nat.le_of_ble_eq_true rfl) (m_goes0 I J1 hK hh (show i ≤ 3 by omega) hK.p9 hS hK.P) (fun r Ix J2 q => ?_)
      obtain ⟨rfl, rfl, j2, g2⟩ := q
      have e2 : Fr (J2 146 28) (J2 146 29) ((t i : Nat) : Int) (un how) := by rw [htt]; exact g2.1
      refine V_al i_X11_kind_54 rfl ?_
      refine P_callV0v i_X11_kind_55 mi_X11_fedSet rfl ⟨_, _, rfl⟩ (by decide) (Nat.le_of_ble_eq_true rfl) (m_fset I J2 hK hK.p9 g2) ?_
      refine P_callS1v i_X11_kind_58 ms_X11_ones (by decide) (Nat.le_of_ble_eq_true rfl) (c_M_ones _ _ (setN_lt _ n hK.n7)) ?_
      rw [popc_set hK.n7, show cntN (fdE kd nd i how (pot * un how) od n) n = c i from by rw [hcc]; rfl]
      refine V_is (L' := [(0, _), (1, _), (2, _), (3, _), (4, _), (6, _), (8, _), (9, _)]) i_X11_kind_61 (by decide) ⟨rfl, rfl, rfl, rfl, rfl, rfl, rfl, rfl, trivial⟩ ?_
      refine V_il i_X11_kind_63 rfl ?_
      refine V_il i_X11_kind_65 rfl ?_
      refine V_ic_gt i_X11_kind_66 (fun c66 => ?_) (fun c66 => ?_)
      · have c9 := kB_1 hc c66
        refine V_il i_X11_kind_93 rfl ?_
        refine V_is (L' := [(0, _), (1, _), (2, _), (8, _), (9, _)]) i_X11_kind_95 (by decide) ⟨rfl, rfl, rfl, rfl, rfl, trivial⟩ ?_
        refine V_il i_X11_kind_96 rfl ?_
        refine V_is (L' := [(0, _), (1, _), (2, _), (3, _), (8, _)]) i_X11_kind_98 (by decide) ⟨rfl, rfl, rfl, rfl, rfl, trivial⟩ ?_
        refine V_al i_X11_kind_99 rfl ?_
        refine V_getJ i_X11_kind_100 rfl ?_
        refine V_ls (L' := [(0, _), (1, _), (2, _), (3, _), (4, _), (8, _)]) i_X11_kind_103 (by decide) ⟨rfl, rfl, rfl, rfl, rfl, rfl, trivial⟩ ?_
        refine V_al i_X11_kind_105 rfl ?_
        refine V_getJ i_X11_kind_106 rfl ?_
        refine V_ls (L' := [(0, _), (1, _), (2, _), (3, _), (4, _), (6, _), (8, _)]) i_X11_kind_109 (by decide) ⟨rfl, rfl, rfl, rfl, rfl, rfl, rfl, trivial⟩ ?_
        refine V_iinc (L' := [(0, _), (1, _), (2, _), (3, _), (4, _), (6, _), (8, _)]) (n' := 1) i_X11_kind_111 (by decide) rfl (by decide) ⟨rfl, rfl, rfl, rfl, rfl, rfl, rfl, trivial⟩ ?_
        refine V_goto i_X11_kind_114 ?_
        refine V_L (L' := [(0, _), (1, _), (2, _), (3, _), (4, _), (6, _), (8, _)]) ⟨rfl, rfl, rfl, rfl, rfl, rfl, rfl, trivial⟩ ?_
        rw [show nI i + 1 = nI (i + 1) from nI_1 i]
        have ih2 := ih J2 (J2 146 28) (J2 146 29) (FrJ.tr f1 j2) (by rw [c9]; exact Or.inr ⟨by omega, e2⟩)
        rw [moI_s, c9] at ih2
        exact ih2
      · refine V_il i_X11_kind_69 rfl ?_
        refine V_il i_X11_kind_71 rfl ?_
        refine V_ic_ne i_X11_kind_72 (fun c72 => ?_) (fun c72 => ?_)
        · have c9 := kB_2 hc c66 c72
          refine V_iinc (L' := [(0, _), (1, _), (2, _), (3, _), (4, _), (6, _), (8, _)]) (n' := 1) i_X11_kind_111 (by decide) rfl (by decide) ⟨rfl, rfl, rfl, rfl, rfl, rfl, rfl, trivial⟩ ?_
          refine V_goto i_X11_kind_114 ?_
          refine V_L (L' := [(0, _), (1, _), (2, _), (3, _), (4, _), (6, _), (8, _)]) ⟨rfl, rfl, rfl, rfl, rfl, rfl, rfl, trivial⟩ ?_
          rw [show nI i + 1 = nI (i + 1) from nI_1 i]
          have ih2 := ih J2 x y (FrJ.tr f1 j2) (by rw [c9.1]; rcases hB with q | q; exact absurd q.1 (by omega); exact Or.inr ⟨by omega, q.2⟩)
          rw [c9.1, show moI c t (i + 1) = moI c t i from by rw [moI_s, c9.1]; unfold moI; rw [if_neg (by omega)]] at ih2
          exact ih2
        · refine V_al i_X11_kind_75 rfl ?_
          refine V_getJ i_X11_kind_76 rfl ?_
          refine V_ll i_X11_kind_79 rfl ?_
          refine V_lmul i_X11_kind_81 ?_
          refine V_ll i_X11_kind_82 rfl ?_
          refine V_al i_X11_kind_84 rfl ?_
          refine V_getJ i_X11_kind_85 rfl ?_
          refine V_lmul i_X11_kind_88 ?_
          refine V_lcmp i_X11_kind_89 ?_
          refine V_if_le i_X11_kind_90 (fun c90 => ?_) (fun c90 => ?_)
          · have c9 := kM_3 hc (un_pos how) htb hB e2 c66 c72 (lgc_le.mp c90)
            refine V_iinc (L' := [(0, _), (1, _), (2, _), (3, _), (4, _), (6, _), (8, _)]) (n' := 1) i_X11_kind_111 (by decide) rfl (by decide) ⟨rfl, rfl, rfl, rfl, rfl, rfl, rfl, trivial⟩ ?_
            refine V_goto i_X11_kind_114 ?_
            refine V_L (L' := [(0, _), (1, _), (2, _), (3, _), (4, _), (6, _), (8, _)]) ⟨rfl, rfl, rfl, rfl, rfl, rfl, rfl, trivial⟩ ?_
            rw [show nI i + 1 = nI (i + 1) from nI_1 i]
            have ih2 := ih J2 x y (FrJ.tr f1 j2) (by rw [c9.1]; rcases hB with q | q; exact absurd q.1 (by omega); exact Or.inr ⟨by omega, q.2⟩)
            rw [c9.1, show moI c t (i + 1) = moI c t i from by rw [moI_s, c9.1]; unfold moI; rw [if_neg (by omega)]] at ih2
            exact ih2
          · have c9 := kM_4 hc (un_pos how) htb hB e2 c66 c72 (fun q => c90 (lgc_le.mpr q))
            refine V_il i_X11_kind_93 rfl ?_
            refine V_is (L' := [(0, _), (1, _), (2, _), (8, _), (9, _)]) i_X11_kind_95 (by decide) ⟨rfl, rfl, rfl, rfl, rfl, trivial⟩ ?_
            refine V_il i_X11_kind_96 rfl ?_
            refine V_is (L' := [(0, _), (1, _), (2, _), (3, _), (8, _)]) i_X11_kind_98 (by decide) ⟨rfl, rfl, rfl, rfl, rfl, trivial⟩ ?_
            refine V_al i_X11_kind_99 rfl ?_
            refine V_getJ i_X11_kind_100 rfl ?_
            refine V_ls (L' := [(0, _), (1, _), (2, _), (3, _), (4, _), (8, _)]) i_X11_kind_103 (by decide) ⟨rfl, rfl, rfl, rfl, rfl, rfl, trivial⟩ ?_
            refine V_al i_X11_kind_105 rfl ?_
            refine V_getJ i_X11_kind_106 rfl ?_
            refine V_ls (L' := [(0, _), (1, _), (2, _), (3, _), (4, _), (6, _), (8, _)]) i_X11_kind_109 (by decide) ⟨rfl, rfl, rfl, rfl, rfl, rfl, rfl, trivial⟩ ?_
            refine V_iinc (L' := [(0, _), (1, _), (2, _), (3, _), (4, _), (6, _), (8, _)]) (n' := 1) i_X11_kind_111 (by decide) rfl (by decide) ⟨rfl, rfl, rfl, rfl, rfl, rfl, rfl, trivial⟩ ?_
            refine V_goto i_X11_kind_114 ?_
            refine V_L (L' := [(0, _), (1, _), (2, _), (3, _), (4, _), (6, _), (8, _)]) ⟨rfl, rfl, rfl, rfl, rfl, rfl, rfl, trivial⟩ ?_
            rw [show nI i + 1 = nI (i + 1) from nI_1 i]
            have ih2 := ih J2 (J2 146 28) (J2 146 29) (FrJ.tr f1 j2) (by rw [c9]; exact Or.inr ⟨by omega, e2⟩)
            rw [moI_s, c9] at ih2
            exact ih2
  exact key 0 (Nat.zero_le _) J 0 1 FrJ.rf (Or.inl ⟨rfl, rfl, rfl⟩)
set_option maxRecDepth 100000 in
set_option maxHeartbeats 4000000 in
theorem m_kind (I : IntM) (J : LngM) {n : Nat} {kd nd od : Nat → Nat} {lw pot : Nat} (hK : MK I n kd nd od lw pot) {how : Nat} (hh : how ≤ 1) (h0 : 0 < n) : CtP 7 m_X11_kind [.ref 146, .int (nI how)] I J (QM I J (.int (nI (kiB kd nd how (pot * un how) od n))) (some (nI (kiC kd nd how (pot * un how) od n (kiB kd nd how (pot * un how) od n)))) none none) := by
  refine CtP_of (by decide) rfl (Nat.le_of_ble_eq_true rfl) ?_
  refine V_il i_X11_kind_0 rfl ?_
  refine P_callS1v i_X11_kind_1 ms_X11_isHow (by decide) (Nat.le_of_ble_eq_true rfl) (c_M_isHow _ _ _) ?_
  refine V_if_ne_t i_X11_kind_4 (by rw [howv_nI hh]; decide) ?_
  refine V_al i_X11_kind_9 rfl ?_
  refine V_getI i_X11_kind_10 rfl ?_
  refine V_if_ne_t i_X11_kind_13 (by rw [hK.sz]; exact nI_ne0 h0 (by have := hK.n7; omega)) ?_
  refine V_c i_X11_kind_19 ?_
  refine V_is (L' := [(0, _), (1, _), (2, _)]) i_X11_kind_20 (by decide) ⟨rfl, rfl, rfl, trivial⟩ ?_
  refine V_c i_X11_kind_21 ?_
  refine V_is (L' := [(0, _), (1, _), (2, _), (3, _)]) i_X11_kind_22 (by decide) ⟨rfl, rfl, rfl, rfl, trivial⟩ ?_
  refine V_cl i_X11_kind_23 ?_
  refine V_ls (L' := [(0, _), (1, _), (2, _), (3, _), (4, _)]) i_X11_kind_24 (by decide) ⟨rfl, rfl, rfl, rfl, rfl, trivial⟩ ?_
  refine V_cl i_X11_kind_26 ?_
  refine V_ls (L' := [(0, _), (1, _), (2, _), (3, _), (4, _), (6, _)]) i_X11_kind_27 (by decide) ⟨rfl, rfl, rfl, rfl, rfl, rfl, trivial⟩ ?_
  refine V_al i_X11_kind_29 rfl ?_
  refine P_callV0 i_X11_kind_30 mi_X11_seatsAsTold rfl ⟨_, _, rfl⟩ (by decide) (Nat.le_of_ble_eq_true rfl) (m_told I J hK) (fun r I1 Jx q => ?_)
  obtain ⟨rfl, f1, a1, rfl⟩ := q
  have k1 := FrM.K f1 hK
  refine V_c i_X11_kind_33 ?_
  refine V_is (L' := [(0, _), (1, _), (2, _), (3, _), (4, _), (6, _), (8, _)]) i_X11_kind_34 (by decide) ⟨rfl, rfl, rfl, rfl, rfl, rfl, rfl, trivial⟩ ?_
  refine V_L (L' := [(0, _), (1, _), (2, _), (3, _), (4, _), (6, _), (8, _)]) ⟨rfl, rfl, rfl, rfl, rfl, rfl, rfl, trivial⟩ ?_
  refine lp_M_kind I1 J k1 hh rfl rfl a1 _ (fun J2 j2 => ?_)
  refine V_al i_X11_kind_117 rfl ?_
  refine V_il i_X11_kind_118 rfl ?_
  refine V_putI i_X11_kind_119 rfl ?_
  refine V_il i_X11_kind_122 rfl ?_
  exact P_iret i_X11_kind_123 rfl ⟨rfl, I1, J2, FrM.tr f1 (FrJ.M _ j2), rfl, rfl⟩
set_option maxRecDepth 100000 in
set_option maxHeartbeats 4000000 in
theorem m_kind0 (I : IntM) (J : LngM) {n : Nat} {kd nd od : Nat → Nat} {lw pot : Nat} (hK : MK I n kd nd od lw pot) {x : Int32} (h : howv x = 0) : CtP 7 m_X11_kind [.ref 146, .int x] I J (QM I J (.int (-1)) none none none) := by
  refine CtP_of (by decide) rfl (Nat.le_of_ble_eq_true rfl) ?_
  refine V_il i_X11_kind_0 rfl ?_
  refine P_callS1v i_X11_kind_1 ms_X11_isHow (by decide) (Nat.le_of_ble_eq_true rfl) (c_M_isHow _ _ _) ?_
  refine V_if_ne_f i_X11_kind_4 h ?_
  refine V_c i_X11_kind_7 ?_
  exact P_iret i_X11_kind_8 rfl ⟨rfl, I, J, FrM.rf, rfl, rfl⟩
set_option maxRecDepth 100000 in
set_option maxHeartbeats 4000000 in
theorem m_kind1 (I : IntM) (J : LngM) {n : Nat} {kd nd od : Nat → Nat} {lw pot : Nat} (hK : MK I n kd nd od lw pot) {how : Nat} (hh : how ≤ 1) (h0 : n = 0) : CtP 7 m_X11_kind [.ref 146, .int (nI how)] I J (QM I J (.int (-4)) none none none) := by
  refine CtP_of (by decide) rfl (Nat.le_of_ble_eq_true rfl) ?_
  refine V_il i_X11_kind_0 rfl ?_
  refine P_callS1v i_X11_kind_1 ms_X11_isHow (by decide) (Nat.le_of_ble_eq_true rfl) (c_M_isHow _ _ _) ?_
  refine V_if_ne_t i_X11_kind_4 (by rw [howv_nI hh]; decide) ?_
  refine V_al i_X11_kind_9 rfl ?_
  refine V_getI i_X11_kind_10 rfl ?_
  refine V_if_ne_f i_X11_kind_13 (by rw [hK.sz, h0]; rfl) ?_
  refine V_c i_X11_kind_16 ?_
  exact P_iret i_X11_kind_18 rfl ⟨rfl, I, J, FrM.rf, rfl, rfl⟩
