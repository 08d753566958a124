
/-! ===== fractions in lowest terms ===== -/
def lZ (z : Int) : Int64 := Int64.ofInt z
theorem lZ_N (n : Nat) : lN n = lZ (n : Int) := by
  unfold lN lZ
  exact (Int64.ofInt_eq_ofNat (n := n)).symm
theorem lZ_add (a b : Int) : lZ a + lZ b = lZ (a + b) := (Int64.ofInt_add a b).symm
theorem lZ_sub (a b : Int) : lZ a - lZ b = lZ (a - b) := (Int64.ofInt_sub a b).symm
theorem lZ_mul (a b : Int) : lZ a * lZ b = lZ (a * b) := (Int64.ofInt_mul a b).symm
theorem lZ_neg (a : Int) : -lZ a = lZ (-a) := (Int64.ofInt_neg a).symm
theorem lZ_toInt {a : Int} (h1 : -(2 ^ 63) ≤ a) (h2 : a < 2 ^ 63) : (lZ a).toInt = a := Int64.toInt_ofInt_of_le h1 h2
theorem lZ_lt {a b : Int} (h1 : -(2 ^ 63) ≤ a) (h2 : a < 2 ^ 63) (h3 : -(2 ^ 63) ≤ b) (h4 : b < 2 ^ 63) : lZ a < lZ b ↔ a < b := by
  rw [Int64.lt_iff_toInt_lt, lZ_toInt h1 h2, lZ_toInt h3 h4]
theorem lZ_le {a b : Int} (h1 : -(2 ^ 63) ≤ a) (h2 : a < 2 ^ 63) (h3 : -(2 ^ 63) ≤ b) (h4 : b < 2 ^ 63) : lZ a ≤ lZ b ↔ a ≤ b := by
  rw [Int64.le_iff_toInt_le, lZ_toInt h1 h2, lZ_toInt h3 h4]
theorem lZ_eq {a b : Int} (h1 : -(2 ^ 63) ≤ a) (h2 : a < 2 ^ 63) (h3 : -(2 ^ 63) ≤ b) (h4 : b < 2 ^ 63) : lZ a = lZ b ↔ a = b := by
  rw [← Int64.toInt_inj, lZ_toInt h1 h2, lZ_toInt h3 h4]
theorem lZ_div {a : Int} {d : Nat} (h1 : -(2 ^ 62) ≤ a) (h2 : a < 2 ^ 62) (h0 : 0 < d) (hd : d < 2 ^ 62) (hx : (d : Int) ∣ a) : lZ a / lN d = lZ (a / d) := by
  obtain ⟨k, rfl⟩ := hx
  have hd0 : (d : Int) ≠ 0 := by omega
  rw [Int.mul_ediv_cancel_left _ hd0, lZ_N]
  have hk : k.natAbs ≤ ((d : Int) * k).natAbs := by
    rw [Int.natAbs_mul]
    exact Nat.le_mul_of_pos_left _ (by omega)
  apply Int64.toInt_inj.mp
  rw [Int64.toInt_div, lZ_toInt (by omega) (by omega), lZ_toInt (by omega) (by omega), lZ_toInt (by omega) (by omega), Int.mul_tdiv_cancel_left _ hd0]
  exact Int.bmod_eq_of_le (by omega) (by omega)
/-- upper and lower number of A / u -/
def roN (A : Int) (u : Nat) : Int := A / ((Nat.gcd A.natAbs u : Nat) : Int)
def rdN (A : Int) (u : Nat) : Nat := u / Nat.gcd A.natAbs u
theorem gcd_pos' {A : Int} {u : Nat} (hu : 0 < u) : 0 < Nat.gcd A.natAbs u := Nat.gcd_pos_of_pos_right _ hu
theorem ro_mul (A : Int) (u : Nat) : roN A u * ((Nat.gcd A.natAbs u : Nat) : Int) = A := by
  unfold roN
  exact Int.ediv_mul_cancel (Int.ofNat_dvd_left.mpr (Nat.gcd_dvd_left _ _))
theorem rd_mul (A : Int) (u : Nat) : rdN A u * Nat.gcd A.natAbs u = u := Nat.div_mul_cancel (Nat.gcd_dvd_right _ _)
theorem rd_pos {A : Int} {u : Nat} (hu : 0 < u) : 0 < rdN A u := by
  have h := rd_mul A u
  rcases Nat.eq_zero_or_pos (rdN A u) with h0 | h0
  · rw [h0] at h
    omega
  · exact h0
theorem rd_dvd (A : Int) (u : Nat) : rdN A u ∣ u := ⟨_, (rd_mul A u).symm⟩
theorem rd_le {A : Int} {u : Nat} (hu : 0 < u) : rdN A u ≤ u := Nat.le_of_dvd hu (rd_dvd A u)
theorem ro_abs {A : Int} {u : Nat} (hu : 0 < u) : (roN A u).natAbs ≤ A.natAbs := by
  have h := congrArg Int.natAbs (ro_mul A u)
  rw [Int.natAbs_mul] at h
  have hg := gcd_pos' (A := A) hu
  rw [← h, Int.natAbs_natCast]
  exact Nat.le_mul_of_pos_right _ hg
theorem ro_cross (A : Int) (u : Nat) : roN A u * (u : Int) = A * (rdN A u : Int) := by
  have h1 := ro_mul A u
  have h2 := rd_mul A u
  calc roN A u * (u : Int) = roN A u * ((rdN A u * Nat.gcd A.natAbs u : Nat) : Int) := by rw [h2]
    _ = roN A u * ((Nat.gcd A.natAbs u : Nat) : Int) * (rdN A u : Int) := by
      rw [Int.natCast_mul, Int.mul_assoc, Int.mul_comm ((Nat.gcd A.natAbs u : Nat) : Int)]
    _ = A * (rdN A u : Int) := by rw [h1]
theorem ro_cop {A : Int} {u : Nat} (hu : 0 < u) : Nat.gcd (roN A u).natAbs (rdN A u) = 1 := by
  have hg := gcd_pos' (A := A) hu
  have h1 : (roN A u).natAbs * Nat.gcd A.natAbs u = A.natAbs := by
    have h := congrArg Int.natAbs (ro_mul A u)
    rwa [Int.natAbs_mul, Int.natAbs_natCast] at h
  have h3 : Nat.gcd ((roN A u).natAbs * Nat.gcd A.natAbs u) (rdN A u * Nat.gcd A.natAbs u) = Nat.gcd A.natAbs u := by rw [h1, rd_mul]
  rw [Nat.gcd_mul_right] at h3
  exact Nat.eq_of_mul_eq_mul_right hg (by rw [h3, Nat.one_mul])
/-- lowest terms are one -/
theorem ro_one {x A : Int} {y u : Nat} (hy : 0 < y) (hu : 0 < u) (h : x * (u : Int) = A * (y : Int)) : roN x y = roN A u ∧ rdN x y = rdN A u := by
  have key : roN x y * (rdN A u : Int) = roN A u * (rdN x y : Int) := by
    have g1 := gcd_pos' (A := x) hy
    have g2 := gcd_pos' (A := A) hu
    have e1 := ro_mul x y
    have e2 := ro_mul A u
    have e3 := rd_mul x y
    have e4 := rd_mul A u
    have hne : ((Nat.gcd x.natAbs y : Nat) : Int) * ((Nat.gcd A.natAbs u : Nat) : Int) ≠ 0 := Int.mul_ne_zero (by omega) (by omega)
    refine Int.eq_of_mul_eq_mul_right hne ?_
    have c3 : (rdN x y : Int) * ((Nat.gcd x.natAbs y : Nat) : Int) = (y : Int) := by rw [← Int.natCast_mul, e3]
    have c4 : (rdN A u : Int) * ((Nat.gcd A.natAbs u : Nat) : Int) = (u : Int) := by rw [← Int.natCast_mul, e4]
    generalize hG1 : ((Nat.gcd x.natAbs y : Nat) : Int) = G1 at *
    generalize hG2 : ((Nat.gcd A.natAbs u : Nat) : Int) = G2 at *
    calc roN x y * (rdN A u : Int) * (G1 * G2) = (roN x y * G1) * ((rdN A u : Int) * G2) := by
          simp only [Int.mul_assoc, Int.mul_comm, Int.mul_left_comm]
      _ = x * (u : Int) := by rw [e1, c4]
      _ = A * (y : Int) := h
      _ = (roN A u * G2) * ((rdN x y : Int) * G1) := by rw [e2, c3]
      _ = roN A u * (rdN x y : Int) * (G1 * G2) := by
          simp only [Int.mul_assoc, Int.mul_comm, Int.mul_left_comm]
  have kn : (roN x y).natAbs * rdN A u = (roN A u).natAbs * rdN x y := by
    have := congrArg Int.natAbs key
    rwa [Int.natAbs_mul, Int.natAbs_mul, Int.natAbs_natCast, Int.natAbs_natCast] at this
  have p1 := rd_pos (A := x) hy
  have p2 := rd_pos (A := A) hu
  have d1 : rdN x y ∣ rdN A u := by
    have hd : rdN x y ∣ (roN x y).natAbs * rdN A u := by rw [kn]; exact Nat.dvd_mul_left _ _
    have hc : Nat.Coprime (rdN x y) (roN x y).natAbs := by rw [Nat.coprime_comm]; exact ro_cop hy
    exact hc.dvd_of_dvd_mul_left hd
  have d2 : rdN A u ∣ rdN x y := by
    have hd : rdN A u ∣ (roN A u).natAbs * rdN x y := by rw [← kn]; exact Nat.dvd_mul_left _ _
    have hc : Nat.Coprime (rdN A u) (roN A u).natAbs := by rw [Nat.coprime_comm]; exact ro_cop hu
    exact hc.dvd_of_dvd_mul_left hd
  have e : rdN x y = rdN A u := Nat.dvd_antisymm d1 d2
  refine ⟨?_, e⟩
  rw [e] at key
  exact Int.eq_of_mul_eq_mul_right (by omega) key
theorem ro_neg (A : Int) (u : Nat) : roN (-A) u = -roN A u ∧ rdN (-A) u = rdN A u := by
  unfold roN rdN
  rw [Int.natAbs_neg]
  exact ⟨Int.neg_ediv_of_dvd (Int.ofNat_dvd_left.mpr (Nat.gcd_dvd_left _ _)), rfl⟩
theorem ro_1 (A : Int) : roN A 1 = A ∧ rdN A 1 = 1 := by
  unfold roN rdN
  rw [Nat.gcd_one_right]
  exact ⟨Int.ediv_one A, rfl⟩
/-- a, b stand for A / u in lowest terms -/
def Fr (a b : Int64) (A : Int) (u : Nat) : Prop := a = lZ (roN A u) ∧ b = lN (rdN A u)
theorem Fr.neg {a b : Int64} {A : Int} {u : Nat} (h : Fr a b A u) : Fr (-a) b (-A) u := ⟨by rw [h.1, lZ_neg, (ro_neg A u).1], by rw [h.2, (ro_neg A u).2]⟩
theorem Fr.of_pot (how P : Nat) : Fr (lN P) 1 ((P * un how : Nat) : Int) (un how) := by
  have hu := un_pos how
  have h := ro_one (x := (P : Int)) (A := ((P * un how : Nat) : Int)) (y := 1) (u := un how) (by omega) hu (by rw [Int.natCast_mul]; simp)
  unfold Fr
  rw [← h.1, ← h.2, (ro_1 _).1, (ro_1 _).2, lZ_N]
  exact ⟨rfl, rfl⟩
theorem Fr.sum {A C : Int} {u : Nat} (hu : 0 < u) : (roN A u * ((rdN C u / Nat.gcd (rdN A u) (rdN C u) : Nat) : Int) + roN C u * ((rdN A u / Nat.gcd (rdN A u) (rdN C u) : Nat) : Int)) * (u : Int) = (A + C) * ((rdN A u / Nat.gcd (rdN A u) (rdN C u) * rdN C u : Nat) : Int) := by
  have h1 := ro_cross A u
  have h2 := ro_cross C u
  have hg : 0 < Nat.gcd (rdN A u) (rdN C u) := Nat.gcd_pos_of_pos_left _ (rd_pos hu)
  obtain ⟨b', hb⟩ := Nat.gcd_dvd_left (rdN A u) (rdN C u)
  obtain ⟨d', hd⟩ := Nat.gcd_dvd_right (rdN A u) (rdN C u)
  generalize hG : Nat.gcd (rdN A u) (rdN C u) = G at *
  have eb : rdN A u / G = b' := by rw [hb]; exact Nat.mul_div_cancel_left _ hg
  have ed : rdN C u / G = d' := by rw [hd]; exact Nat.mul_div_cancel_left _ hg
  rw [eb, ed]
  have e3 : b' * rdN C u = d' * rdN A u := by rw [hb, hd]; simp only [Nat.mul_left_comm, Nat.mul_comm]
  calc (roN A u * (d' : Int) + roN C u * (b' : Int)) * (u : Int) = (roN A u * u) * d' + (roN C u * u) * b' := by
        rw [Int.add_mul]; simp only [Int.mul_assoc, Int.mul_comm, Int.mul_left_comm]
    _ = A * rdN A u * d' + C * rdN C u * b' := by rw [h1, h2]
    _ = A * ((d' * rdN A u : Nat) : Int) + C * ((b' * rdN C u : Nat) : Int) := by
        simp only [Int.natCast_mul, Int.mul_assoc, Int.mul_comm, Int.mul_left_comm]
    _ = (A + C) * ((b' * rdN C u : Nat) : Int) := by rw [← e3, Int.add_mul]
/-- the sum's lower number divides the unit -/
theorem Fr.lcm {b d u : Nat} (hb : b ∣ u) (hd : d ∣ u) (hu : 0 < u) : 0 < b / Nat.gcd b d * d ∧ b / Nat.gcd b d * d ≤ u := by
  have b0 : 0 < b := Nat.pos_of_dvd_of_pos hb hu
  have d0 : 0 < d := Nat.pos_of_dvd_of_pos hd hu
  have e : b / Nat.gcd b d * d = Nat.lcm b d := by
    unfold Nat.lcm
    rw [Nat.div_mul_right_comm (Nat.gcd_dvd_left b d)]
  rw [e]
  exact ⟨Nat.lcm_pos b0 d0, Nat.le_of_dvd hu (Nat.lcm_dvd hb hd)⟩
