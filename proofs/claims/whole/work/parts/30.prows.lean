
/-! ===== pairs of rows and texts ===== -/
theorem InvP.ro {I : IntM} {J : LngM} {n : Nat} {kd nd od : Nat → Nat} {lw pot : Nat} (h : InvP I J n kd nd od lw pot) : RoI I 111 148 149 6 ∧ RoI I 123 150 151 4 := ⟨h.2.2.2.1, h.2.2.2.2.1⟩
theorem Inv.to {I : IntM} {J : LngM} (h : Inv I J) : I 0 13 = I 146 2 := h.2.1.1

theorem p_at {I : IntM} {J : LngM} (h : Inv I J) (x i : Int32) : Pair 3 m_X10_at [.ref 0, .int x, .int i] 3 m_X11_at [.ref 146, .int x, .int i] I J := by
  obtain ⟨n, kd, nd, od, lw, pot, hP, hK, hM⟩ := h.K
  have hZ := hK.Z
  obtain ⟨hR, hT⟩ := hP.ro
  by_cases hx : hasC 6 x = 0
  · exact Pair.q h (fun _ => no_f) (c_at0 I J hZ hx) (fun I1 J1 e1 e2 => m_at0 I1 J1 hx)
  obtain ⟨r, hr, rfl⟩ := hasN_yes (by decide) hx
  rcases ro_cases hR hr i with ⟨f, hf, m1, m2⟩ | ⟨s, k, hs6, hk, rfl, m1, m2, hs, hb, hv⟩
  · exact Pair.q h (fun f9 h9 => by cases h9; rcases hf with rfl | rfl <;> decide) (c_at1 I J hZ hr hf m1) (fun I1 J1 e1 e2 => m_at1 I1 J1 hr hf (by rw [e1 _ _ (by omega)]; exact m2))
  · rw [show (nI k : Int32) = nI k from rfl]
    have hc := c_at2 I J hZ hr hs6 hk hs m1
    rw [hv] at hc
    exact Pair.q h (fun _ => no_f) hc (fun I1 J1 e1 e2 => by
      have hm := m_at2 I1 J1 hr (show k < 60 by omega) (by rw [e1 _ _ (by omega)]; exact m2)
      rw [e1 149 _ (by omega)] at hm
      exact hm)
theorem p_tear {I : IntM} {J : LngM} (h : Inv I J) (x : Int32) : Pair 2 m_X10_tear [.ref 0, .int x] 3 m_X11_tear [.ref 146, .int x] I J := by
  obtain ⟨n, kd, nd, od, lw, pot, hP, hK, hM⟩ := h.K
  have hZ := hK.Z
  obtain ⟨hR, hT⟩ := hP.ro
  by_cases hx : hasC 6 x = 0
  · exact Pair.q h (fun _ => no_f) (c_tear0 I J hZ hx) (fun I1 J1 e1 e2 => m_tear0 I1 J1 hx)
  obtain ⟨r, hr, rfl⟩ := hasN_yes (by decide) hx
  rcases ro_size hR hr with ⟨hs, hb⟩ | ⟨s, hs6, hs, hb, hv⟩
  · exact Pair.q h (fun f9 h9 => by cases h9; decide) (c_tear1 I J hZ hr hs) (fun I1 J1 e1 e2 => m_tear1 I1 J1 hr (by rw [e1 _ _ (by omega)]; exact hb))
  · refine Pair.m (c_tear2 I J hr hs6 hs) (m_tear2 _ J hr hs6 (by rw [uI_ne _ _ (by simp; omega)]; exact hb)) ?_
    have U : ∀ x k, ¬ (x = 111 + 2 * r ∧ k = 1) → ¬ (x = 148 ∧ k = r) → uI (uI I (111 + 2 * r) 1 (-1)) 148 r (-1) x k = I x k := fun x k a b => by
      rw [uI_ne _ _ (fun z => b (by cases z; exact ⟨rfl, rfl⟩)), uI_ne _ _ (fun z => a (by cases z; exact ⟨rfl, rfl⟩))]
    refine Inv.rt h (fun x k a1 a2 a3 a4 => U x k (by omega) (by omega)) (RoI.up hR (r := r) (fun q hq hne => ⟨U _ _ (by omega) (by omega), U _ _ (by omega) (by omega), fun i hi => ⟨U _ _ (by omega) (by omega), U _ _ (by omega) (by omega)⟩⟩) ?_) (RoI.congr (fun x k a => U x k (by omega) (by omega)) hT) (by rw [U _ _ (by omega) (by omega), U _ _ (by omega) (by omega)]; exact h.to)
    rw [uI_eq, uI_ne _ _ (by simp; omega), uI_eq]
    exact ⟨rfl, Or.inl rfl⟩
theorem p_mean {I : IntM} {J : LngM} (h : Inv I J) (x : Int32) : Pair 4 m_X10_mean [.ref 0, .int x] 3 m_X11_mean [.ref 146, .int x] I J := by
  obtain ⟨n, kd, nd, od, lw, pot, hP, hK, hM⟩ := h.K
  have hZ := hK.Z
  obtain ⟨hR, hT⟩ := hP.ro
  by_cases hx : hasC 6 x = 0
  · exact Pair.q h (fun _ => no_f) (c_mean0 I J hZ hx) (fun I1 J1 e1 e2 => m_mean0 I1 J1 hx)
  obtain ⟨r, hr, rfl⟩ := hasN_yes (by decide) hx
  rcases ro_size hR hr with ⟨hs, hb⟩ | ⟨s, hs6, hs, hb, hv⟩
  · exact Pair.q h (fun f9 h9 => by cases h9; decide) (c_mean1 I J hZ hr hs) (fun I1 J1 e1 e2 => m_mean1 I1 J1 hr (by rw [e1 _ _ (by omega)]; exact hb))
  · rcases Nat.eq_zero_or_pos s with h0 | h0
    · exact Pair.q h (fun f9 h9 => by cases h9; decide) (c_mean2 I J hZ hr hs6 hs h0) (fun I1 J1 e1 e2 => m_mean2 I1 J1 hr hs6 (by rw [e1 _ _ (by omega)]; exact hb) h0)
    · have hc := c_mean3 I J hZ hr hs6 hs h0
      rw [meV_cong (g := fun i => I 149 (60 * r + i)) hv] at hc
      exact Pair.q h (fun _ => no_f) hc (fun I1 J1 e1 e2 => by
        have hm := m_mean3 I1 J1 hr hs6 (by rw [e1 _ _ (by omega)]; exact hb) h0
        rw [meV_cong (g := fun i => I 149 (60 * r + i)) (fun i hi => e1 149 _ (by omega))] at hm
        exact hm)
theorem p_lay {I : IntM} {J : LngM} (h : Inv I J) (x i v : Int32) : Pair 3 m_X10_lay [.ref 0, .int x, .int i, .int v] 3 m_X11_lay [.ref 146, .int x, .int i, .int v] I J := by
  obtain ⟨n, kd, nd, od, lw, pot, hP, hK, hM⟩ := h.K
  have hZ := hK.Z
  obtain ⟨hR, hT⟩ := hP.ro
  by_cases hx : hasC 6 x = 0
  · exact Pair.q h (fun _ => no_f) (c_lay0 I J hZ hx) (fun I1 J1 e1 e2 => m_lay0 I1 J1 hx)
  obtain ⟨r, hr, rfl⟩ := hasN_yes (by decide) hx
  rcases ro_cases hR hr i with ⟨f, hf, m1, m2⟩ | ⟨s, k, hs6, hk, rfl, m1, m2, hs, hb, hv⟩
  · exact Pair.q h (fun f9 h9 => by cases h9; rcases hf with rfl | rfl <;> decide) (c_lay1 I J hZ hr hf m1) (fun I1 J1 e1 e2 => m_lay1 I1 J1 hr hf (by rw [e1 _ _ (by omega)]; exact m2))
  · have g : ∀ x k', 146 ≤ x → uI (uI I 0 13 (I (111 + 2 * r + 1) k)) (111 + 2 * r + 1) k v x k' = I x k' := fun x k' hx => by
      rw [uI_ne _ _ (by intro z; injection z with z1 z2; omega), uI_ne _ _ (by intro z; injection z with z1 z2; omega)]
    have hm := m_lay2 (uI (uI I 0 13 (I (111 + 2 * r + 1) k)) (111 + 2 * r + 1) k v) J hr (show k < 60 by omega) (by rw [g _ _ (by omega)]; exact m2) v
    rw [g _ _ (by omega)] at hm
    refine Pair.m (c_lay2 I J hr hs6 hk hs m1 v) hm ?_
    generalize hI2 : uI (uI (uI (uI I 0 13 (I (111 + 2 * r + 1) k)) (111 + 2 * r + 1) k v) 146 2 (I 149 (60 * r + k))) 149 (60 * r + k) v = I2
    have U : ∀ x q, ¬ (x = 0 ∧ q = 13) → ¬ (x = 111 + 2 * r + 1 ∧ q = k) → ¬ (x = 146 ∧ q = 2) → ¬ (x = 149 ∧ q = 60 * r + k) → I2 x q = I x q := fun x q a b c d => by
      rw [← hI2, uI_ne _ _ (fun z => d (by cases z; exact ⟨rfl, rfl⟩)), uI_ne _ _ (fun z => c (by cases z; exact ⟨rfl, rfl⟩)), uI_ne _ _ (fun z => b (by cases z; exact ⟨rfl, rfl⟩)), uI_ne _ _ (fun z => a (by cases z; exact ⟨rfl, rfl⟩))]
    refine Inv.rt h (fun x k a1 a2 a3 a4 => U x k (by omega) (by omega) (by omega) (by omega)) (RoI.up hR (r := r) (fun q hq hne => ⟨U _ _ (by omega) (by omega) (by omega) (by omega), U _ _ (by omega) (by omega) (by omega) (by omega), fun i hi => ⟨U _ _ (by omega) (by omega) (by omega) (by omega), U _ _ (by omega) (by omega) (by omega) (by omega)⟩⟩) ?_) (RoI.congr (fun x k a => U x k (by omega) (by omega) (by omega) (by omega)) hT) ?_
    · obtain ⟨r1, r2⟩ := hR r hr
      refine ⟨by rw [U _ _ (by omega) (by omega) (by omega) (by omega), U _ _ (by omega) (by omega) (by omega) (by omega)]; exact r1, Or.inr ⟨s, hs6, by rw [U _ _ (by omega) (by omega) (by omega) (by omega)]; exact hb, fun i hi => ?_⟩⟩
      by_cases hik : i = k
      · subst hik
        rw [← hI2, uI_eq, uI_ne _ _ (by intro z; injection z with z1 z2; omega), uI_ne _ _ (by intro z; injection z with z1 z2; omega), uI_eq]
      · rw [U _ _ (by omega) (by omega) (by omega) (by omega), U _ _ (by omega) (by omega) (by omega) (by omega)]
        rcases r2 with r2 | ⟨s', hs', r3, r4⟩
        · rw [hb] at r2
          exact absurd r2 (fun q => absurd (nI_pos (n := s) (by omega)) (by rw [q]; decide))
        · have e : s' = s := (nI_eq (by omega) (by omega)).mp (r3.symm.trans hb)
          exact r4 i (by omega)
    · rw [← hI2, uI_ne _ _ (by intro z; injection z with z1 z2; omega), uI_ne _ _ (by intro z; injection z with z1 z2; omega), uI_ne _ _ (by intro z; injection z with z1 z2; omega), uI_eq, uI_ne _ _ (by intro z; injection z with z1 z2; omega), uI_eq]
      exact hv
theorem p_put {I : IntM} {J : LngM} (h : Inv I J) (x i v : Int32) : Pair 3 m_X10_put [.ref 0, .int x, .int i, .int v] 3 m_X11_put [.ref 146, .int x, .int i, .int v] I J := by
  obtain ⟨n, kd, nd, od, lw, pot, hP, hK, hM⟩ := h.K
  have hZ := hK.Z
  obtain ⟨hR, hT⟩ := hP.ro
  by_cases hx : hasC 4 x = 0
  · exact Pair.q h (fun _ => no_f) (c_put0 I J hZ hx) (fun I1 J1 e1 e2 => m_put0 I1 J1 hx)
  obtain ⟨r, hr, rfl⟩ := hasN_yes (by decide) hx
  rcases ro_size hT hr with ⟨hs, hb⟩ | ⟨s, hs6, hs, hb, hv⟩
  · exact Pair.q h (fun f9 h9 => by cases h9; decide) (c_put1 I J hZ hr (Or.inl rfl) (by unfold misP; rw [hs]; rfl)) (fun I1 J1 e1 e2 => m_put1 I1 J1 hr (by rw [e1 _ _ (by omega)]; exact hb))
  have e0 : ¬ nI s < 0 := nI_pos (by omega)
  by_cases hi : hasC s i = 0
  · exact Pair.q h (fun f9 h9 => by cases h9; decide) (c_put1 I J hZ hr (Or.inr rfl) (by unfold misP; rw [hs, if_neg e0, hasv_C hs hs6, if_pos hi]; rfl)) (fun I1 J1 e1 e2 => m_put2 I1 J1 hr hs6 (by rw [e1 _ _ (by omega)]; exact hb) hi)
  obtain ⟨k, hk, rfl⟩ := hasN_yes (by omega) hi
  have m1 : misP I (123 + 2 * r) (nI k) = 0 := by unfold misP; rw [hs, if_neg e0, hasv_C hs hs6, if_neg hi]
  have g : ∀ x k', 146 ≤ x → uI I (123 + 2 * r + 1) k v.toInt8.toInt32 x k' = I x k' := fun x k' hx => by
    rw [uI_ne _ _ (by intro z; injection z with z1 z2; omega)]
  have hm := m_put3 (uI I (123 + 2 * r + 1) k v.toInt8.toInt32) J hr hs6 (by rw [g _ _ (by omega)]; exact hb) hk v
  rw [g _ _ (by omega), ← hv k hk] at hm
  refine Pair.m (c_put2 I J hr hs6 hk hs m1 v) hm ?_
  generalize hI2 : uI (uI I (123 + 2 * r + 1) k v.toInt8.toInt32) 151 (60 * r + k) v.toInt8.toInt32 = I2
  have U : ∀ x q, ¬ (x = 123 + 2 * r + 1 ∧ q = k) → ¬ (x = 151 ∧ q = 60 * r + k) → I2 x q = I x q := fun x q b d => by
    rw [← hI2, uI_ne _ _ (fun z => d (by cases z; exact ⟨rfl, rfl⟩)), uI_ne _ _ (fun z => b (by cases z; exact ⟨rfl, rfl⟩))]
  refine Inv.rt h (fun x k a1 a2 a3 a4 => U x k (by omega) (by omega)) (RoI.congr (fun x k a => U x k (by omega) (by omega)) hR) (RoI.up hT (r := r) (fun q hq hne => ⟨U _ _ (by omega) (by omega), U _ _ (by omega) (by omega), fun i hi => ⟨U _ _ (by omega) (by omega), U _ _ (by omega) (by omega)⟩⟩) ?_) (by rw [U _ _ (by omega) (by omega), U _ _ (by omega) (by omega)]; exact h.to)
  refine ⟨by rw [U _ _ (by omega) (by omega), U _ _ (by omega) (by omega)]; exact hs.trans hb.symm, Or.inr ⟨s, hs6, by rw [U _ _ (by omega) (by omega)]; exact hb, fun i hi => ?_⟩⟩
  by_cases hik : i = k
  · subst hik
    rw [← hI2, uI_eq, uI_ne _ _ (by intro z; injection z with z1 z2; omega), uI_eq]
  · rw [U _ _ (by omega) (by omega), U _ _ (by omega) (by omega)]
    exact hv i hi
theorem p_row {I : IntM} {J : LngM} (h : Inv I J) (x y : Int32) : Pair 4 m_X10_row [.ref 0, .int x, .int y] 3 m_X11_row [.ref 146, .int x, .int y] I J := by
  obtain ⟨n, kd, nd, od, lw, pot, hP, hK, hM⟩ := h.K
  have hZ := hK.Z
  obtain ⟨hR, hT⟩ := hP.ro
  by_cases hx : hasC 6 x = 0
  · exact Pair.q h (fun _ => no_f) (c_row0 I J hZ hx) (fun I1 J1 e1 e2 => m_row0 I1 J1 hx)
  obtain ⟨r, hr, rfl⟩ := hasN_yes (by decide) hx
  by_cases hy : y ≤ 60
  · by_cases hy0 : y < 0
    · exact Pair.q h (fun f9 h9 => by cases h9; decide) (c_row2 I J hZ hr hy0) (fun I1 J1 e1 e2 => m_row2 I1 J1 hr hy0)
    · obtain ⟨s, hs6, rfl⟩ := nI_of2 (M := 60) (n := 60) (by decide) hy0 hy
      refine Pair.m (c_row3 I J hr hs6) (m_row3 _ J hr hs6) ?_
      generalize hI2 : fillR (uI (fillI (uI I (111 + 2 * r) 1 (nI s)) (111 + 2 * r + 1) s 0) 148 r (nI s)) 149 (60 * r) 60 0 = I2
      have U : ∀ x q, ¬ (x = 111 + 2 * r ∧ q = 1) → ¬ (x = 111 + 2 * r + 1) → ¬ (x = 148 ∧ q = r) → ¬ (x = 149 ∧ 60 * r ≤ q ∧ q < 60 * r + 60) → I2 x q = I x q := fun x q a b c d => by
        rw [← hI2]
        unfold fillR
        rw [if_neg d, uI_ne _ _ (fun z => c (by cases z; exact ⟨rfl, rfl⟩))]
        unfold fillI
        rw [if_neg (by omega), uI_ne _ _ (fun z => a (by cases z; exact ⟨rfl, rfl⟩))]
      refine Inv.rt h (fun x k a1 a2 a3 a4 => U x k (by omega) (by omega) (by omega) (by omega)) (RoI.up hR (r := r) (fun q hq hne => ⟨U _ _ (by omega) (by omega) (by omega) (by omega), U _ _ (by omega) (by omega) (by omega) (by omega), fun i hi => ⟨U _ _ (by omega) (by omega) (by omega) (by omega), U _ _ (by omega) (by omega) (by omega) (by omega)⟩⟩) ?_) (RoI.congr (fun x k a => U x k (by omega) (by omega) (by omega) (by omega)) hT) (by rw [U _ _ (by omega) (by omega) (by omega) (by omega), U _ _ (by omega) (by omega) (by omega) (by omega)]; exact h.to)
      have b1 : I2 148 r = nI s := by
        rw [← hI2]
        unfold fillR
        rw [if_neg (by omega), uI_eq]
      have b2 : I2 (111 + 2 * r) 1 = nI s := by
        rw [← hI2]
        unfold fillR
        rw [if_neg (by omega), uI_ne _ _ (by intro z; injection z with z1 z2; omega)]
        unfold fillI
        rw [if_neg (by omega), uI_eq]
      refine ⟨b2.trans b1.symm, Or.inr ⟨s, hs6, b1, fun i hi => ?_⟩⟩
      rw [← hI2]
      unfold fillR
      rw [if_neg (by omega), if_pos (by omega), uI_ne _ _ (by intro z; injection z with z1 z2; omega)]
      unfold fillI
      rw [if_pos ⟨rfl, hi⟩]
  · exact Pair.q h (fun _ => no_f) (c_row1 I J hZ hr hy) (fun I1 J1 e1 e2 => m_row1 I1 J1 hr hy)
theorem p_text {I : IntM} {J : LngM} (h : Inv I J) (x y : Int32) : Pair 4 m_X10_text [.ref 0, .int x, .int y] 3 m_X11_text [.ref 146, .int x, .int y] I J := by
  obtain ⟨n, kd, nd, od, lw, pot, hP, hK, hM⟩ := h.K
  have hZ := hK.Z
  obtain ⟨hR, hT⟩ := hP.ro
  by_cases hx : hasC 4 x = 0
  · exact Pair.q h (fun _ => no_f) (c_text0 I J hZ hx) (fun I1 J1 e1 e2 => m_text0 I1 J1 hx)
  obtain ⟨r, hr, rfl⟩ := hasN_yes (by decide) hx
  by_cases hy : y ≤ 60
  · by_cases hy0 : y < 0
    · exact Pair.q h (fun f9 h9 => by cases h9; decide) (c_text2 I J hZ hr hy0) (fun I1 J1 e1 e2 => m_text2 I1 J1 hr hy0)
    · obtain ⟨s, hs6, rfl⟩ := nI_of2 (M := 60) (n := 60) (by decide) hy0 hy
      refine Pair.m (c_text3 I J hr hs6) (m_text3 _ J hr hs6) ?_
      generalize hI2 : fillR (uI (fillI (uI I (123 + 2 * r) 1 (nI s)) (123 + 2 * r + 1) s 32) 150 r (nI s)) 151 (60 * r) 60 32 = I2
      have U : ∀ x q, ¬ (x = 123 + 2 * r ∧ q = 1) → ¬ (x = 123 + 2 * r + 1) → ¬ (x = 150 ∧ q = r) → ¬ (x = 151 ∧ 60 * r ≤ q ∧ q < 60 * r + 60) → I2 x q = I x q := fun x q a b c d => by
        rw [← hI2]
        unfold fillR
        rw [if_neg d, uI_ne _ _ (fun z => c (by cases z; exact ⟨rfl, rfl⟩))]
        unfold fillI
        rw [if_neg (by omega), uI_ne _ _ (fun z => a (by cases z; exact ⟨rfl, rfl⟩))]
      refine Inv.rt h (fun x k a1 a2 a3 a4 => U x k (by omega) (by omega) (by omega) (by omega)) (RoI.congr (fun x k a => U x k (by omega) (by omega) (by omega) (by omega)) hR) (RoI.up hT (r := r) (fun q hq hne => ⟨U _ _ (by omega) (by omega) (by omega) (by omega), U _ _ (by omega) (by omega) (by omega) (by omega), fun i hi => ⟨U _ _ (by omega) (by omega) (by omega) (by omega), U _ _ (by omega) (by omega) (by omega) (by omega)⟩⟩) ?_) (by rw [U _ _ (by omega) (by omega) (by omega) (by omega), U _ _ (by omega) (by omega) (by omega) (by omega)]; exact h.to)
      have b1 : I2 150 r = nI s := by
        rw [← hI2]
        unfold fillR
        rw [if_neg (by omega), uI_eq]
      have b2 : I2 (123 + 2 * r) 1 = nI s := by
        rw [← hI2]
        unfold fillR
        rw [if_neg (by omega), uI_ne _ _ (by intro z; injection z with z1 z2; omega)]
        unfold fillI
        rw [if_neg (by omega), uI_eq]
      refine ⟨b2.trans b1.symm, Or.inr ⟨s, hs6, b1, fun i hi => ?_⟩⟩
      rw [← hI2]
      unfold fillR
      rw [if_neg (by omega), if_pos (by omega), uI_ne _ _ (by intro z; injection z with z1 z2; omega)]
      unfold fillI
      rw [if_pos ⟨rfl, hi⟩]
  · exact Pair.q h (fun _ => no_f) (c_text1 I J hZ hr hy) (fun I1 J1 e1 e2 => m_text1 I1 J1 hr hy)
theorem p_copy {I : IntM} {J : LngM} (h : Inv I J) (x i z j w : Int32) : Pair 3 m_X10_copy [.ref 0, .int x, .int i, .int z, .int j, .int w] 3 m_X11_copy [.ref 146, .int x, .int i, .int z, .int j, .int w] I J := by
  obtain ⟨n, kd, nd, od, lw, pot, hP, hK, hM⟩ := h.K
  have hZ := hK.Z
  obtain ⟨hR, hT⟩ := hP.ro
  by_cases hx : hasC 6 x = 0
  · by_cases hz : hasC 6 z = 0
    · exact Pair.q h (fun _ => no_f) (c_copy0a I J hZ hx hz) (fun I1 J1 e1 e2 => m_copy0a I1 J1 hx)
    · obtain ⟨t, ht, e⟩ := hasN_yes (by decide) hz
      exact Pair.q h (fun _ => no_f) (c_copy0b I J hZ hx ht e) (fun I1 J1 e1 e2 => m_copy0a I1 J1 hx)
  obtain ⟨r, hr, hxr⟩ := hasN_yes (by decide) hx
  by_cases hz : hasC 6 z = 0
  · exact Pair.q h (fun _ => no_f) (c_copy0c I J hZ hr hxr hz) (fun I1 J1 e1 e2 => m_copy0b I1 J1 hr hxr hz)
  obtain ⟨t, ht, rfl⟩ := hasN_yes (by decide) hz
  subst hxr
  by_cases hn : w < 0
  · exact Pair.q h (fun f9 h9 => by cases h9; decide) (c_copy1 I J hZ hr ht hn) (fun I1 J1 e1 e2 => m_copy1 I1 J1 hr ht hn)
  rcases ro_size hR hr with ⟨hs, hb⟩ | ⟨s, hs6, hs, hb, hv⟩
  · exact Pair.q h (fun f9 h9 => by cases h9; decide) (c_copy2a I J hZ hr ht hn hs) (fun I1 J1 e1 e2 => m_copy2a I1 J1 hr ht hn (by rw [e1 _ _ (by omega)]; exact hb))
  rcases ro_size hR ht with ⟨hu, hb2⟩ | ⟨u, hu6, hu, hb2, hv2⟩
  · exact Pair.q h (fun f9 h9 => by cases h9; decide) (c_copy2b I J hZ hr ht hn hs6 hs hu) (fun I1 J1 e1 e2 => m_copy2b I1 J1 hr ht hn hs6 (by rw [e1 _ _ (by omega)]; exact hb) (by rw [e1 _ _ (by omega)]; exact hb2))
  by_cases h1 : spV (nI s) i w = 0
  · exact Pair.q h (fun f9 h9 => by cases h9; decide) (c_copy3a I J hZ hr ht hn hs6 hs hu6 hu h1) (fun I1 J1 e1 e2 => m_copy3a I1 J1 hr ht hn hs6 (by rw [e1 _ _ (by omega)]; exact hb) hu6 (by rw [e1 _ _ (by omega)]; exact hb2) h1)
  by_cases h2 : spV (nI u) j w = 0
  · exact Pair.q h (fun f9 h9 => by cases h9; decide) (c_copy3b I J hZ hr ht hn hs6 hs hu6 hu h1 h2) (fun I1 J1 e1 e2 => m_copy3b I1 J1 hr ht hn hs6 (by rw [e1 _ _ (by omega)]; exact hb) hu6 (by rw [e1 _ _ (by omega)]; exact hb2) h1 h2)
  obtain ⟨a, c, rfl, rfl, ha⟩ := sp_yes hs6 hn h1
  obtain ⟨b, c', rfl, ec, hbb⟩ := sp_yes hu6 hn h2
  have hbc : b + c ≤ u := by
    rcases Nat.lt_or_ge c' (2 ^ 31) with q | q
    · rw [(nI_eq (by omega) q).mp ec]; exact hbb
    · omega
  have g : ∀ x k', 146 ≤ x → cpI I (111 + 2 * r + 1) a (111 + 2 * t + 1) b c x k' = I x k' := fun x k' hx => by
    unfold cpI
    rw [if_neg (by omega)]
  refine Pair.m (c_copy4 I J hr ht hs6 hs hu6 hu hn h1 h2 ha hbc) (m_copy4 _ J hr ht hs6 (by rw [g _ _ (by omega)]; exact hb) hu6 (by rw [g _ _ (by omega)]; exact hb2) hn h1 h2 ha hbc) ?_
  generalize hI2 : cpA (cpI I (111 + 2 * r + 1) a (111 + 2 * t + 1) b c) 149 (60 * r + a) (60 * t + b) c = I2
  have U : ∀ x q, ¬ (x = 111 + 2 * t + 1 ∧ b ≤ q ∧ q < b + c) → ¬ (x = 149 ∧ 60 * t + b ≤ q ∧ q < 60 * t + b + c) → I2 x q = I x q := fun x q a1 a2 => by
    rw [← hI2]
    unfold cpA
    rw [if_neg a2]
    unfold cpI
    rw [if_neg a1]
  refine Inv.rt h (fun x k a1 a2 a3 a4 => U x k (by omega) (by omega)) (RoI.up hR (r := t) (fun q hq hne => ⟨U _ _ (by omega) (by omega), U _ _ (by omega) (by omega), fun i hi => ⟨U _ _ (by omega) (by omega), U _ _ (by omega) (by omega)⟩⟩) ?_) (RoI.congr (fun x k a => U x k (by omega) (by omega)) hT) (by rw [U _ _ (by omega) (by omega), U _ _ (by omega) (by omega)]; exact h.to)
  refine ⟨by rw [U _ _ (by omega) (by omega), U _ _ (by omega) (by omega)]; exact hu.trans hb2.symm, Or.inr ⟨u, hu6, by rw [U _ _ (by omega) (by omega)]; exact hb2, fun i hi => ?_⟩⟩
  by_cases hin : b ≤ i ∧ i < b + c
  · have c1 : I2 (111 + 2 * t + 1) i = I (111 + 2 * r + 1) (a + (i - b)) := by
      rw [← hI2]
      unfold cpA
      rw [if_neg (by omega)]
      unfold cpI
      rw [if_pos ⟨rfl, hin.1, hin.2⟩]
    have c2 : I2 149 (60 * t + i) = I 149 (60 * r + (a + (i - b))) := by
      rw [← hI2]
      unfold cpA
      rw [if_pos (by omega), g _ _ (by omega)]
      congr 1
      omega
    rw [c1, c2]
    exact hv _ (by omega)
  · rw [U _ _ (by omega) (by omega), U _ _ (by omega) (by omega)]
    exact hv2 i hi
