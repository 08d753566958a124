
/-! ===== pairs: a call of both, with the same answer, and the state of both goes on together ===== -/
def KV (m : Mth) (v : Value) : Prop := match m.2.2.2.2 with
  | some .long => ∃ z : Int64, v = .long z
  | _ => ∃ z : Int32, v = .int z
def Pair (d1 : Nat) (m1 : Mth) (as1 : List Value) (d2 : Nat) (m2 : Mth) (as2 : List Value) (I : IntM) (J : LngM) : Prop := ∃ v : Value, KV m1 v ∧ CtP d1 m1 as1 I J (fun r I1 J1 => r = some v ∧ CtP d2 m2 as2 I1 J1 (fun r' I2 J2 => r' = some v ∧ Inv I2 J2))
theorem Pair.q {d1 d2 : Nat} {m1 m2 : Mth} {as1 as2 : List Value} {I : IntM} {J : LngM} {v : Value} {to : Option Int32} {fr : Option (Int × Nat)} {fo : Option Nat} (h : Inv I J) (hf : ∀ f, fo = some f → f < 6) (hc : CtP d1 m1 as1 I J (QC I J v to fr fo)) (hm : ∀ I1 J1, (∀ x k, 146 ≤ x → I1 x k = I x k) → (∀ x k, 146 ≤ x → J1 x k = J x k) → CtP d2 m2 as2 I1 J1 (QM I1 J1 v to fr fo)) (hv : KV m1 v := by first | exact (show ∃ z : Int32, _ = Value.int z from ⟨_, rfl⟩) | exact (show ∃ z : Int64, _ = Value.long z from ⟨_, rfl⟩)) : Pair d1 m1 as1 d2 m2 as2 I J :=
  ⟨v, hv, CtP_mono hc (fun r I1 J1 q => ⟨q.1, CtP_mono (hm I1 J1 (QC.mid hf q).1 (QC.mid hf q).2) (fun r' I2 J2 q' => ⟨q'.1, Inv.query hf h q q'⟩)⟩)⟩
theorem no_f {α : Type} {f : α} {p : Prop} (h : (none : Option α) = some f) : p := by cases h
theorem InvP.CK {I : IntM} {J : LngM} {n : Nat} {kd nd od : Nat → Nat} {lw pot : Nat} (h : InvP I J n kd nd od lw pot) (hZ : ISz I) : CK I n kd nd od lw pot := by
  obtain ⟨⟨h1, h2, h3, h4, h5, h6, -, -, -, -⟩, -⟩ := h
  exact ⟨h1, h2, h3, h4, h5, h6, hZ⟩
theorem InvP.MK {I : IntM} {J : LngM} {n : Nat} {kd nd od : Nat → Nat} {lw pot : Nat} (h : InvP I J n kd nd od lw pot) : MK I n kd nd od lw pot := by
  obtain ⟨⟨h1, h2, h3, -, -, -, h7, h8, h9, h10⟩, -⟩ := h
  exact ⟨h1, h2, h3, h7, h8, h9, h10⟩
theorem Inv.K {I : IntM} {J : LngM} (h : Inv I J) : ∃ n kd nd od lw pot, InvP I J n kd nd od lw pot ∧ CK I n kd nd od lw pot ∧ ∀ I1 : IntM, (∀ x k, 146 ≤ x → I1 x k = I x k) → MK I1 n kd nd od lw pot := by
  obtain ⟨⟨n, kd, nd, od, lw, pot, hP⟩, hT, hZ⟩ := h
  exact ⟨n, kd, nd, od, lw, pot, hP, InvP.CK hP hZ, fun I1 h1 => MK.fr (fun x k q => h1 x k (by omega)) (InvP.MK hP)⟩

theorem p_evening {I : IntM} {J : LngM} (h : Inv I J) (x : Int32) : Pair 5 m_X10_evening [.ref 0, .int x] 7 m_X11_evening [.ref 146, .int x] I J := by
  obtain ⟨n, kd, nd, od, lw, pot, hP, hK, hM⟩ := h.K
  by_cases hx : howv x = 0
  · exact Pair.q h (fun _ => no_f) (c_evening0 I J hK hx) (fun I1 J1 e1 e2 => m_evening0 I1 J1 (hM I1 e1) hx)
  obtain ⟨how, hh, rfl⟩ := howv_yes hx
  exact Pair.q h (fun _ => no_f) (c_evening I J hK hh) (fun I1 J1 e1 e2 => m_evening I1 J1 (hM I1 e1) hh)
theorem p_place {I : IntM} {J : LngM} (h : Inv I J) (x y z : Int32) : Pair 5 m_X10_place [.ref 0, .int x, .int y, .int z] 7 m_X11_place [.ref 146, .int x, .int y, .int z] I J := by
  obtain ⟨n, kd, nd, od, lw, pot, hP, hK, hM⟩ := h.K
  by_cases hx : hasC n x = 0
  · exact Pair.q h (fun _ => no_f) (c_place0 I J hK (Or.inl hx)) (fun I1 J1 e1 e2 => m_place0 I1 J1 (hM I1 e1) (Or.inl hx))
  obtain ⟨kx, hkx, rfl⟩ := hasC_yes hK.n7 hx
  by_cases hy : hasC n y = 0
  · exact Pair.q h (fun _ => no_f) (c_place0 I J hK (Or.inr (Or.inl hy))) (fun I1 J1 e1 e2 => m_place0 I1 J1 (hM I1 e1) (Or.inr (Or.inl hy)))
  obtain ⟨ky, hky, rfl⟩ := hasC_yes hK.n7 hy
  by_cases hz : howv z = 0
  · exact Pair.q h (fun _ => no_f) (c_place0 I J hK (Or.inr (Or.inr hz))) (fun I1 J1 e1 e2 => m_place0 I1 J1 (hM I1 e1) (Or.inr (Or.inr hz)))
  obtain ⟨how, hh, rfl⟩ := howv_yes hz
  exact Pair.q h (fun _ => no_f) (c_place I J hK hh hkx hky) (fun I1 J1 e1 e2 => m_place I1 J1 (hM I1 e1) hh hkx hky)
theorem p_favours {I : IntM} {J : LngM} (h : Inv I J) (x z : Int32) : Pair 5 m_X10_favours [.ref 0, .int x, .int z] 7 m_X11_favours [.ref 146, .int x, .int z] I J := by
  obtain ⟨n, kd, nd, od, lw, pot, hP, hK, hM⟩ := h.K
  by_cases hx : hasC n x = 0
  · exact Pair.q h (fun _ => no_f) (c_favours0 I J hK (Or.inl hx)) (fun I1 J1 e1 e2 => m_favours0 I1 J1 (hM I1 e1) (Or.inl hx))
  obtain ⟨kx, hkx, rfl⟩ := hasC_yes hK.n7 hx
  by_cases hz : howv z = 0
  · exact Pair.q h (fun _ => no_f) (c_favours0 I J hK (Or.inr hz)) (fun I1 J1 e1 e2 => m_favours0 I1 J1 (hM I1 e1) (Or.inr hz))
  obtain ⟨how, hh, rfl⟩ := howv_yes hz
  exact Pair.q h (fun _ => no_f) (c_favours I J hK hh hkx) (fun I1 J1 e1 e2 => m_favours I1 J1 (hM I1 e1) hh hkx)
theorem days {y : Int32} {m : Nat} (hm : m ≤ 100) (h1 : ¬ y < 1) (h2 : ¬ nI m < y) : ∃ d, 1 ≤ d ∧ d ≤ m ∧ y = nI d := by
  have a1 : ¬ y.toInt < 1 := fun q => h1 (Int32.lt_iff_toInt_lt.mpr q)
  have a2 : ¬ (m : Int) < y.toInt := fun q => h2 (Int32.lt_iff_toInt_lt.mpr (by rw [nI_toInt (by omega)]; exact q))
  refine ⟨y.toInt.toNat, by omega, by omega, ?_⟩
  apply Int32.toInt_inj.mp
  rw [nI_toInt (by omega)]
  omega
theorem p_week {I : IntM} {J : LngM} (h : Inv I J) (x y z : Int32) : Pair 5 m_X10_week [.ref 0, .int x, .int y, .int z] 7 m_X11_week [.ref 146, .int x, .int y, .int z] I J := by
  obtain ⟨n, kd, nd, od, lw, pot, hP, hK, hM⟩ := h.K
  by_cases hx : hasC n x = 0
  · exact Pair.q h (fun _ => no_f) (c_week0 I J hK (Or.inl hx)) (fun I1 J1 e1 e2 => m_week0 I1 J1 (hM I1 e1) (Or.inl hx))
  obtain ⟨kx, hkx, rfl⟩ := hasC_yes hK.n7 hx
  by_cases hy1 : y < 1
  · exact Pair.q h (fun _ => no_f) (c_week0 I J hK (Or.inr (Or.inl hy1))) (fun I1 J1 e1 e2 => m_week0 I1 J1 (hM I1 e1) (Or.inr (Or.inl hy1)))
  by_cases hy2 : 7 < y
  · exact Pair.q h (fun _ => no_f) (c_week0 I J hK (Or.inr (Or.inr (Or.inl hy2)))) (fun I1 J1 e1 e2 => m_week0 I1 J1 (hM I1 e1) (Or.inr (Or.inr (Or.inl hy2))))
  obtain ⟨dd, hd1, hd2, rfl⟩ := days (m := 7) (by decide) hy1 hy2
  by_cases hz : howv z = 0
  · exact Pair.q h (fun _ => no_f) (c_week0 I J hK (Or.inr (Or.inr (Or.inr hz)))) (fun I1 J1 e1 e2 => m_week0 I1 J1 (hM I1 e1) (Or.inr (Or.inr (Or.inr hz))))
  obtain ⟨how, hh, rfl⟩ := howv_yes hz
  exact Pair.q h (fun _ => no_f) (c_week I J hK hh hkx hd1 hd2) (fun I1 J1 e1 e2 => m_week I1 J1 (hM I1 e1) hh hkx hd1 hd2)
theorem p_kind {I : IntM} {J : LngM} (h : Inv I J) (x : Int32) : Pair 4 m_X10_kind [.ref 0, .int x] 7 m_X11_kind [.ref 146, .int x] I J := by
  obtain ⟨n, kd, nd, od, lw, pot, hP, hK, hM⟩ := h.K
  by_cases hx : howv x = 0
  · exact Pair.q h (fun _ => no_f) (c_kind0 I J hK hx) (fun I1 J1 e1 e2 => m_kind0 I1 J1 (hM I1 e1) hx)
  obtain ⟨how, hh, rfl⟩ := howv_yes hx
  rcases Nat.eq_zero_or_pos n with h0 | h0
  · exact Pair.q h (fun _ => no_f) (c_kind1 I J hK hh h0) (fun I1 J1 e1 e2 => m_kind1 I1 J1 (hM I1 e1) hh h0)
  exact Pair.q h (fun _ => no_f) (c_kind I J hK hh h0) (fun I1 J1 e1 e2 => m_kind I1 J1 (hM I1 e1) hh h0)
theorem p_two {I : IntM} {J : LngM} (h : Inv I J) (x : Int32) : Pair 4 m_X10_two [.ref 0, .int x] 7 m_X11_two [.ref 146, .int x] I J := by
  obtain ⟨n, kd, nd, od, lw, pot, hP, hK, hM⟩ := h.K
  by_cases hx : howv x = 0
  · exact Pair.q h (fun _ => no_f) (c_two0 I J hK hx) (fun I1 J1 e1 e2 => m_two0 I1 J1 (hM I1 e1) hx)
  obtain ⟨how, hh, rfl⟩ := howv_yes hx
  exact Pair.q h (fun _ => no_f) (c_two I J hK hh) (fun I1 J1 e1 e2 => m_two I1 J1 (hM I1 e1) hh)
theorem p_scales {I : IntM} {J : LngM} (h : Inv I J) : Pair 6 m_X10_scales [.ref 0] 7 m_X11_scales [.ref 146] I J := by
  obtain ⟨n, kd, nd, od, lw, pot, hP, hK, hM⟩ := h.K
  exact Pair.q h (fun _ => no_f) (c_scales I J hK) (fun I1 J1 e1 e2 => m_scales I1 J1 (hM I1 e1))
theorem p_cheats {I : IntM} {J : LngM} (h : Inv I J) : Pair 5 m_X10_cheats [.ref 0] 7 m_X11_cheats [.ref 146] I J := by
  obtain ⟨n, kd, nd, od, lw, pot, hP, hK, hM⟩ := h.K
  exact Pair.q h (fun _ => no_f) (c_cheats I J hK) (fun I1 J1 e1 e2 => m_cheats I1 J1 (hM I1 e1))
