
/-! ===== what the constructors leave: the shapes, the references, and what both hold in common ===== -/
theorem HF_S : hS HF = SH := by decide +kernel
theorem HF_T : HF.map (fun r => r.2.2.1) = RFt := by decide +kernel
theorem HF_R : hR HF = RF := by
  funext a k
  unfold hR RF
  rw [← HF_T, show (HF.map (fun r => r.2.2.1)).getD a [] = ((HF[a]?).map (fun r => r.2.2.1)).getD [] from by rw [List.getD_eq_getElem?_getD, List.getElem?_map]]
  cases HF[a]? <;> rfl
theorem no_lt {n : Nat} {p : Prop} (h : n < 0) : p := absurd h (Nat.not_lt_zero n)
theorem inv0 : Inv (hI HF) (hJ HF) := by
  have hr : ∀ r, r < 6 → (hI HF (111 + 2 * r) 1 = hI HF 148 r ∧ hI HF 148 r = -1) := by decide +kernel
  have ht : ∀ r, r < 4 → (hI HF (123 + 2 * r) 1 = hI HF 150 r ∧ hI HF 150 r = -1) := by decide +kernel
  have hk : ∀ c, c < 3 → (hI HF (131 + 5 * c + 1) 1 = nI 7 ∧ hI HF (131 + 5 * c) 2 = 0 ∧ hI HF 163 c = -1) := by decide +kernel
  have hf : ∀ f, f < 6 → hI HF 110 f = hI HF 147 f := by decide +kernel
  have h1 : hI HF 8 3 = nI 0 ∧ hI HF 9 1 = nI 7 ∧ hI HF 11 1 = nI 7 ∧ hI HF 13 1 = nI 7 ∧ hI HF 8 4 = nI 0 ∧ hI HF 8 5 = nI 0 ∧ hI HF 146 19 = nI 0 ∧ hI HF 146 18 = nI 0 ∧ hI HF 146 17 = nI 0 := by decide +kernel
  have h2 : hI HF 15 3 = nI 0 ∧ hI HF 15 4 = nI 0 ∧ hI HF 15 6 = nI 0 ∧ hI HF 146 30 = nI 0 ∧ hI HF 146 32 = nI 0 := by decide +kernel
  have h3 : hJ HF 15 5 = lN 0 ∧ hJ HF 146 35 = lN 0 ∧ hJ HF 146 36 = 1 := by decide +kernel
  have h4 : hI HF 4 1 = nI 7 ∧ hI HF 6 1 = nI 7 ∧ hI HF 16 1 = nI 7 ∧ hI HF 0 12 = hI HF 146 0 := by decide +kernel
  have h5 : hI HF 0 13 = hI HF 146 2 ∧ hJ HF 0 14 = hJ HF 146 3 ∧ hJ HF 0 15 = hJ HF 146 4 := by decide +kernel
  obtain ⟨a1, a2, a3, a4, a5, a6, a7, a8, a9⟩ := h1
  obtain ⟨b1, b2, b3, b4, b5⟩ := h2
  obtain ⟨c1, c2, c3⟩ := h3
  obtain ⟨d1, d2, d3, d4⟩ := h4
  refine ⟨⟨0, (fun _ => 0), (fun _ => 0), (fun _ => 0), 0, 0, ⟨⟨by decide, fun k q => no_lt q, fun k q => no_lt q, fun k q => no_lt q, fun i j q => no_lt q⟩, by decide, by decide, ⟨a1, fun k q => no_lt q, fun k q => no_lt q, fun k q => no_lt q, a2, a3, a4⟩, a5, a6, ⟨a7, fun k q => no_lt q, fun k q => no_lt q⟩, fun k q => no_lt q, a8, a9⟩, ?_, fun c q => ⟨(hk c q).1, Or.inl (hk c q).2⟩, fun r q => ⟨(hr r q).1, Or.inl (hr r q).2⟩, fun r q => ⟨(ht r q).1, Or.inl (ht r q).2⟩, ⟨d4, hf⟩, d1, d2, d3⟩, h5, ?_⟩
  · refine ⟨0, 0, (fun _ => 0), 0, (fun _ => 0), ⟨by decide, Nat.le_refl _, ⟨fun i q => no_lt q, fun i j q => no_lt q⟩, Nat.zero_le _, fun _ => Nat.dvd_zero _, fun i q => no_lt q⟩, ⟨b1, b2, c1, b3, fun k q => no_lt q, fun i q => no_lt q⟩, ⟨b4, b5, ?_, fun k q => no_lt q, fun i q => no_lt q⟩⟩
    rw [c2, c3]
    have := Fr.of_pot 0 0
    rw [Nat.zero_mul] at this
    exact this
  · have s : ∀ a, a ∈ [21, 34, 48, 61, 77, 91] → SzS (hI HF) a := by
      intro a h
      simp only [List.mem_cons, List.not_mem_nil, or_false] at h
      rcases h with rfl | rfl | rfl | rfl | rfl | rfl <;> exact ⟨by decide +kernel, by decide +kernel, by decide +kernel, by decide +kernel, by decide +kernel⟩
    exact ⟨s _ (by decide), s _ (by decide), s _ (by decide), s _ (by decide), s _ (by decide), s _ (by decide), by decide +kernel, by decide +kernel, by decide +kernel, by decide +kernel⟩

