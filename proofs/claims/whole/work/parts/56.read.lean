
/-! ===== a table read: what it says ===== -/
def kdN (c : Int32) : Option Nat := if c = 101 then some 0 else if c = 103 then some 1 else if c = 99 then some 2 else if c = 110 then some 3 else if c = 100 then some 4 else if c = 107 then some 5 else none
def kvI (z : Int32) : Option Nat → Int32 := fun x => match x with
  | none => z
  | some k => nI k
theorem kdN_le {c : Int32} {k : Nat} (h : kdN c = some k) : k ≤ 5 := by
  unfold kdN at h
  by_cases h1 : c = 101
  · rw [if_pos h1] at h; cases h; decide
  rw [if_neg h1] at h
  by_cases h2 : c = 103
  · rw [if_pos h2] at h; cases h; decide
  rw [if_neg h2] at h
  by_cases h3 : c = 99
  · rw [if_pos h3] at h; cases h; decide
  rw [if_neg h3] at h
  by_cases h4 : c = 110
  · rw [if_pos h4] at h; cases h; decide
  rw [if_neg h4] at h
  by_cases h5 : c = 100
  · rw [if_pos h5] at h; cases h; decide
  rw [if_neg h5] at h
  by_cases h6 : c = 107
  · rw [if_pos h6] at h; cases h; decide
  rw [if_neg h6] at h
  cases h
theorem kdN_lt : ∀ i, i < 6 → kdN (ltr i) = some i := by decide
theorem kdN_no {c : Int32} (h : ∀ j, j < 6 → ¬ ltr j = c) : kdN c = none := by
  have g : ∀ j, j < 6 → ¬ c = ltr j := fun j hj e => h j hj e.symm
  unfold kdN
  rw [if_neg (show ¬ c = 101 from g 0 (by decide)), if_neg (show ¬ c = 103 from g 1 (by decide)), if_neg (show ¬ c = 99 from g 2 (by decide)), if_neg (show ¬ c = 110 from g 3 (by decide)), if_neg (show ¬ c = 100 from g 4 (by decide)), if_neg (show ¬ c = 107 from g 5 (by decide))]
/-- behind blanks: k places to the end -/
def blN (v : Nat → Int32) : Nat → Nat → Nat := fun k => match k with
  | 0 => fun a => a
  | k + 1 => fun a => if v a = 32 then blN v k (a + 1) else a
def BL (v : Nat → Int32) (s a : Nat) : Nat := blN v (s - a) a
theorem blN_b {v : Nat → Int32} : ∀ k a, a ≤ blN v k a ∧ blN v k a ≤ a + k
  | 0, a => ⟨Nat.le_refl _, Nat.le_refl _⟩
  | k + 1, a => by
    have ih := blN_b (v := v) k (a + 1)
    show a ≤ (if v a = 32 then blN v k (a + 1) else a) ∧ (if v a = 32 then blN v k (a + 1) else a) ≤ a + (k + 1)
    split <;> omega
theorem BL_b {v : Nat → Int32} {s a : Nat} (h : a ≤ s) : a ≤ BL v s a ∧ BL v s a ≤ s := by
  have := blN_b (v := v) (s - a) a
  unfold BL
  omega
def dgP (v : Nat → Int32) (s a : Nat) : Prop := a < s ∧ ¬ v a < 48 ∧ ¬ 57 < v a
/-- behind figures, m at most -/
def fgE (v : Nat → Int32) (s : Nat) : Nat → Nat → Nat := fun m => match m with
  | 0 => fun a => a
  | m + 1 => fun a => if a < s ∧ ¬ v a < 48 ∧ ¬ 57 < v a then fgE v s m (a + 1) else a
theorem fgE_t {v : Nat → Int32} {s m a : Nat} (h : dgP v s a) : fgE v s (m + 1) a = fgE v s m (a + 1) := if_pos h
theorem fgE_f {v : Nat → Int32} {s m a : Nat} (h : ¬ dgP v s a) : fgE v s (m + 1) a = a := if_neg h
theorem fgE_b {v : Nat → Int32} {s : Nat} : ∀ m a, a ≤ fgE v s m a ∧ fgE v s m a ≤ a + m ∧ (a ≤ s → fgE v s m a ≤ s) ∧ ∀ i, a ≤ i → i < fgE v s m a → dgP v s i
  | 0, a => ⟨Nat.le_refl _, Nat.le_refl _, fun h => h, fun i h1 h2 => absurd h2 (by show ¬ i < a; omega)⟩
  | m + 1, a => by
    by_cases h : a < s ∧ ¬ v a < 48 ∧ ¬ 57 < v a
    · have ih := fgE_b (v := v) (s := s) m (a + 1)
      rw [fgE_t h]
      refine ⟨by omega, by omega, fun _ => ih.2.2.1 h.1, fun i h1 h2 => ?_⟩
      by_cases e : i = a
      · rw [e]; exact h
      · exact ih.2.2.2 i (by omega) h2
    · rw [fgE_f h]
      exact ⟨Nat.le_refl _, by omega, fun h => h, fun i h1 h2 => by omega⟩
def nuI (v : Nat → Int32) (a : Nat) : Nat → Int32 := fun k => match k with
  | 0 => 0
  | k + 1 => 10 * nuI v a k + v (a + k) - 48
def nuN (v : Nat → Int32) (a : Nat) : Nat → Nat := fun k => match k with
  | 0 => 0
  | k + 1 => 10 * nuN v a k + (v (a + k)).toInt.toNat - 48
theorem dg_nI {v : Nat → Int32} {s a : Nat} (h : dgP v s a) : ∃ g, g ≤ 9 ∧ v a = nI (48 + g) ∧ (v a).toInt.toNat = 48 + g := by
  obtain ⟨-, h1, h2⟩ := h
  rw [Int32.lt_iff_toInt_lt] at h1 h2
  have e1 : (48 : Int32).toInt = 48 := rfl
  have e2 : (57 : Int32).toInt = 57 := rfl
  refine ⟨(v a).toInt.toNat - 48, by omega, ?_, by omega⟩
  apply Int32.toInt_inj.mp
  rw [nI_toInt (by omega)]
  omega
theorem nu_ok {v : Nat → Int32} {s a : Nat} : ∀ k, (∀ i, a ≤ i → i < a + k → dgP v s i) → nuI v a k = nI (nuN v a k) ∧ nuN v a k < 10 ^ k
  | 0, _ => ⟨rfl, Nat.lt_succ_self 0⟩
  | k + 1, h => by
    obtain ⟨h1, h2⟩ := nu_ok k (fun i a b => h i a (by omega))
    obtain ⟨g, hg, e1, e2⟩ := dg_nI (h (a + k) (by omega) (by omega))
    constructor
    · show 10 * nuI v a k + v (a + k) - 48 = nI (10 * nuN v a k + (v (a + k)).toInt.toNat - 48)
      rw [h1, e2, e1, show (10 : Int32) = nI 10 from rfl, show (48 : Int32) = nI 48 from rfl, pk_mul, nI_add, pk_sub (by omega)]
    · show 10 * nuN v a k + (v (a + k)).toInt.toNat - 48 < 10 ^ (k + 1)
      rw [e2, Nat.pow_succ]
      omega
def upN (f : Nat → Nat) (m c : Nat) : Nat → Nat := fun i => if i = m then c else f i
abbrev EaR : Type := Nat ⊕ (Nat × (Nat → Nat) × (Nat → Nat))
def eaP (v : Nat → Int32) (s : Nat) : Nat → Nat → Nat → (Nat → Nat) → (Nat → Nat) → EaR := fun k => match k with
  | 0 => fun _ _ _ _ => .inl 0
  | k + 1 => fun a m kd nd => if a < s then (match kdN (v a) with
      | none => .inl a
      | some c => if m = 7 then .inl a else if fgE v s 2 (a + 1) = a + 1 then .inl (a + 1) else eaP v s k (BL v s (fgE v s 2 (a + 1))) (m + 1) (upN kd m c) (upN nd m (nuN v (a + 1) (fgE v s 2 (a + 1) - (a + 1))))) else .inr (m, kd, nd)
section
variable {v : Nat → Int32} {s k a m c : Nat} {kd nd : Nat → Nat}
theorem ea_end (h : ¬ a < s) : eaP v s (k + 1) a m kd nd = .inr (m, kd, nd) := if_neg h
theorem ea_no (h : a < s) (hk : kdN (v a) = none) : eaP v s (k + 1) a m kd nd = .inl a := by
  unfold eaP
  rw [if_pos h, hk]
theorem ea_7 (h : a < s) (hm : m = 7) : eaP v s (k + 1) a m kd nd = .inl a := by
  unfold eaP
  rw [if_pos h]
  cases hk : kdN (v a) with
  | none => rfl
  | some c => exact if_pos hm
theorem ea_fig (h : a < s) (hk : kdN (v a) = some c) (hm : ¬ m = 7) (hf : fgE v s 2 (a + 1) = a + 1) : eaP v s (k + 1) a m kd nd = .inl (a + 1) := by
  unfold eaP
  rw [if_pos h, hk]
  show (if m = 7 then _ else _) = _
  rw [if_neg hm, if_pos hf]
theorem ea_go (h : a < s) (hk : kdN (v a) = some c) (hm : ¬ m = 7) (hf : ¬ fgE v s 2 (a + 1) = a + 1) : eaP v s (k + 1) a m kd nd = eaP v s k (BL v s (fgE v s 2 (a + 1))) (m + 1) (upN kd m c) (upN nd m (nuN v (a + 1) (fgE v s 2 (a + 1) - (a + 1)))) := by
  show (if a < s then _ else _) = _
  rw [if_pos h, hk]
  show (if m = 7 then _ else _) = _
  rw [if_neg hm, if_neg hf]
end
def eaOK (s : Nat) : EaR → Prop := fun r => match r with
  | .inl p => p ≤ s
  | .inr q => q.1 ≤ 7 ∧ (∀ i, i < q.1 → q.2.1 i ≤ 5) ∧ ∀ i, i < q.1 → q.2.2 i ≤ 99
theorem ea_ok {v : Nat → Int32} {s : Nat} : ∀ k a m kd nd, k + m = 8 → a ≤ s → m ≤ 7 → (∀ i, i < m → kd i ≤ 5) → (∀ i, i < m → nd i ≤ 99) → eaOK s (eaP v s k a m kd nd)
  | 0, a, m, kd, nd, h, _, hm, _, _ => by omega
  | k + 1, a, m, kd, nd, h, ha, hm, h5, h9 => by
    by_cases h1 : a < s
    · cases hk : kdN (v a) with
      | none => rw [ea_no h1 hk]; exact ha
      | some c =>
        by_cases h7 : m = 7
        · rw [ea_7 h1 h7]; exact ha
        · by_cases hf : fgE v s 2 (a + 1) = a + 1
          · rw [ea_fig h1 hk h7 hf]; exact h1
          · rw [ea_go h1 hk h7 hf]
            have b := fgE_b (v := v) (s := s) 2 (a + 1)
            have b2 := BL_b (v := v) (b.2.2.1 h1)
            refine ea_ok k _ (m + 1) _ _ (by omega) b2.2 (by omega) (fun i hi => ?_) (fun i hi => ?_)
            · unfold upN
              split
              · exact kdN_le hk
              · exact h5 i (by omega)
            · unfold upN
              split
              · have n2 := (nu_ok (v := v) (s := s) (a := a + 1) (fgE v s 2 (a + 1) - (a + 1)) (fun i h1 h2 => b.2.2.2 i h1 (by omega))).2
                have : 10 ^ (fgE v s 2 (a + 1) - (a + 1)) ≤ 10 ^ 2 := Nat.pow_le_pow_right (by decide) (by omega)
                omega
              · exact h9 i (by omega)
    · rw [ea_end h1]
      exact ⟨hm, h5, h9⟩
abbrev TaR : Type := Nat ⊕ (Nat × Nat × Nat × (Nat → Nat) × (Nat → Nat))
def toT (p l : Nat) : EaR → TaR := fun r => match r with
  | .inl a => .inl a
  | .inr q => .inr (p, l, q.1, q.2.1, q.2.2)
def lwP (v : Nat → Int32) (s a : Nat) : Prop := a < s ∧ ¬ v a < 48 ∧ ¬ 51 < v a
def z0 : Nat → Nat := fun _ => 0
def paE (v : Nat → Int32) (s : Nat) : Nat := fgE v s 3 (BL v s 0 + 1)
def paP (v : Nat → Int32) (s : Nat) : Nat := nuN v (BL v s 0 + 1) (paE v s - (BL v s 0 + 1))
def paT (v : Nat → Int32) (s : Nat) : TaR := if BL v s 0 < s ∧ v (BL v s 0) = 112 then (if paP v s = 0 then .inl (paE v s) else if BL v s (paE v s) < s ∧ v (BL v s (paE v s)) = 108 then (if BL v s (paE v s) + 1 < s ∧ ¬ v (BL v s (paE v s) + 1) < 48 ∧ ¬ 51 < v (BL v s (paE v s) + 1) then toT (paP v s) ((v (BL v s (paE v s) + 1)).toInt.toNat - 48) (eaP v s 8 (BL v s (BL v s (paE v s) + 2)) 0 z0 z0) else .inl (BL v s (paE v s) + 1)) else toT (paP v s) 0 (eaP v s 8 (BL v s (paE v s)) 0 z0 z0)) else .inl (BL v s 0)
section
variable {v : Nat → Int32} {s : Nat}
theorem pa_p (h : ¬ (BL v s 0 < s ∧ v (BL v s 0) = 112)) : paT v s = .inl (BL v s 0) := if_neg h
theorem pa_0 (h : BL v s 0 < s ∧ v (BL v s 0) = 112) (h0 : paP v s = 0) : paT v s = .inl (paE v s) := by
  unfold paT
  rw [if_pos h, if_pos h0]
theorem pa_l0 (h : BL v s 0 < s ∧ v (BL v s 0) = 112) (h0 : ¬ paP v s = 0) (hl : BL v s (paE v s) < s ∧ v (BL v s (paE v s)) = 108) (hb : ¬ lwP v s (BL v s (paE v s) + 1)) : paT v s = .inl (BL v s (paE v s) + 1) := by
  unfold lwP at hb
  unfold paT
  rw [if_pos h, if_neg h0, if_pos hl, if_neg hb]
theorem pa_l1 (h : BL v s 0 < s ∧ v (BL v s 0) = 112) (h0 : ¬ paP v s = 0) (hl : BL v s (paE v s) < s ∧ v (BL v s (paE v s)) = 108) (hb : lwP v s (BL v s (paE v s) + 1)) : paT v s = toT (paP v s) ((v (BL v s (paE v s) + 1)).toInt.toNat - 48) (eaP v s 8 (BL v s (BL v s (paE v s) + 2)) 0 z0 z0) := by
  unfold lwP at hb
  unfold paT
  rw [if_pos h, if_neg h0, if_pos hl, if_pos hb]
theorem pa_e (h : BL v s 0 < s ∧ v (BL v s 0) = 112) (h0 : ¬ paP v s = 0) (hl : ¬ (BL v s (paE v s) < s ∧ v (BL v s (paE v s)) = 108)) : paT v s = toT (paP v s) 0 (eaP v s 8 (BL v s (paE v s)) 0 z0 z0) := by
  unfold paT
  rw [if_pos h, if_neg h0, if_neg hl]
theorem paP_ok (h : BL v s 0 < s ∧ v (BL v s 0) = 112) : nuI v (BL v s 0 + 1) (paE v s - (BL v s 0 + 1)) = nI (paP v s) ∧ paP v s ≤ 999 ∧ BL v s 0 + 1 ≤ paE v s ∧ paE v s ≤ s := by
  have b := fgE_b (v := v) (s := s) 3 (BL v s 0 + 1)
  have n2 := nu_ok (v := v) (s := s) (a := BL v s 0 + 1) (paE v s - (BL v s 0 + 1)) (fun i h1 h2 => b.2.2.2 i h1 (by unfold paE at h2; omega))
  have : 10 ^ (paE v s - (BL v s 0 + 1)) ≤ 10 ^ 3 := Nat.pow_le_pow_right (by decide) (by unfold paE; omega)
  refine ⟨n2.1, ?_, b.1, b.2.2.1 h.1⟩
  have := n2.2
  unfold paP
  omega
theorem lw_val {a : Nat} (h : lwP v s a) : v a - 48 = nI ((v a).toInt.toNat - 48) ∧ (v a).toInt.toNat - 48 ≤ 3 := by
  obtain ⟨-, h1, h2⟩ := h
  rw [Int32.lt_iff_toInt_lt] at h1 h2
  have e1 : (48 : Int32).toInt = 48 := rfl
  have e2 : (51 : Int32).toInt = 51 := rfl
  refine ⟨?_, by omega⟩
  have e3 : v a = nI (v a).toInt.toNat := by
    apply Int32.toInt_inj.mp
    rw [nI_toInt (by omega)]
    omega
  rw [show v a - 48 = nI (v a).toInt.toNat - 48 from by rw [← e3], show (48 : Int32) = nI 48 from rfl, pk_sub (by omega)]
theorem lw_dg {a : Nat} (h : lwP v s a) : dgP v s a := by
  obtain ⟨h0, h1, h2⟩ := h
  refine ⟨h0, h1, fun z => h2 ?_⟩
  rw [Int32.lt_iff_toInt_lt] at z ⊢
  have e1 : (57 : Int32).toInt = 57 := rfl
  have e2 : (51 : Int32).toInt = 51 := rfl
  omega
theorem sub48 (c : Int32) : (¬ c - 48 < 0 ∧ c - 48 < 4) ↔ (¬ c < 48 ∧ ¬ 51 < c) := by
  rw [Int32.lt_iff_toInt_lt, Int32.lt_iff_toInt_lt, Int32.lt_iff_toInt_lt, Int32.lt_iff_toInt_lt, Int32.toInt_sub]
  have e0 : (0 : Int32).toInt = 0 := rfl
  have e1 : (48 : Int32).toInt = 48 := rfl
  have e2 : (51 : Int32).toInt = 51 := rfl
  have e3 : (4 : Int32).toInt = 4 := rfl
  have b1 := Int32.le_toInt c
  have b2 := Int32.toInt_lt c
  rw [e0, e1, e2, e3, Int.bmod_def]
  split <;> omega
end
def taOK (s : Nat) : TaR → Prop := fun r => match r with
  | .inl p => p ≤ s
  | .inr q => 1 ≤ q.1 ∧ q.1 ≤ 999 ∧ q.2.1 ≤ 3 ∧ q.2.2.1 ≤ 7 ∧ (∀ i, i < q.2.2.1 → q.2.2.2.1 i ≤ 5) ∧ ∀ i, i < q.2.2.1 → q.2.2.2.2 i ≤ 99
theorem toT_ok {s p l : Nat} (h1 : 1 ≤ p) (hp : p ≤ 999) (hl : l ≤ 3) : ∀ {r}, eaOK s r → taOK s (toT p l r)
  | .inl _, h => h
  | .inr _, h => ⟨h1, hp, hl, h.1, h.2.1, h.2.2⟩
theorem pa_ok (v : Nat → Int32) (s : Nat) : taOK s (paT v s) := by
  have b0 := BL_b (v := v) (Nat.zero_le s)
  by_cases h : BL v s 0 < s ∧ v (BL v s 0) = 112
  · have p := paP_ok h
    by_cases h0 : paP v s = 0
    · rw [pa_0 h h0]; exact p.2.2.2
    · have b1 := BL_b (v := v) p.2.2.2
      by_cases hl : BL v s (paE v s) < s ∧ v (BL v s (paE v s)) = 108
      · by_cases hb : lwP v s (BL v s (paE v s) + 1)
        · rw [pa_l1 h h0 hl hb]
          exact toT_ok (by omega) p.2.1 (lw_val hb).2 (ea_ok 8 _ 0 z0 z0 rfl (BL_b (by have := hb.1; omega)).2 (by decide) (fun i hi => by omega) (fun i hi => by omega))
        · rw [pa_l0 h h0 hl hb]; exact hl.1
      · rw [pa_e h h0 hl]
        exact toT_ok (by omega) p.2.1 (by decide) (ea_ok 8 _ 0 z0 z0 rfl b1.2 (by decide) (fun i hi => by omega) (fun i hi => by omega))
  · rw [pa_p h]; exact b0.2

