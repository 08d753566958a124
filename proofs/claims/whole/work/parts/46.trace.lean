
/-! ===== what the orders tell of what is left ===== -/
theorem uI_nx {I : IntM} {a k x j : Nat} {v : Int32} (h : x ≠ a) : uI I a k v x j = I x j := by
  unfold uI
  rw [if_neg (fun q => h q.1)]
theorem uI_nk {I : IntM} {a k x j : Nat} {v : Int32} (h : j ≠ k) : uI I a k v x j = I x j := by
  unfold uI
  rw [if_neg (fun q => h q.2)]
theorem hasv_le999 {x : Int32} (h : x ≤ 999) : x < nI 1000 := by
  rw [Int32.lt_iff_toInt_lt, nI_toInt (by decide)]
  have h1 := Int32.le_iff_toInt_le.mp h
  have e : (999 : Int32).toInt = 999 := rfl
  omega
theorem le999_nI {v : Nat} (h : v < 1000) : nI v ≤ 999 := nI_le (b := 999) (by omega) (by decide)
theorem nI_add01 {a : Nat} {p : Prop} [Decidable p] : nI a + (if p then 1 else 0) = nI (a + (if p then 1 else 0)) := by
  by_cases h : p
  · rw [if_pos h, if_pos h, nI_1]
  · rw [if_neg h, if_neg h]
    exact Int32.add_zero _
def shB (k : Nat) : Int32 := 1 <<< (nI k &&& 31)
abbrev Wys : Type := Nat × Nat × Int32 × Int32
def stW (R : (Nat → Nat) → Nat) (v n : Nat) : Wys → (Nat → Nat) → Wys := fun s f => if R f = v then (s.1 + 1, s.2.1 + 1, s.2.2.1 ||| shB (f (n - 1)), s.2.2.2 ||| shB (f 0)) else (s.1, s.2.1 + 1, s.2.2.1, s.2.2.2)
def stA (n k j : Nat) (R : (Nat → Nat) → Nat) (v : Nat) : Nat → (Nat → Nat) → Nat := fun a f => if R f = v then a + (if plN f k n < plN f j n then 1 else 0) else a
theorem stW_t {R : (Nat → Nat) → Nat} {v n : Nat} {s : Wys} {f : Nat → Nat} (h : R f = v) : stW R v n s f = (s.1 + 1, s.2.1 + 1, s.2.2.1 ||| shB (f (n - 1)), s.2.2.2 ||| shB (f 0)) := if_pos h
theorem stW_f {R : (Nat → Nat) → Nat} {v n : Nat} {s : Wys} {f : Nat → Nat} (h : ¬ R f = v) : stW R v n s f = (s.1, s.2.1 + 1, s.2.2.1, s.2.2.2) := if_neg h
theorem stA_t {n k j : Nat} {R : (Nat → Nat) → Nat} {v a : Nat} {f : Nat → Nat} (h : R f = v) : stA n k j R v a f = a + (if plN f k n < plN f j n then 1 else 0) := if_pos h
theorem stA_f {n k j : Nat} {R : (Nat → Nat) → Nat} {v a : Nat} {f : Nat → Nat} (h : ¬ R f = v) : stA n k j R v a f = a := if_neg h
theorem stW_b {R : (Nat → Nat) → Nat} {v n : Nat} : ∀ k s f, (foC n (stW R v n) k s f).1 ≤ s.1 + k ∧ (foC n (stW R v n) k s f).2.1 ≤ s.2.1 + k ∧ s.2.1 ≤ (foC n (stW R v n) k s f).2.1
  | 0, s, f => ⟨Nat.le_refl _, Nat.le_refl _, Nat.le_refl _⟩
  | k + 1, s, f => by
    have h1 : (stW R v n s f).1 ≤ s.1 + 1 ∧ (stW R v n s f).2.1 = s.2.1 + 1 := by
      by_cases h : R f = v
      · rw [stW_t h]; exact ⟨Nat.le_refl _, rfl⟩
      · rw [stW_f h]; exact ⟨Nat.le_succ _, rfl⟩
    rcases nx_or n f with hx | ⟨z, hx⟩
    · rw [foC_n hx]; omega
    · rw [foC_s hx]
      have ih := stW_b (R := R) (v := v) (n := n) k (stW R v n s f) z.2
      omega
theorem stW_pos {R : (Nat → Nat) → Nat} {v n : Nat} (k : Nat) (s : Wys) (f : Nat → Nat) : s.2.1 < (foC n (stW R v n) (k + 1) s f).2.1 := by
  have h1 : (stW R v n s f).2.1 = s.2.1 + 1 := by
    by_cases h : R f = v
    · rw [stW_t h]
    · rw [stW_f h]
  rcases nx_or n f with hx | ⟨z, hx⟩
  · rw [foC_n hx]; omega
  · rw [foC_s hx]
    have ih := stW_b (R := R) (v := v) (n := n) k (stW R v n s f) z.2
    omega
def reN (kd nd : Nat → Nat) (lw pot n : Nat) (f : Nat → Nat) : Nat := thS kd nd lw 1 (pot * un 1) f n
def wyT (kd nd : Nat → Nat) (lw pot n v : Nat) : Wys := foC n (stW (reN kd nd lw pot n) v n) 5040 (0, 0, 0, 0) (fun i => i)
def ahT (kd nd : Nat → Nat) (lw pot n v k j : Nat) : Nat := foC n (stA n k j (reN kd nd lw pot n) v) 5040 0 (fun i => i)
def TrW (I : IntM) (a k1 k2 k3 k4 : Nat) (w : Wys) : Prop := I a k1 = nI w.1 ∧ I a k2 = nI w.2.1 ∧ I a k3 = w.2.2.1 ∧ I a k4 = w.2.2.2
theorem TrW.fr {I I' : IntM} {a k1 k2 k3 k4 : Nat} {w : Wys} (h : ∀ k, k = k1 ∨ k = k2 ∨ k = k3 ∨ k = k4 → I' a k = I a k) (hT : TrW I a k1 k2 k3 k4 w) : TrW I' a k1 k2 k3 k4 w := ⟨(h _ (by simp)).trans hT.1, (h _ (by simp)).trans hT.2.1, (h _ (by simp)).trans hT.2.2.1, (h _ (by simp)).trans hT.2.2.2⟩
theorem Fr_un1 {a b : Int64} {T : Nat} (h : Fr a b ((T : Nat) : Int) (un 1)) : a = lN T := by
  have e : roN ((T : Nat) : Int) (un 1) = (T : Int) := (ro_1 _).1
  rw [h.1, e, lZ_N]

set_option maxRecDepth 100000 in
set_option maxHeartbeats 4000000 in
theorem lp_note (I : IntM) (J : LngM) {n : Nat} {f : Nat → Nat} (hn : n ≤ 7) (hA : AtI I 83 n f) (hz : I 82 1 = nI 7) (hP : Pm n f) (x y : Int32) (Q : Option Value → IntM → LngM → Prop) (hq : ∀ I1 : IntM, (∀ a b, ¬ (a = 76 ∧ b = 5) → I1 a b = I a b) → (∀ k j, x = nI k → y = nI j → k < n → j < n → k ≠ j → I1 76 5 = I 76 5 + (if plN f k n < plN f j n then 1 else 0)) → Q none I1 J) : VP m_X9_note 3 62 [(0, .ref 76), (1, .int (nI n)), (2, .int x), (3, .int y), (4, .int 0), (5, .int 0)] [] I J Q := by
  have key : ∀ i, i ≤ n → ∀ I1 : IntM, (∀ a b, ¬ (a = 76 ∧ b = 5) → I1 a b = I a b) → I1 76 5 = I 76 5 → (∀ p, p < i → ¬ nI (f p) = x ∧ ¬ nI (f p) = y) → VP m_X9_note 3 62 [(0, .ref 76), (1, .int (nI n)), (2, .int x), (3, .int y), (4, .int 0), (5, .int (nI i))] [] I1 J Q := by
    refine down n ?_ (fun i hi ih => ?_)
    · intro I1 fr o1 hno
      refine V_il i_X9_note_62 rfl ?_
      refine V_il i_X9_note_64 rfl ?_
      refine V_ic_ge_t i_X9_note_65 (Int32.le_refl _) ?_
      exact P_vret i_X9_note_132 rfl (hq I1 fr (fun k j hx hy hk hj hkj => by
        obtain ⟨p, hp, e⟩ := Pm_onto n f hP k hk
        exact absurd (by rw [e, hx]) (hno p hp).1))
    · intro I1 fr o1 hno
      have a1 : nI (f i) = I1 83 i := by rw [fr _ _ (by omega)]; exact (hA i hi).symm
      have hfi := hP.1 i hi
      have EX : ∀ b : Int32, ¬ b = 0 → ∀ I2 : IntM, (∀ a c, ¬ (a = 76 ∧ c = 5) → I2 a c = I a c) → (∀ k j, x = nI k → y = nI j → k < n → j < n → k ≠ j → I2 76 5 = I 76 5 + (if plN f k n < plN f j n then 1 else 0)) → VP m_X9_note 3 62 [(0, .ref 76), (1, .int (nI n)), (2, .int x), (3, .int y), (4, .int b), (5, .int (nI (i + 1)))] [] I2 J Q := by
        intro b hb I2 fr2 h2
        refine V_il i_X9_note_62 rfl ?_
        refine V_il i_X9_note_64 rfl ?_
        refine V_ic_ge i_X9_note_65 (fun _ => ?_) (fun _ => ?_)
        · exact P_vret i_X9_note_132 rfl (hq I2 fr2 h2)
        · refine V_il i_X9_note_68 rfl ?_
          refine V_if_ne_t i_X9_note_70 hb ?_
          exact P_vret i_X9_note_132 rfl (hq I2 fr2 h2)
      refine V_il i_X9_note_62 rfl ?_
      refine V_il i_X9_note_64 rfl ?_
      refine V_ic_ge_f i_X9_note_65 (nI_ge hi (by omega)) ?_
      refine V_il i_X9_note_68 rfl ?_
      refine V_if_ne_f i_X9_note_70 rfl ?_
      refine V_al i_X9_note_73 rfl ?_
      refine V_getR i_X9_note_74 rfl rfl ?_
      refine V_getR i_X9_note_77 rfl rfl ?_
      refine V_il i_X9_note_80 rfl ?_
      refine P_callV1v i_X9_note_82 mi_X3_get rfl ⟨_, _, rfl⟩ (by decide) (Nat.le_of_ble_eq_true rfl) (c_I_getN (x := 82) (n := 7) (s := 7) (k := i) _ _ ⟨rfl, rfl, rfl, by decide⟩ (by rw [fr _ _ (by omega)]; exact hz) rfl (by omega) (by decide)) ?_
      rw [show I1 (82 + 1) i = nI (f i) from a1.symm]
      refine V_is (L' := [(0, _), (1, _), (2, _), (3, _), (5, _), (6, _)]) i_X9_note_85 (by decide) ⟨rfl, rfl, rfl, rfl, rfl, rfl, trivial⟩ ?_
      refine V_il i_X9_note_87 rfl ?_
      refine V_il i_X9_note_89 rfl ?_
      refine V_ic_eq i_X9_note_90 (fun c90 => ?_) (fun c90 => ?_)
      · refine V_c i_X9_note_99 ?_
        refine V_goto i_X9_note_100 ?_
        refine V_is (L' := [(0, _), (1, _), (2, _), (3, _), (4, _), (5, _), (6, _)]) i_X9_note_104 (by decide) ⟨rfl, rfl, rfl, rfl, rfl, rfl, rfl, trivial⟩ ?_
        refine V_L (L' := [(0, _), (1, _), (2, _), (3, _), (4, _), (5, _), (6, _)]) ⟨rfl, rfl, rfl, rfl, rfl, rfl, rfl, trivial⟩ ?_
        refine V_al i_X9_note_106 rfl ?_
        refine V_dup i_X9_note_107 rfl ?_
        refine V_getI i_X9_note_108 rfl ?_
        refine V_il i_X9_note_111 rfl ?_
        refine V_il i_X9_note_113 rfl ?_
        refine V_ic_ne_f i_X9_note_114 c90 ?_
        refine V_c i_X9_note_117 ?_
        refine V_goto i_X9_note_118 ?_
        refine V_iadd i_X9_note_122 ?_
        refine V_putI i_X9_note_123 rfl ?_
        refine V_iinc (L' := [(0, _), (1, _), (2, _), (3, _), (4, _), (5, _)]) (n' := 1) i_X9_note_126 (by decide) rfl (by decide) ⟨rfl, rfl, rfl, rfl, rfl, rfl, trivial⟩ ?_
        refine V_goto i_X9_note_129 ?_
        refine V_L (L' := [(0, _), (1, _), (2, _), (3, _), (4, _), (5, _)]) ⟨rfl, rfl, rfl, rfl, rfl, rfl, trivial⟩ ?_
        rw [show nI i + 1 = nI (i + 1) from nI_1 i]
        refine EX 1 (by decide) _ (fun a b h => by rw [uI_ne _ _ (by intro q; cases q; exact h ⟨rfl, rfl⟩)]; exact fr a b h) (fun k j hx hy hk hj hkj => ?_)
        have e : f i = k := (nI_eq (by omega) (by omega)).mp (c90.trans hx)
        have h1 : plN f k n = i := by rw [← e]; exact Pm_at hP hi
        have h2 := Pm_place hP hj
        have h3 : i < plN f j n := by
          rcases Nat.lt_trichotomy (plN f j n) i with h | h | h
          · exact absurd (by rw [h2.2, hy]) (hno _ h).2
          · rw [h, e] at h2
            exact absurd h2.2 hkj
          · exact h
        rw [uI_eq, o1, if_pos (by omega)]
      · refine V_il i_X9_note_93 rfl ?_
        refine V_il i_X9_note_95 rfl ?_
        refine V_ic_ne i_X9_note_96 (fun c96 => ?_) (fun c96 => ?_)
        · refine V_c i_X9_note_103 ?_
          refine V_is (L' := [(0, _), (1, _), (2, _), (3, _), (4, _), (5, _), (6, _)]) i_X9_note_104 (by decide) ⟨rfl, rfl, rfl, rfl, rfl, rfl, rfl, trivial⟩ ?_
          refine V_L (L' := [(0, _), (1, _), (2, _), (3, _), (4, _), (5, _), (6, _)]) ⟨rfl, rfl, rfl, rfl, rfl, rfl, rfl, trivial⟩ ?_
          refine V_al i_X9_note_106 rfl ?_
          refine V_dup i_X9_note_107 rfl ?_
          refine V_getI i_X9_note_108 rfl ?_
          refine V_il i_X9_note_111 rfl ?_
          refine V_il i_X9_note_113 rfl ?_
          refine V_ic_ne_t i_X9_note_114 c90 ?_
          refine V_c i_X9_note_121 ?_
          refine V_iadd i_X9_note_122 ?_
          refine V_putI i_X9_note_123 rfl ?_
          refine V_iinc (L' := [(0, _), (1, _), (2, _), (3, _), (4, _), (5, _)]) (n' := 1) i_X9_note_126 (by decide) rfl (by decide) ⟨rfl, rfl, rfl, rfl, rfl, rfl, trivial⟩ ?_
          refine V_goto i_X9_note_129 ?_
          refine V_L (L' := [(0, _), (1, _), (2, _), (3, _), (4, _), (5, _)]) ⟨rfl, rfl, rfl, rfl, rfl, rfl, trivial⟩ ?_
          rw [show nI i + 1 = nI (i + 1) from nI_1 i]
          exact ih _ (fun a b h => by rw [uI_ne _ _ (by intro q; cases q; exact h ⟨rfl, rfl⟩)]; exact fr a b h) (by rw [uI_eq, o1]; exact Int32.add_zero _) (fun p hp => by
            rcases Nat.lt_or_ge p i with h | h
            · exact hno p h
            · obtain rfl : p = i := by omega
              exact ⟨c90, c96⟩)
        · refine V_c i_X9_note_99 ?_
          refine V_goto i_X9_note_100 ?_
          refine V_is (L' := [(0, _), (1, _), (2, _), (3, _), (4, _), (5, _), (6, _)]) i_X9_note_104 (by decide) ⟨rfl, rfl, rfl, rfl, rfl, rfl, rfl, trivial⟩ ?_
          refine V_L (L' := [(0, _), (1, _), (2, _), (3, _), (4, _), (5, _), (6, _)]) ⟨rfl, rfl, rfl, rfl, rfl, rfl, rfl, trivial⟩ ?_
          refine V_al i_X9_note_106 rfl ?_
          refine V_dup i_X9_note_107 rfl ?_
          refine V_getI i_X9_note_108 rfl ?_
          refine V_il i_X9_note_111 rfl ?_
          refine V_il i_X9_note_113 rfl ?_
          refine V_ic_ne_t i_X9_note_114 c90 ?_
          refine V_c i_X9_note_121 ?_
          refine V_iadd i_X9_note_122 ?_
          refine V_putI i_X9_note_123 rfl ?_
          refine V_iinc (L' := [(0, _), (1, _), (2, _), (3, _), (4, _), (5, _)]) (n' := 1) i_X9_note_126 (by decide) rfl (by decide) ⟨rfl, rfl, rfl, rfl, rfl, rfl, trivial⟩ ?_
          refine V_goto i_X9_note_129 ?_
          refine V_L (L' := [(0, _), (1, _), (2, _), (3, _), (4, _), (5, _)]) ⟨rfl, rfl, rfl, rfl, rfl, rfl, trivial⟩ ?_
          rw [show nI i + 1 = nI (i + 1) from nI_1 i]
          refine EX 1 (by decide) _ (fun a b h => by rw [uI_ne _ _ (by intro q; cases q; exact h ⟨rfl, rfl⟩)]; exact fr a b h) (fun k j hx hy hk hj hkj => ?_)
          have e : f i = j := (nI_eq (by omega) (by omega)).mp (c96.trans hy)
          have h1 : plN f j n = i := by rw [← e]; exact Pm_at hP hi
          have h2 := Pm_place hP hk
          have h3 : i < plN f k n := by
            rcases Nat.lt_trichotomy (plN f k n) i with h | h | h
            · exact absurd (by rw [h2.2, hx]) (hno _ h).1
            · rw [h, e] at h2
              exact absurd h2.2.symm hkj
            · exact h
          rw [uI_eq, o1, if_neg (by omega)]
  exact key 0 (Nat.zero_le _) I (fun _ _ _ => rfl) rfl (fun p hp => absurd hp (Nat.not_lt_zero p))
set_option maxRecDepth 100000 in
set_option maxHeartbeats 4000000 in
theorem c_note (I : IntM) (J : LngM) {n : Nat} {f : Nat → Nat} (h1 : 1 ≤ n) (hn : n ≤ 7) (hA : AtI I 83 n f) (hz : I 82 1 = nI 7) (hP : Pm n f) (x y : Int32) : CtP 3 m_X9_note [.ref 76, .int (nI n), .int x, .int y] I J (fun r I1 J1 => r = none ∧ J1 = J ∧ I1 76 1 = I 76 1 + 1 ∧ I1 76 2 = I 76 2 ∧ I1 76 3 = I 76 3 ||| shB (f (n - 1)) ∧ I1 76 4 = I 76 4 ||| shB (f 0) ∧ (∀ k j, x = nI k → y = nI j → k < n → j < n → k ≠ j → I1 76 5 = I 76 5 + (if plN f k n < plN f j n then 1 else 0)) ∧ ∀ a b, a ≠ 76 → I1 a b = I a b) := by
  refine CtP_of (by decide) rfl (Nat.le_of_ble_eq_true rfl) ?_
  refine V_al i_X9_note_0 rfl ?_
  refine V_dup i_X9_note_1 rfl ?_
  refine V_getI i_X9_note_2 rfl ?_
  refine V_c i_X9_note_5 ?_
  refine V_iadd i_X9_note_6 ?_
  refine V_putI i_X9_note_7 rfl ?_
  obtain ⟨I1, hI1⟩ : ∃ x, x = uI I 76 1 (I 76 1 + 1) := ⟨_, rfl⟩
  rw [← hI1]
  have fI1 : ∀ a b, a ≠ 76 → I1 a b = I a b := fun a b h => by rw [hI1, uI_nx h]
  refine V_al i_X9_note_10 rfl ?_
  refine V_dup i_X9_note_11 rfl ?_
  refine V_getI i_X9_note_12 rfl ?_
  refine V_c i_X9_note_15 ?_
  refine V_al i_X9_note_16 rfl ?_
  refine V_getR i_X9_note_17 rfl rfl ?_
  refine V_getR i_X9_note_20 rfl rfl ?_
  refine V_c i_X9_note_23 ?_
  refine P_callV1v i_X9_note_24 mi_X3_get rfl ⟨_, _, rfl⟩ (by decide) (Nat.le_of_ble_eq_true rfl) (c_I_getN (x := 82) (n := 7) (s := 7) (k := 0) _ _ ⟨rfl, rfl, rfl, by decide⟩ (by rw [fI1 _ _ (by decide)]; exact hz) rfl (by decide) (by decide)) ?_
  rw [show I1 (82 + 1) 0 = nI (f 0) from by rw [fI1 _ _ (by decide)]; exact hA 0 h1]
  refine V_ishl i_X9_note_27 ?_
  refine V_ior i_X9_note_28 ?_
  refine V_putI i_X9_note_29 rfl ?_
  obtain ⟨I2, hI2⟩ : ∃ x, x = uI I1 76 4 (I1 76 4 ||| 1 <<< (nI (f 0) &&& 31)) := ⟨_, rfl⟩
  rw [← hI2]
  have fI2 : ∀ a b, a ≠ 76 → I2 a b = I1 a b := fun a b h => by rw [hI2, uI_nx h]
  refine V_al i_X9_note_32 rfl ?_
  refine V_dup i_X9_note_33 rfl ?_
  refine V_getI i_X9_note_34 rfl ?_
  refine V_c i_X9_note_37 ?_
  refine V_al i_X9_note_38 rfl ?_
  refine V_getR i_X9_note_39 rfl rfl ?_
  refine V_getR i_X9_note_42 rfl rfl ?_
  refine V_il i_X9_note_45 rfl ?_
  refine V_c i_X9_note_46 ?_
  refine V_isub i_X9_note_47 ?_
  rw [nI_sub1 h1]
  refine P_callV1v i_X9_note_48 mi_X3_get rfl ⟨_, _, rfl⟩ (by decide) (Nat.le_of_ble_eq_true rfl) (c_I_getN (x := 82) (n := 7) (s := 7) (k := n - 1) _ _ ⟨rfl, rfl, rfl, by decide⟩ (by rw [fI2 _ _ (by decide), fI1 _ _ (by decide)]; exact hz) rfl (by omega) (by decide)) ?_
  rw [show I2 (82 + 1) (n - 1) = nI (f (n - 1)) from by rw [fI2 _ _ (by decide), fI1 _ _ (by decide)]; exact hA _ (by omega)]
  refine V_ishl i_X9_note_51 ?_
  refine V_ior i_X9_note_52 ?_
  refine V_putI i_X9_note_53 rfl ?_
  obtain ⟨I3, hI3⟩ : ∃ x, x = uI I2 76 3 (I2 76 3 ||| 1 <<< (nI (f (n - 1)) &&& 31)) := ⟨_, rfl⟩
  rw [← hI3]
  have fI3 : ∀ a b, a ≠ 76 → I3 a b = I2 a b := fun a b h => by rw [hI3, uI_nx h]
  refine V_c i_X9_note_56 ?_
  refine V_is (L' := [(0, _), (1, _), (2, _), (3, _), (4, _)]) i_X9_note_57 (by decide) ⟨rfl, rfl, rfl, rfl, rfl, trivial⟩ ?_
  refine V_c i_X9_note_59 ?_
  refine V_is (L' := [(0, _), (1, _), (2, _), (3, _), (4, _), (5, _)]) i_X9_note_60 (by decide) ⟨rfl, rfl, rfl, rfl, rfl, rfl, trivial⟩ ?_
  refine V_L (L' := [(0, _), (1, _), (2, _), (3, _), (4, _), (5, _)]) ⟨rfl, rfl, rfl, rfl, rfl, rfl, trivial⟩ ?_
  have e1 : I3 76 1 = I 76 1 + 1 := by rw [hI3, uI_nk (by decide), hI2, uI_nk (by decide), hI1, uI_eq]
  have e2 : I3 76 2 = I 76 2 := by rw [hI3, uI_nk (by decide), hI2, uI_nk (by decide), hI1, uI_nk (by decide)]
  have e3 : I3 76 3 = I 76 3 ||| shB (f (n - 1)) := by rw [hI3, uI_eq, hI2, uI_nk (by decide), hI1, uI_nk (by decide)]; rfl
  have e4 : I3 76 4 = I 76 4 ||| shB (f 0) := by rw [hI3, uI_nk (by decide), hI2, uI_eq, hI1, uI_nk (by decide)]; rfl
  have e5 : I3 76 5 = I 76 5 := by rw [hI3, uI_nk (by decide), hI2, uI_nk (by decide), hI1, uI_nk (by decide)]
  have e6 : ∀ a b, a ≠ 76 → I3 a b = I a b := fun a b h => by rw [fI3 a b h, fI2 a b h, fI1 a b h]
  refine lp_note I3 J hn (fun p hp => by rw [e6 _ _ (by decide)]; exact hA p hp) (by rw [e6 _ _ (by decide)]; exact hz) hP x y _ (fun I4 fr h4 => ⟨rfl, rfl, ?_, ?_, ?_, ?_, ?_, ?_⟩)
  · rw [fr _ _ (by decide)]; exact e1
  · rw [fr _ _ (by decide)]; exact e2
  · rw [fr _ _ (by decide)]; exact e3
  · rw [fr _ _ (by decide)]; exact e4
  · intro k j hx hy hk hj hkj
    rw [h4 k j hx hy hk hj hkj, e5]
  · intro a b h
    rw [fr _ _ (fun q => h q.1)]; exact e6 a b h
set_option maxRecDepth 100000 in
set_option maxHeartbeats 4000000 in
theorem lp_follow (I : IntM) (J : LngM) {n : Nat} {kd nd od : Nat → Nat} {lw pot : Nat} (hK : CK I n kd nd od lw pot) {v : Nat} (hv : v < 1000) (h1 : 1 ≤ n) {G : Prop} {k0 j0 : Nat} {x y : Int32} (hG : G → x = nI k0 ∧ y = nI j0 ∧ k0 < n ∧ j0 < n ∧ k0 ≠ j0) {T : Wys} {T2 : Nat} (Q : Option Value → IntM → LngM → Prop) (hq : ∀ I1 J1, FrC I J I1 J1 → CK I1 n kd nd od lw pot → TrW I1 76 1 2 3 4 T → (G → I1 76 5 = nI T2) → Q none I1 J1) : ∀ k i f p s a, i + k = 5040 → ends n k f → Pm n f → p ≤ n → foC n (stW (reN kd nd lw pot n) v n) k s f = T → (G → foC n (stA n k0 j0 (reN kd nd lw pot n) v) k a f = T2) → ∀ I1 J1, FrC I J I1 J1 → CK I1 n kd nd od lw pot → SvL I1 J1 77 n kd nd lw 1 (pot * un 1) f p → TrW I1 76 1 2 3 4 s → (G → I1 76 5 = nI a) → VP m_X9_follow 5 73 [(0, .ref 76), (1, .ref 8), (2, .int (nI v)), (3, .int x), (4, .int y), (5, .int (nI p)), (6, .int (nI i))] [] I1 J1 Q := by
  intro k
  induction k with
  | zero => intro i f p s a hik he; exact he.elim
  | succ k ih =>
    intro i f p s a hik he hPf hpn hT hT2 I1 J1 c1 k1 s1 o1 g1
    have tail : ∀ s' a' I3 J3, stW (reN kd nd lw pot n) v n s f = s' → (G → stA n k0 j0 (reN kd nd lw pot n) v a f = a') → FrC I J I3 J3 → CK I3 n kd nd od lw pot → SvL I3 J3 77 n kd nd lw 1 (pot * un 1) f n → TrW I3 76 1 2 3 4 s' → (G → I3 76 5 = nI a') → VP m_X9_follow 5 129 [(0, .ref 76), (1, .ref 8), (2, .int (nI v)), (3, .int x), (4, .int y), (6, .int (nI i))] [] I3 J3 Q := by
      intro s' a' I3 J3 hs ha c3 k3 s3 o3 g3
      refine V_al i_X9_follow_129 rfl ?_
      refine V_getR i_X9_follow_130 rfl rfl ?_
      refine P_callV0 i_X9_follow_133 mi_X7_seatNext rfl ⟨_, _, rfl⟩ (by decide) (Nat.le_of_ble_eq_true rfl) (q_next I3 J3 LS_77 k3.Z77 h1 hK.n7 hPf s3) (fun r I4 J4 q => ?_)
      rcases nx_or n f with hx | ⟨z, hx⟩
      · rw [hx] at q
        obtain ⟨f4, -, rfl, -⟩ := q
        have k4 := FrS.K (by decide) f4 k3
        have c4 := FrC.tr c3 (FrS.C (by decide) (by decide) f4)
        refine V_is (L' := [(0, _), (1, _), (2, _), (3, _), (4, _), (5, _), (6, _)]) i_X9_follow_136 (by decide) ⟨rfl, rfl, rfl, rfl, rfl, rfl, rfl, trivial⟩ ?_
        refine V_iinc (L' := [(0, _), (1, _), (2, _), (3, _), (4, _), (5, _), (6, _)]) (n' := 1) i_X9_follow_138 (by decide) rfl (by decide) ⟨rfl, rfl, rfl, rfl, rfl, rfl, rfl, trivial⟩ ?_
        refine V_goto i_X9_follow_141 ?_
        refine V_L (L' := [(0, _), (1, _), (2, _), (3, _), (4, _), (5, _), (6, _)]) ⟨rfl, rfl, rfl, rfl, rfl, rfl, rfl, trivial⟩ ?_
        rw [foC_n hx, hs] at hT
        refine V_il i_X9_follow_73 rfl ?_
        refine V_c i_X9_follow_75 ?_
        refine V_ic_ge i_X9_follow_78 (fun _ => ?_) (fun _ => ?_)
        · exact P_vret i_X9_follow_144 rfl (hq I4 J4 c4 k4 (by rw [← hT]; exact TrW.fr (fun k _ => f4.1 _ _ (by omega)) o3) (fun z => by rw [f4.1 _ _ (by omega), g3 z, ← hT2 z, ← ha z, foC_n hx]))
        · refine V_il i_X9_follow_81 rfl ?_
          refine V_if_lt_t i_X9_follow_83 (by decide) ?_
          exact P_vret i_X9_follow_144 rfl (hq I4 J4 c4 k4 (by rw [← hT]; exact TrW.fr (fun k _ => f4.1 _ _ (by omega)) o3) (fun z => by rw [f4.1 _ _ (by omega), g3 z, ← hT2 z, ← ha z, foC_n hx]))
      · rw [hx] at q
        obtain ⟨f4, -, rfl, hz, hPz, s4⟩ := q
        have k4 := FrS.K (by decide) f4 k3
        have c4 := FrC.tr c3 (FrS.C (by decide) (by decide) f4)
        refine V_is (L' := [(0, _), (1, _), (2, _), (3, _), (4, _), (5, _), (6, _)]) i_X9_follow_136 (by decide) ⟨rfl, rfl, rfl, rfl, rfl, rfl, rfl, trivial⟩ ?_
        refine V_iinc (L' := [(0, _), (1, _), (2, _), (3, _), (4, _), (5, _), (6, _)]) (n' := 1) i_X9_follow_138 (by decide) rfl (by decide) ⟨rfl, rfl, rfl, rfl, rfl, rfl, rfl, trivial⟩ ?_
        refine V_goto i_X9_follow_141 ?_
        refine V_L (L' := [(0, _), (1, _), (2, _), (3, _), (4, _), (5, _), (6, _)]) ⟨rfl, rfl, rfl, rfl, rfl, rfl, rfl, trivial⟩ ?_
        rw [foC_s hx, hs] at hT
        rw [show nI i + 1 = nI (i + 1) from nI_1 i]
        exact ih (i + 1) z.2 z.1 s' a' (by omega) (ends_s he hx) hPz (Nat.le_of_lt hz) hT (fun z' => by rw [← ha z', ← foC_s hx]; exact hT2 z') I4 J4 c4 k4 s4 (TrW.fr (fun k _ => f4.1 _ _ (by omega)) o3) (fun z' => by rw [f4.1 _ _ (by omega)]; exact g3 z')
    refine V_il i_X9_follow_73 rfl ?_
    refine V_c i_X9_follow_75 ?_
    refine V_ic_ge_f i_X9_follow_78 (nI_ge (show i < 5040 by omega) (by decide)) ?_
    refine V_il i_X9_follow_81 rfl ?_
    refine V_if_lt_f i_X9_follow_83 (nI_pos (by have := hK.n7; omega)) ?_
    refine V_al i_X9_follow_86 rfl ?_
    refine V_getR i_X9_follow_87 rfl rfl ?_
    refine V_il i_X9_follow_90 rfl ?_
    refine P_callV1 i_X9_follow_92 mi_X7_serve rfl ⟨_, _, rfl⟩ (by decide) (Nat.le_of_ble_eq_true rfl) (q_serveF I1 J1 LS_77 k1.Z77 k1.n7 (by decide) k1.l3 k1.p9 k1.kd k1.nd hPf hpn s1) (fun r I2 J2 q => ?_)
    obtain ⟨rfl, f2, s2⟩ := q
    have k2 := FrS.K (by decide) f2 k1
    have c2 := FrC.tr c1 (FrS.C (by decide) (by decide) f2)
    have o2 := TrW.fr (fun k _ => f2.1 _ _ (by omega)) o1
    have g2 : G → I2 76 5 = nI a := fun z => by rw [f2.1 _ _ (by omega)]; exact g1 z
    refine V_al i_X9_follow_95 rfl ?_
    refine V_dup i_X9_follow_96 rfl ?_
    refine V_getI i_X9_follow_97 rfl ?_
    refine V_c i_X9_follow_100 ?_
    refine V_iadd i_X9_follow_101 ?_
    refine V_putI i_X9_follow_102 rfl ?_
    rw [o2.2.1, nI_1]
    obtain ⟨I3, hI3⟩ : ∃ x, x = uI I2 76 2 (nI (s.2.1 + 1)) := ⟨_, rfl⟩
    rw [← hI3]
    have k3 : CK I3 n kd nd od lw pot := by rw [hI3]; exact k2.u (Or.inl rfl) _ _
    have c3 : FrC I J I3 J2 := by rw [hI3]; exact FrC.u c2 (Or.inl rfl) _ _
    have s3 : SvL I3 J2 77 n kd nd lw 1 (pot * un 1) f n := by rw [hI3]; exact SvL.xz (uI_xz (Or.inl rfl)) (fun _ _ _ => rfl) (by unfold noZ; omega) s2
    have e3 : ∀ k, k ≠ 2 → I3 76 k = I2 76 k := fun k h => by rw [hI3, uI_nk h]
    have e32 : I3 76 2 = nI (s.2.1 + 1) := by rw [hI3, uI_eq]
    refine V_al i_X9_follow_105 rfl ?_
    refine V_getR i_X9_follow_106 rfl rfl ?_
    refine P_callV0v i_X9_follow_109 mi_X7_rest rfl ⟨_, _, rfl⟩ (by decide) (Nat.le_of_ble_eq_true rfl) (c_S_rest _ _ LS_77 k3.Z77 k3.n7 s3.1.1) ?_
    rw [(s3.2.2.2 n (Nat.le_refl n)).1, show lN (thS kd nd lw 1 (pot * un 1) f n) = lN ((reN kd nd lw pot n) f) from rfl]
    refine V_il i_X9_follow_112 rfl ?_
    refine V_i2l i_X9_follow_113 ?_
    rw [nI_long (by omega)]
    refine V_lcmp i_X9_follow_114 ?_
    refine V_if_ne i_X9_follow_115 (fun c115 => ?_) (fun c115 => ?_)
    · have d1 : ¬ (reN kd nd lw pot n) f = v := fun z => c115 (lgc_eq.mpr (congrArg lN z))
      refine V_L (L' := [(0, _), (1, _), (2, _), (3, _), (4, _), (6, _)]) ⟨rfl, rfl, rfl, rfl, rfl, rfl, trivial⟩ ?_
      exact tail (s.1, s.2.1 + 1, s.2.2.1, s.2.2.2) a I3 J2 (stW_f d1) (fun _ => stA_f d1) c3 k3 s3 ⟨by rw [e3 _ (by decide)]; exact o2.1, e32, by rw [e3 _ (by decide)]; exact o2.2.2.1, by rw [e3 _ (by decide)]; exact o2.2.2.2⟩ (fun z => by rw [e3 _ (by decide)]; exact g2 z)
    · have d1 : (reN kd nd lw pot n) f = v := (pk_lEQ (Nat.lt_trans (thB hK.p9 n) (by decide)) (by omega)).mp (lgc_eq.mp c115)
      refine V_al i_X9_follow_118 rfl ?_
      refine V_al i_X9_follow_119 rfl ?_
      refine V_getI i_X9_follow_120 rfl ?_
      rw [k3.sz]
      refine V_il i_X9_follow_123 rfl ?_
      refine V_il i_X9_follow_124 rfl ?_
      refine P_callV3 i_X9_follow_126 mi_X9_note rfl ⟨_, _, rfl⟩ (by decide) (Nat.le_of_ble_eq_true rfl) (c_note I3 J2 h1 hK.n7 s3.2.2.1 k3.Z77.2.2.1 hPf x y) (fun r I4 J4 q => ?_)
      obtain ⟨rfl, rfl, b1, b2, b3, b4, b5, b6⟩ := q
      have k4 := CK.xz (fun x k h => b6 x k (fun z => h (Or.inl z))) k3
      refine V_L (L' := [(0, _), (1, _), (2, _), (3, _), (4, _), (6, _)]) ⟨rfl, rfl, rfl, rfl, rfl, rfl, trivial⟩ ?_
      exact tail _ _ I4 _ (stW_t d1) (fun _ => stA_t d1) (FrC.tr c3 (FrC.xz (fun x k h => b6 x k (fun z => h (Or.inl z))) (fun _ _ _ => rfl))) k4 (SvL.xz (fun x k h => b6 x k (fun z => h (Or.inl z))) (fun _ _ _ => rfl) (by unfold noZ; omega) s3) ⟨by rw [b1, e3 _ (by decide), o2.1, nI_1], by rw [b2, e32], by rw [b3, e3 _ (by decide), o2.2.2.1], by rw [b4, e3 _ (by decide), o2.2.2.2]⟩ (fun z => by rw [b5 k0 j0 (hG z).1 (hG z).2.1 (hG z).2.2.1 (hG z).2.2.2.1 (hG z).2.2.2.2, e3 _ (by decide), g2 z, nI_add01])
set_option maxRecDepth 100000 in
set_option maxHeartbeats 4000000 in
theorem c_follow (I : IntM) (J : LngM) {n : Nat} {kd nd od : Nat → Nat} {lw pot : Nat} (hK : CK I n kd nd od lw pot) {v : Nat} (hv : v < 1000) (h1 : 1 ≤ n) {G : Prop} {k0 j0 : Nat} {x y : Int32} (hG : G → x = nI k0 ∧ y = nI j0 ∧ k0 < n ∧ j0 < n ∧ k0 ≠ j0) : CtP 5 m_X9_follow [.ref 76, .ref 8, .int (nI v), .int x, .int y] I J (fun r I1 J1 => r = none ∧ FrC I J I1 J1 ∧ CK I1 n kd nd od lw pot ∧ TrW I1 76 1 2 3 4 (wyT kd nd lw pot n v) ∧ (G → I1 76 5 = nI (ahT kd nd lw pot n v k0 j0))) := by
  refine CtP_of (by decide) rfl (Nat.le_of_ble_eq_true rfl) ?_
  refine V_al i_X9_follow_0 rfl ?_
  refine V_c i_X9_follow_1 ?_
  refine V_putI i_X9_follow_2 rfl ?_
  refine V_al i_X9_follow_5 rfl ?_
  refine V_c i_X9_follow_6 ?_
  refine V_putI i_X9_follow_7 rfl ?_
  refine V_al i_X9_follow_10 rfl ?_
  refine V_c i_X9_follow_11 ?_
  refine V_putI i_X9_follow_12 rfl ?_
  refine V_al i_X9_follow_15 rfl ?_
  refine V_c i_X9_follow_16 ?_
  refine V_putI i_X9_follow_17 rfl ?_
  refine V_al i_X9_follow_20 rfl ?_
  refine V_c i_X9_follow_21 ?_
  refine V_putI i_X9_follow_22 rfl ?_
  obtain ⟨I1, hI1⟩ : ∃ x, x = uI (uI (uI (uI (uI I 76 1 0) 76 2 0) 76 3 0) 76 4 0) 76 5 0 := ⟨_, rfl⟩
  rw [← hI1]
  have x1 : ∀ x k, ¬ noZ x → I1 x k = I x k := fun x k h => by rw [hI1, uI_xz (Or.inl rfl) x k h, uI_xz (Or.inl rfl) x k h, uI_xz (Or.inl rfl) x k h, uI_xz (Or.inl rfl) x k h, uI_xz (Or.inl rfl) x k h]
  have k1 : CK I1 n kd nd od lw pot := CK.xz x1 hK
  have c1 : FrC I J I1 J := FrC.xz x1 (fun _ _ _ => rfl)
  have t1 : TrW I1 76 1 2 3 4 (0, 0, 0, 0) := by rw [hI1]; exact ⟨rfl, rfl, rfl, rfl⟩
  have t5 : I1 76 5 = 0 := by rw [hI1]; rfl
  refine V_al i_X9_follow_25 rfl ?_
  refine V_getR i_X9_follow_26 rfl rfl ?_
  refine V_al i_X9_follow_29 rfl ?_
  refine P_callV1 i_X9_follow_30 mi_X7_invite rfl ⟨_, _, rfl⟩ (by decide) (Nat.le_of_ble_eq_true rfl) (q_invite I1 J LS_77 k1.Z77 k1.n7 k1.C) (fun r I2 J2 q => ?_)
  obtain ⟨rfl, f2, s2, -⟩ := q
  have k2 := FrS.K (by decide) f2 k1
  refine V_al i_X9_follow_33 rfl ?_
  refine V_getR i_X9_follow_34 rfl rfl ?_
  refine V_al i_X9_follow_37 rfl ?_
  refine V_getI i_X9_follow_38 rfl ?_
  rw [k2.lw]
  refine V_c i_X9_follow_41 ?_
  refine V_al i_X9_follow_42 rfl ?_
  refine V_getI i_X9_follow_43 rfl ?_
  rw [k2.pt]
  refine P_callV3 i_X9_follow_46 mi_X7_rules rfl ⟨_, _, rfl⟩ (by decide) (Nat.le_of_ble_eq_true rfl) (q_rules (how := 1) I2 J2 LS_77 k2.Z77 (by decide) k2.p9 s2) (fun r I3 J3 q => ?_)
  obtain ⟨rfl, f3, s3, r3, -⟩ := q
  have k3 := FrS.K (by decide) f3 k2
  refine V_al i_X9_follow_49 rfl ?_
  refine V_getR i_X9_follow_50 rfl rfl ?_
  refine P_callV0 i_X9_follow_53 mi_X7_seatByNumbers rfl ⟨_, _, rfl⟩ (by decide) (Nat.le_of_ble_eq_true rfl) (q_num I3 J3 LS_77 k3.Z77 k3.n7 s3 r3) (fun r I4 J4 q => ?_)
  obtain ⟨rfl, f4, s4, -⟩ := q
  have k4 := FrS.K (by decide) f4 k3
  have f9 := FrS.tr f2 (FrS.tr f3 f4)
  have c4 := FrC.tr c1 (FrS.C (by decide) (by decide) f9)
  have t4 := TrW.fr (fun k _ => f9.1 _ _ (by omega)) t1
  refine V_al i_X9_follow_56 rfl ?_
  refine V_getI i_X9_follow_57 rfl ?_
  refine V_if_ne_t i_X9_follow_60 (by rw [k4.sz]; exact nI_ne0 h1 (by have := hK.n7; omega)) ?_
  refine V_c i_X9_follow_67 ?_
  refine V_is (L' := [(0, _), (1, _), (2, _), (3, _), (4, _), (5, _)]) i_X9_follow_68 (by decide) ⟨rfl, rfl, rfl, rfl, rfl, rfl, trivial⟩ ?_
  refine V_c i_X9_follow_70 ?_
  refine V_is (L' := [(0, _), (1, _), (2, _), (3, _), (4, _), (5, _), (6, _)]) i_X9_follow_71 (by decide) ⟨rfl, rfl, rfl, rfl, rfl, rfl, rfl, trivial⟩ ?_
  refine V_L (L' := [(0, _), (1, _), (2, _), (3, _), (4, _), (5, _), (6, _)]) ⟨rfl, rfl, rfl, rfl, rfl, rfl, rfl, trivial⟩ ?_
  exact lp_follow I J hK hv h1 hG (T := wyT kd nd lw pot n v) (T2 := ahT kd nd lw pot n v k0 j0) _ (fun I5 J5 c5 k5 t5 g5 => ⟨rfl, c5, k5, t5, g5⟩) 5040 0 (fun i => i) 0 (0, 0, 0, 0) 0 rfl (ends_id h1 hK.n7) (Pm_id n) (Nat.zero_le _) rfl (fun _ => rfl) I4 J4 c4 k4 s4 t4 (fun _ => by rw [f9.1 _ _ (by omega), t5]; rfl)
set_option maxRecDepth 100000 in
set_option maxHeartbeats 4000000 in
theorem c_follow0 (I : IntM) (J : LngM) {n : Nat} {kd nd od : Nat → Nat} {lw pot : Nat} (hK : CK I n kd nd od lw pot) {v : Nat} (h0 : n = 0) (x y : Int32) : CtP 5 m_X9_follow [.ref 76, .ref 8, .int (nI v), .int x, .int y] I J (fun r I1 J1 => r = none ∧ FrC I J I1 J1 ∧ CK I1 n kd nd od lw pot ∧ TrW I1 76 1 2 3 4 (0, 0, 0, 0)) := by
  refine CtP_of (by decide) rfl (Nat.le_of_ble_eq_true rfl) ?_
  refine V_al i_X9_follow_0 rfl ?_
  refine V_c i_X9_follow_1 ?_
  refine V_putI i_X9_follow_2 rfl ?_
  refine V_al i_X9_follow_5 rfl ?_
  refine V_c i_X9_follow_6 ?_
  refine V_putI i_X9_follow_7 rfl ?_
  refine V_al i_X9_follow_10 rfl ?_
  refine V_c i_X9_follow_11 ?_
  refine V_putI i_X9_follow_12 rfl ?_
  refine V_al i_X9_follow_15 rfl ?_
  refine V_c i_X9_follow_16 ?_
  refine V_putI i_X9_follow_17 rfl ?_
  refine V_al i_X9_follow_20 rfl ?_
  refine V_c i_X9_follow_21 ?_
  refine V_putI i_X9_follow_22 rfl ?_
  obtain ⟨I1, hI1⟩ : ∃ x, x = uI (uI (uI (uI (uI I 76 1 0) 76 2 0) 76 3 0) 76 4 0) 76 5 0 := ⟨_, rfl⟩
  rw [← hI1]
  have x1 : ∀ x k, ¬ noZ x → I1 x k = I x k := fun x k h => by rw [hI1, uI_xz (Or.inl rfl) x k h, uI_xz (Or.inl rfl) x k h, uI_xz (Or.inl rfl) x k h, uI_xz (Or.inl rfl) x k h, uI_xz (Or.inl rfl) x k h]
  have k1 : CK I1 n kd nd od lw pot := CK.xz x1 hK
  have c1 : FrC I J I1 J := FrC.xz x1 (fun _ _ _ => rfl)
  have t1 : TrW I1 76 1 2 3 4 (0, 0, 0, 0) := by rw [hI1]; exact ⟨rfl, rfl, rfl, rfl⟩
  have t5 : I1 76 5 = 0 := by rw [hI1]; rfl
  refine V_al i_X9_follow_25 rfl ?_
  refine V_getR i_X9_follow_26 rfl rfl ?_
  refine V_al i_X9_follow_29 rfl ?_
  refine P_callV1 i_X9_follow_30 mi_X7_invite rfl ⟨_, _, rfl⟩ (by decide) (Nat.le_of_ble_eq_true rfl) (q_invite I1 J LS_77 k1.Z77 k1.n7 k1.C) (fun r I2 J2 q => ?_)
  obtain ⟨rfl, f2, s2, -⟩ := q
  have k2 := FrS.K (by decide) f2 k1
  refine V_al i_X9_follow_33 rfl ?_
  refine V_getR i_X9_follow_34 rfl rfl ?_
  refine V_al i_X9_follow_37 rfl ?_
  refine V_getI i_X9_follow_38 rfl ?_
  rw [k2.lw]
  refine V_c i_X9_follow_41 ?_
  refine V_al i_X9_follow_42 rfl ?_
  refine V_getI i_X9_follow_43 rfl ?_
  rw [k2.pt]
  refine P_callV3 i_X9_follow_46 mi_X7_rules rfl ⟨_, _, rfl⟩ (by decide) (Nat.le_of_ble_eq_true rfl) (q_rules (how := 1) I2 J2 LS_77 k2.Z77 (by decide) k2.p9 s2) (fun r I3 J3 q => ?_)
  obtain ⟨rfl, f3, s3, r3, -⟩ := q
  have k3 := FrS.K (by decide) f3 k2
  refine V_al i_X9_follow_49 rfl ?_
  refine V_getR i_X9_follow_50 rfl rfl ?_
  refine P_callV0 i_X9_follow_53 mi_X7_seatByNumbers rfl ⟨_, _, rfl⟩ (by decide) (Nat.le_of_ble_eq_true rfl) (q_num I3 J3 LS_77 k3.Z77 k3.n7 s3 r3) (fun r I4 J4 q => ?_)
  obtain ⟨rfl, f4, s4, -⟩ := q
  have k4 := FrS.K (by decide) f4 k3
  have f9 := FrS.tr f2 (FrS.tr f3 f4)
  have c4 := FrC.tr c1 (FrS.C (by decide) (by decide) f9)
  have t4 := TrW.fr (fun k _ => f9.1 _ _ (by omega)) t1
  refine V_al i_X9_follow_56 rfl ?_
  refine V_getI i_X9_follow_57 rfl ?_
  refine V_if_ne_f i_X9_follow_60 (by rw [k4.sz, h0]; rfl) ?_
  refine V_c i_X9_follow_63 ?_
  refine V_goto i_X9_follow_64 ?_
  refine V_is (L' := [(0, _), (1, _), (2, _), (3, _), (4, _), (5, _)]) i_X9_follow_68 (by decide) ⟨rfl, rfl, rfl, rfl, rfl, rfl, trivial⟩ ?_
  refine V_c i_X9_follow_70 ?_
  refine V_is (L' := [(0, _), (1, _), (2, _), (3, _), (4, _), (5, _), (6, _)]) i_X9_follow_71 (by decide) ⟨rfl, rfl, rfl, rfl, rfl, rfl, rfl, trivial⟩ ?_
  refine V_L (L' := [(0, _), (1, _), (2, _), (3, _), (4, _), (5, _), (6, _)]) ⟨rfl, rfl, rfl, rfl, rfl, rfl, rfl, trivial⟩ ?_
  refine V_il i_X9_follow_73 rfl ?_
  refine V_c i_X9_follow_75 ?_
  refine V_ic_ge_f i_X9_follow_78 (by decide) ?_
  refine V_il i_X9_follow_81 rfl ?_
  refine V_if_lt_t i_X9_follow_83 (by decide) ?_
  exact P_vret i_X9_follow_144 rfl ⟨rfl, c4, k4, t4⟩
