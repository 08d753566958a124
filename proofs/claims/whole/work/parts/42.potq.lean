
/-! ===== the least pots: what is asked ===== -/
theorem thS_cong {kd nd : Nat → Nat} {lw how P : Nat} {ln ln' : Nat → Nat} : ∀ i, (∀ j, j < i → ln j = ln' j) → thS kd nd lw how P ln i = thS kd nd lw how P ln' i
  | 0, _ => rfl
  | i + 1, h => by
    have ih := thS_cong (kd := kd) (nd := nd) (lw := lw) (how := how) (P := P) (ln := ln) (ln' := ln') i (fun j hj => h j (by omega))
    show thS kd nd lw how P ln i - tk (kd (ln i)) (nd (ln i) * un how) (thS kd nd lw how P ln i) (dv lw i) = thS kd nd lw how P ln' i - tk (kd (ln' i)) (nd (ln' i) * un how) (thS kd nd lw how P ln' i) (dv lw i)
    rw [ih, h i (by omega)]
theorem tkS_cong {kd nd : Nat → Nat} {lw how P : Nat} {ln ln' : Nat → Nat} {i : Nat} (h : ∀ j, j ≤ i → ln j = ln' j) : tkS kd nd lw how P ln i = tkS kd nd lw how P ln' i := by
  unfold tkS
  rw [thS_cong i (fun j hj => h j (by omega)), h i (Nat.le_refl i)]
theorem plN_cong {f g : Nat → Nat} {k : Nat} : ∀ {n}, (∀ j, j < n → f j = g j) → plN f k n = plN g k n
  | 0, _ => rfl
  | n + 1, h => by
    have ih := plN_cong (f := f) (g := g) (k := k) (n := n) (fun j hj => h j (by omega))
    show (if f n = k then n else plN f k n) = (if g n = k then n else plN g k n)
    rw [ih, h n (by omega)]
theorem fdE_cong {kd nd : Nat → Nat} {lw how P : Nat} {ln ln' : Nat → Nat} {n k : Nat} (hn : 0 < n) (h : ∀ j, j < n → ln j = ln' j) : fdE kd nd lw how P ln n k = fdE kd nd lw how P ln' n k := by
  have hp := plN_lt (od := ln') (k := k) hn
  unfold fdE
  rw [plN_cong h, tkS_cong (fun j hj => h j (by omega))]
/-- the least of v, v + 1, .. (k of them) by which f holds; 0: none -/
def lsB (f : Nat → Bool) : Nat → Nat → Nat := fun k => match k with
  | 0 => fun _ => 0
  | k + 1 => fun v => if f v = true then v else lsB f k (v + 1)
theorem lsB_spec {f : Nat → Bool} : ∀ k v, (lsB f k v = 0 ∧ ∀ q, v ≤ q → q < v + k → f q = false) ∨ (v ≤ lsB f k v ∧ lsB f k v < v + k ∧ f (lsB f k v) = true ∧ ∀ q, v ≤ q → q < lsB f k v → f q = false)
  | 0, v => Or.inl ⟨rfl, fun q h1 h2 => by omega⟩
  | k + 1, v => by
    by_cases h : f v = true
    · have e : lsB f (k + 1) v = v := if_pos h
      rw [e]
      exact Or.inr ⟨Nat.le_refl _, by omega, h, fun q h1 h2 => by omega⟩
    · have e : lsB f (k + 1) v = lsB f k (v + 1) := if_neg h
      have h' : f v = false := by simpa using h
      rw [e]
      rcases lsB_spec (f := f) k (v + 1) with ⟨a, b⟩ | ⟨a, b, c, d⟩
      · refine Or.inl ⟨a, fun q h1 h2 => ?_⟩
        by_cases hq : q = v
        · rw [hq]; exact h'
        · exact b q (by omega) (by omega)
      · refine Or.inr ⟨by omega, by omega, c, fun q h1 h2 => ?_⟩
        by_cases hq : q = v
        · rw [hq]; exact h'
        · exact d q (by omega) h2
def fdB (kd nd : Nat → Nat) (l how : Nat) (ov : Nat → Nat) (n ev p : Nat) : Bool := decide (popc (fuS kd nd l how (p * un how) ov n ev) = n)
theorem fdB_iff {kd nd : Nat → Nat} {l how : Nat} {ov : Nat → Nat} {n ev p : Nat} : fdB kd nd l how ov n ev p = true ↔ fdP kd nd l how ov n ev p := decide_eq_true_iff
def leP (kd nd : Nat → Nat) (how : Nat) (ov : Nat → Nat) (n ev l : Nat) : Nat := lsB (fdB kd nd l how ov n ev) 999 1
theorem leP_lt (kd nd : Nat → Nat) (how : Nat) (ov : Nat → Nat) (n ev l : Nat) : leP kd nd how ov n ev l ≤ 999 := by
  unfold leP
  rcases lsB_spec (f := fdB kd nd l how ov n ev) 999 1 with ⟨a, -⟩ | ⟨a, b, -, -⟩ <;> omega
theorem leP_top {kd nd : Nat → Nat} {l how : Nat} {ov : Nat → Nat} {n ev top v : Nat} (hn : n ≤ 7) (h1 : 1 ≤ top) (ht : top ≤ 999) (h : (v = 0 ∧ ¬ fdP kd nd l how ov n ev top) ∨ (1 ≤ v ∧ v ≤ top ∧ fdP kd nd l how ov n ev v ∧ ∀ q, 1 ≤ q → q < v → ¬ fdP kd nd l how ov n ev q)) : v = if 1 ≤ leP kd nd how ov n ev l ∧ leP kd nd how ov n ev l ≤ top then leP kd nd how ov n ev l else 0 := by
  have hs := lsB_spec (f := fdB kd nd l how ov n ev) 999 1
  change (leP kd nd how ov n ev l = 0 ∧ _) ∨ (1 ≤ leP kd nd how ov n ev l ∧ leP kd nd how ov n ev l < 1 + 999 ∧ fdB kd nd l how ov n ev (leP kd nd how ov n ev l) = true ∧ ∀ q, 1 ≤ q → q < leP kd nd how ov n ev l → _) at hs
  generalize leP kd nd how ov n ev l = x at hs
  rcases hs with ⟨a, b⟩ | ⟨a, b, c, d⟩
  · rw [if_neg (by omega)]
    rcases h with ⟨e, -⟩ | ⟨e1, e2, e3, -⟩
    · exact e
    · have := b v e1 (by omega)
      rw [fdB_iff.mpr e3] at this
      cases this
  · rcases h with ⟨e, g⟩ | ⟨e1, e2, e3, e4⟩
    · rw [if_neg (fun q => g (fdP_mono hn q.2 (fdB_iff.mp c)))]
      exact e
    · have hxv : x = v := by
        rcases Nat.lt_trichotomy x v with q | q | q
        · exact absurd (fdB_iff.mp c) (e4 x a q)
        · exact q
        · have := d v e1 q
          rw [fdB_iff.mpr e3] at this
          cases this
      rw [hxv, if_pos ⟨e1, e2⟩]
theorem leP_eq {kd nd : Nat → Nat} {l how : Nat} {ov : Nat → Nat} {n ev v : Nat} (hn : n ≤ 7) (h : (v = 0 ∧ ¬ fdP kd nd l how ov n ev 999) ∨ (1 ≤ v ∧ v ≤ 999 ∧ fdP kd nd l how ov n ev v ∧ ∀ q, 1 ≤ q → q < v → ¬ fdP kd nd l how ov n ev q)) : v = leP kd nd how ov n ev l := by
  have e := leP_top hn (by decide) (Nat.le_refl 999) h
  have := leP_lt kd nd how ov n ev l
  by_cases q : 1 ≤ leP kd nd how ov n ev l
  · rw [if_pos ⟨q, this⟩] at e
    exact e
  · rw [if_neg (fun z => q z.1)] at e
    omega
def nnI (v : Nat) : Int32 := if nI v = 0 then -9 else nI v
theorem nnI_pos {v : Nat} (h1 : 1 ≤ v) (h : v < 2 ^ 31) : nnI v = nI v := if_neg (nI_ne0 h1 h)

set_option maxRecDepth 100000 in
set_option maxHeartbeats 4000000 in
theorem c_least0 (I : IntM) (J : LngM) {n : Nat} {kd nd od : Nat → Nat} {lw pot : Nat} (hK : CK I n kd nd od lw pot) {x : Int32} (h : howv x = 0) : CtP 6 m_X10_least [.ref 0, .int x] I J (QC I J (.int (-1)) none none none) := by
  refine CtP_of (by decide) rfl (Nat.le_of_ble_eq_true rfl) ?_
  refine V_il i_X10_least_0 rfl ?_
  refine P_callS1v i_X10_least_1 ms_X10_isHow (by decide) (Nat.le_of_ble_eq_true rfl) (c_isHow _ _ _) ?_
  refine V_if_ne_f i_X10_least_4 h ?_
  refine V_c i_X10_least_7 ?_
  exact P_iret i_X10_least_8 rfl ⟨rfl, I, J, FrC.rf, hK.Z, rfl, rfl⟩
set_option maxRecDepth 100000 in
set_option maxHeartbeats 4000000 in
theorem c_least1 (I : IntM) (J : LngM) {n : Nat} {kd nd od : Nat → Nat} {lw pot : Nat} (hK : CK I n kd nd od lw pot) {how : Nat} (hh : how ≤ 1) (h0 : n = 0) : CtP 6 m_X10_least [.ref 0, .int (nI how)] I J (QC I J (.int (-4)) none none none) := by
  refine CtP_of (by decide) rfl (Nat.le_of_ble_eq_true rfl) ?_
  refine V_il i_X10_least_0 rfl ?_
  refine P_callS1v i_X10_least_1 ms_X10_isHow (by decide) (Nat.le_of_ble_eq_true rfl) (c_isHow _ _ _) ?_
  refine V_if_ne_t i_X10_least_4 (by rw [howv_nI hh]; decide) ?_
  refine V_al i_X10_least_9 rfl ?_
  refine V_getR i_X10_least_10 rfl rfl ?_
  refine V_getI i_X10_least_13 rfl ?_
  refine V_if_ne_f i_X10_least_16 (by rw [hK.sz, h0]; rfl) ?_
  refine V_c i_X10_least_19 ?_
  exact P_iret i_X10_least_21 rfl ⟨rfl, I, J, FrC.rf, hK.Z, rfl, rfl⟩
set_option maxRecDepth 100000 in
set_option maxHeartbeats 4000000 in
theorem c_least (I : IntM) (J : LngM) {n : Nat} {kd nd od : Nat → Nat} {lw pot : Nat} (hK : CK I n kd nd od lw pot) {how : Nat} (hh : how ≤ 1) (h0 : 0 < n) : CtP 6 m_X10_least [.ref 0, .int (nI how)] I J (QC I J (.int (nnI (leP kd nd how od n 1 lw))) none none none) := by
  refine CtP_of (by decide) rfl (Nat.le_of_ble_eq_true rfl) ?_
  refine V_il i_X10_least_0 rfl ?_
  refine P_callS1v i_X10_least_1 ms_X10_isHow (by decide) (Nat.le_of_ble_eq_true rfl) (c_isHow _ _ _) ?_
  refine V_if_ne_t i_X10_least_4 (by rw [howv_nI hh]; decide) ?_
  refine V_al i_X10_least_9 rfl ?_
  refine V_getR i_X10_least_10 rfl rfl ?_
  refine V_getI i_X10_least_13 rfl ?_
  refine V_if_ne_t i_X10_least_16 (by rw [hK.sz]; exact nI_ne0 h0 (by have := hK.n7; omega)) ?_
  refine V_al i_X10_least_22 rfl ?_
  refine V_getR i_X10_least_23 rfl rfl ?_
  refine V_al i_X10_least_26 rfl ?_
  refine V_getR i_X10_least_27 rfl rfl ?_
  refine V_al i_X10_least_30 rfl ?_
  refine V_getR i_X10_least_31 rfl rfl ?_
  refine V_getR i_X10_least_34 rfl rfl ?_
  refine V_al i_X10_least_37 rfl ?_
  refine V_getR i_X10_least_38 rfl rfl ?_
  refine V_getI i_X10_least_41 rfl ?_
  rw [hK.lw]
  refine V_il i_X10_least_44 rfl ?_
  refine V_c i_X10_least_45 ?_
  refine V_c i_X10_least_46 ?_
  refine P_callV6 i_X10_least_49 mi_X5_lowest rfl ⟨_, _, rfl⟩ (by decide) (Nat.le_of_ble_eq_true rfl) (c_lowest I J hK (y := 13) ⟨rfl, rfl, rfl, by decide⟩ hK.z13 (by decide) hK.od hK.P hK.l3 hh (show 1 ≤ 7 by decide) (by decide) (by decide)) (fun r I1 J1 q => ?_)
  obtain ⟨v, rfl, f1, hv⟩ := q
  have k1 := FrS.K (by decide) f1 hK
  have e := leP_eq hK.n7 hv
  subst e
  refine P_callS1v i_X10_least_52 ms_X10_noneIfNought (by decide) (Nat.le_of_ble_eq_true rfl) (c_noneIf _ _ _) ?_
  exact P_iret i_X10_least_55 rfl ⟨rfl, I1, J1, FrS.C (by decide) (by decide) f1, k1.Z, rfl, rfl⟩
set_option maxRecDepth 100000 in
set_option maxHeartbeats 4000000 in
theorem c_famine0 (I : IntM) (J : LngM) {n : Nat} {kd nd od : Nat → Nat} {lw pot : Nat} (hK : CK I n kd nd od lw pot) {x y : Int32} (h : x < 1 ∨ 7 < x ∨ howv y = 0) : CtP 6 m_X10_famine [.ref 0, .int x, .int y] I J (QC I J (.int (-1)) none none none) := by
  refine CtP_of (by decide) rfl (Nat.le_of_ble_eq_true rfl) ?_
  refine V_il i_X10_famine_0 rfl ?_
  refine V_c i_X10_famine_1 ?_
  refine V_ic_lt i_X10_famine_2 (fun c2 => ?_) (fun c2 => ?_)
  · refine V_c i_X10_famine_18 ?_
    exact P_iret i_X10_famine_19 rfl ⟨rfl, I, J, FrC.rf, hK.Z, rfl, rfl⟩
  · refine V_il i_X10_famine_5 rfl ?_
    refine V_c i_X10_famine_6 ?_
    refine V_ic_gt i_X10_famine_8 (fun c8 => ?_) (fun c8 => ?_)
    · refine V_c i_X10_famine_18 ?_
      exact P_iret i_X10_famine_19 rfl ⟨rfl, I, J, FrC.rf, hK.Z, rfl, rfl⟩
    · refine V_il i_X10_famine_11 rfl ?_
      refine P_callS1v i_X10_famine_12 ms_X10_isHow (by decide) (Nat.le_of_ble_eq_true rfl) (c_isHow _ _ _) ?_
      refine V_if_ne_f i_X10_famine_15 (by rcases h with h | h | h; exact absurd h c2; exact absurd h c8; exact h) ?_
      refine V_c i_X10_famine_18 ?_
      exact P_iret i_X10_famine_19 rfl ⟨rfl, I, J, FrC.rf, hK.Z, rfl, rfl⟩
set_option maxRecDepth 100000 in
set_option maxHeartbeats 4000000 in
theorem c_famine1 (I : IntM) (J : LngM) {n : Nat} {kd nd od : Nat → Nat} {lw pot : Nat} (hK : CK I n kd nd od lw pot) {dd how : Nat} (hd1 : 1 ≤ dd) (hdd : dd ≤ 7) (hh : how ≤ 1) (h0 : n = 0) : CtP 6 m_X10_famine [.ref 0, .int (nI dd), .int (nI how)] I J (QC I J (.int (-4)) none none none) := by
  refine CtP_of (by decide) rfl (Nat.le_of_ble_eq_true rfl) ?_
  refine V_il i_X10_famine_0 rfl ?_
  refine V_c i_X10_famine_1 ?_
  refine V_ic_lt_f i_X10_famine_2 (nI_ge1 hd1 hdd) ?_
  refine V_il i_X10_famine_5 rfl ?_
  refine V_c i_X10_famine_6 ?_
  refine V_ic_gt_f i_X10_famine_8 (nI_nlt hdd (by decide)) ?_
  refine V_il i_X10_famine_11 rfl ?_
  refine P_callS1v i_X10_famine_12 ms_X10_isHow (by decide) (Nat.le_of_ble_eq_true rfl) (c_isHow _ _ _) ?_
  refine V_if_ne_t i_X10_famine_15 (by rw [howv_nI hh]; decide) ?_
  refine V_al i_X10_famine_20 rfl ?_
  refine V_getR i_X10_famine_21 rfl rfl ?_
  refine V_getI i_X10_famine_24 rfl ?_
  refine V_if_ne_f i_X10_famine_27 (by rw [hK.sz, h0]; rfl) ?_
  refine V_c i_X10_famine_30 ?_
  exact P_iret i_X10_famine_32 rfl ⟨rfl, I, J, FrC.rf, hK.Z, rfl, rfl⟩
set_option maxRecDepth 100000 in
set_option maxHeartbeats 4000000 in
theorem c_famine (I : IntM) (J : LngM) {n : Nat} {kd nd od : Nat → Nat} {lw pot : Nat} (hK : CK I n kd nd od lw pot) {dd how : Nat} (hd1 : 1 ≤ dd) (hdd : dd ≤ 7) (hh : how ≤ 1) (h0 : 0 < n) : CtP 6 m_X10_famine [.ref 0, .int (nI dd), .int (nI how)] I J (QC I J (.int (nnI (leP kd nd how od n dd lw))) none none none) := by
  refine CtP_of (by decide) rfl (Nat.le_of_ble_eq_true rfl) ?_
  refine V_il i_X10_famine_0 rfl ?_
  refine V_c i_X10_famine_1 ?_
  refine V_ic_lt_f i_X10_famine_2 (nI_ge1 hd1 hdd) ?_
  refine V_il i_X10_famine_5 rfl ?_
  refine V_c i_X10_famine_6 ?_
  refine V_ic_gt_f i_X10_famine_8 (nI_nlt hdd (by decide)) ?_
  refine V_il i_X10_famine_11 rfl ?_
  refine P_callS1v i_X10_famine_12 ms_X10_isHow (by decide) (Nat.le_of_ble_eq_true rfl) (c_isHow _ _ _) ?_
  refine V_if_ne_t i_X10_famine_15 (by rw [howv_nI hh]; decide) ?_
  refine V_al i_X10_famine_20 rfl ?_
  refine V_getR i_X10_famine_21 rfl rfl ?_
  refine V_getI i_X10_famine_24 rfl ?_
  refine V_if_ne_t i_X10_famine_27 (by rw [hK.sz]; exact nI_ne0 h0 (by have := hK.n7; omega)) ?_
  refine V_al i_X10_famine_33 rfl ?_
  refine V_getR i_X10_famine_34 rfl rfl ?_
  refine V_al i_X10_famine_37 rfl ?_
  refine V_getR i_X10_famine_38 rfl rfl ?_
  refine V_al i_X10_famine_41 rfl ?_
  refine V_getR i_X10_famine_42 rfl rfl ?_
  refine V_getR i_X10_famine_45 rfl rfl ?_
  refine V_al i_X10_famine_48 rfl ?_
  refine V_getR i_X10_famine_49 rfl rfl ?_
  refine V_getI i_X10_famine_52 rfl ?_
  rw [hK.lw]
  refine V_il i_X10_famine_55 rfl ?_
  refine V_il i_X10_famine_56 rfl ?_
  refine V_c i_X10_famine_57 ?_
  refine P_callV6 i_X10_famine_60 mi_X5_lowest rfl ⟨_, _, rfl⟩ (by decide) (Nat.le_of_ble_eq_true rfl) (c_lowest I J hK (y := 13) ⟨rfl, rfl, rfl, by decide⟩ hK.z13 (by decide) hK.od hK.P hK.l3 hh hdd (by decide) (by decide)) (fun r I1 J1 q => ?_)
  obtain ⟨v, rfl, f1, hv⟩ := q
  have k1 := FrS.K (by decide) f1 hK
  have e := leP_eq hK.n7 hv
  subst e
  refine P_callS1v i_X10_famine_63 ms_X10_noneIfNought (by decide) (Nat.le_of_ble_eq_true rfl) (c_noneIf _ _ _) ?_
  exact P_iret i_X10_famine_66 rfl ⟨rfl, I1, J1, FrS.C (by decide) (by decide) f1, k1.Z, rfl, rfl⟩
def kbM (L : Nat → Nat) : Nat → Nat := fun i => match i with
  | 0 => 1000
  | i + 1 => if 1 ≤ L i ∧ L i < kbM L i then L i else kbM L i
def kbI (L : Nat → Nat) : Nat → Int32 := fun i => match i with
  | 0 => -9
  | i + 1 => if 1 ≤ L i ∧ L i < kbM L i then nI i else kbI L i
theorem kbM_b (L : Nat → Nat) : ∀ i, 1 ≤ kbM L i ∧ kbM L i ≤ 1000
  | 0 => by unfold kbM; omega
  | i + 1 => by
    have ih := kbM_b L i
    show 1 ≤ (if 1 ≤ L i ∧ L i < kbM L i then L i else kbM L i) ∧ (if 1 ≤ L i ∧ L i < kbM L i then L i else kbM L i) ≤ 1000
    split <;> omega
theorem kb_t {L : Nat → Nat} {i : Nat} (h : 1 ≤ L i ∧ L i < kbM L i) : kbI L (i + 1) = nI i ∧ kbM L (i + 1) = L i := ⟨if_pos h, if_pos h⟩
theorem kb_f {L : Nat → Nat} {i : Nat} (h : ¬ (1 ≤ L i ∧ L i < kbM L i)) : kbI L (i + 1) = kbI L i ∧ kbM L (i + 1) = kbM L i := ⟨if_neg h, if_neg h⟩
theorem kb_stop {L : Nat → Nat} {i : Nat} (h : kbM L i = 1) : ∀ j, kbI L (i + j) = kbI L i ∧ kbM L (i + j) = kbM L i
  | 0 => ⟨rfl, rfl⟩
  | j + 1 => by
    have ih := kb_stop h j
    have e := kb_f (L := L) (i := i + j) (by omega)
    exact ⟨e.1.trans ih.1, e.2.trans ih.2⟩
theorem nI_sub1 {v : Nat} (h : 1 ≤ v) : nI v - 1 = nI (v - 1) := by
  obtain ⟨u, rfl⟩ : ∃ u, v = u + 1 := ⟨v - 1, by omega⟩
  rw [nI_pred]
  rfl

set_option maxRecDepth 100000 in
set_option maxHeartbeats 4000000 in
theorem c_kindest0 (I : IntM) (J : LngM) {n : Nat} {kd nd od : Nat → Nat} {lw pot : Nat} (hK : CK I n kd nd od lw pot) {x y : Int32} (h : x < 1 ∨ 7 < x ∨ howv y = 0) : CtP 6 m_X10_kindest [.ref 0, .int x, .int y] I J (QC I J (.int (-1)) none none none) := by
  refine CtP_of (by decide) rfl (Nat.le_of_ble_eq_true rfl) ?_
  refine V_il i_X10_kindest_0 rfl ?_
  refine V_c i_X10_kindest_1 ?_
  refine V_ic_lt i_X10_kindest_2 (fun c2 => ?_) (fun c2 => ?_)
  · refine V_c i_X10_kindest_18 ?_
    exact P_iret i_X10_kindest_19 rfl ⟨rfl, I, J, FrC.rf, hK.Z, rfl, rfl⟩
  · refine V_il i_X10_kindest_5 rfl ?_
    refine V_c i_X10_kindest_6 ?_
    refine V_ic_gt i_X10_kindest_8 (fun c8 => ?_) (fun c8 => ?_)
    · refine V_c i_X10_kindest_18 ?_
      exact P_iret i_X10_kindest_19 rfl ⟨rfl, I, J, FrC.rf, hK.Z, rfl, rfl⟩
    · refine V_il i_X10_kindest_11 rfl ?_
      refine P_callS1v i_X10_kindest_12 ms_X10_isHow (by decide) (Nat.le_of_ble_eq_true rfl) (c_isHow _ _ _) ?_
      refine V_if_ne_f i_X10_kindest_15 (by rcases h with h | h | h; exact absurd h c2; exact absurd h c8; exact h) ?_
      refine V_c i_X10_kindest_18 ?_
      exact P_iret i_X10_kindest_19 rfl ⟨rfl, I, J, FrC.rf, hK.Z, rfl, rfl⟩
set_option maxRecDepth 100000 in
set_option maxHeartbeats 4000000 in
theorem c_kindest1 (I : IntM) (J : LngM) {n : Nat} {kd nd od : Nat → Nat} {lw pot : Nat} (hK : CK I n kd nd od lw pot) {dd how : Nat} (hd1 : 1 ≤ dd) (hdd : dd ≤ 7) (hh : how ≤ 1) (h0 : n = 0) : CtP 6 m_X10_kindest [.ref 0, .int (nI dd), .int (nI how)] I J (QC I J (.int (-4)) none none none) := by
  refine CtP_of (by decide) rfl (Nat.le_of_ble_eq_true rfl) ?_
  refine V_il i_X10_kindest_0 rfl ?_
  refine V_c i_X10_kindest_1 ?_
  refine V_ic_lt_f i_X10_kindest_2 (nI_ge1 hd1 hdd) ?_
  refine V_il i_X10_kindest_5 rfl ?_
  refine V_c i_X10_kindest_6 ?_
  refine V_ic_gt_f i_X10_kindest_8 (nI_nlt hdd (by decide)) ?_
  refine V_il i_X10_kindest_11 rfl ?_
  refine P_callS1v i_X10_kindest_12 ms_X10_isHow (by decide) (Nat.le_of_ble_eq_true rfl) (c_isHow _ _ _) ?_
  refine V_if_ne_t i_X10_kindest_15 (by rw [howv_nI hh]; decide) ?_
  refine V_al i_X10_kindest_20 rfl ?_
  refine V_getR i_X10_kindest_21 rfl rfl ?_
  refine V_getI i_X10_kindest_24 rfl ?_
  refine V_if_ne_f i_X10_kindest_27 (by rw [hK.sz, h0]; rfl) ?_
  refine V_c i_X10_kindest_30 ?_
  exact P_iret i_X10_kindest_32 rfl ⟨rfl, I, J, FrC.rf, hK.Z, rfl, rfl⟩
set_option maxRecDepth 100000 in
set_option maxHeartbeats 4000000 in
theorem lp_kindest (I : IntM) (J : LngM) {n : Nat} {kd nd od : Nat → Nat} {lw pot : Nat} (hK : CK I n kd nd od lw pot) {dd how : Nat} (hdd : dd ≤ 7) (hh : how ≤ 1) {L : Nat → Nat} (hL : L = (leP kd nd how od n dd)) (Q : Option Value → IntM → LngM → Prop) (hq : ∀ I1 J1, FrS 61 I J I1 J1 → VP m_X10_kindest 6 102 [(0, .ref 0), (3, .int (kbI L 4)), (4, .int (nI (kbM L 4 - 1)))] [] I1 J1 Q) : VP m_X10_kindest 6 44 [(0, .ref 0), (1, .int (nI dd)), (2, .int (nI how)), (3, .int (-9)), (4, .int (nI 999)), (5, .int 0)] [] I J Q := by
  have key : ∀ i, i ≤ 4 → ∀ I1 J1, FrS 61 I J I1 J1 → VP m_X10_kindest 6 44 [(0, .ref 0), (1, .int (nI dd)), (2, .int (nI how)), (3, .int (kbI L i)), (4, .int (nI (kbM L i - 1))), (5, .int (nI i))] [] I1 J1 Q := by
    refine down 4 ?_ (fun i hi ih => ?_)
    · intro I1 J1 f1
      refine V_il i_X10_kindest_44 rfl ?_
      refine V_c i_X10_kindest_46 ?_
      refine V_ic_ge_t i_X10_kindest_47 (Int32.le_refl _) ?_
      exact V_L (L' := [(0, _), (3, _), (4, _)]) ⟨rfl, rfl, rfl, trivial⟩ (hq I1 J1 f1)
    · intro I1 J1 f1
      have k1 := FrS.K (by decide) f1 hK
      refine V_il i_X10_kindest_44 rfl ?_
      refine V_c i_X10_kindest_46 ?_
      refine V_ic_ge_f i_X10_kindest_47 (nI_ge (show i < 4 by omega) (by decide)) ?_
      refine V_il i_X10_kindest_50 rfl ?_
      refine V_c i_X10_kindest_52 ?_
      refine V_ic_lt i_X10_kindest_53 (fun c53 => ?_) (fun c53 => ?_)
      · have hb := kbM_b L i
        have c53 := (nI_ltI (a := kbM L i - 1) (b := 1) (by omega) (by decide)).mp c53
        have c9 := kb_stop (L := L) (i := i) (by omega) (4 - i)
        rw [show i + (4 - i) = 4 by omega] at c9
        refine V_L (L' := [(0, _), (3, _), (4, _)]) ⟨rfl, rfl, rfl, trivial⟩ ?_
        have h9 := hq I1 J1 f1
        rw [c9.1, c9.2] at h9
        exact h9
      · have hb := kbM_b L i
        have c53 : ¬ kbM L i - 1 < 1 := fun q => c53 ((nI_ltI (a := kbM L i - 1) (b := 1) (by omega) (by decide)).mpr q)
        refine V_al i_X10_kindest_56 rfl ?_
        refine V_getR i_X10_kindest_57 rfl rfl ?_
        refine V_al i_X10_kindest_60 rfl ?_
        refine V_getR i_X10_kindest_61 rfl rfl ?_
        refine V_al i_X10_kindest_64 rfl ?_
        refine V_getR i_X10_kindest_65 rfl rfl ?_
        refine V_getR i_X10_kindest_68 rfl rfl ?_
        refine V_il i_X10_kindest_71 rfl ?_
        refine V_il i_X10_kindest_73 rfl ?_
        refine V_il i_X10_kindest_74 rfl ?_
        refine V_il i_X10_kindest_75 rfl ?_
        refine P_callV6 i_X10_kindest_77 mi_X5_lowest rfl ⟨_, _, rfl⟩ (by decide) (Nat.le_of_ble_eq_true rfl) (c_lowest I1 J1 k1 (y := 13) ⟨rfl, rfl, rfl, by decide⟩ k1.z13 (by decide) k1.od k1.P (show i ≤ 3 by omega) hh hdd (show 1 ≤ kbM L i - 1 by omega) (show kbM L i - 1 ≤ 999 by omega)) (fun r I2 J2 q => ?_)
        obtain ⟨v, rfl, f2, hv⟩ := q
        have e := leP_top hK.n7 (show 1 ≤ kbM L i - 1 by omega) (show kbM L i - 1 ≤ 999 by omega) hv
        rw [show leP kd nd how od n dd i = L i from by rw [hL]] at e
        refine V_is (L' := [(0, _), (1, _), (2, _), (3, _), (4, _), (5, _), (6, _)]) i_X10_kindest_80 (by decide) ⟨rfl, rfl, rfl, rfl, rfl, rfl, rfl, trivial⟩ ?_
        refine V_il i_X10_kindest_82 rfl ?_
        refine V_if_eq i_X10_kindest_84 (fun c84 => ?_) (fun c84 => ?_)
        · have c9 : ¬ (1 ≤ L i ∧ L i < kbM L i) := fun z => by
            rw [if_pos ⟨z.1, by omega⟩] at e
            have h9 := leP_lt kd nd how od n dd i
            rw [show leP kd nd how od n dd i = L i from by rw [hL]] at h9
            exact nI_ne0 (n := v) (by omega) (by omega) c84
          have c9 := kb_f c9
          refine V_iinc (L' := [(0, _), (1, _), (2, _), (3, _), (4, _), (5, _)]) (n' := 1) i_X10_kindest_96 (by decide) rfl (by decide) ⟨rfl, rfl, rfl, rfl, rfl, rfl, trivial⟩ ?_
          refine V_goto i_X10_kindest_99 ?_
          refine V_L (L' := [(0, _), (1, _), (2, _), (3, _), (4, _), (5, _)]) ⟨rfl, rfl, rfl, rfl, rfl, rfl, trivial⟩ ?_
          rw [show nI i + 1 = nI (i + 1) from nI_1 i]
          have ih2 := ih I2 J2 (FrS.tr f1 f2)
          rw [c9.1, c9.2] at ih2
          exact ih2
        · have c9 : 1 ≤ L i ∧ L i < kbM L i := by
            by_cases z : 1 ≤ L i ∧ L i ≤ kbM L i - 1
            · exact ⟨z.1, by omega⟩
            · rw [if_neg z] at e
              exact absurd (by rw [e]; rfl) c84
          rw [if_pos ⟨c9.1, by omega⟩] at e
          subst e
          have c8 := kb_t c9
          refine V_il i_X10_kindest_87 rfl ?_
          refine V_is (L' := [(0, _), (1, _), (2, _), (3, _), (5, _), (6, _)]) i_X10_kindest_89 (by decide) ⟨rfl, rfl, rfl, rfl, rfl, rfl, trivial⟩ ?_
          refine V_il i_X10_kindest_90 rfl ?_
          refine V_c i_X10_kindest_92 ?_
          refine V_isub i_X10_kindest_93 ?_
          rw [nI_sub1 c9.1]
          refine V_is (L' := [(0, _), (1, _), (2, _), (3, _), (4, _), (5, _)]) i_X10_kindest_94 (by decide) ⟨rfl, rfl, rfl, rfl, rfl, rfl, trivial⟩ ?_
          refine V_iinc (L' := [(0, _), (1, _), (2, _), (3, _), (4, _), (5, _)]) (n' := 1) i_X10_kindest_96 (by decide) rfl (by decide) ⟨rfl, rfl, rfl, rfl, rfl, rfl, trivial⟩ ?_
          refine V_goto i_X10_kindest_99 ?_
          refine V_L (L' := [(0, _), (1, _), (2, _), (3, _), (4, _), (5, _)]) ⟨rfl, rfl, rfl, rfl, rfl, rfl, trivial⟩ ?_
          rw [show nI i + 1 = nI (i + 1) from nI_1 i]
          have ih2 := ih I2 J2 (FrS.tr f1 f2)
          rw [c8.1, c8.2] at ih2
          exact ih2
  exact key 0 (Nat.zero_le _) I J FrS.rf
set_option maxRecDepth 100000 in
set_option maxHeartbeats 4000000 in
theorem c_kindest (I : IntM) (J : LngM) {n : Nat} {kd nd od : Nat → Nat} {lw pot : Nat} (hK : CK I n kd nd od lw pot) {dd how : Nat} (hd1 : 1 ≤ dd) (hdd : dd ≤ 7) (hh : how ≤ 1) (h0 : 0 < n) : CtP 6 m_X10_kindest [.ref 0, .int (nI dd), .int (nI how)] I J (QC I J (.int (kbI (leP kd nd how od n dd) 4)) (if kbI (leP kd nd how od n dd) 4 = -9 then none else some (nI (kbM (leP kd nd how od n dd) 4))) none none) := by
  refine CtP_of (by decide) rfl (Nat.le_of_ble_eq_true rfl) ?_
  refine V_il i_X10_kindest_0 rfl ?_
  refine V_c i_X10_kindest_1 ?_
  refine V_ic_lt_f i_X10_kindest_2 (nI_ge1 hd1 hdd) ?_
  refine V_il i_X10_kindest_5 rfl ?_
  refine V_c i_X10_kindest_6 ?_
  refine V_ic_gt_f i_X10_kindest_8 (nI_nlt hdd (by decide)) ?_
  refine V_il i_X10_kindest_11 rfl ?_
  refine P_callS1v i_X10_kindest_12 ms_X10_isHow (by decide) (Nat.le_of_ble_eq_true rfl) (c_isHow _ _ _) ?_
  refine V_if_ne_t i_X10_kindest_15 (by rw [howv_nI hh]; decide) ?_
  refine V_al i_X10_kindest_20 rfl ?_
  refine V_getR i_X10_kindest_21 rfl rfl ?_
  refine V_getI i_X10_kindest_24 rfl ?_
  refine V_if_ne_t i_X10_kindest_27 (by rw [hK.sz]; exact nI_ne0 h0 (by have := hK.n7; omega)) ?_
  refine V_c i_X10_kindest_33 ?_
  refine V_is (L' := [(0, _), (1, _), (2, _), (3, _)]) i_X10_kindest_35 (by decide) ⟨rfl, rfl, rfl, rfl, trivial⟩ ?_
  refine V_c i_X10_kindest_36 ?_
  refine V_is (L' := [(0, _), (1, _), (2, _), (3, _), (4, _)]) i_X10_kindest_39 (by decide) ⟨rfl, rfl, rfl, rfl, rfl, trivial⟩ ?_
  refine V_c i_X10_kindest_41 ?_
  refine V_is (L' := [(0, _), (1, _), (2, _), (3, _), (4, _), (5, _)]) i_X10_kindest_42 (by decide) ⟨rfl, rfl, rfl, rfl, rfl, rfl, trivial⟩ ?_
  refine V_L (L' := [(0, _), (1, _), (2, _), (3, _), (4, _), (5, _)]) ⟨rfl, rfl, rfl, rfl, rfl, rfl, trivial⟩ ?_
  refine lp_kindest I J hK hdd hh rfl _ (fun I1 J1 f1 => ?_)
  have k1 := FrS.K (by decide) f1 hK
  refine V_il i_X10_kindest_102 rfl ?_
  refine V_c i_X10_kindest_103 ?_
  refine V_ic_eq i_X10_kindest_105 (fun c105 => ?_) (fun c105 => ?_)
  · refine V_il i_X10_kindest_116 rfl ?_
    exact P_iret i_X10_kindest_117 rfl ⟨rfl, I1, J1, FrS.C (by decide) (by decide) f1, k1.Z, by rw [if_pos c105]; rfl, rfl⟩
  · refine V_al i_X10_kindest_108 rfl ?_
    refine V_il i_X10_kindest_109 rfl ?_
    refine V_c i_X10_kindest_111 ?_
    refine V_iadd i_X10_kindest_112 ?_
    rw [nI_1, Nat.sub_add_cancel (kbM_b _ 4).1]
    refine V_putI i_X10_kindest_113 rfl ?_
    refine V_il i_X10_kindest_116 rfl ?_
    exact P_iret i_X10_kindest_117 rfl ⟨rfl, I1, J1, FrS.C (by decide) (by decide) f1, k1.Z, by rw [if_neg c105]; rfl, rfl⟩

theorem allF_1 {kd nd : Nat → Nat} {l how : Nat} {ov : Nat → Nat} {n p : Nat} (hn : n ≤ 7) : allF (fdE kd nd l how (p * un how) ov n) n = true ↔ fdP kd nd l how ov n 1 p := by
  rw [show allF (fdE kd nd l how (p * un how) ov n) n = decide (cntN (fdE kd nd l how (p * un how) ov n) n = n) from rfl, decide_eq_true_iff, cntN_all, fdP_iff hn]
  have e : ∀ k, k < n → fdE kd nd l how (p * un how) (fun i => ov ((i + 0) % n)) n k = fdE kd nd l how (p * un how) ov n k := fun k hk => fdE_cong (by omega) (fun j hj => by rw [Nat.add_zero, Nat.mod_eq_of_lt hj])
  constructor
  · intro h k hk
    exact ⟨0, by decide, (e k hk).trans (h k hk)⟩
  · intro h k hk
    obtain ⟨j, hj, q⟩ := h k hk
    obtain rfl : j = 0 := by omega
    exact (e k hk).symm.trans q
theorem fu_full {kd nd : Nat → Nat} {l how : Nat} {ov : Nat → Nat} {n ev p : Nat} (hn : n ≤ 7) : fuS kd nd l how (p * un how) ov n ev = 2 ^ n - 1 ↔ fdP kd nd l how ov n ev p := by
  have e : fuS kd nd l how (p * un how) ov n ev = setN (fun k => (fuS kd nd l how (p * un how) ov n ev).testBit k) n := by
    apply Nat.eq_of_testBit_eq
    intro k
    rw [setN_bit]
    by_cases hk : k < n
    · simp [hk]
    · simp only [hk, decide_false, Bool.false_and]
      cases h : (fuS kd nd l how (p * un how) ov n ev).testBit k with
      | false => rfl
      | true => exact absurd ((fuS_bit ev).mp h).1 hk
  rw [e, setN_all]
  unfold fdP
  exact (popc_all hn (fun k h => ((fuS_bit ev).mp h).1)).symm

theorem m_allfed (I : IntM) (J : LngM) {n : Nat} {kd nd od : Nat → Nat} {lw pot : Nat} (hK : MK I n kd nd od lw pot) {ln : Nat → Nat} {how p l : Nat} (hp : p ≤ 999) (hG : GE J n kd nd l how (p * un how) ln) : CtV 2 m_X11_areAllFed [.ref 146] I J (.int (if allF (fdE kd nd l how (p * un how) ln n) n = true then 1 else 0)) I J := c_M_allfed I J hK.n7 hK.M hK.nd (tE := tE kd nd l how (p * un how) ln n) hG.2 (fun k hk => Nat.lt_trans (tkB hp _) (by decide))
set_option maxRecDepth 100000 in
set_option maxHeartbeats 4000000 in
theorem m_least0 (I : IntM) (J : LngM) {n : Nat} {kd nd od : Nat → Nat} {lw pot : Nat} (hK : MK I n kd nd od lw pot) {x : Int32} (h : howv x = 0) : CtP 7 m_X11_least [.ref 146, .int x] I J (QM I J (.int (-1)) none none none) := by
  refine CtP_of (by decide) rfl (Nat.le_of_ble_eq_true rfl) ?_
  refine V_il i_X11_least_0 rfl ?_
  refine P_callS1v i_X11_least_1 ms_X11_isHow (by decide) (Nat.le_of_ble_eq_true rfl) (c_M_isHow _ _ _) ?_
  refine V_if_ne_f i_X11_least_4 h ?_
  refine V_c i_X11_least_7 ?_
  exact P_iret i_X11_least_8 rfl ⟨rfl, I, J, FrM.rf, rfl, rfl⟩
set_option maxRecDepth 100000 in
set_option maxHeartbeats 4000000 in
theorem m_least1 (I : IntM) (J : LngM) {n : Nat} {kd nd od : Nat → Nat} {lw pot : Nat} (hK : MK I n kd nd od lw pot) {how : Nat} (hh : how ≤ 1) (h0 : n = 0) : CtP 7 m_X11_least [.ref 146, .int (nI how)] I J (QM I J (.int (-4)) none none none) := by
  refine CtP_of (by decide) rfl (Nat.le_of_ble_eq_true rfl) ?_
  refine V_il i_X11_least_0 rfl ?_
  refine P_callS1v i_X11_least_1 ms_X11_isHow (by decide) (Nat.le_of_ble_eq_true rfl) (c_M_isHow _ _ _) ?_
  refine V_if_ne_t i_X11_least_4 (by rw [howv_nI hh]; decide) ?_
  refine V_al i_X11_least_9 rfl ?_
  refine V_getI i_X11_least_10 rfl ?_
  refine V_if_ne_f i_X11_least_13 (by rw [hK.sz, h0]; rfl) ?_
  refine V_c i_X11_least_16 ?_
  exact P_iret i_X11_least_18 rfl ⟨rfl, I, J, FrM.rf, rfl, rfl⟩
set_option maxRecDepth 100000 in
set_option maxHeartbeats 4000000 in
theorem lp_M_least (I : IntM) (J : LngM) {n : Nat} {kd nd od : Nat → Nat} {lw pot : Nat} (hK : MK I n kd nd od lw pot) {how : Nat} (hh : how ≤ 1) (hS : AtI I 157 n od) (Q : Option Value → IntM → LngM → Prop) (hq : ∀ J1, FrJ J J1 → Q (some (.int (nnI (leP kd nd how od n 1 lw)))) I J1) : ∀ k v, 1 ≤ v → v + k = 1000 → lsB (fdB kd nd lw how od n 1) k v = leP kd nd how od n 1 lw → ∀ J1, FrJ J J1 → VP m_X11_least 7 25 [(0, .ref 146), (1, .int (nI how)), (2, .int (nI v))] [] I J1 Q := by
  intro k
  induction k with
  | zero =>
    intro v h1 h2 he J1 j1
    refine V_il i_X11_least_25 rfl ?_
    refine V_c i_X11_least_26 ?_
    refine V_ic_gt_t i_X11_least_29 ((nI_ltI (a := 999) (by decide) (by omega)).mpr (by omega)) ?_
    refine V_c i_X11_least_58 ?_
    exact P_iret i_X11_least_60 rfl (by have h9 := hq J1 j1; rw [← he] at h9; exact h9)
  | succ k ih =>
    intro v h1 h2 he J1 j1
    refine V_il i_X11_least_25 rfl ?_
    refine V_c i_X11_least_26 ?_
    refine V_ic_gt_f i_X11_least_29 (nI_nlt (show v ≤ 999 by omega) (by decide)) ?_
    refine V_al i_X11_least_32 rfl ?_
    refine V_il i_X11_least_33 rfl ?_
    refine V_il i_X11_least_34 rfl ?_
    refine V_al i_X11_least_35 rfl ?_
    refine V_getI i_X11_least_36 rfl ?_
    rw [hK.lw]
    refine V_c i_X11_least_39 ?_
    refine P_callV4 i_X11_least_40 mi_X11_goes rfl ⟨_, _, rfl⟩ (by decide) (Nat.le_of_ble_eq_true rfl) (m_goes0 I J1 hK hh hK.l3 (show v ≤ 999 by omega) hS hK.P) (fun r Ix J2 q => ?_)
    obtain ⟨rfl, rfl, j2, g2⟩ := q
    refine V_al i_X11_least_43 rfl ?_
    refine P_callV0v i_X11_least_44 mi_X11_areAllFed rfl ⟨_, _, rfl⟩ (by decide) (Nat.le_of_ble_eq_true rfl) (m_allfed I J2 hK (show v ≤ 999 by omega) g2) ?_
    refine V_if_eq i_X11_least_47 (fun c47 => ?_) (fun c47 => ?_)
    · have c9 : ¬ fdB kd nd lw how od n 1 v = true := fun q => no01 c47 ((allF_1 hK.n7).mpr (fdB_iff.mp q))
      rw [show lsB (fdB kd nd lw how od n 1) (k + 1) v = lsB (fdB kd nd lw how od n 1) k (v + 1) from if_neg c9] at he
      refine V_iinc (L' := [(0, _), (1, _), (2, _)]) (n' := 1) i_X11_least_52 (by decide) rfl (by decide) ⟨rfl, rfl, rfl, trivial⟩ ?_
      refine V_goto i_X11_least_55 ?_
      refine V_L (L' := [(0, _), (1, _), (2, _)]) ⟨rfl, rfl, rfl, trivial⟩ ?_
      rw [show nI v + 1 = nI (v + 1) from nI_1 v]
      exact ih (v + 1) (by omega) (by omega) he J2 (FrJ.tr j1 j2)
    · have c9 : fdB kd nd lw how od n 1 v = true := fdB_iff.mpr ((allF_1 hK.n7).mp (yes01 c47))
      rw [show lsB (fdB kd nd lw how od n 1) (k + 1) v = v from if_pos c9] at he
      refine V_il i_X11_least_50 rfl ?_
      exact P_iret i_X11_least_51 rfl (by have h9 := hq J2 (FrJ.tr j1 j2); rw [← he, nnI_pos h1 (by omega)] at h9; exact h9)
set_option maxRecDepth 100000 in
set_option maxHeartbeats 4000000 in
theorem m_least (I : IntM) (J : LngM) {n : Nat} {kd nd od : Nat → Nat} {lw pot : Nat} (hK : MK I n kd nd od lw pot) {how : Nat} (hh : how ≤ 1) (h0 : 0 < n) : CtP 7 m_X11_least [.ref 146, .int (nI how)] I J (QM I J (.int (nnI (leP kd nd how od n 1 lw))) none none none) := by
  refine CtP_of (by decide) rfl (Nat.le_of_ble_eq_true rfl) ?_
  refine V_il i_X11_least_0 rfl ?_
  refine P_callS1v i_X11_least_1 ms_X11_isHow (by decide) (Nat.le_of_ble_eq_true rfl) (c_M_isHow _ _ _) ?_
  refine V_if_ne_t i_X11_least_4 (by rw [howv_nI hh]; decide) ?_
  refine V_al i_X11_least_9 rfl ?_
  refine V_getI i_X11_least_10 rfl ?_
  refine V_if_ne_t i_X11_least_13 (by rw [hK.sz]; exact nI_ne0 h0 (by have := hK.n7; omega)) ?_
  refine V_al i_X11_least_19 rfl ?_
  refine P_callV0 i_X11_least_20 mi_X11_seatsAsTold rfl ⟨_, _, rfl⟩ (by decide) (Nat.le_of_ble_eq_true rfl) (m_told I J hK) (fun r I1 Jx q => ?_)
  obtain ⟨rfl, f1, a1, rfl⟩ := q
  have k1 := FrM.K f1 hK
  refine V_c i_X11_least_23 ?_
  refine V_is (L' := [(0, _), (1, _), (2, _)]) i_X11_least_24 (by decide) ⟨rfl, rfl, rfl, trivial⟩ ?_
  refine V_L (L' := [(0, _), (1, _), (2, _)]) ⟨rfl, rfl, rfl, trivial⟩ ?_
  exact lp_M_least I1 J k1 hh a1 _ (fun J1 j1 => ⟨rfl, I1, J1, FrM.tr f1 (FrJ.M _ j1), rfl, rfl⟩) 999 1 (by decide) (by decide) rfl J FrJ.rf
set_option maxRecDepth 100000 in
set_option maxHeartbeats 4000000 in
theorem lp_M_fam1 (I : IntM) (J : LngM) {n : Nat} {kd nd od : Nat → Nat} {lw pot : Nat} (hK : MK I n kd nd od lw pot) {dd how l v : Nat} (hdd : dd ≤ 7) (hh : how ≤ 1) (hl : l ≤ 3) (hv : v ≤ 999) (h0 : 0 < n) (Q : Option Value → IntM → LngM → Prop) (hq : ∀ I1 J1, FrM I J I1 J1 → VP m_X11_famineBy 7 58 [(0, .ref 146), (1, .int (nI dd)), (2, .int (nI how)), (3, .int (nI l)), (4, .int (nI v)), (5, .int (nI (fuS kd nd l how (v * un how) od n dd)))] [] I1 J1 Q) : VP m_X11_famineBy 7 17 [(0, .ref 146), (1, .int (nI dd)), (2, .int (nI how)), (3, .int (nI l)), (4, .int (nI v)), (5, .int 0), (6, .int 0)] [] I J Q := by
  have key : ∀ i, i ≤ dd → ∀ I1 J1, FrM I J I1 J1 → VP m_X11_famineBy 7 17 [(0, .ref 146), (1, .int (nI dd)), (2, .int (nI how)), (3, .int (nI l)), (4, .int (nI v)), (5, .int (nI (fuS kd nd l how (v * un how) od n i))), (6, .int (nI i))] [] I1 J1 Q := by
    refine down dd ?_ (fun i hi ih => ?_)
    · intro I1 J1 f1
      refine V_il i_X11_famineBy_17 rfl ?_
      refine V_il i_X11_famineBy_19 rfl ?_
      refine V_ic_ge_t i_X11_famineBy_20 (Int32.le_refl _) ?_
      exact V_L (L' := [(0, _), (1, _), (2, _), (3, _), (4, _), (5, _)]) ⟨rfl, rfl, rfl, rfl, rfl, rfl, trivial⟩ (hq I1 J1 f1)
    · intro I1 J1 f1
      have k1 := FrM.K f1 hK
      refine V_il i_X11_famineBy_17 rfl ?_
      refine V_il i_X11_famineBy_19 rfl ?_
      refine V_ic_ge_f i_X11_famineBy_20 (nI_ge hi (by omega)) ?_
      refine V_al i_X11_famineBy_23 rfl ?_
      refine V_il i_X11_famineBy_24 rfl ?_
      refine V_al i_X11_famineBy_26 rfl ?_
      refine V_getI i_X11_famineBy_27 rfl ?_
      rw [k1.sz]
      refine V_irem i_X11_famineBy_30 (nI_ne0 h0 (by have := hK.n7; omega)) ?_
      rw [pk_rem (by omega) (by omega) (by have := hK.n7; omega)]
      refine P_callV1 i_X11_famineBy_31 mi_X11_seatsTurned rfl ⟨_, _, rfl⟩ (by decide) (Nat.le_of_ble_eq_true rfl) (m_turned I1 J1 k1 (t := i % n) (by have := Nat.mod_lt i h0; have := hK.n7; omega)) (fun r I2 Jx q => ?_)
      rw [show (fun p => od ((p + i % n) % n)) = fun p => od ((p + i) % n) from funext fun p => by rw [Nat.add_mod_mod]] at q
      obtain ⟨rfl, f2, a2, rfl⟩ := q
      have k2 := FrM.K f2 k1
      refine V_al i_X11_famineBy_34 rfl ?_
      refine V_il i_X11_famineBy_35 rfl ?_
      refine V_il i_X11_famineBy_36 rfl ?_
      refine V_il i_X11_famineBy_38 rfl ?_
      refine V_c i_X11_famineBy_39 ?_
      refine P_callV4 i_X11_famineBy_40 mi_X11_goes rfl ⟨_, _, rfl⟩ (by decide) (Nat.le_of_ble_eq_true rfl) (m_goes0 I2 J1 k2 hh hl hv a2 (Pm_turn hK.P i)) (fun r Ix J2 q => ?_)
      obtain ⟨rfl, rfl, j2, g2⟩ := q
      refine V_il i_X11_famineBy_43 rfl ?_
      refine V_al i_X11_famineBy_45 rfl ?_
      refine P_callV0v i_X11_famineBy_46 mi_X11_fedSet rfl ⟨_, _, rfl⟩ (by decide) (Nat.le_of_ble_eq_true rfl) (m_fset I2 J2 k2 hv g2) ?_
      refine V_ior i_X11_famineBy_49 ?_
      rw [or_nI]
      refine V_is (L' := [(0, _), (1, _), (2, _), (3, _), (4, _), (5, _), (6, _)]) i_X11_famineBy_50 (by decide) ⟨rfl, rfl, rfl, rfl, rfl, rfl, rfl, trivial⟩ ?_
      refine V_iinc (L' := [(0, _), (1, _), (2, _), (3, _), (4, _), (5, _), (6, _)]) (n' := 1) i_X11_famineBy_52 (by decide) rfl (by decide) ⟨rfl, rfl, rfl, rfl, rfl, rfl, rfl, trivial⟩ ?_
      refine V_goto i_X11_famineBy_55 ?_
      refine V_L (L' := [(0, _), (1, _), (2, _), (3, _), (4, _), (5, _), (6, _)]) ⟨rfl, rfl, rfl, rfl, rfl, rfl, rfl, trivial⟩ ?_
      rw [show nI i + 1 = nI (i + 1) from nI_1 i]
      exact ih I2 J2 (FrM.tr f1 (FrM.tr f2 (FrJ.M _ j2)))
  exact key 0 (Nat.zero_le _) I J FrM.rf
set_option maxRecDepth 100000 in
set_option maxHeartbeats 4000000 in
theorem lp_M_fam (I : IntM) (J : LngM) {n : Nat} {kd nd od : Nat → Nat} {lw pot : Nat} (hK : MK I n kd nd od lw pot) {dd how l : Nat} (hdd : dd ≤ 7) (hh : how ≤ 1) (hl : l ≤ 3) (h0 : 0 < n) (Q : Option Value → IntM → LngM → Prop) (hq : ∀ I1 J1, FrM I J I1 J1 → Q (some (.int (nnI (leP kd nd how od n dd l)))) I1 J1) : ∀ k v, 1 ≤ v → v + k = 1000 → lsB (fdB kd nd l how od n dd) k v = leP kd nd how od n dd l → ∀ I1 J1, FrM I J I1 J1 → VP m_X11_famineBy 7 3 [(0, .ref 146), (1, .int (nI dd)), (2, .int (nI how)), (3, .int (nI l)), (4, .int (nI v))] [] I1 J1 Q := by
  intro k
  induction k with
  | zero =>
    intro v h1 h2 he I1 J1 f1
    refine V_il i_X11_famineBy_3 rfl ?_
    refine V_c i_X11_famineBy_5 ?_
    refine V_ic_gt_t i_X11_famineBy_8 ((nI_ltI (a := 999) (by decide) (by omega)).mpr (by omega)) ?_
    refine V_c i_X11_famineBy_80 ?_
    exact P_iret i_X11_famineBy_82 rfl (by have h9 := hq I1 J1 f1; rw [← he] at h9; exact h9)
  | succ k ih =>
    intro v h1 h2 he I1 J1 f1
    have k1 := FrM.K f1 hK
    refine V_il i_X11_famineBy_3 rfl ?_
    refine V_c i_X11_famineBy_5 ?_
    refine V_ic_gt_f i_X11_famineBy_8 (nI_nlt (show v ≤ 999 by omega) (by decide)) ?_
    refine V_c i_X11_famineBy_11 ?_
    refine V_is (L' := [(0, _), (1, _), (2, _), (3, _), (4, _), (5, _)]) i_X11_famineBy_12 (by decide) ⟨rfl, rfl, rfl, rfl, rfl, rfl, trivial⟩ ?_
    refine V_c i_X11_famineBy_14 ?_
    refine V_is (L' := [(0, _), (1, _), (2, _), (3, _), (4, _), (5, _), (6, _)]) i_X11_famineBy_15 (by decide) ⟨rfl, rfl, rfl, rfl, rfl, rfl, rfl, trivial⟩ ?_
    refine V_L (L' := [(0, _), (1, _), (2, _), (3, _), (4, _), (5, _), (6, _)]) ⟨rfl, rfl, rfl, rfl, rfl, rfl, rfl, trivial⟩ ?_
    refine lp_M_fam1 I1 J1 k1 hdd hh hl (show v ≤ 999 by omega) h0 _ (fun I2 J2 f2 => ?_)
    have k2 := FrM.K f2 k1
    refine V_il i_X11_famineBy_58 rfl ?_
    refine V_c i_X11_famineBy_60 ?_
    refine V_al i_X11_famineBy_61 rfl ?_
    refine V_getI i_X11_famineBy_62 rfl ?_
    rw [k2.sz]
    refine V_ishl i_X11_famineBy_65 ?_
    refine V_c i_X11_famineBy_66 ?_
    refine V_isub i_X11_famineBy_67 ?_
    rw [shl_n hK.n7]
    refine V_ic_ne i_X11_famineBy_68 (fun c68 => ?_) (fun c68 => ?_)
    · have c9 : ¬ fdB kd nd l how od n dd v = true := fun q => c68 (congrArg nI ((fu_full hK.n7).mpr (fdB_iff.mp q)))
      rw [show lsB (fdB kd nd l how od n dd) (k + 1) v = lsB (fdB kd nd l how od n dd) k (v + 1) from if_neg c9] at he
      refine V_iinc (L' := [(0, _), (1, _), (2, _), (3, _), (4, _)]) (n' := 1) i_X11_famineBy_74 (by decide) rfl (by decide) ⟨rfl, rfl, rfl, rfl, rfl, trivial⟩ ?_
      refine V_goto i_X11_famineBy_77 ?_
      refine V_L (L' := [(0, _), (1, _), (2, _), (3, _), (4, _)]) ⟨rfl, rfl, rfl, rfl, rfl, trivial⟩ ?_
      rw [show nI v + 1 = nI (v + 1) from nI_1 v]
      exact ih (v + 1) (by omega) (by omega) he I2 J2 (FrM.tr f1 f2)
    · have c9 : fdB kd nd l how od n dd v = true := fdB_iff.mpr ((fu_full hK.n7).mp ((nI_eq (by have := fuS_lt (kd := kd) (nd := nd) (l := l) (how := how) (P := v * un how) (ov := od) hK.n7 dd; omega) (by have : 2 ^ n ≤ 2 ^ 7 := Nat.pow_le_pow_right (by decide) hK.n7; omega)).mp c68))
      rw [show lsB (fdB kd nd l how od n dd) (k + 1) v = v from if_pos c9] at he
      refine V_il i_X11_famineBy_71 rfl ?_
      exact P_iret i_X11_famineBy_73 rfl (by have h9 := hq I2 J2 (FrM.tr f1 f2); rw [← he, nnI_pos h1 (by omega)] at h9; exact h9)
set_option maxRecDepth 100000 in
set_option maxHeartbeats 4000000 in
theorem m_famineBy (I : IntM) (J : LngM) {n : Nat} {kd nd od : Nat → Nat} {lw pot : Nat} (hK : MK I n kd nd od lw pot) {dd how l : Nat} (hdd : dd ≤ 7) (hh : how ≤ 1) (hl : l ≤ 3) (h0 : 0 < n) : CtP 7 m_X11_famineBy [.ref 146, .int (nI dd), .int (nI how), .int (nI l)] I J (fun r I1 J1 => r = some (.int (nnI (leP kd nd how od n dd l))) ∧ FrM I J I1 J1) := by
  refine CtP_of (by decide) rfl (Nat.le_of_ble_eq_true rfl) ?_
  refine V_c i_X11_famineBy_0 ?_
  refine V_is (L' := [(0, _), (1, _), (2, _), (3, _), (4, _)]) i_X11_famineBy_1 (by decide) ⟨rfl, rfl, rfl, rfl, rfl, trivial⟩ ?_
  refine V_L (L' := [(0, _), (1, _), (2, _), (3, _), (4, _)]) ⟨rfl, rfl, rfl, rfl, rfl, trivial⟩ ?_
  exact lp_M_fam I J hK hdd hh hl h0 _ (fun I1 J1 f1 => ⟨rfl, f1⟩) 999 1 (by decide) (by decide) rfl I J FrM.rf
set_option maxRecDepth 100000 in
set_option maxHeartbeats 4000000 in
theorem m_famine0 (I : IntM) (J : LngM) {n : Nat} {kd nd od : Nat → Nat} {lw pot : Nat} (hK : MK I n kd nd od lw pot) {x y : Int32} (h : x < 1 ∨ 7 < x ∨ howv y = 0) : CtP 8 m_X11_famine [.ref 146, .int x, .int y] I J (QM I J (.int (-1)) none none none) := by
  refine CtP_of (by decide) rfl (Nat.le_of_ble_eq_true rfl) ?_
  refine V_il i_X11_famine_0 rfl ?_
  refine V_i2l i_X11_famine_1 ?_
  refine V_cl i_X11_famine_2 ?_
  refine V_cl i_X11_famine_3 ?_
  refine P_callS3v i_X11_famine_6 ms_X11_in (by decide) (Nat.le_of_ble_eq_true rfl) (c_M_in _ _ _ _ _) ?_
  refine V_if_eq i_X11_famine_9 (fun c9 => ?_) (fun c9 => ?_)
  · refine V_c i_X11_famine_19 ?_
    exact P_iret i_X11_famine_20 rfl ⟨rfl, I, J, FrM.rf, rfl, rfl⟩
  · have c9 : ¬ (x < 1 ∨ 7 < x) := fun q => c9 (in_no q)
    refine V_il i_X11_famine_12 rfl ?_
    refine P_callS1v i_X11_famine_13 ms_X11_isHow (by decide) (Nat.le_of_ble_eq_true rfl) (c_M_isHow _ _ _) ?_
    refine V_if_ne_f i_X11_famine_16 (by rcases h with h | h | h; exact absurd (Or.inl h) c9; exact absurd (Or.inr h) c9; exact h) ?_
    refine V_c i_X11_famine_19 ?_
    exact P_iret i_X11_famine_20 rfl ⟨rfl, I, J, FrM.rf, rfl, rfl⟩
set_option maxRecDepth 100000 in
set_option maxHeartbeats 4000000 in
theorem m_famine1 (I : IntM) (J : LngM) {n : Nat} {kd nd od : Nat → Nat} {lw pot : Nat} (hK : MK I n kd nd od lw pot) {dd how : Nat} (hd1 : 1 ≤ dd) (hdd : dd ≤ 7) (hh : how ≤ 1) (h0 : n = 0) : CtP 8 m_X11_famine [.ref 146, .int (nI dd), .int (nI how)] I J (QM I J (.int (-4)) none none none) := by
  refine CtP_of (by decide) rfl (Nat.le_of_ble_eq_true rfl) ?_
  refine V_il i_X11_famine_0 rfl ?_
  refine V_i2l i_X11_famine_1 ?_
  refine V_cl i_X11_famine_2 ?_
  refine V_cl i_X11_famine_3 ?_
  refine P_callS3v i_X11_famine_6 ms_X11_in (by decide) (Nat.le_of_ble_eq_true rfl) (c_M_in _ _ _ _ _) ?_
  refine V_if_eq_f i_X11_famine_9 (by rw [show inL (nI dd).toInt64 1 7 = 1 from in_yes (lo := 1) (hi := 7) hd1 hdd (by decide)]; decide) ?_
  refine V_il i_X11_famine_12 rfl ?_
  refine P_callS1v i_X11_famine_13 ms_X11_isHow (by decide) (Nat.le_of_ble_eq_true rfl) (c_M_isHow _ _ _) ?_
  refine V_if_ne_t i_X11_famine_16 (by rw [howv_nI hh]; decide) ?_
  refine V_al i_X11_famine_21 rfl ?_
  refine V_getI i_X11_famine_22 rfl ?_
  refine V_if_ne_f i_X11_famine_25 (by rw [hK.sz, h0]; rfl) ?_
  refine V_c i_X11_famine_28 ?_
  refine V_goto i_X11_famine_30 ?_
  exact P_iret i_X11_famine_43 rfl ⟨rfl, I, J, FrM.rf, rfl, rfl⟩
set_option maxRecDepth 100000 in
set_option maxHeartbeats 4000000 in
theorem m_kindest0 (I : IntM) (J : LngM) {n : Nat} {kd nd od : Nat → Nat} {lw pot : Nat} (hK : MK I n kd nd od lw pot) {x y : Int32} (h : x < 1 ∨ 7 < x ∨ howv y = 0) : CtP 8 m_X11_kindest [.ref 146, .int x, .int y] I J (QM I J (.int (-1)) none none none) := by
  refine CtP_of (by decide) rfl (Nat.le_of_ble_eq_true rfl) ?_
  refine V_il i_X11_kindest_0 rfl ?_
  refine V_i2l i_X11_kindest_1 ?_
  refine V_cl i_X11_kindest_2 ?_
  refine V_cl i_X11_kindest_3 ?_
  refine P_callS3v i_X11_kindest_6 ms_X11_in (by decide) (Nat.le_of_ble_eq_true rfl) (c_M_in _ _ _ _ _) ?_
  refine V_if_eq i_X11_kindest_9 (fun c9 => ?_) (fun c9 => ?_)
  · refine V_c i_X11_kindest_19 ?_
    exact P_iret i_X11_kindest_20 rfl ⟨rfl, I, J, FrM.rf, rfl, rfl⟩
  · have c9 : ¬ (x < 1 ∨ 7 < x) := fun q => c9 (in_no q)
    refine V_il i_X11_kindest_12 rfl ?_
    refine P_callS1v i_X11_kindest_13 ms_X11_isHow (by decide) (Nat.le_of_ble_eq_true rfl) (c_M_isHow _ _ _) ?_
    refine V_if_ne_f i_X11_kindest_16 (by rcases h with h | h | h; exact absurd (Or.inl h) c9; exact absurd (Or.inr h) c9; exact h) ?_
    refine V_c i_X11_kindest_19 ?_
    exact P_iret i_X11_kindest_20 rfl ⟨rfl, I, J, FrM.rf, rfl, rfl⟩
set_option maxRecDepth 100000 in
set_option maxHeartbeats 4000000 in
theorem m_kindest1 (I : IntM) (J : LngM) {n : Nat} {kd nd od : Nat → Nat} {lw pot : Nat} (hK : MK I n kd nd od lw pot) {dd how : Nat} (hd1 : 1 ≤ dd) (hdd : dd ≤ 7) (hh : how ≤ 1) (h0 : n = 0) : CtP 8 m_X11_kindest [.ref 146, .int (nI dd), .int (nI how)] I J (QM I J (.int (-4)) none none none) := by
  refine CtP_of (by decide) rfl (Nat.le_of_ble_eq_true rfl) ?_
  refine V_il i_X11_kindest_0 rfl ?_
  refine V_i2l i_X11_kindest_1 ?_
  refine V_cl i_X11_kindest_2 ?_
  refine V_cl i_X11_kindest_3 ?_
  refine P_callS3v i_X11_kindest_6 ms_X11_in (by decide) (Nat.le_of_ble_eq_true rfl) (c_M_in _ _ _ _ _) ?_
  refine V_if_eq_f i_X11_kindest_9 (by rw [show inL (nI dd).toInt64 1 7 = 1 from in_yes (lo := 1) (hi := 7) hd1 hdd (by decide)]; decide) ?_
  refine V_il i_X11_kindest_12 rfl ?_
  refine P_callS1v i_X11_kindest_13 ms_X11_isHow (by decide) (Nat.le_of_ble_eq_true rfl) (c_M_isHow _ _ _) ?_
  refine V_if_ne_t i_X11_kindest_16 (by rw [howv_nI hh]; decide) ?_
  refine V_al i_X11_kindest_21 rfl ?_
  refine V_getI i_X11_kindest_22 rfl ?_
  refine V_if_ne_f i_X11_kindest_25 (by rw [hK.sz, h0]; rfl) ?_
  refine V_c i_X11_kindest_28 ?_
  exact P_iret i_X11_kindest_30 rfl ⟨rfl, I, J, FrM.rf, rfl, rfl⟩
set_option maxRecDepth 100000 in
set_option maxHeartbeats 4000000 in
theorem m_famine (I : IntM) (J : LngM) {n : Nat} {kd nd od : Nat → Nat} {lw pot : Nat} (hK : MK I n kd nd od lw pot) {dd how : Nat} (hd1 : 1 ≤ dd) (hdd : dd ≤ 7) (hh : how ≤ 1) (h0 : 0 < n) : CtP 8 m_X11_famine [.ref 146, .int (nI dd), .int (nI how)] I J (QM I J (.int (nnI (leP kd nd how od n dd lw))) none none none) := by
  refine CtP_of (by decide) rfl (Nat.le_of_ble_eq_true rfl) ?_
  refine V_il i_X11_famine_0 rfl ?_
  refine V_i2l i_X11_famine_1 ?_
  refine V_cl i_X11_famine_2 ?_
  refine V_cl i_X11_famine_3 ?_
  refine P_callS3v i_X11_famine_6 ms_X11_in (by decide) (Nat.le_of_ble_eq_true rfl) (c_M_in _ _ _ _ _) ?_
  refine V_if_eq_f i_X11_famine_9 (by rw [show inL (nI dd).toInt64 1 7 = 1 from in_yes (lo := 1) (hi := 7) hd1 hdd (by decide)]; decide) ?_
  refine V_il i_X11_famine_12 rfl ?_
  refine P_callS1v i_X11_famine_13 ms_X11_isHow (by decide) (Nat.le_of_ble_eq_true rfl) (c_M_isHow _ _ _) ?_
  refine V_if_ne_t i_X11_famine_16 (by rw [howv_nI hh]; decide) ?_
  refine V_al i_X11_famine_21 rfl ?_
  refine V_getI i_X11_famine_22 rfl ?_
  refine V_if_ne_t i_X11_famine_25 (by rw [hK.sz]; exact nI_ne0 h0 (by have := hK.n7; omega)) ?_
  refine V_al i_X11_famine_33 rfl ?_
  refine V_il i_X11_famine_34 rfl ?_
  refine V_il i_X11_famine_35 rfl ?_
  refine V_al i_X11_famine_36 rfl ?_
  refine V_getI i_X11_famine_37 rfl ?_
  rw [hK.lw]
  refine P_callV3 i_X11_famine_40 mi_X11_famineBy rfl ⟨_, _, rfl⟩ (by decide) (Nat.le_of_ble_eq_true rfl) (m_famineBy I J hK hdd hh hK.l3 h0) (fun r I1 J1 q => ?_)
  obtain ⟨rfl, f1⟩ := q
  exact P_iret i_X11_famine_43 rfl ⟨rfl, I1, J1, f1, rfl, rfl⟩
theorem nn_9 {v : Nat} (h1 : 1 ≤ v) (h : v < 2 ^ 31) : ¬ nnI v = -9 := fun q => by
  rw [nnI_pos h1 h] at q
  have := congrArg Int32.toInt q
  rw [nI_toInt h] at this
  have e : (-9 : Int32).toInt = -9 := rfl
  omega
set_option maxRecDepth 100000 in
set_option maxHeartbeats 4000000 in
theorem lp_M_kindest (I : IntM) (J : LngM) {n : Nat} {kd nd od : Nat → Nat} {lw pot : Nat} (hK : MK I n kd nd od lw pot) {dd how : Nat} (hdd : dd ≤ 7) (hh : how ≤ 1) (h0 : 0 < n) {L : Nat → Nat} (hL : L = (leP kd nd how od n dd)) (Q : Option Value → IntM → LngM → Prop) (hq : ∀ I1 J1, FrM I J I1 J1 → VP m_X11_kindest 8 85 [(0, .ref 146), (3, .int (kbI L 4)), (4, .int (nI (kbM L 4)))] [] I1 J1 Q) : VP m_X11_kindest 8 42 [(0, .ref 146), (1, .int (nI dd)), (2, .int (nI how)), (3, .int (-9)), (4, .int (nI 1000)), (5, .int 0)] [] I J Q := by
  have key : ∀ i, i ≤ 4 → ∀ I1 J1, FrM I J I1 J1 → VP m_X11_kindest 8 42 [(0, .ref 146), (1, .int (nI dd)), (2, .int (nI how)), (3, .int (kbI L i)), (4, .int (nI (kbM L i))), (5, .int (nI i))] [] I1 J1 Q := by
    refine down 4 ?_ (fun i hi ih => ?_)
    · intro I1 J1 f1
      refine V_il i_X11_kindest_42 rfl ?_
      refine V_c i_X11_kindest_44 ?_
      refine V_ic_ge_t i_X11_kindest_45 (Int32.le_refl _) ?_
      exact V_L (L' := [(0, _), (3, _), (4, _)]) ⟨rfl, rfl, rfl, trivial⟩ (hq I1 J1 f1)
    · intro I1 J1 f1
      have k1 := FrM.K f1 hK
      refine V_il i_X11_kindest_42 rfl ?_
      refine V_c i_X11_kindest_44 ?_
      refine V_ic_ge_f i_X11_kindest_45 (nI_ge (show i < 4 by omega) (by decide)) ?_
      refine V_al i_X11_kindest_48 rfl ?_
      refine V_il i_X11_kindest_49 rfl ?_
      refine V_il i_X11_kindest_50 rfl ?_
      refine V_il i_X11_kindest_51 rfl ?_
      refine P_callV3 i_X11_kindest_53 mi_X11_famineBy rfl ⟨_, _, rfl⟩ (by decide) (Nat.le_of_ble_eq_true rfl) (m_famineBy I1 J1 k1 hdd hh (show i ≤ 3 by omega) h0) (fun r I2 J2 q => ?_)
      obtain ⟨rfl, f2⟩ := q
      rw [show leP kd nd how od n dd i = L i from by rw [hL]]
      have hb := kbM_b L i
      have h9 := leP_lt kd nd how od n dd i
      rw [show leP kd nd how od n dd i = L i from by rw [hL]] at h9
      refine V_is (L' := [(0, _), (1, _), (2, _), (3, _), (4, _), (5, _), (6, _)]) i_X11_kindest_56 (by decide) ⟨rfl, rfl, rfl, rfl, rfl, rfl, rfl, trivial⟩ ?_
      refine V_il i_X11_kindest_58 rfl ?_
      refine V_c i_X11_kindest_60 ?_
      refine V_ic_eq i_X11_kindest_62 (fun c62 => ?_) (fun c62 => ?_)
      · have c9 : ¬ (1 ≤ L i ∧ L i < kbM L i) := fun z => nn_9 z.1 (by omega) c62
        have c9 := kb_f c9
        refine V_iinc (L' := [(0, _), (1, _), (2, _), (3, _), (4, _), (5, _)]) (n' := 1) i_X11_kindest_79 (by decide) rfl (by decide) ⟨rfl, rfl, rfl, rfl, rfl, rfl, trivial⟩ ?_
        refine V_goto i_X11_kindest_82 ?_
        refine V_L (L' := [(0, _), (1, _), (2, _), (3, _), (4, _), (5, _)]) ⟨rfl, rfl, rfl, rfl, rfl, rfl, trivial⟩ ?_
        rw [show nI i + 1 = nI (i + 1) from nI_1 i]
        have ih2 := ih I2 J2 (FrM.tr f1 f2)
        rw [c9.1, c9.2] at ih2
        exact ih2
      · have c62 : 1 ≤ L i := by
          rcases Nat.eq_zero_or_pos (L i) with z | z
          · exact absurd (by rw [z]; rfl) c62
          · exact z
        rw [nnI_pos c62 (by omega)]
        refine V_il i_X11_kindest_65 rfl ?_
        refine V_il i_X11_kindest_67 rfl ?_
        refine V_ic_ge i_X11_kindest_69 (fun c69 => ?_) (fun c69 => ?_)
        · rw [nI_leI (by omega) (by omega)] at c69
          have c9 := kb_f (L := L) (i := i) (by omega)
          refine V_iinc (L' := [(0, _), (1, _), (2, _), (3, _), (4, _), (5, _)]) (n' := 1) i_X11_kindest_79 (by decide) rfl (by decide) ⟨rfl, rfl, rfl, rfl, rfl, rfl, trivial⟩ ?_
          refine V_goto i_X11_kindest_82 ?_
          refine V_L (L' := [(0, _), (1, _), (2, _), (3, _), (4, _), (5, _)]) ⟨rfl, rfl, rfl, rfl, rfl, rfl, trivial⟩ ?_
          rw [show nI i + 1 = nI (i + 1) from nI_1 i]
          have ih2 := ih I2 J2 (FrM.tr f1 f2)
          rw [c9.1, c9.2] at ih2
          exact ih2
        · rw [nI_leI (by omega) (by omega)] at c69
          have c9 := kb_t (L := L) (i := i) ⟨c62, by omega⟩
          refine V_il i_X11_kindest_72 rfl ?_
          refine V_is (L' := [(0, _), (1, _), (2, _), (3, _), (5, _), (6, _)]) i_X11_kindest_74 (by decide) ⟨rfl, rfl, rfl, rfl, rfl, rfl, trivial⟩ ?_
          refine V_il i_X11_kindest_75 rfl ?_
          refine V_is (L' := [(0, _), (1, _), (2, _), (3, _), (4, _), (5, _)]) i_X11_kindest_77 (by decide) ⟨rfl, rfl, rfl, rfl, rfl, rfl, trivial⟩ ?_
          refine V_iinc (L' := [(0, _), (1, _), (2, _), (3, _), (4, _), (5, _)]) (n' := 1) i_X11_kindest_79 (by decide) rfl (by decide) ⟨rfl, rfl, rfl, rfl, rfl, rfl, trivial⟩ ?_
          refine V_goto i_X11_kindest_82 ?_
          refine V_L (L' := [(0, _), (1, _), (2, _), (3, _), (4, _), (5, _)]) ⟨rfl, rfl, rfl, rfl, rfl, rfl, trivial⟩ ?_
          rw [show nI i + 1 = nI (i + 1) from nI_1 i]
          have ih2 := ih I2 J2 (FrM.tr f1 f2)
          rw [c9.1, c9.2] at ih2
          exact ih2
  exact key 0 (Nat.zero_le _) I J FrM.rf
set_option maxRecDepth 100000 in
set_option maxHeartbeats 4000000 in
theorem m_kindest (I : IntM) (J : LngM) {n : Nat} {kd nd od : Nat → Nat} {lw pot : Nat} (hK : MK I n kd nd od lw pot) {dd how : Nat} (hd1 : 1 ≤ dd) (hdd : dd ≤ 7) (hh : how ≤ 1) (h0 : 0 < n) : CtP 8 m_X11_kindest [.ref 146, .int (nI dd), .int (nI how)] I J (QM I J (.int (kbI (leP kd nd how od n dd) 4)) (if kbI (leP kd nd how od n dd) 4 = -9 then none else some (nI (kbM (leP kd nd how od n dd) 4))) none none) := by
  refine CtP_of (by decide) rfl (Nat.le_of_ble_eq_true rfl) ?_
  refine V_il i_X11_kindest_0 rfl ?_
  refine V_i2l i_X11_kindest_1 ?_
  refine V_cl i_X11_kindest_2 ?_
  refine V_cl i_X11_kindest_3 ?_
  refine P_callS3v i_X11_kindest_6 ms_X11_in (by decide) (Nat.le_of_ble_eq_true rfl) (c_M_in _ _ _ _ _) ?_
  refine V_if_eq_f i_X11_kindest_9 (by rw [show inL (nI dd).toInt64 1 7 = 1 from in_yes (lo := 1) (hi := 7) hd1 hdd (by decide)]; decide) ?_
  refine V_il i_X11_kindest_12 rfl ?_
  refine P_callS1v i_X11_kindest_13 ms_X11_isHow (by decide) (Nat.le_of_ble_eq_true rfl) (c_M_isHow _ _ _) ?_
  refine V_if_ne_t i_X11_kindest_16 (by rw [howv_nI hh]; decide) ?_
  refine V_al i_X11_kindest_21 rfl ?_
  refine V_getI i_X11_kindest_22 rfl ?_
  refine V_if_ne_t i_X11_kindest_25 (by rw [hK.sz]; exact nI_ne0 h0 (by have := hK.n7; omega)) ?_
  refine V_c i_X11_kindest_31 ?_
  refine V_is (L' := [(0, _), (1, _), (2, _), (3, _)]) i_X11_kindest_33 (by decide) ⟨rfl, rfl, rfl, rfl, trivial⟩ ?_
  refine V_c i_X11_kindest_34 ?_
  refine V_is (L' := [(0, _), (1, _), (2, _), (3, _), (4, _)]) i_X11_kindest_37 (by decide) ⟨rfl, rfl, rfl, rfl, rfl, trivial⟩ ?_
  refine V_c i_X11_kindest_39 ?_
  refine V_is (L' := [(0, _), (1, _), (2, _), (3, _), (4, _), (5, _)]) i_X11_kindest_40 (by decide) ⟨rfl, rfl, rfl, rfl, rfl, rfl, trivial⟩ ?_
  refine V_L (L' := [(0, _), (1, _), (2, _), (3, _), (4, _), (5, _)]) ⟨rfl, rfl, rfl, rfl, rfl, rfl, trivial⟩ ?_
  refine lp_M_kindest I J hK hdd hh h0 rfl _ (fun I1 J1 f1 => ?_)
  refine V_il i_X11_kindest_85 rfl ?_
  refine V_c i_X11_kindest_86 ?_
  refine V_ic_eq i_X11_kindest_88 (fun c88 => ?_) (fun c88 => ?_)
  · refine V_il i_X11_kindest_97 rfl ?_
    exact P_iret i_X11_kindest_98 rfl ⟨rfl, I1, J1, f1, by rw [if_pos c88]; rfl, rfl⟩
  · refine V_al i_X11_kindest_91 rfl ?_
    refine V_il i_X11_kindest_92 rfl ?_
    refine V_putI i_X11_kindest_94 rfl ?_
    refine V_il i_X11_kindest_97 rfl ?_
    exact P_iret i_X11_kindest_98 rfl ⟨rfl, I1, J1, f1, by rw [if_neg c88]; rfl, rfl⟩
theorem p_least {I : IntM} {J : LngM} (h : Inv I J) (x : Int32) : Pair 6 m_X10_least [.ref 0, .int x] 7 m_X11_least [.ref 146, .int x] I J := by
  obtain ⟨n, kd, nd, od, lw, pot, hP, hK, hM⟩ := h.K
  by_cases hx : howv x = 0
  · exact Pair.q h (fun _ => no_f) (c_least0 I J hK hx) (fun I1 J1 e1 e2 => m_least0 I1 J1 (hM I1 e1) hx)
  obtain ⟨how, hh, rfl⟩ := howv_yes hx
  rcases Nat.eq_zero_or_pos n with h0 | h0
  · exact Pair.q h (fun _ => no_f) (c_least1 I J hK hh h0) (fun I1 J1 e1 e2 => m_least1 I1 J1 (hM I1 e1) hh h0)
  exact Pair.q h (fun _ => no_f) (c_least I J hK hh h0) (fun I1 J1 e1 e2 => m_least I1 J1 (hM I1 e1) hh h0)
theorem p_famine {I : IntM} {J : LngM} (h : Inv I J) (y z : Int32) : Pair 6 m_X10_famine [.ref 0, .int y, .int z] 8 m_X11_famine [.ref 146, .int y, .int z] I J := by
  obtain ⟨n, kd, nd, od, lw, pot, hP, hK, hM⟩ := h.K
  by_cases hy1 : y < 1
  · exact Pair.q h (fun _ => no_f) (c_famine0 I J hK (Or.inl hy1)) (fun I1 J1 e1 e2 => m_famine0 I1 J1 (hM I1 e1) (Or.inl hy1))
  by_cases hy2 : 7 < y
  · exact Pair.q h (fun _ => no_f) (c_famine0 I J hK (Or.inr (Or.inl hy2))) (fun I1 J1 e1 e2 => m_famine0 I1 J1 (hM I1 e1) (Or.inr (Or.inl hy2)))
  obtain ⟨dd, hd1, hd2, rfl⟩ := days (m := 7) (by decide) hy1 hy2
  by_cases hz : howv z = 0
  · exact Pair.q h (fun _ => no_f) (c_famine0 I J hK (Or.inr (Or.inr hz))) (fun I1 J1 e1 e2 => m_famine0 I1 J1 (hM I1 e1) (Or.inr (Or.inr hz)))
  obtain ⟨how, hh, rfl⟩ := howv_yes hz
  rcases Nat.eq_zero_or_pos n with h0 | h0
  · exact Pair.q h (fun _ => no_f) (c_famine1 I J hK hd1 hd2 hh h0) (fun I1 J1 e1 e2 => m_famine1 I1 J1 (hM I1 e1) hd1 hd2 hh h0)
  exact Pair.q h (fun _ => no_f) (c_famine I J hK hd1 hd2 hh h0) (fun I1 J1 e1 e2 => m_famine I1 J1 (hM I1 e1) hd1 hd2 hh h0)
theorem p_kindest {I : IntM} {J : LngM} (h : Inv I J) (y z : Int32) : Pair 6 m_X10_kindest [.ref 0, .int y, .int z] 8 m_X11_kindest [.ref 146, .int y, .int z] I J := by
  obtain ⟨n, kd, nd, od, lw, pot, hP, hK, hM⟩ := h.K
  by_cases hy1 : y < 1
  · exact Pair.q h (fun _ => no_f) (c_kindest0 I J hK (Or.inl hy1)) (fun I1 J1 e1 e2 => m_kindest0 I1 J1 (hM I1 e1) (Or.inl hy1))
  by_cases hy2 : 7 < y
  · exact Pair.q h (fun _ => no_f) (c_kindest0 I J hK (Or.inr (Or.inl hy2))) (fun I1 J1 e1 e2 => m_kindest0 I1 J1 (hM I1 e1) (Or.inr (Or.inl hy2)))
  obtain ⟨dd, hd1, hd2, rfl⟩ := days (m := 7) (by decide) hy1 hy2
  by_cases hz : howv z = 0
  · exact Pair.q h (fun _ => no_f) (c_kindest0 I J hK (Or.inr (Or.inr hz))) (fun I1 J1 e1 e2 => m_kindest0 I1 J1 (hM I1 e1) (Or.inr (Or.inr hz)))
  obtain ⟨how, hh, rfl⟩ := howv_yes hz
  rcases Nat.eq_zero_or_pos n with h0 | h0
  · exact Pair.q h (fun _ => no_f) (c_kindest1 I J hK hd1 hd2 hh h0) (fun I1 J1 e1 e2 => m_kindest1 I1 J1 (hM I1 e1) hd1 hd2 hh h0)
  exact Pair.q h (fun _ => no_f) (c_kindest I J hK hd1 hd2 hh h0) (fun I1 J1 e1 e2 => m_kindest I1 J1 (hM I1 e1) hd1 hd2 hh h0)
