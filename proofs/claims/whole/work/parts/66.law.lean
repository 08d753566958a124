/-! THE CLAIM OUT OF ONE WALK OF THE LAW'S BODY. Your part is whole_start (and what it stands on); all else here is the same for every law, but numbers. -/
def R_law : String := "ThirdLeftLaw"
def lw_P (b : Addr) (xs : List Int32) (args : Array Value) (s : State) : Prop := args = #[.ref b] ∧ s.IntsAt b xs ∧ xs.length ≤ 3072 ∧ (Jvm.Cond.and given_1 narrow_1).before args s = true
def lw_Q (_ : Array Value) (s : State) (o : Outcome) (t : State) : Prop := o = .returned (some (.int 1)) ∧ Framed s o t [] 600000 7302250
def lw_Z (below : List Frame) (a : Array Value) (s : State) : State → Prop := fun t => ∃ o, t.status = .running ∧ Ended t below o ∧ lw_Q a s o t
/-- the law's own end, with 1 on the stack, nothing written that was there before, its room as the claim has it -/
theorem lw_ret {p : Program} {l : Launch} {e : Env} {s : State} {m : MethodId} {below : List Frame} {meth : Method} {c : Code} {b : Nat} (hx : p.tables.exec = Jvm.exec) (hb : c.code = code) (hr : meth.sig.returnType = ret) (hlocks : meth.locks = false) {pc : Nat} {H : Heap} {ls : Array Slot} (hdg : decode code pc = .ok (.ireturn, 1)) : W p l e room_1 s m #[Value.ref b] below meth c H [] 600000 7302250 (lw_Z below #[Value.ref b] s) (F0 m pc ls [.int 1]) := by
  intro T hT X
  obtain ⟨fs, hret, hrun, hended, hW, hframe⟩ := X.leave (v := some (.int 1)) (hlocks := hlocks) (fun h => by rw [hr] at h; cases h)
  have hmeth' : T.vm.method? m = some meth := X.method'
  refine ⟨T.setFrames fs, ?_, .returned (some (.int 1)), hrun, hended, rfl, ⟨_, rfl⟩, hW, hframe⟩
  jvm_step X.here [X.here.top, hx, hb, hdg, hmeth', hr, ret, narrow_b1]
  (try refine ⟨rfl, ?_⟩); (try refine ⟨rfl, ?_⟩)
  first | (intro acts; rw [hret _ acts rfl rfl rfl]) | rw [hret _ _ rfl rfl rfl]
  exact Steps.refl _
/-- what holds at the law's entry: the machine, the code, the tables' words (any of lw_tbl by 'hts w (by decide +kernel)'), the script of L ints xs at the cell b, what the Statement gives of the start (any of its parts by flat_of_before) -/
def lw_At (p : Program) (s : State) (m : MethodId) (meth : Method) (c : Code) (b L : Nat) (xs : Nat → Int32) : Prop :=
  p.tables.exec = Jvm.exec ∧ c.code = code ∧ meth.sig.returnType = ret ∧ c.maxLocals = 4 ∧ s.vm.findClass R_law = some m.cls ∧ (∀ w ∈ lw_tbl, w.before #[Value.ref b] s = true) ∧ va_X b L xs s s.heap ∧ b < s.heap.size ∧ meth.locks = false ∧ (Jvm.Cond.and given_1 narrow_1).before #[Value.ref b] s = true

/-! ===== the law's own code ===== -/
def m_L_law : Mth := (R_law, x, code, 4, ret)
theorem w_1_16 : (Jvm.Cond.classLink "ThirdLeftLaw" (7 : Nat) "ThirdLeft") ∈ gtb := gt_1 16 (by decide +kernel) (by decide +kernel)
theorem w_1_17 : (Jvm.Cond.instantiable "ThirdLeft" (16 : Nat)) ∈ gtb := gt_1 17 (by decide +kernel) (by decide +kernel)
theorem w_1_18 : (Jvm.Cond.methodLink "ThirdLeftLaw" (9 : Nat) ({ cls := "ThirdLeft", name := "<init>", desc := "()V" } : Jvm.MethodName)) ∈ gtb := gt_1 18 (by decide +kernel) (by decide +kernel)
theorem w_4_217 : (Jvm.Cond.classLink "ThirdLeftLaw" (10 : Nat) "ThirdLeftModel") ∈ gtb := gt_4 217 (by decide +kernel) (by decide +kernel)
theorem w_4_218 : (Jvm.Cond.instantiable "ThirdLeftModel" (53 : Nat)) ∈ gtb := gt_4 218 (by decide +kernel) (by decide +kernel)
theorem w_4_219 : (Jvm.Cond.methodLink "ThirdLeftLaw" (12 : Nat) ({ cls := "ThirdLeftModel", name := "<init>", desc := "()V" } : Jvm.MethodName)) ∈ gtb := gt_4 219 (by decide +kernel) (by decide +kernel)
theorem w_2_100 : (Jvm.Cond.methodLink "ThirdLeftLaw" (13 : Nat) ({ cls := "ThirdLeft", name := "row", desc := "(II)I" } : Jvm.MethodName)) ∈ gtb := gt_2 100 (by decide +kernel) (by decide +kernel)
theorem w_5_143 : (Jvm.Cond.methodLink "ThirdLeftLaw" (17 : Nat) ({ cls := "ThirdLeftModel", name := "row", desc := "(II)I" } : Jvm.MethodName)) ∈ gtb := gt_5 143 (by decide +kernel) (by decide +kernel)
theorem w_2_119 : (Jvm.Cond.methodLink "ThirdLeftLaw" (18 : Nat) ({ cls := "ThirdLeft", name := "lay", desc := "(III)I" } : Jvm.MethodName)) ∈ gtb := gt_2 119 (by decide +kernel) (by decide +kernel)
theorem w_5_162 : (Jvm.Cond.methodLink "ThirdLeftLaw" (22 : Nat) ({ cls := "ThirdLeftModel", name := "lay", desc := "(III)I" } : Jvm.MethodName)) ∈ gtb := gt_5 162 (by decide +kernel) (by decide +kernel)
theorem w_2_143 : (Jvm.Cond.methodLink "ThirdLeftLaw" (23 : Nat) ({ cls := "ThirdLeft", name := "at", desc := "(II)I" } : Jvm.MethodName)) ∈ gtb := gt_2 143 (by decide +kernel) (by decide +kernel)
theorem w_5_170 : (Jvm.Cond.methodLink "ThirdLeftLaw" (26 : Nat) ({ cls := "ThirdLeftModel", name := "at", desc := "(II)I" } : Jvm.MethodName)) ∈ gtb := gt_5 170 (by decide +kernel) (by decide +kernel)
theorem w_2_147 : (Jvm.Cond.methodLink "ThirdLeftLaw" (27 : Nat) ({ cls := "ThirdLeft", name := "tear", desc := "(I)I" } : Jvm.MethodName)) ∈ gtb := gt_2 147 (by decide +kernel) (by decide +kernel)
theorem w_5_174 : (Jvm.Cond.methodLink "ThirdLeftLaw" (31 : Nat) ({ cls := "ThirdLeftModel", name := "tear", desc := "(I)I" } : Jvm.MethodName)) ∈ gtb := gt_5 174 (by decide +kernel) (by decide +kernel)
theorem w_2_155 : (Jvm.Cond.methodLink "ThirdLeftLaw" (32 : Nat) ({ cls := "ThirdLeft", name := "copy", desc := "(IIIII)I" } : Jvm.MethodName)) ∈ gtb := gt_2 155 (by decide +kernel) (by decide +kernel)
theorem w_5_178 : (Jvm.Cond.methodLink "ThirdLeftLaw" (36 : Nat) ({ cls := "ThirdLeftModel", name := "copy", desc := "(IIIII)I" } : Jvm.MethodName)) ∈ gtb := gt_5 178 (by decide +kernel) (by decide +kernel)
theorem w_2_171 : (Jvm.Cond.methodLink "ThirdLeftLaw" (37 : Nat) ({ cls := "ThirdLeft", name := "mean", desc := "(I)I" } : Jvm.MethodName)) ∈ gtb := gt_2 171 (by decide +kernel) (by decide +kernel)
theorem w_5_186 : (Jvm.Cond.methodLink "ThirdLeftLaw" (40 : Nat) ({ cls := "ThirdLeftModel", name := "mean", desc := "(I)I" } : Jvm.MethodName)) ∈ gtb := gt_5 186 (by decide +kernel) (by decide +kernel)
theorem w_2_184 : (Jvm.Cond.methodLink "ThirdLeftLaw" (41 : Nat) ({ cls := "ThirdLeft", name := "text", desc := "(II)I" } : Jvm.MethodName)) ∈ gtb := gt_2 184 (by decide +kernel) (by decide +kernel)
theorem w_5_190 : (Jvm.Cond.methodLink "ThirdLeftLaw" (44 : Nat) ({ cls := "ThirdLeftModel", name := "text", desc := "(II)I" } : Jvm.MethodName)) ∈ gtb := gt_5 190 (by decide +kernel) (by decide +kernel)
theorem w_2_188 : (Jvm.Cond.methodLink "ThirdLeftLaw" (45 : Nat) ({ cls := "ThirdLeft", name := "put", desc := "(III)I" } : Jvm.MethodName)) ∈ gtb := gt_2 188 (by decide +kernel) (by decide +kernel)
theorem w_5_198 : (Jvm.Cond.methodLink "ThirdLeftLaw" (48 : Nat) ({ cls := "ThirdLeftModel", name := "put", desc := "(III)I" } : Jvm.MethodName)) ∈ gtb := gt_5 198 (by decide +kernel) (by decide +kernel)
theorem w_2_192 : (Jvm.Cond.methodLink "ThirdLeftLaw" (49 : Nat) ({ cls := "ThirdLeft", name := "fault", desc := "(I)I" } : Jvm.MethodName)) ∈ gtb := gt_2 192 (by decide +kernel) (by decide +kernel)
theorem w_5_202 : (Jvm.Cond.methodLink "ThirdLeftLaw" (52 : Nat) ({ cls := "ThirdLeftModel", name := "fault", desc := "(I)I" } : Jvm.MethodName)) ∈ gtb := gt_5 202 (by decide +kernel) (by decide +kernel)
theorem w_2_222 : (Jvm.Cond.methodLink "ThirdLeftLaw" (53 : Nat) ({ cls := "ThirdLeft", name := "table", desc := "(I)I" } : Jvm.MethodName)) ∈ gtb := gt_2 222 (by decide +kernel) (by decide +kernel)
theorem w_5_232 : (Jvm.Cond.methodLink "ThirdLeftLaw" (56 : Nat) ({ cls := "ThirdLeftModel", name := "table", desc := "(I)I" } : Jvm.MethodName)) ∈ gtb := gt_5 232 (by decide +kernel) (by decide +kernel)
theorem w_3_1 : (Jvm.Cond.methodLink "ThirdLeftLaw" (57 : Nat) ({ cls := "ThirdLeft", name := "eater", desc := "(II)I" } : Jvm.MethodName)) ∈ gtb := gt_3 1 (by decide +kernel) (by decide +kernel)
theorem w_6_0 : (Jvm.Cond.methodLink "ThirdLeftLaw" (60 : Nat) ({ cls := "ThirdLeftModel", name := "eater", desc := "(II)I" } : Jvm.MethodName)) ∈ gtb := gt_6 0 (by decide +kernel) (by decide +kernel)
theorem w_3_17 : (Jvm.Cond.methodLink "ThirdLeftLaw" (61 : Nat) ({ cls := "ThirdLeft", name := "mark", desc := "(II)I" } : Jvm.MethodName)) ∈ gtb := gt_3 17 (by decide +kernel) (by decide +kernel)
theorem w_6_17 : (Jvm.Cond.methodLink "ThirdLeftLaw" (64 : Nat) ({ cls := "ThirdLeftModel", name := "mark", desc := "(II)I" } : Jvm.MethodName)) ∈ gtb := gt_6 17 (by decide +kernel) (by decide +kernel)
theorem w_3_92 : (Jvm.Cond.methodLink "ThirdLeftLaw" (65 : Nat) ({ cls := "ThirdLeft", name := "law", desc := "(I)I" } : Jvm.MethodName)) ∈ gtb := gt_3 92 (by decide +kernel) (by decide +kernel)
theorem w_6_74 : (Jvm.Cond.methodLink "ThirdLeftLaw" (68 : Nat) ({ cls := "ThirdLeftModel", name := "law", desc := "(I)I" } : Jvm.MethodName)) ∈ gtb := gt_6 74 (by decide +kernel) (by decide +kernel)
theorem w_3_96 : (Jvm.Cond.methodLink "ThirdLeftLaw" (69 : Nat) ({ cls := "ThirdLeft", name := "pot", desc := "(I)I" } : Jvm.MethodName)) ∈ gtb := gt_3 96 (by decide +kernel) (by decide +kernel)
theorem w_6_78 : (Jvm.Cond.methodLink "ThirdLeftLaw" (72 : Nat) ({ cls := "ThirdLeftModel", name := "pot", desc := "(I)I" } : Jvm.MethodName)) ∈ gtb := gt_6 78 (by decide +kernel) (by decide +kernel)
theorem w_3_100 : (Jvm.Cond.methodLink "ThirdLeftLaw" (73 : Nat) ({ cls := "ThirdLeft", name := "need", desc := "(II)I" } : Jvm.MethodName)) ∈ gtb := gt_3 100 (by decide +kernel) (by decide +kernel)
theorem w_6_83 : (Jvm.Cond.methodLink "ThirdLeftLaw" (76 : Nat) ({ cls := "ThirdLeftModel", name := "need", desc := "(II)I" } : Jvm.MethodName)) ∈ gtb := gt_6 83 (by decide +kernel) (by decide +kernel)
theorem w_3_104 : (Jvm.Cond.methodLink "ThirdLeftLaw" (77 : Nat) ({ cls := "ThirdLeft", name := "order", desc := "(I)I" } : Jvm.MethodName)) ∈ gtb := gt_3 104 (by decide +kernel) (by decide +kernel)
theorem w_6_88 : (Jvm.Cond.methodLink "ThirdLeftLaw" (80 : Nat) ({ cls := "ThirdLeftModel", name := "order", desc := "(I)I" } : Jvm.MethodName)) ∈ gtb := gt_6 88 (by decide +kernel) (by decide +kernel)
theorem w_3_114 : (Jvm.Cond.methodLink "ThirdLeftLaw" (81 : Nat) ({ cls := "ThirdLeft", name := "begin", desc := "(I)I" } : Jvm.MethodName)) ∈ gtb := gt_3 114 (by decide +kernel) (by decide +kernel)
theorem w_6_92 : (Jvm.Cond.methodLink "ThirdLeftLaw" (84 : Nat) ({ cls := "ThirdLeftModel", name := "begin", desc := "(I)I" } : Jvm.MethodName)) ∈ gtb := gt_6 92 (by decide +kernel) (by decide +kernel)
theorem w_3_121 : (Jvm.Cond.methodLink "ThirdLeftLaw" (85 : Nat) ({ cls := "ThirdLeft", name := "eat", desc := "()I" } : Jvm.MethodName)) ∈ gtb := gt_3 121 (by decide +kernel) (by decide +kernel)
theorem w_6_99 : (Jvm.Cond.methodLink "ThirdLeftLaw" (89 : Nat) ({ cls := "ThirdLeftModel", name := "eat", desc := "()I" } : Jvm.MethodName)) ∈ gtb := gt_6 99 (by decide +kernel) (by decide +kernel)
theorem w_3_149 : (Jvm.Cond.methodLink "ThirdLeftLaw" (90 : Nat) ({ cls := "ThirdLeft", name := "took", desc := "(I)I" } : Jvm.MethodName)) ∈ gtb := gt_3 149 (by decide +kernel) (by decide +kernel)
theorem w_6_107 : (Jvm.Cond.methodLink "ThirdLeftLaw" (93 : Nat) ({ cls := "ThirdLeftModel", name := "took", desc := "(I)I" } : Jvm.MethodName)) ∈ gtb := gt_6 107 (by decide +kernel) (by decide +kernel)
theorem w_3_154 : (Jvm.Cond.methodLink "ThirdLeftLaw" (94 : Nat) ({ cls := "ThirdLeft", name := "left", desc := "()I" } : Jvm.MethodName)) ∈ gtb := gt_3 154 (by decide +kernel) (by decide +kernel)
theorem w_6_111 : (Jvm.Cond.methodLink "ThirdLeftLaw" (97 : Nat) ({ cls := "ThirdLeftModel", name := "left", desc := "()I" } : Jvm.MethodName)) ∈ gtb := gt_6 111 (by decide +kernel) (by decide +kernel)
theorem w_3_158 : (Jvm.Cond.methodLink "ThirdLeftLaw" (98 : Nat) ({ cls := "ThirdLeft", name := "fed", desc := "()I" } : Jvm.MethodName)) ∈ gtb := gt_3 158 (by decide +kernel) (by decide +kernel)
theorem w_6_115 : (Jvm.Cond.methodLink "ThirdLeftLaw" (101 : Nat) ({ cls := "ThirdLeftModel", name := "fed", desc := "()I" } : Jvm.MethodName)) ∈ gtb := gt_6 115 (by decide +kernel) (by decide +kernel)
theorem w_3_170 : (Jvm.Cond.methodLink "ThirdLeftLaw" (102 : Nat) ({ cls := "ThirdLeft", name := "keep", desc := "(I)I" } : Jvm.MethodName)) ∈ gtb := gt_3 170 (by decide +kernel) (by decide +kernel)
theorem w_6_123 : (Jvm.Cond.methodLink "ThirdLeftLaw" (105 : Nat) ({ cls := "ThirdLeftModel", name := "keep", desc := "(I)I" } : Jvm.MethodName)) ∈ gtb := gt_6 123 (by decide +kernel) (by decide +kernel)
theorem w_3_187 : (Jvm.Cond.methodLink "ThirdLeftLaw" (106 : Nat) ({ cls := "ThirdLeft", name := "on", desc := "(I)I" } : Jvm.MethodName)) ∈ gtb := gt_3 187 (by decide +kernel) (by decide +kernel)
theorem w_6_127 : (Jvm.Cond.methodLink "ThirdLeftLaw" (109 : Nat) ({ cls := "ThirdLeftModel", name := "on", desc := "(I)I" } : Jvm.MethodName)) ∈ gtb := gt_6 127 (by decide +kernel) (by decide +kernel)
theorem w_3_191 : (Jvm.Cond.methodLink "ThirdLeftLaw" (110 : Nat) ({ cls := "ThirdLeft", name := "evening", desc := "(I)I" } : Jvm.MethodName)) ∈ gtb := gt_3 191 (by decide +kernel) (by decide +kernel)
theorem w_6_131 : (Jvm.Cond.methodLink "ThirdLeftLaw" (113 : Nat) ({ cls := "ThirdLeftModel", name := "evening", desc := "(I)I" } : Jvm.MethodName)) ∈ gtb := gt_6 131 (by decide +kernel) (by decide +kernel)
theorem w_3_203 : (Jvm.Cond.methodLink "ThirdLeftLaw" (114 : Nat) ({ cls := "ThirdLeft", name := "place", desc := "(III)I" } : Jvm.MethodName)) ∈ gtb := gt_3 203 (by decide +kernel) (by decide +kernel)
theorem w_6_139 : (Jvm.Cond.methodLink "ThirdLeftLaw" (117 : Nat) ({ cls := "ThirdLeftModel", name := "place", desc := "(III)I" } : Jvm.MethodName)) ∈ gtb := gt_6 139 (by decide +kernel) (by decide +kernel)
theorem w_3_207 : (Jvm.Cond.methodLink "ThirdLeftLaw" (118 : Nat) ({ cls := "ThirdLeft", name := "favours", desc := "(II)I" } : Jvm.MethodName)) ∈ gtb := gt_3 207 (by decide +kernel) (by decide +kernel)
theorem w_6_143 : (Jvm.Cond.methodLink "ThirdLeftLaw" (121 : Nat) ({ cls := "ThirdLeftModel", name := "favours", desc := "(II)I" } : Jvm.MethodName)) ∈ gtb := gt_6 143 (by decide +kernel) (by decide +kernel)
theorem w_3_212 : (Jvm.Cond.methodLink "ThirdLeftLaw" (122 : Nat) ({ cls := "ThirdLeft", name := "least", desc := "(I)I" } : Jvm.MethodName)) ∈ gtb := gt_3 212 (by decide +kernel) (by decide +kernel)
theorem w_6_148 : (Jvm.Cond.methodLink "ThirdLeftLaw" (125 : Nat) ({ cls := "ThirdLeftModel", name := "least", desc := "(I)I" } : Jvm.MethodName)) ∈ gtb := gt_6 148 (by decide +kernel) (by decide +kernel)
theorem w_3_237 : (Jvm.Cond.methodLink "ThirdLeftLaw" (126 : Nat) ({ cls := "ThirdLeft", name := "best", desc := "(II)I" } : Jvm.MethodName)) ∈ gtb := gt_3 237 (by decide +kernel) (by decide +kernel)
theorem w_6_156 : (Jvm.Cond.methodLink "ThirdLeftLaw" (129 : Nat) ({ cls := "ThirdLeftModel", name := "best", desc := "(II)I" } : Jvm.MethodName)) ∈ gtb := gt_6 156 (by decide +kernel) (by decide +kernel)
theorem w_4_20 : (Jvm.Cond.methodLink "ThirdLeftLaw" (130 : Nat) ({ cls := "ThirdLeft", name := "most", desc := "(I)I" } : Jvm.MethodName)) ∈ gtb := gt_4 20 (by decide +kernel) (by decide +kernel)
theorem w_6_176 : (Jvm.Cond.methodLink "ThirdLeftLaw" (133 : Nat) ({ cls := "ThirdLeftModel", name := "most", desc := "(I)I" } : Jvm.MethodName)) ∈ gtb := gt_6 176 (by decide +kernel) (by decide +kernel)
theorem w_4_35 : (Jvm.Cond.methodLink "ThirdLeftLaw" (134 : Nat) ({ cls := "ThirdLeft", name := "kind", desc := "(I)I" } : Jvm.MethodName)) ∈ gtb := gt_4 35 (by decide +kernel) (by decide +kernel)
theorem w_6_180 : (Jvm.Cond.methodLink "ThirdLeftLaw" (137 : Nat) ({ cls := "ThirdLeftModel", name := "kind", desc := "(I)I" } : Jvm.MethodName)) ∈ gtb := gt_6 180 (by decide +kernel) (by decide +kernel)
theorem w_4_39 : (Jvm.Cond.methodLink "ThirdLeftLaw" (138 : Nat) ({ cls := "ThirdLeft", name := "week", desc := "(III)I" } : Jvm.MethodName)) ∈ gtb := gt_4 39 (by decide +kernel) (by decide +kernel)
theorem w_6_184 : (Jvm.Cond.methodLink "ThirdLeftLaw" (141 : Nat) ({ cls := "ThirdLeftModel", name := "week", desc := "(III)I" } : Jvm.MethodName)) ∈ gtb := gt_6 184 (by decide +kernel) (by decide +kernel)
theorem w_4_43 : (Jvm.Cond.methodLink "ThirdLeftLaw" (142 : Nat) ({ cls := "ThirdLeft", name := "even", desc := "(II)I" } : Jvm.MethodName)) ∈ gtb := gt_4 43 (by decide +kernel) (by decide +kernel)
theorem w_6_193 : (Jvm.Cond.methodLink "ThirdLeftLaw" (145 : Nat) ({ cls := "ThirdLeftModel", name := "even", desc := "(II)I" } : Jvm.MethodName)) ∈ gtb := gt_6 193 (by decide +kernel) (by decide +kernel)
theorem w_4_72 : (Jvm.Cond.methodLink "ThirdLeftLaw" (146 : Nat) ({ cls := "ThirdLeft", name := "two", desc := "(I)I" } : Jvm.MethodName)) ∈ gtb := gt_4 72 (by decide +kernel) (by decide +kernel)
theorem w_6_206 : (Jvm.Cond.methodLink "ThirdLeftLaw" (149 : Nat) ({ cls := "ThirdLeftModel", name := "two", desc := "(I)I" } : Jvm.MethodName)) ∈ gtb := gt_6 206 (by decide +kernel) (by decide +kernel)
theorem w_4_80 : (Jvm.Cond.methodLink "ThirdLeftLaw" (150 : Nat) ({ cls := "ThirdLeft", name := "scales", desc := "()I" } : Jvm.MethodName)) ∈ gtb := gt_4 80 (by decide +kernel) (by decide +kernel)
theorem w_6_214 : (Jvm.Cond.methodLink "ThirdLeftLaw" (153 : Nat) ({ cls := "ThirdLeftModel", name := "scales", desc := "()I" } : Jvm.MethodName)) ∈ gtb := gt_6 214 (by decide +kernel) (by decide +kernel)
theorem w_4_102 : (Jvm.Cond.methodLink "ThirdLeftLaw" (154 : Nat) ({ cls := "ThirdLeft", name := "cheats", desc := "()I" } : Jvm.MethodName)) ∈ gtb := gt_4 102 (by decide +kernel) (by decide +kernel)
theorem w_6_222 : (Jvm.Cond.methodLink "ThirdLeftLaw" (157 : Nat) ({ cls := "ThirdLeftModel", name := "cheats", desc := "()I" } : Jvm.MethodName)) ∈ gtb := gt_6 222 (by decide +kernel) (by decide +kernel)
theorem w_4_111 : (Jvm.Cond.methodLink "ThirdLeftLaw" (158 : Nat) ({ cls := "ThirdLeft", name := "bones", desc := "(I)I" } : Jvm.MethodName)) ∈ gtb := gt_4 111 (by decide +kernel) (by decide +kernel)
theorem w_6_226 : (Jvm.Cond.methodLink "ThirdLeftLaw" (161 : Nat) ({ cls := "ThirdLeftModel", name := "bones", desc := "(I)I" } : Jvm.MethodName)) ∈ gtb := gt_6 226 (by decide +kernel) (by decide +kernel)
theorem w_4_125 : (Jvm.Cond.methodLink "ThirdLeftLaw" (162 : Nat) ({ cls := "ThirdLeft", name := "last", desc := "(I)I" } : Jvm.MethodName)) ∈ gtb := gt_4 125 (by decide +kernel) (by decide +kernel)
theorem w_6_238 : (Jvm.Cond.methodLink "ThirdLeftLaw" (165 : Nat) ({ cls := "ThirdLeftModel", name := "last", desc := "(I)I" } : Jvm.MethodName)) ∈ gtb := gt_6 238 (by decide +kernel) (by decide +kernel)
theorem w_4_129 : (Jvm.Cond.methodLink "ThirdLeftLaw" (166 : Nat) ({ cls := "ThirdLeft", name := "ahead", desc := "(III)I" } : Jvm.MethodName)) ∈ gtb := gt_4 129 (by decide +kernel) (by decide +kernel)
theorem w_7_2 : (Jvm.Cond.methodLink "ThirdLeftLaw" (169 : Nat) ({ cls := "ThirdLeftModel", name := "ahead", desc := "(III)I" } : Jvm.MethodName)) ∈ gtb := gt_7 2 (by decide +kernel) (by decide +kernel)
theorem w_4_133 : (Jvm.Cond.methodLink "ThirdLeftLaw" (170 : Nat) ({ cls := "ThirdLeft", name := "famine", desc := "(II)I" } : Jvm.MethodName)) ∈ gtb := gt_4 133 (by decide +kernel) (by decide +kernel)
theorem w_7_6 : (Jvm.Cond.methodLink "ThirdLeftLaw" (173 : Nat) ({ cls := "ThirdLeftModel", name := "famine", desc := "(II)I" } : Jvm.MethodName)) ∈ gtb := gt_7 6 (by decide +kernel) (by decide +kernel)
theorem w_4_137 : (Jvm.Cond.methodLink "ThirdLeftLaw" (174 : Nat) ({ cls := "ThirdLeft", name := "kindest", desc := "(II)I" } : Jvm.MethodName)) ∈ gtb := gt_4 137 (by decide +kernel) (by decide +kernel)
theorem w_7_14 : (Jvm.Cond.methodLink "ThirdLeftLaw" (177 : Nat) ({ cls := "ThirdLeftModel", name := "kindest", desc := "(II)I" } : Jvm.MethodName)) ∈ gtb := gt_7 14 (by decide +kernel) (by decide +kernel)
theorem w_4_141 : (Jvm.Cond.methodLink "ThirdLeftLaw" (178 : Nat) ({ cls := "ThirdLeft", name := "kitchens", desc := "(IIII)I" } : Jvm.MethodName)) ∈ gtb := gt_4 141 (by decide +kernel) (by decide +kernel)
theorem w_7_18 : (Jvm.Cond.methodLink "ThirdLeftLaw" (182 : Nat) ({ cls := "ThirdLeftModel", name := "kitchens", desc := "(IIII)I" } : Jvm.MethodName)) ∈ gtb := gt_7 18 (by decide +kernel) (by decide +kernel)
theorem w_4_162 : (Jvm.Cond.methodLink "ThirdLeftLaw" (183 : Nat) ({ cls := "ThirdLeft", name := "asked", desc := "()I" } : Jvm.MethodName)) ∈ gtb := gt_4 162 (by decide +kernel) (by decide +kernel)
theorem w_7_26 : (Jvm.Cond.methodLink "ThirdLeftLaw" (186 : Nat) ({ cls := "ThirdLeftModel", name := "asked", desc := "()I" } : Jvm.MethodName)) ∈ gtb := gt_7 26 (by decide +kernel) (by decide +kernel)
theorem w_4_166 : (Jvm.Cond.methodLink "ThirdLeftLaw" (187 : Nat) ({ cls := "ThirdLeft", name := "upper", desc := "()J" } : Jvm.MethodName)) ∈ gtb := gt_4 166 (by decide +kernel) (by decide +kernel)
theorem w_7_30 : (Jvm.Cond.methodLink "ThirdLeftLaw" (191 : Nat) ({ cls := "ThirdLeftModel", name := "upper", desc := "()J" } : Jvm.MethodName)) ∈ gtb := gt_7 30 (by decide +kernel) (by decide +kernel)
theorem w_4_170 : (Jvm.Cond.methodLink "ThirdLeftLaw" (192 : Nat) ({ cls := "ThirdLeft", name := "lower", desc := "()J" } : Jvm.MethodName)) ∈ gtb := gt_4 170 (by decide +kernel) (by decide +kernel)
theorem w_7_34 : (Jvm.Cond.methodLink "ThirdLeftLaw" (195 : Nat) ({ cls := "ThirdLeftModel", name := "lower", desc := "()J" } : Jvm.MethodName)) ∈ gtb := gt_7 34 (by decide +kernel) (by decide +kernel)
theorem w_4_174 : (Jvm.Cond.methodLink "ThirdLeftLaw" (196 : Nat) ({ cls := "ThirdLeft", name := "count", desc := "(I)I" } : Jvm.MethodName)) ∈ gtb := gt_4 174 (by decide +kernel) (by decide +kernel)
theorem w_7_38 : (Jvm.Cond.methodLink "ThirdLeftLaw" (199 : Nat) ({ cls := "ThirdLeftModel", name := "count", desc := "(I)I" } : Jvm.MethodName)) ∈ gtb := gt_7 38 (by decide +kernel) (by decide +kernel)
theorem w_4_189 : (Jvm.Cond.methodLink "ThirdLeftLaw" (200 : Nat) ({ cls := "ThirdLeft", name := "finding", desc := "()I" } : Jvm.MethodName)) ∈ gtb := gt_4 189 (by decide +kernel) (by decide +kernel)
theorem w_7_46 : (Jvm.Cond.methodLink "ThirdLeftLaw" (203 : Nat) ({ cls := "ThirdLeftModel", name := "finding", desc := "()I" } : Jvm.MethodName)) ∈ gtb := gt_7 46 (by decide +kernel) (by decide +kernel)
theorem w_4_193 : (Jvm.Cond.methodLink "ThirdLeftLaw" (204 : Nat) ({ cls := "ThirdLeft", name := "findings", desc := "(I)I" } : Jvm.MethodName)) ∈ gtb := gt_4 193 (by decide +kernel) (by decide +kernel)
theorem w_7_50 : (Jvm.Cond.methodLink "ThirdLeftLaw" (207 : Nat) ({ cls := "ThirdLeftModel", name := "findings", desc := "(I)I" } : Jvm.MethodName)) ∈ gtb := gt_7 50 (by decide +kernel) (by decide +kernel)
theorem w_4_197 : (Jvm.Cond.methodLink "ThirdLeftLaw" (208 : Nat) ({ cls := "ThirdLeft", name := "digest", desc := "()J" } : Jvm.MethodName)) ∈ gtb := gt_4 197 (by decide +kernel) (by decide +kernel)
theorem w_7_54 : (Jvm.Cond.methodLink "ThirdLeftLaw" (211 : Nat) ({ cls := "ThirdLeftModel", name := "digest", desc := "()J" } : Jvm.MethodName)) ∈ gtb := gt_7 54 (by decide +kernel) (by decide +kernel)
theorem i_L_law_0 : DN m_L_law 0 9 3 := ⟨7, RX10, TX10, 16, by decide +kernel, rfl, w_1_16, w_1_17, w_1_1, rfl⟩
theorem i_L_law_3 : D1 m_L_law 3 (.dup) 1 4 := ⟨by decide +kernel, rfl⟩
theorem i_L_law_4 : DI m_L_law 4 m_X10_init 7 := ⟨9, by decide +kernel, Or.inl w_1_18, rfl⟩
theorem i_L_law_7 : Das m_L_law 7 1 8 := Or.inl ⟨1, by decide +kernel, rfl, rfl⟩
theorem i_L_law_8 : DN m_L_law 8 10 11 := ⟨10, RX11, TX11, 53, by decide +kernel, rfl, w_4_217, w_4_218, w_1_12, rfl⟩
theorem i_L_law_11 : D1 m_L_law 11 (.dup) 1 12 := ⟨by decide +kernel, rfl⟩
theorem i_L_law_12 : DI m_L_law 12 m_X11_init 15 := ⟨12, by decide +kernel, Or.inl w_4_219, rfl⟩
theorem i_L_law_15 : Das m_L_law 15 2 16 := Or.inl ⟨2, by decide +kernel, rfl, rfl⟩
theorem i_L_law_16 : Dc m_L_law 16 0 17 := Or.inl ⟨0, by decide +kernel, by decide, rfl⟩
theorem i_L_law_17 : Dis m_L_law 17 3 18 := Or.inl ⟨3, by decide +kernel, rfl, rfl⟩
theorem i_L_law_18 : Dil m_L_law 18 3 19 := Or.inl ⟨3, by decide +kernel, rfl, rfl⟩
theorem i_L_law_19 : Dal m_L_law 19 0 20 := Or.inl ⟨0, by decide +kernel, rfl, rfl⟩
theorem i_L_law_20 : D1 m_L_law 20 (.arraylength) 1 21 := ⟨by decide +kernel, rfl⟩
theorem i_L_law_21 : Dc m_L_law 21 6 23 := Or.inr (Or.inl ⟨6, by decide +kernel, by decide, rfl⟩)
theorem i_L_law_23 : D1 m_L_law 23 (.isub) 1 24 := ⟨by decide +kernel, rfl⟩
theorem i_L_law_24 : D2 m_L_law 24 (.if_icmp .gt 1509) 1509 27 1533 := ⟨by decide +kernel, rfl, by decide⟩
theorem i_L_law_27 : Dal m_L_law 27 0 28 := Or.inl ⟨0, by decide +kernel, rfl, rfl⟩
theorem i_L_law_28 : Dil m_L_law 28 3 29 := Or.inl ⟨3, by decide +kernel, rfl, rfl⟩
theorem i_L_law_29 : D1 m_L_law 29 (.iaload) 1 30 := ⟨by decide +kernel, rfl⟩
theorem i_L_law_30 : Dc m_L_law 30 63 32 := Or.inr (Or.inl ⟨63, by decide +kernel, by decide, rfl⟩)
theorem i_L_law_32 : D1 m_L_law 32 (.iand) 1 33 := ⟨by decide +kernel, rfl⟩
theorem i_L_law_33 : D1 m_L_law 33 (.tableswitch 1494 0 47 #[207, 240, 283, 316, 339, 402, 425, 458, 501, 524, 547, 580, 613, 636, 659, 692, 715, 738, 751, 774, 787, 800, 823, 846, 869, 912, 945, 968, 1001, 1024, 1047, 1090, 1123, 1146, 1159, 1172, 1195, 1218, 1261, 1294, 1327, 1380, 1393, 1407, 1421, 1444, 1457, 1480]) 207 240 := ⟨by decide +kernel, rfl⟩
theorem i_L_law_240 : Dal m_L_law 240 1 241 := Or.inl ⟨1, by decide +kernel, rfl, rfl⟩
theorem i_L_law_241 : Dal m_L_law 241 0 242 := Or.inl ⟨0, by decide +kernel, rfl, rfl⟩
theorem i_L_law_242 : Dil m_L_law 242 3 243 := Or.inl ⟨3, by decide +kernel, rfl, rfl⟩
theorem i_L_law_243 : Dc m_L_law 243 1 244 := Or.inl ⟨1, by decide +kernel, by decide, rfl⟩
theorem i_L_law_244 : D1 m_L_law 244 (.iadd) 1 245 := ⟨by decide +kernel, rfl⟩
theorem i_L_law_245 : D1 m_L_law 245 (.iaload) 1 246 := ⟨by decide +kernel, rfl⟩
theorem i_L_law_246 : Dal m_L_law 246 0 247 := Or.inl ⟨0, by decide +kernel, rfl, rfl⟩
theorem i_L_law_247 : Dil m_L_law 247 3 248 := Or.inl ⟨3, by decide +kernel, rfl, rfl⟩
theorem i_L_law_248 : Dc m_L_law 248 2 249 := Or.inl ⟨2, by decide +kernel, by decide, rfl⟩
theorem i_L_law_249 : D1 m_L_law 249 (.iadd) 1 250 := ⟨by decide +kernel, rfl⟩
theorem i_L_law_250 : D1 m_L_law 250 (.iaload) 1 251 := ⟨by decide +kernel, rfl⟩
theorem i_L_law_251 : DV m_L_law 251 m_X10_row 254 := ⟨13, by decide +kernel, w_2_100, rfl⟩
theorem i_L_law_254 : Dal m_L_law 254 2 255 := Or.inl ⟨2, by decide +kernel, rfl, rfl⟩
theorem i_L_law_255 : Dal m_L_law 255 0 256 := Or.inl ⟨0, by decide +kernel, rfl, rfl⟩
theorem i_L_law_256 : Dil m_L_law 256 3 257 := Or.inl ⟨3, by decide +kernel, rfl, rfl⟩
theorem i_L_law_257 : Dc m_L_law 257 1 258 := Or.inl ⟨1, by decide +kernel, by decide, rfl⟩
theorem i_L_law_258 : D1 m_L_law 258 (.iadd) 1 259 := ⟨by decide +kernel, rfl⟩
theorem i_L_law_259 : D1 m_L_law 259 (.iaload) 1 260 := ⟨by decide +kernel, rfl⟩
theorem i_L_law_260 : Dal m_L_law 260 0 261 := Or.inl ⟨0, by decide +kernel, rfl, rfl⟩
theorem i_L_law_261 : Dil m_L_law 261 3 262 := Or.inl ⟨3, by decide +kernel, rfl, rfl⟩
theorem i_L_law_262 : Dc m_L_law 262 2 263 := Or.inl ⟨2, by decide +kernel, by decide, rfl⟩
theorem i_L_law_263 : D1 m_L_law 263 (.iadd) 1 264 := ⟨by decide +kernel, rfl⟩
theorem i_L_law_264 : D1 m_L_law 264 (.iaload) 1 265 := ⟨by decide +kernel, rfl⟩
theorem i_L_law_265 : DV m_L_law 265 m_X11_row 268 := ⟨17, by decide +kernel, w_5_143, rfl⟩
theorem i_L_law_268 : D2 m_L_law 268 (.if_icmp .eq 1259) 1259 271 1527 := ⟨by decide +kernel, rfl, by decide⟩
theorem i_L_law_271 : Dc m_L_law 271 0 272 := Or.inl ⟨0, by decide +kernel, by decide, rfl⟩
theorem i_L_law_272 : D1 m_L_law 272 (.ireturn) 1 273 := ⟨by decide +kernel, rfl⟩
theorem i_L_law_273 : Dal m_L_law 273 1 274 := Or.inl ⟨1, by decide +kernel, rfl, rfl⟩
theorem i_L_law_274 : Dal m_L_law 274 0 275 := Or.inl ⟨0, by decide +kernel, rfl, rfl⟩
theorem i_L_law_275 : Dil m_L_law 275 3 276 := Or.inl ⟨3, by decide +kernel, rfl, rfl⟩
theorem i_L_law_276 : Dc m_L_law 276 1 277 := Or.inl ⟨1, by decide +kernel, by decide, rfl⟩
theorem i_L_law_277 : D1 m_L_law 277 (.iadd) 1 278 := ⟨by decide +kernel, rfl⟩
theorem i_L_law_278 : D1 m_L_law 278 (.iaload) 1 279 := ⟨by decide +kernel, rfl⟩
theorem i_L_law_279 : Dal m_L_law 279 0 280 := Or.inl ⟨0, by decide +kernel, rfl, rfl⟩
theorem i_L_law_280 : Dil m_L_law 280 3 281 := Or.inl ⟨3, by decide +kernel, rfl, rfl⟩
theorem i_L_law_281 : Dc m_L_law 281 2 282 := Or.inl ⟨2, by decide +kernel, by decide, rfl⟩
theorem i_L_law_282 : D1 m_L_law 282 (.iadd) 1 283 := ⟨by decide +kernel, rfl⟩
theorem i_L_law_283 : D1 m_L_law 283 (.iaload) 1 284 := ⟨by decide +kernel, rfl⟩
theorem i_L_law_284 : Dal m_L_law 284 0 285 := Or.inl ⟨0, by decide +kernel, rfl, rfl⟩
theorem i_L_law_285 : Dil m_L_law 285 3 286 := Or.inl ⟨3, by decide +kernel, rfl, rfl⟩
theorem i_L_law_286 : Dc m_L_law 286 3 287 := Or.inl ⟨3, by decide +kernel, by decide, rfl⟩
theorem i_L_law_287 : D1 m_L_law 287 (.iadd) 1 288 := ⟨by decide +kernel, rfl⟩
theorem i_L_law_288 : D1 m_L_law 288 (.iaload) 1 289 := ⟨by decide +kernel, rfl⟩
theorem i_L_law_289 : DV m_L_law 289 m_X10_lay 292 := ⟨18, by decide +kernel, w_2_119, rfl⟩
theorem i_L_law_292 : Dal m_L_law 292 2 293 := Or.inl ⟨2, by decide +kernel, rfl, rfl⟩
theorem i_L_law_293 : Dal m_L_law 293 0 294 := Or.inl ⟨0, by decide +kernel, rfl, rfl⟩
theorem i_L_law_294 : Dil m_L_law 294 3 295 := Or.inl ⟨3, by decide +kernel, rfl, rfl⟩
theorem i_L_law_295 : Dc m_L_law 295 1 296 := Or.inl ⟨1, by decide +kernel, by decide, rfl⟩
theorem i_L_law_296 : D1 m_L_law 296 (.iadd) 1 297 := ⟨by decide +kernel, rfl⟩
theorem i_L_law_297 : D1 m_L_law 297 (.iaload) 1 298 := ⟨by decide +kernel, rfl⟩
theorem i_L_law_298 : Dal m_L_law 298 0 299 := Or.inl ⟨0, by decide +kernel, rfl, rfl⟩
theorem i_L_law_299 : Dil m_L_law 299 3 300 := Or.inl ⟨3, by decide +kernel, rfl, rfl⟩
theorem i_L_law_300 : Dc m_L_law 300 2 301 := Or.inl ⟨2, by decide +kernel, by decide, rfl⟩
theorem i_L_law_301 : D1 m_L_law 301 (.iadd) 1 302 := ⟨by decide +kernel, rfl⟩
theorem i_L_law_302 : D1 m_L_law 302 (.iaload) 1 303 := ⟨by decide +kernel, rfl⟩
theorem i_L_law_303 : Dal m_L_law 303 0 304 := Or.inl ⟨0, by decide +kernel, rfl, rfl⟩
theorem i_L_law_304 : Dil m_L_law 304 3 305 := Or.inl ⟨3, by decide +kernel, rfl, rfl⟩
theorem i_L_law_305 : Dc m_L_law 305 3 306 := Or.inl ⟨3, by decide +kernel, by decide, rfl⟩
theorem i_L_law_306 : D1 m_L_law 306 (.iadd) 1 307 := ⟨by decide +kernel, rfl⟩
theorem i_L_law_307 : D1 m_L_law 307 (.iaload) 1 308 := ⟨by decide +kernel, rfl⟩
theorem i_L_law_308 : DV m_L_law 308 m_X11_lay 311 := ⟨22, by decide +kernel, w_5_162, rfl⟩
theorem i_L_law_311 : D2 m_L_law 311 (.if_icmp .eq 1216) 1216 314 1527 := ⟨by decide +kernel, rfl, by decide⟩
theorem i_L_law_314 : Dc m_L_law 314 0 315 := Or.inl ⟨0, by decide +kernel, by decide, rfl⟩
theorem i_L_law_315 : D1 m_L_law 315 (.ireturn) 1 316 := ⟨by decide +kernel, rfl⟩
theorem i_L_law_316 : Dal m_L_law 316 1 317 := Or.inl ⟨1, by decide +kernel, rfl, rfl⟩
theorem i_L_law_317 : Dal m_L_law 317 0 318 := Or.inl ⟨0, by decide +kernel, rfl, rfl⟩
theorem i_L_law_318 : Dil m_L_law 318 3 319 := Or.inl ⟨3, by decide +kernel, rfl, rfl⟩
theorem i_L_law_319 : Dc m_L_law 319 1 320 := Or.inl ⟨1, by decide +kernel, by decide, rfl⟩
theorem i_L_law_320 : D1 m_L_law 320 (.iadd) 1 321 := ⟨by decide +kernel, rfl⟩
theorem i_L_law_321 : D1 m_L_law 321 (.iaload) 1 322 := ⟨by decide +kernel, rfl⟩
theorem i_L_law_322 : Dal m_L_law 322 0 323 := Or.inl ⟨0, by decide +kernel, rfl, rfl⟩
theorem i_L_law_323 : Dil m_L_law 323 3 324 := Or.inl ⟨3, by decide +kernel, rfl, rfl⟩
theorem i_L_law_324 : Dc m_L_law 324 2 325 := Or.inl ⟨2, by decide +kernel, by decide, rfl⟩
theorem i_L_law_325 : D1 m_L_law 325 (.iadd) 1 326 := ⟨by decide +kernel, rfl⟩
theorem i_L_law_326 : D1 m_L_law 326 (.iaload) 1 327 := ⟨by decide +kernel, rfl⟩
theorem i_L_law_327 : DV m_L_law 327 m_X10_at 330 := ⟨23, by decide +kernel, w_2_143, rfl⟩
theorem i_L_law_330 : Dal m_L_law 330 2 331 := Or.inl ⟨2, by decide +kernel, rfl, rfl⟩
theorem i_L_law_331 : Dal m_L_law 331 0 332 := Or.inl ⟨0, by decide +kernel, rfl, rfl⟩
theorem i_L_law_332 : Dil m_L_law 332 3 333 := Or.inl ⟨3, by decide +kernel, rfl, rfl⟩
theorem i_L_law_333 : Dc m_L_law 333 1 334 := Or.inl ⟨1, by decide +kernel, by decide, rfl⟩
theorem i_L_law_334 : D1 m_L_law 334 (.iadd) 1 335 := ⟨by decide +kernel, rfl⟩
theorem i_L_law_335 : D1 m_L_law 335 (.iaload) 1 336 := ⟨by decide +kernel, rfl⟩
theorem i_L_law_336 : Dal m_L_law 336 0 337 := Or.inl ⟨0, by decide +kernel, rfl, rfl⟩
theorem i_L_law_337 : Dil m_L_law 337 3 338 := Or.inl ⟨3, by decide +kernel, rfl, rfl⟩
theorem i_L_law_338 : Dc m_L_law 338 2 339 := Or.inl ⟨2, by decide +kernel, by decide, rfl⟩
theorem i_L_law_339 : D1 m_L_law 339 (.iadd) 1 340 := ⟨by decide +kernel, rfl⟩
theorem i_L_law_340 : D1 m_L_law 340 (.iaload) 1 341 := ⟨by decide +kernel, rfl⟩
theorem i_L_law_341 : DV m_L_law 341 m_X11_at 344 := ⟨26, by decide +kernel, w_5_170, rfl⟩
theorem i_L_law_344 : D2 m_L_law 344 (.if_icmp .eq 1183) 1183 347 1527 := ⟨by decide +kernel, rfl, by decide⟩
theorem i_L_law_347 : Dc m_L_law 347 0 348 := Or.inl ⟨0, by decide +kernel, by decide, rfl⟩
theorem i_L_law_348 : D1 m_L_law 348 (.ireturn) 1 349 := ⟨by decide +kernel, rfl⟩
theorem i_L_law_349 : Dal m_L_law 349 1 350 := Or.inl ⟨1, by decide +kernel, rfl, rfl⟩
theorem i_L_law_350 : Dal m_L_law 350 0 351 := Or.inl ⟨0, by decide +kernel, rfl, rfl⟩
theorem i_L_law_351 : Dil m_L_law 351 3 352 := Or.inl ⟨3, by decide +kernel, rfl, rfl⟩
theorem i_L_law_352 : Dc m_L_law 352 1 353 := Or.inl ⟨1, by decide +kernel, by decide, rfl⟩
theorem i_L_law_353 : D1 m_L_law 353 (.iadd) 1 354 := ⟨by decide +kernel, rfl⟩
theorem i_L_law_354 : D1 m_L_law 354 (.iaload) 1 355 := ⟨by decide +kernel, rfl⟩
theorem i_L_law_355 : DV m_L_law 355 m_X10_tear 358 := ⟨27, by decide +kernel, w_2_147, rfl⟩
theorem i_L_law_358 : Dal m_L_law 358 2 359 := Or.inl ⟨2, by decide +kernel, rfl, rfl⟩
theorem i_L_law_359 : Dal m_L_law 359 0 360 := Or.inl ⟨0, by decide +kernel, rfl, rfl⟩
theorem i_L_law_360 : Dil m_L_law 360 3 361 := Or.inl ⟨3, by decide +kernel, rfl, rfl⟩
theorem i_L_law_361 : Dc m_L_law 361 1 362 := Or.inl ⟨1, by decide +kernel, by decide, rfl⟩
theorem i_L_law_362 : D1 m_L_law 362 (.iadd) 1 363 := ⟨by decide +kernel, rfl⟩
theorem i_L_law_363 : D1 m_L_law 363 (.iaload) 1 364 := ⟨by decide +kernel, rfl⟩
theorem i_L_law_364 : DV m_L_law 364 m_X11_tear 367 := ⟨31, by decide +kernel, w_5_174, rfl⟩
theorem i_L_law_367 : D2 m_L_law 367 (.if_icmp .eq 1160) 1160 370 1527 := ⟨by decide +kernel, rfl, by decide⟩
theorem i_L_law_370 : Dc m_L_law 370 0 371 := Or.inl ⟨0, by decide +kernel, by decide, rfl⟩
theorem i_L_law_371 : D1 m_L_law 371 (.ireturn) 1 372 := ⟨by decide +kernel, rfl⟩
theorem i_L_law_372 : Dal m_L_law 372 1 373 := Or.inl ⟨1, by decide +kernel, rfl, rfl⟩
theorem i_L_law_373 : Dal m_L_law 373 0 374 := Or.inl ⟨0, by decide +kernel, rfl, rfl⟩
theorem i_L_law_374 : Dil m_L_law 374 3 375 := Or.inl ⟨3, by decide +kernel, rfl, rfl⟩
theorem i_L_law_375 : Dc m_L_law 375 1 376 := Or.inl ⟨1, by decide +kernel, by decide, rfl⟩
theorem i_L_law_376 : D1 m_L_law 376 (.iadd) 1 377 := ⟨by decide +kernel, rfl⟩
theorem i_L_law_377 : D1 m_L_law 377 (.iaload) 1 378 := ⟨by decide +kernel, rfl⟩
theorem i_L_law_378 : Dal m_L_law 378 0 379 := Or.inl ⟨0, by decide +kernel, rfl, rfl⟩
theorem i_L_law_379 : Dil m_L_law 379 3 380 := Or.inl ⟨3, by decide +kernel, rfl, rfl⟩
theorem i_L_law_380 : Dc m_L_law 380 2 381 := Or.inl ⟨2, by decide +kernel, by decide, rfl⟩
theorem i_L_law_381 : D1 m_L_law 381 (.iadd) 1 382 := ⟨by decide +kernel, rfl⟩
theorem i_L_law_382 : D1 m_L_law 382 (.iaload) 1 383 := ⟨by decide +kernel, rfl⟩
theorem i_L_law_383 : Dal m_L_law 383 0 384 := Or.inl ⟨0, by decide +kernel, rfl, rfl⟩
theorem i_L_law_384 : Dil m_L_law 384 3 385 := Or.inl ⟨3, by decide +kernel, rfl, rfl⟩
theorem i_L_law_385 : Dc m_L_law 385 3 386 := Or.inl ⟨3, by decide +kernel, by decide, rfl⟩
theorem i_L_law_386 : D1 m_L_law 386 (.iadd) 1 387 := ⟨by decide +kernel, rfl⟩
theorem i_L_law_387 : D1 m_L_law 387 (.iaload) 1 388 := ⟨by decide +kernel, rfl⟩
theorem i_L_law_388 : Dal m_L_law 388 0 389 := Or.inl ⟨0, by decide +kernel, rfl, rfl⟩
theorem i_L_law_389 : Dil m_L_law 389 3 390 := Or.inl ⟨3, by decide +kernel, rfl, rfl⟩
theorem i_L_law_390 : Dc m_L_law 390 4 391 := Or.inl ⟨4, by decide +kernel, by decide, rfl⟩
theorem i_L_law_391 : D1 m_L_law 391 (.iadd) 1 392 := ⟨by decide +kernel, rfl⟩
theorem i_L_law_392 : D1 m_L_law 392 (.iaload) 1 393 := ⟨by decide +kernel, rfl⟩
theorem i_L_law_393 : Dal m_L_law 393 0 394 := Or.inl ⟨0, by decide +kernel, rfl, rfl⟩
theorem i_L_law_394 : Dil m_L_law 394 3 395 := Or.inl ⟨3, by decide +kernel, rfl, rfl⟩
theorem i_L_law_395 : Dc m_L_law 395 5 396 := Or.inl ⟨5, by decide +kernel, by decide, rfl⟩
theorem i_L_law_396 : D1 m_L_law 396 (.iadd) 1 397 := ⟨by decide +kernel, rfl⟩
theorem i_L_law_397 : D1 m_L_law 397 (.iaload) 1 398 := ⟨by decide +kernel, rfl⟩
theorem i_L_law_398 : DV m_L_law 398 m_X10_copy 401 := ⟨32, by decide +kernel, w_2_155, rfl⟩
theorem i_L_law_401 : Dal m_L_law 401 2 402 := Or.inl ⟨2, by decide +kernel, rfl, rfl⟩
theorem i_L_law_402 : Dal m_L_law 402 0 403 := Or.inl ⟨0, by decide +kernel, rfl, rfl⟩
theorem i_L_law_403 : Dil m_L_law 403 3 404 := Or.inl ⟨3, by decide +kernel, rfl, rfl⟩
theorem i_L_law_404 : Dc m_L_law 404 1 405 := Or.inl ⟨1, by decide +kernel, by decide, rfl⟩
theorem i_L_law_405 : D1 m_L_law 405 (.iadd) 1 406 := ⟨by decide +kernel, rfl⟩
theorem i_L_law_406 : D1 m_L_law 406 (.iaload) 1 407 := ⟨by decide +kernel, rfl⟩
theorem i_L_law_407 : Dal m_L_law 407 0 408 := Or.inl ⟨0, by decide +kernel, rfl, rfl⟩
theorem i_L_law_408 : Dil m_L_law 408 3 409 := Or.inl ⟨3, by decide +kernel, rfl, rfl⟩
theorem i_L_law_409 : Dc m_L_law 409 2 410 := Or.inl ⟨2, by decide +kernel, by decide, rfl⟩
theorem i_L_law_410 : D1 m_L_law 410 (.iadd) 1 411 := ⟨by decide +kernel, rfl⟩
theorem i_L_law_411 : D1 m_L_law 411 (.iaload) 1 412 := ⟨by decide +kernel, rfl⟩
theorem i_L_law_412 : Dal m_L_law 412 0 413 := Or.inl ⟨0, by decide +kernel, rfl, rfl⟩
theorem i_L_law_413 : Dil m_L_law 413 3 414 := Or.inl ⟨3, by decide +kernel, rfl, rfl⟩
theorem i_L_law_414 : Dc m_L_law 414 3 415 := Or.inl ⟨3, by decide +kernel, by decide, rfl⟩
theorem i_L_law_415 : D1 m_L_law 415 (.iadd) 1 416 := ⟨by decide +kernel, rfl⟩
theorem i_L_law_416 : D1 m_L_law 416 (.iaload) 1 417 := ⟨by decide +kernel, rfl⟩
theorem i_L_law_417 : Dal m_L_law 417 0 418 := Or.inl ⟨0, by decide +kernel, rfl, rfl⟩
theorem i_L_law_418 : Dil m_L_law 418 3 419 := Or.inl ⟨3, by decide +kernel, rfl, rfl⟩
theorem i_L_law_419 : Dc m_L_law 419 4 420 := Or.inl ⟨4, by decide +kernel, by decide, rfl⟩
theorem i_L_law_420 : D1 m_L_law 420 (.iadd) 1 421 := ⟨by decide +kernel, rfl⟩
theorem i_L_law_421 : D1 m_L_law 421 (.iaload) 1 422 := ⟨by decide +kernel, rfl⟩
theorem i_L_law_422 : Dal m_L_law 422 0 423 := Or.inl ⟨0, by decide +kernel, rfl, rfl⟩
theorem i_L_law_423 : Dil m_L_law 423 3 424 := Or.inl ⟨3, by decide +kernel, rfl, rfl⟩
theorem i_L_law_424 : Dc m_L_law 424 5 425 := Or.inl ⟨5, by decide +kernel, by decide, rfl⟩
theorem i_L_law_425 : D1 m_L_law 425 (.iadd) 1 426 := ⟨by decide +kernel, rfl⟩
theorem i_L_law_426 : D1 m_L_law 426 (.iaload) 1 427 := ⟨by decide +kernel, rfl⟩
theorem i_L_law_427 : DV m_L_law 427 m_X11_copy 430 := ⟨36, by decide +kernel, w_5_178, rfl⟩
theorem i_L_law_430 : D2 m_L_law 430 (.if_icmp .eq 1097) 1097 433 1527 := ⟨by decide +kernel, rfl, by decide⟩
theorem i_L_law_433 : Dc m_L_law 433 0 434 := Or.inl ⟨0, by decide +kernel, by decide, rfl⟩
theorem i_L_law_434 : D1 m_L_law 434 (.ireturn) 1 435 := ⟨by decide +kernel, rfl⟩
theorem i_L_law_435 : Dal m_L_law 435 1 436 := Or.inl ⟨1, by decide +kernel, rfl, rfl⟩
theorem i_L_law_436 : Dal m_L_law 436 0 437 := Or.inl ⟨0, by decide +kernel, rfl, rfl⟩
theorem i_L_law_437 : Dil m_L_law 437 3 438 := Or.inl ⟨3, by decide +kernel, rfl, rfl⟩
theorem i_L_law_438 : Dc m_L_law 438 1 439 := Or.inl ⟨1, by decide +kernel, by decide, rfl⟩
theorem i_L_law_439 : D1 m_L_law 439 (.iadd) 1 440 := ⟨by decide +kernel, rfl⟩
theorem i_L_law_440 : D1 m_L_law 440 (.iaload) 1 441 := ⟨by decide +kernel, rfl⟩
theorem i_L_law_441 : DV m_L_law 441 m_X10_mean 444 := ⟨37, by decide +kernel, w_2_171, rfl⟩
theorem i_L_law_444 : Dal m_L_law 444 2 445 := Or.inl ⟨2, by decide +kernel, rfl, rfl⟩
theorem i_L_law_445 : Dal m_L_law 445 0 446 := Or.inl ⟨0, by decide +kernel, rfl, rfl⟩
theorem i_L_law_446 : Dil m_L_law 446 3 447 := Or.inl ⟨3, by decide +kernel, rfl, rfl⟩
theorem i_L_law_447 : Dc m_L_law 447 1 448 := Or.inl ⟨1, by decide +kernel, by decide, rfl⟩
theorem i_L_law_448 : D1 m_L_law 448 (.iadd) 1 449 := ⟨by decide +kernel, rfl⟩
theorem i_L_law_449 : D1 m_L_law 449 (.iaload) 1 450 := ⟨by decide +kernel, rfl⟩
theorem i_L_law_450 : DV m_L_law 450 m_X11_mean 453 := ⟨40, by decide +kernel, w_5_186, rfl⟩
theorem i_L_law_453 : D2 m_L_law 453 (.if_icmp .eq 1074) 1074 456 1527 := ⟨by decide +kernel, rfl, by decide⟩
theorem i_L_law_456 : Dc m_L_law 456 0 457 := Or.inl ⟨0, by decide +kernel, by decide, rfl⟩
theorem i_L_law_457 : D1 m_L_law 457 (.ireturn) 1 458 := ⟨by decide +kernel, rfl⟩
theorem i_L_law_458 : Dal m_L_law 458 1 459 := Or.inl ⟨1, by decide +kernel, rfl, rfl⟩
theorem i_L_law_459 : Dal m_L_law 459 0 460 := Or.inl ⟨0, by decide +kernel, rfl, rfl⟩
theorem i_L_law_460 : Dil m_L_law 460 3 461 := Or.inl ⟨3, by decide +kernel, rfl, rfl⟩
theorem i_L_law_461 : Dc m_L_law 461 1 462 := Or.inl ⟨1, by decide +kernel, by decide, rfl⟩
theorem i_L_law_462 : D1 m_L_law 462 (.iadd) 1 463 := ⟨by decide +kernel, rfl⟩
theorem i_L_law_463 : D1 m_L_law 463 (.iaload) 1 464 := ⟨by decide +kernel, rfl⟩
theorem i_L_law_464 : Dal m_L_law 464 0 465 := Or.inl ⟨0, by decide +kernel, rfl, rfl⟩
theorem i_L_law_465 : Dil m_L_law 465 3 466 := Or.inl ⟨3, by decide +kernel, rfl, rfl⟩
theorem i_L_law_466 : Dc m_L_law 466 2 467 := Or.inl ⟨2, by decide +kernel, by decide, rfl⟩
theorem i_L_law_467 : D1 m_L_law 467 (.iadd) 1 468 := ⟨by decide +kernel, rfl⟩
theorem i_L_law_468 : D1 m_L_law 468 (.iaload) 1 469 := ⟨by decide +kernel, rfl⟩
theorem i_L_law_469 : DV m_L_law 469 m_X10_text 472 := ⟨41, by decide +kernel, w_2_184, rfl⟩
theorem i_L_law_472 : Dal m_L_law 472 2 473 := Or.inl ⟨2, by decide +kernel, rfl, rfl⟩
theorem i_L_law_473 : Dal m_L_law 473 0 474 := Or.inl ⟨0, by decide +kernel, rfl, rfl⟩
theorem i_L_law_474 : Dil m_L_law 474 3 475 := Or.inl ⟨3, by decide +kernel, rfl, rfl⟩
theorem i_L_law_475 : Dc m_L_law 475 1 476 := Or.inl ⟨1, by decide +kernel, by decide, rfl⟩
theorem i_L_law_476 : D1 m_L_law 476 (.iadd) 1 477 := ⟨by decide +kernel, rfl⟩
theorem i_L_law_477 : D1 m_L_law 477 (.iaload) 1 478 := ⟨by decide +kernel, rfl⟩
theorem i_L_law_478 : Dal m_L_law 478 0 479 := Or.inl ⟨0, by decide +kernel, rfl, rfl⟩
theorem i_L_law_479 : Dil m_L_law 479 3 480 := Or.inl ⟨3, by decide +kernel, rfl, rfl⟩
theorem i_L_law_480 : Dc m_L_law 480 2 481 := Or.inl ⟨2, by decide +kernel, by decide, rfl⟩
theorem i_L_law_481 : D1 m_L_law 481 (.iadd) 1 482 := ⟨by decide +kernel, rfl⟩
theorem i_L_law_482 : D1 m_L_law 482 (.iaload) 1 483 := ⟨by decide +kernel, rfl⟩
theorem i_L_law_483 : DV m_L_law 483 m_X11_text 486 := ⟨44, by decide +kernel, w_5_190, rfl⟩
theorem i_L_law_486 : D2 m_L_law 486 (.if_icmp .eq 1041) 1041 489 1527 := ⟨by decide +kernel, rfl, by decide⟩
theorem i_L_law_489 : Dc m_L_law 489 0 490 := Or.inl ⟨0, by decide +kernel, by decide, rfl⟩
theorem i_L_law_490 : D1 m_L_law 490 (.ireturn) 1 491 := ⟨by decide +kernel, rfl⟩
theorem i_L_law_491 : Dal m_L_law 491 1 492 := Or.inl ⟨1, by decide +kernel, rfl, rfl⟩
theorem i_L_law_492 : Dal m_L_law 492 0 493 := Or.inl ⟨0, by decide +kernel, rfl, rfl⟩
theorem i_L_law_493 : Dil m_L_law 493 3 494 := Or.inl ⟨3, by decide +kernel, rfl, rfl⟩
theorem i_L_law_494 : Dc m_L_law 494 1 495 := Or.inl ⟨1, by decide +kernel, by decide, rfl⟩
theorem i_L_law_495 : D1 m_L_law 495 (.iadd) 1 496 := ⟨by decide +kernel, rfl⟩
theorem i_L_law_496 : D1 m_L_law 496 (.iaload) 1 497 := ⟨by decide +kernel, rfl⟩
theorem i_L_law_497 : Dal m_L_law 497 0 498 := Or.inl ⟨0, by decide +kernel, rfl, rfl⟩
theorem i_L_law_498 : Dil m_L_law 498 3 499 := Or.inl ⟨3, by decide +kernel, rfl, rfl⟩
theorem i_L_law_499 : Dc m_L_law 499 2 500 := Or.inl ⟨2, by decide +kernel, by decide, rfl⟩
theorem i_L_law_500 : D1 m_L_law 500 (.iadd) 1 501 := ⟨by decide +kernel, rfl⟩
theorem i_L_law_501 : D1 m_L_law 501 (.iaload) 1 502 := ⟨by decide +kernel, rfl⟩
theorem i_L_law_502 : Dal m_L_law 502 0 503 := Or.inl ⟨0, by decide +kernel, rfl, rfl⟩
theorem i_L_law_503 : Dil m_L_law 503 3 504 := Or.inl ⟨3, by decide +kernel, rfl, rfl⟩
theorem i_L_law_504 : Dc m_L_law 504 3 505 := Or.inl ⟨3, by decide +kernel, by decide, rfl⟩
theorem i_L_law_505 : D1 m_L_law 505 (.iadd) 1 506 := ⟨by decide +kernel, rfl⟩
theorem i_L_law_506 : D1 m_L_law 506 (.iaload) 1 507 := ⟨by decide +kernel, rfl⟩
theorem i_L_law_507 : DV m_L_law 507 m_X10_put 510 := ⟨45, by decide +kernel, w_2_188, rfl⟩
theorem i_L_law_510 : Dal m_L_law 510 2 511 := Or.inl ⟨2, by decide +kernel, rfl, rfl⟩
theorem i_L_law_511 : Dal m_L_law 511 0 512 := Or.inl ⟨0, by decide +kernel, rfl, rfl⟩
theorem i_L_law_512 : Dil m_L_law 512 3 513 := Or.inl ⟨3, by decide +kernel, rfl, rfl⟩
theorem i_L_law_513 : Dc m_L_law 513 1 514 := Or.inl ⟨1, by decide +kernel, by decide, rfl⟩
theorem i_L_law_514 : D1 m_L_law 514 (.iadd) 1 515 := ⟨by decide +kernel, rfl⟩
theorem i_L_law_515 : D1 m_L_law 515 (.iaload) 1 516 := ⟨by decide +kernel, rfl⟩
theorem i_L_law_516 : Dal m_L_law 516 0 517 := Or.inl ⟨0, by decide +kernel, rfl, rfl⟩
theorem i_L_law_517 : Dil m_L_law 517 3 518 := Or.inl ⟨3, by decide +kernel, rfl, rfl⟩
theorem i_L_law_518 : Dc m_L_law 518 2 519 := Or.inl ⟨2, by decide +kernel, by decide, rfl⟩
theorem i_L_law_519 : D1 m_L_law 519 (.iadd) 1 520 := ⟨by decide +kernel, rfl⟩
theorem i_L_law_520 : D1 m_L_law 520 (.iaload) 1 521 := ⟨by decide +kernel, rfl⟩
theorem i_L_law_521 : Dal m_L_law 521 0 522 := Or.inl ⟨0, by decide +kernel, rfl, rfl⟩
theorem i_L_law_522 : Dil m_L_law 522 3 523 := Or.inl ⟨3, by decide +kernel, rfl, rfl⟩
theorem i_L_law_523 : Dc m_L_law 523 3 524 := Or.inl ⟨3, by decide +kernel, by decide, rfl⟩
theorem i_L_law_524 : D1 m_L_law 524 (.iadd) 1 525 := ⟨by decide +kernel, rfl⟩
theorem i_L_law_525 : D1 m_L_law 525 (.iaload) 1 526 := ⟨by decide +kernel, rfl⟩
theorem i_L_law_526 : DV m_L_law 526 m_X11_put 529 := ⟨48, by decide +kernel, w_5_198, rfl⟩
theorem i_L_law_529 : D2 m_L_law 529 (.if_icmp .eq 998) 998 532 1527 := ⟨by decide +kernel, rfl, by decide⟩
theorem i_L_law_532 : Dc m_L_law 532 0 533 := Or.inl ⟨0, by decide +kernel, by decide, rfl⟩
theorem i_L_law_533 : D1 m_L_law 533 (.ireturn) 1 534 := ⟨by decide +kernel, rfl⟩
theorem i_L_law_534 : Dal m_L_law 534 1 535 := Or.inl ⟨1, by decide +kernel, rfl, rfl⟩
theorem i_L_law_535 : Dal m_L_law 535 0 536 := Or.inl ⟨0, by decide +kernel, rfl, rfl⟩
theorem i_L_law_536 : Dil m_L_law 536 3 537 := Or.inl ⟨3, by decide +kernel, rfl, rfl⟩
theorem i_L_law_537 : Dc m_L_law 537 1 538 := Or.inl ⟨1, by decide +kernel, by decide, rfl⟩
theorem i_L_law_538 : D1 m_L_law 538 (.iadd) 1 539 := ⟨by decide +kernel, rfl⟩
theorem i_L_law_539 : D1 m_L_law 539 (.iaload) 1 540 := ⟨by decide +kernel, rfl⟩
theorem i_L_law_540 : DV m_L_law 540 m_X10_fault 543 := ⟨49, by decide +kernel, w_2_192, rfl⟩
theorem i_L_law_543 : Dal m_L_law 543 2 544 := Or.inl ⟨2, by decide +kernel, rfl, rfl⟩
theorem i_L_law_544 : Dal m_L_law 544 0 545 := Or.inl ⟨0, by decide +kernel, rfl, rfl⟩
theorem i_L_law_545 : Dil m_L_law 545 3 546 := Or.inl ⟨3, by decide +kernel, rfl, rfl⟩
theorem i_L_law_546 : Dc m_L_law 546 1 547 := Or.inl ⟨1, by decide +kernel, by decide, rfl⟩
theorem i_L_law_547 : D1 m_L_law 547 (.iadd) 1 548 := ⟨by decide +kernel, rfl⟩
theorem i_L_law_548 : D1 m_L_law 548 (.iaload) 1 549 := ⟨by decide +kernel, rfl⟩
theorem i_L_law_549 : DV m_L_law 549 m_X11_fault 552 := ⟨52, by decide +kernel, w_5_202, rfl⟩
theorem i_L_law_552 : D2 m_L_law 552 (.if_icmp .eq 975) 975 555 1527 := ⟨by decide +kernel, rfl, by decide⟩
theorem i_L_law_555 : Dc m_L_law 555 0 556 := Or.inl ⟨0, by decide +kernel, by decide, rfl⟩
theorem i_L_law_556 : D1 m_L_law 556 (.ireturn) 1 557 := ⟨by decide +kernel, rfl⟩
theorem i_L_law_557 : Dal m_L_law 557 1 558 := Or.inl ⟨1, by decide +kernel, rfl, rfl⟩
theorem i_L_law_558 : Dal m_L_law 558 0 559 := Or.inl ⟨0, by decide +kernel, rfl, rfl⟩
theorem i_L_law_559 : Dil m_L_law 559 3 560 := Or.inl ⟨3, by decide +kernel, rfl, rfl⟩
theorem i_L_law_560 : Dc m_L_law 560 1 561 := Or.inl ⟨1, by decide +kernel, by decide, rfl⟩
theorem i_L_law_561 : D1 m_L_law 561 (.iadd) 1 562 := ⟨by decide +kernel, rfl⟩
theorem i_L_law_562 : D1 m_L_law 562 (.iaload) 1 563 := ⟨by decide +kernel, rfl⟩
theorem i_L_law_563 : DV m_L_law 563 m_X10_table 566 := ⟨53, by decide +kernel, w_2_222, rfl⟩
theorem i_L_law_566 : Dal m_L_law 566 2 567 := Or.inl ⟨2, by decide +kernel, rfl, rfl⟩
theorem i_L_law_567 : Dal m_L_law 567 0 568 := Or.inl ⟨0, by decide +kernel, rfl, rfl⟩
theorem i_L_law_568 : Dil m_L_law 568 3 569 := Or.inl ⟨3, by decide +kernel, rfl, rfl⟩
theorem i_L_law_569 : Dc m_L_law 569 1 570 := Or.inl ⟨1, by decide +kernel, by decide, rfl⟩
theorem i_L_law_570 : D1 m_L_law 570 (.iadd) 1 571 := ⟨by decide +kernel, rfl⟩
theorem i_L_law_571 : D1 m_L_law 571 (.iaload) 1 572 := ⟨by decide +kernel, rfl⟩
theorem i_L_law_572 : DV m_L_law 572 m_X11_table 575 := ⟨56, by decide +kernel, w_5_232, rfl⟩
theorem i_L_law_575 : D2 m_L_law 575 (.if_icmp .eq 952) 952 578 1527 := ⟨by decide +kernel, rfl, by decide⟩
theorem i_L_law_578 : Dc m_L_law 578 0 579 := Or.inl ⟨0, by decide +kernel, by decide, rfl⟩
theorem i_L_law_579 : D1 m_L_law 579 (.ireturn) 1 580 := ⟨by decide +kernel, rfl⟩
theorem i_L_law_580 : Dal m_L_law 580 1 581 := Or.inl ⟨1, by decide +kernel, rfl, rfl⟩
theorem i_L_law_581 : Dal m_L_law 581 0 582 := Or.inl ⟨0, by decide +kernel, rfl, rfl⟩
theorem i_L_law_582 : Dil m_L_law 582 3 583 := Or.inl ⟨3, by decide +kernel, rfl, rfl⟩
theorem i_L_law_583 : Dc m_L_law 583 1 584 := Or.inl ⟨1, by decide +kernel, by decide, rfl⟩
theorem i_L_law_584 : D1 m_L_law 584 (.iadd) 1 585 := ⟨by decide +kernel, rfl⟩
theorem i_L_law_585 : D1 m_L_law 585 (.iaload) 1 586 := ⟨by decide +kernel, rfl⟩
theorem i_L_law_586 : Dal m_L_law 586 0 587 := Or.inl ⟨0, by decide +kernel, rfl, rfl⟩
theorem i_L_law_587 : Dil m_L_law 587 3 588 := Or.inl ⟨3, by decide +kernel, rfl, rfl⟩
theorem i_L_law_588 : Dc m_L_law 588 2 589 := Or.inl ⟨2, by decide +kernel, by decide, rfl⟩
theorem i_L_law_589 : D1 m_L_law 589 (.iadd) 1 590 := ⟨by decide +kernel, rfl⟩
theorem i_L_law_590 : D1 m_L_law 590 (.iaload) 1 591 := ⟨by decide +kernel, rfl⟩
theorem i_L_law_591 : DV m_L_law 591 m_X10_eater 594 := ⟨57, by decide +kernel, w_3_1, rfl⟩
theorem i_L_law_594 : Dal m_L_law 594 2 595 := Or.inl ⟨2, by decide +kernel, rfl, rfl⟩
theorem i_L_law_595 : Dal m_L_law 595 0 596 := Or.inl ⟨0, by decide +kernel, rfl, rfl⟩
theorem i_L_law_596 : Dil m_L_law 596 3 597 := Or.inl ⟨3, by decide +kernel, rfl, rfl⟩
theorem i_L_law_597 : Dc m_L_law 597 1 598 := Or.inl ⟨1, by decide +kernel, by decide, rfl⟩
theorem i_L_law_598 : D1 m_L_law 598 (.iadd) 1 599 := ⟨by decide +kernel, rfl⟩
theorem i_L_law_599 : D1 m_L_law 599 (.iaload) 1 600 := ⟨by decide +kernel, rfl⟩
theorem i_L_law_600 : Dal m_L_law 600 0 601 := Or.inl ⟨0, by decide +kernel, rfl, rfl⟩
theorem i_L_law_601 : Dil m_L_law 601 3 602 := Or.inl ⟨3, by decide +kernel, rfl, rfl⟩
theorem i_L_law_602 : Dc m_L_law 602 2 603 := Or.inl ⟨2, by decide +kernel, by decide, rfl⟩
theorem i_L_law_603 : D1 m_L_law 603 (.iadd) 1 604 := ⟨by decide +kernel, rfl⟩
theorem i_L_law_604 : D1 m_L_law 604 (.iaload) 1 605 := ⟨by decide +kernel, rfl⟩
theorem i_L_law_605 : DV m_L_law 605 m_X11_eater 608 := ⟨60, by decide +kernel, w_6_0, rfl⟩
theorem i_L_law_608 : D2 m_L_law 608 (.if_icmp .eq 919) 919 611 1527 := ⟨by decide +kernel, rfl, by decide⟩
theorem i_L_law_611 : Dc m_L_law 611 0 612 := Or.inl ⟨0, by decide +kernel, by decide, rfl⟩
theorem i_L_law_612 : D1 m_L_law 612 (.ireturn) 1 613 := ⟨by decide +kernel, rfl⟩
theorem i_L_law_613 : Dal m_L_law 613 1 614 := Or.inl ⟨1, by decide +kernel, rfl, rfl⟩
theorem i_L_law_614 : Dal m_L_law 614 0 615 := Or.inl ⟨0, by decide +kernel, rfl, rfl⟩
theorem i_L_law_615 : Dil m_L_law 615 3 616 := Or.inl ⟨3, by decide +kernel, rfl, rfl⟩
theorem i_L_law_616 : Dc m_L_law 616 1 617 := Or.inl ⟨1, by decide +kernel, by decide, rfl⟩
theorem i_L_law_617 : D1 m_L_law 617 (.iadd) 1 618 := ⟨by decide +kernel, rfl⟩
theorem i_L_law_618 : D1 m_L_law 618 (.iaload) 1 619 := ⟨by decide +kernel, rfl⟩
theorem i_L_law_619 : Dal m_L_law 619 0 620 := Or.inl ⟨0, by decide +kernel, rfl, rfl⟩
theorem i_L_law_620 : Dil m_L_law 620 3 621 := Or.inl ⟨3, by decide +kernel, rfl, rfl⟩
theorem i_L_law_621 : Dc m_L_law 621 2 622 := Or.inl ⟨2, by decide +kernel, by decide, rfl⟩
theorem i_L_law_622 : D1 m_L_law 622 (.iadd) 1 623 := ⟨by decide +kernel, rfl⟩
theorem i_L_law_623 : D1 m_L_law 623 (.iaload) 1 624 := ⟨by decide +kernel, rfl⟩
theorem i_L_law_624 : DV m_L_law 624 m_X10_mark 627 := ⟨61, by decide +kernel, w_3_17, rfl⟩
theorem i_L_law_627 : Dal m_L_law 627 2 628 := Or.inl ⟨2, by decide +kernel, rfl, rfl⟩
theorem i_L_law_628 : Dal m_L_law 628 0 629 := Or.inl ⟨0, by decide +kernel, rfl, rfl⟩
theorem i_L_law_629 : Dil m_L_law 629 3 630 := Or.inl ⟨3, by decide +kernel, rfl, rfl⟩
theorem i_L_law_630 : Dc m_L_law 630 1 631 := Or.inl ⟨1, by decide +kernel, by decide, rfl⟩
theorem i_L_law_631 : D1 m_L_law 631 (.iadd) 1 632 := ⟨by decide +kernel, rfl⟩
theorem i_L_law_632 : D1 m_L_law 632 (.iaload) 1 633 := ⟨by decide +kernel, rfl⟩
theorem i_L_law_633 : Dal m_L_law 633 0 634 := Or.inl ⟨0, by decide +kernel, rfl, rfl⟩
theorem i_L_law_634 : Dil m_L_law 634 3 635 := Or.inl ⟨3, by decide +kernel, rfl, rfl⟩
theorem i_L_law_635 : Dc m_L_law 635 2 636 := Or.inl ⟨2, by decide +kernel, by decide, rfl⟩
theorem i_L_law_636 : D1 m_L_law 636 (.iadd) 1 637 := ⟨by decide +kernel, rfl⟩
theorem i_L_law_637 : D1 m_L_law 637 (.iaload) 1 638 := ⟨by decide +kernel, rfl⟩
theorem i_L_law_638 : DV m_L_law 638 m_X11_mark 641 := ⟨64, by decide +kernel, w_6_17, rfl⟩
theorem i_L_law_641 : D2 m_L_law 641 (.if_icmp .eq 886) 886 644 1527 := ⟨by decide +kernel, rfl, by decide⟩
theorem i_L_law_644 : Dc m_L_law 644 0 645 := Or.inl ⟨0, by decide +kernel, by decide, rfl⟩
theorem i_L_law_645 : D1 m_L_law 645 (.ireturn) 1 646 := ⟨by decide +kernel, rfl⟩
theorem i_L_law_646 : Dal m_L_law 646 1 647 := Or.inl ⟨1, by decide +kernel, rfl, rfl⟩
theorem i_L_law_647 : Dal m_L_law 647 0 648 := Or.inl ⟨0, by decide +kernel, rfl, rfl⟩
theorem i_L_law_648 : Dil m_L_law 648 3 649 := Or.inl ⟨3, by decide +kernel, rfl, rfl⟩
theorem i_L_law_649 : Dc m_L_law 649 1 650 := Or.inl ⟨1, by decide +kernel, by decide, rfl⟩
theorem i_L_law_650 : D1 m_L_law 650 (.iadd) 1 651 := ⟨by decide +kernel, rfl⟩
theorem i_L_law_651 : D1 m_L_law 651 (.iaload) 1 652 := ⟨by decide +kernel, rfl⟩
theorem i_L_law_652 : DV m_L_law 652 m_X10_law 655 := ⟨65, by decide +kernel, w_3_92, rfl⟩
theorem i_L_law_655 : Dal m_L_law 655 2 656 := Or.inl ⟨2, by decide +kernel, rfl, rfl⟩
theorem i_L_law_656 : Dal m_L_law 656 0 657 := Or.inl ⟨0, by decide +kernel, rfl, rfl⟩
theorem i_L_law_657 : Dil m_L_law 657 3 658 := Or.inl ⟨3, by decide +kernel, rfl, rfl⟩
theorem i_L_law_658 : Dc m_L_law 658 1 659 := Or.inl ⟨1, by decide +kernel, by decide, rfl⟩
theorem i_L_law_659 : D1 m_L_law 659 (.iadd) 1 660 := ⟨by decide +kernel, rfl⟩
theorem i_L_law_660 : D1 m_L_law 660 (.iaload) 1 661 := ⟨by decide +kernel, rfl⟩
theorem i_L_law_661 : DV m_L_law 661 m_X11_law 664 := ⟨68, by decide +kernel, w_6_74, rfl⟩
theorem i_L_law_664 : D2 m_L_law 664 (.if_icmp .eq 863) 863 667 1527 := ⟨by decide +kernel, rfl, by decide⟩
theorem i_L_law_667 : Dc m_L_law 667 0 668 := Or.inl ⟨0, by decide +kernel, by decide, rfl⟩
theorem i_L_law_668 : D1 m_L_law 668 (.ireturn) 1 669 := ⟨by decide +kernel, rfl⟩
theorem i_L_law_669 : Dal m_L_law 669 1 670 := Or.inl ⟨1, by decide +kernel, rfl, rfl⟩
theorem i_L_law_670 : Dal m_L_law 670 0 671 := Or.inl ⟨0, by decide +kernel, rfl, rfl⟩
theorem i_L_law_671 : Dil m_L_law 671 3 672 := Or.inl ⟨3, by decide +kernel, rfl, rfl⟩
theorem i_L_law_672 : Dc m_L_law 672 1 673 := Or.inl ⟨1, by decide +kernel, by decide, rfl⟩
theorem i_L_law_673 : D1 m_L_law 673 (.iadd) 1 674 := ⟨by decide +kernel, rfl⟩
theorem i_L_law_674 : D1 m_L_law 674 (.iaload) 1 675 := ⟨by decide +kernel, rfl⟩
theorem i_L_law_675 : DV m_L_law 675 m_X10_pot 678 := ⟨69, by decide +kernel, w_3_96, rfl⟩
theorem i_L_law_678 : Dal m_L_law 678 2 679 := Or.inl ⟨2, by decide +kernel, rfl, rfl⟩
theorem i_L_law_679 : Dal m_L_law 679 0 680 := Or.inl ⟨0, by decide +kernel, rfl, rfl⟩
theorem i_L_law_680 : Dil m_L_law 680 3 681 := Or.inl ⟨3, by decide +kernel, rfl, rfl⟩
theorem i_L_law_681 : Dc m_L_law 681 1 682 := Or.inl ⟨1, by decide +kernel, by decide, rfl⟩
theorem i_L_law_682 : D1 m_L_law 682 (.iadd) 1 683 := ⟨by decide +kernel, rfl⟩
theorem i_L_law_683 : D1 m_L_law 683 (.iaload) 1 684 := ⟨by decide +kernel, rfl⟩
theorem i_L_law_684 : DV m_L_law 684 m_X11_pot 687 := ⟨72, by decide +kernel, w_6_78, rfl⟩
theorem i_L_law_687 : D2 m_L_law 687 (.if_icmp .eq 840) 840 690 1527 := ⟨by decide +kernel, rfl, by decide⟩
theorem i_L_law_690 : Dc m_L_law 690 0 691 := Or.inl ⟨0, by decide +kernel, by decide, rfl⟩
theorem i_L_law_691 : D1 m_L_law 691 (.ireturn) 1 692 := ⟨by decide +kernel, rfl⟩
theorem i_L_law_692 : Dal m_L_law 692 1 693 := Or.inl ⟨1, by decide +kernel, rfl, rfl⟩
theorem i_L_law_693 : Dal m_L_law 693 0 694 := Or.inl ⟨0, by decide +kernel, rfl, rfl⟩
theorem i_L_law_694 : Dil m_L_law 694 3 695 := Or.inl ⟨3, by decide +kernel, rfl, rfl⟩
theorem i_L_law_695 : Dc m_L_law 695 1 696 := Or.inl ⟨1, by decide +kernel, by decide, rfl⟩
theorem i_L_law_696 : D1 m_L_law 696 (.iadd) 1 697 := ⟨by decide +kernel, rfl⟩
theorem i_L_law_697 : D1 m_L_law 697 (.iaload) 1 698 := ⟨by decide +kernel, rfl⟩
theorem i_L_law_698 : Dal m_L_law 698 0 699 := Or.inl ⟨0, by decide +kernel, rfl, rfl⟩
theorem i_L_law_699 : Dil m_L_law 699 3 700 := Or.inl ⟨3, by decide +kernel, rfl, rfl⟩
theorem i_L_law_700 : Dc m_L_law 700 2 701 := Or.inl ⟨2, by decide +kernel, by decide, rfl⟩
theorem i_L_law_701 : D1 m_L_law 701 (.iadd) 1 702 := ⟨by decide +kernel, rfl⟩
theorem i_L_law_702 : D1 m_L_law 702 (.iaload) 1 703 := ⟨by decide +kernel, rfl⟩
theorem i_L_law_703 : DV m_L_law 703 m_X10_need 706 := ⟨73, by decide +kernel, w_3_100, rfl⟩
theorem i_L_law_706 : Dal m_L_law 706 2 707 := Or.inl ⟨2, by decide +kernel, rfl, rfl⟩
theorem i_L_law_707 : Dal m_L_law 707 0 708 := Or.inl ⟨0, by decide +kernel, rfl, rfl⟩
theorem i_L_law_708 : Dil m_L_law 708 3 709 := Or.inl ⟨3, by decide +kernel, rfl, rfl⟩
theorem i_L_law_709 : Dc m_L_law 709 1 710 := Or.inl ⟨1, by decide +kernel, by decide, rfl⟩
theorem i_L_law_710 : D1 m_L_law 710 (.iadd) 1 711 := ⟨by decide +kernel, rfl⟩
theorem i_L_law_711 : D1 m_L_law 711 (.iaload) 1 712 := ⟨by decide +kernel, rfl⟩
theorem i_L_law_712 : Dal m_L_law 712 0 713 := Or.inl ⟨0, by decide +kernel, rfl, rfl⟩
theorem i_L_law_713 : Dil m_L_law 713 3 714 := Or.inl ⟨3, by decide +kernel, rfl, rfl⟩
theorem i_L_law_714 : Dc m_L_law 714 2 715 := Or.inl ⟨2, by decide +kernel, by decide, rfl⟩
theorem i_L_law_715 : D1 m_L_law 715 (.iadd) 1 716 := ⟨by decide +kernel, rfl⟩
theorem i_L_law_716 : D1 m_L_law 716 (.iaload) 1 717 := ⟨by decide +kernel, rfl⟩
theorem i_L_law_717 : DV m_L_law 717 m_X11_need 720 := ⟨76, by decide +kernel, w_6_83, rfl⟩
theorem i_L_law_720 : D2 m_L_law 720 (.if_icmp .eq 807) 807 723 1527 := ⟨by decide +kernel, rfl, by decide⟩
theorem i_L_law_723 : Dc m_L_law 723 0 724 := Or.inl ⟨0, by decide +kernel, by decide, rfl⟩
theorem i_L_law_724 : D1 m_L_law 724 (.ireturn) 1 725 := ⟨by decide +kernel, rfl⟩
theorem i_L_law_725 : Dal m_L_law 725 1 726 := Or.inl ⟨1, by decide +kernel, rfl, rfl⟩
theorem i_L_law_726 : Dal m_L_law 726 0 727 := Or.inl ⟨0, by decide +kernel, rfl, rfl⟩
theorem i_L_law_727 : Dil m_L_law 727 3 728 := Or.inl ⟨3, by decide +kernel, rfl, rfl⟩
theorem i_L_law_728 : Dc m_L_law 728 1 729 := Or.inl ⟨1, by decide +kernel, by decide, rfl⟩
theorem i_L_law_729 : D1 m_L_law 729 (.iadd) 1 730 := ⟨by decide +kernel, rfl⟩
theorem i_L_law_730 : D1 m_L_law 730 (.iaload) 1 731 := ⟨by decide +kernel, rfl⟩
theorem i_L_law_731 : DV m_L_law 731 m_X10_order 734 := ⟨77, by decide +kernel, w_3_104, rfl⟩
theorem i_L_law_734 : Dal m_L_law 734 2 735 := Or.inl ⟨2, by decide +kernel, rfl, rfl⟩
theorem i_L_law_735 : Dal m_L_law 735 0 736 := Or.inl ⟨0, by decide +kernel, rfl, rfl⟩
theorem i_L_law_736 : Dil m_L_law 736 3 737 := Or.inl ⟨3, by decide +kernel, rfl, rfl⟩
theorem i_L_law_737 : Dc m_L_law 737 1 738 := Or.inl ⟨1, by decide +kernel, by decide, rfl⟩
theorem i_L_law_738 : D1 m_L_law 738 (.iadd) 1 739 := ⟨by decide +kernel, rfl⟩
theorem i_L_law_739 : D1 m_L_law 739 (.iaload) 1 740 := ⟨by decide +kernel, rfl⟩
theorem i_L_law_740 : DV m_L_law 740 m_X11_order 743 := ⟨80, by decide +kernel, w_6_88, rfl⟩
theorem i_L_law_743 : D2 m_L_law 743 (.if_icmp .eq 784) 784 746 1527 := ⟨by decide +kernel, rfl, by decide⟩
theorem i_L_law_746 : Dc m_L_law 746 0 747 := Or.inl ⟨0, by decide +kernel, by decide, rfl⟩
theorem i_L_law_747 : D1 m_L_law 747 (.ireturn) 1 748 := ⟨by decide +kernel, rfl⟩
theorem i_L_law_748 : Dal m_L_law 748 1 749 := Or.inl ⟨1, by decide +kernel, rfl, rfl⟩
theorem i_L_law_749 : Dal m_L_law 749 0 750 := Or.inl ⟨0, by decide +kernel, rfl, rfl⟩
theorem i_L_law_750 : Dil m_L_law 750 3 751 := Or.inl ⟨3, by decide +kernel, rfl, rfl⟩
theorem i_L_law_751 : Dc m_L_law 751 1 752 := Or.inl ⟨1, by decide +kernel, by decide, rfl⟩
theorem i_L_law_752 : D1 m_L_law 752 (.iadd) 1 753 := ⟨by decide +kernel, rfl⟩
theorem i_L_law_753 : D1 m_L_law 753 (.iaload) 1 754 := ⟨by decide +kernel, rfl⟩
theorem i_L_law_754 : DV m_L_law 754 m_X10_begin 757 := ⟨81, by decide +kernel, w_3_114, rfl⟩
theorem i_L_law_757 : Dal m_L_law 757 2 758 := Or.inl ⟨2, by decide +kernel, rfl, rfl⟩
theorem i_L_law_758 : Dal m_L_law 758 0 759 := Or.inl ⟨0, by decide +kernel, rfl, rfl⟩
theorem i_L_law_759 : Dil m_L_law 759 3 760 := Or.inl ⟨3, by decide +kernel, rfl, rfl⟩
theorem i_L_law_760 : Dc m_L_law 760 1 761 := Or.inl ⟨1, by decide +kernel, by decide, rfl⟩
theorem i_L_law_761 : D1 m_L_law 761 (.iadd) 1 762 := ⟨by decide +kernel, rfl⟩
theorem i_L_law_762 : D1 m_L_law 762 (.iaload) 1 763 := ⟨by decide +kernel, rfl⟩
theorem i_L_law_763 : DV m_L_law 763 m_X11_begin 766 := ⟨84, by decide +kernel, w_6_92, rfl⟩
theorem i_L_law_766 : D2 m_L_law 766 (.if_icmp .eq 761) 761 769 1527 := ⟨by decide +kernel, rfl, by decide⟩
theorem i_L_law_769 : Dc m_L_law 769 0 770 := Or.inl ⟨0, by decide +kernel, by decide, rfl⟩
theorem i_L_law_770 : D1 m_L_law 770 (.ireturn) 1 771 := ⟨by decide +kernel, rfl⟩
theorem i_L_law_771 : Dal m_L_law 771 1 772 := Or.inl ⟨1, by decide +kernel, rfl, rfl⟩
theorem i_L_law_772 : DV m_L_law 772 m_X10_eat 775 := ⟨85, by decide +kernel, w_3_121, rfl⟩
theorem i_L_law_775 : Dal m_L_law 775 2 776 := Or.inl ⟨2, by decide +kernel, rfl, rfl⟩
theorem i_L_law_776 : DV m_L_law 776 m_X11_eat 779 := ⟨89, by decide +kernel, w_6_99, rfl⟩
theorem i_L_law_779 : D2 m_L_law 779 (.if_icmp .eq 748) 748 782 1527 := ⟨by decide +kernel, rfl, by decide⟩
theorem i_L_law_782 : Dc m_L_law 782 0 783 := Or.inl ⟨0, by decide +kernel, by decide, rfl⟩
theorem i_L_law_783 : D1 m_L_law 783 (.ireturn) 1 784 := ⟨by decide +kernel, rfl⟩
theorem i_L_law_784 : Dal m_L_law 784 1 785 := Or.inl ⟨1, by decide +kernel, rfl, rfl⟩
theorem i_L_law_785 : Dal m_L_law 785 0 786 := Or.inl ⟨0, by decide +kernel, rfl, rfl⟩
theorem i_L_law_786 : Dil m_L_law 786 3 787 := Or.inl ⟨3, by decide +kernel, rfl, rfl⟩
theorem i_L_law_787 : Dc m_L_law 787 1 788 := Or.inl ⟨1, by decide +kernel, by decide, rfl⟩
theorem i_L_law_788 : D1 m_L_law 788 (.iadd) 1 789 := ⟨by decide +kernel, rfl⟩
theorem i_L_law_789 : D1 m_L_law 789 (.iaload) 1 790 := ⟨by decide +kernel, rfl⟩
theorem i_L_law_790 : DV m_L_law 790 m_X10_took 793 := ⟨90, by decide +kernel, w_3_149, rfl⟩
theorem i_L_law_793 : Dal m_L_law 793 2 794 := Or.inl ⟨2, by decide +kernel, rfl, rfl⟩
theorem i_L_law_794 : Dal m_L_law 794 0 795 := Or.inl ⟨0, by decide +kernel, rfl, rfl⟩
theorem i_L_law_795 : Dil m_L_law 795 3 796 := Or.inl ⟨3, by decide +kernel, rfl, rfl⟩
theorem i_L_law_796 : Dc m_L_law 796 1 797 := Or.inl ⟨1, by decide +kernel, by decide, rfl⟩
theorem i_L_law_797 : D1 m_L_law 797 (.iadd) 1 798 := ⟨by decide +kernel, rfl⟩
theorem i_L_law_798 : D1 m_L_law 798 (.iaload) 1 799 := ⟨by decide +kernel, rfl⟩
theorem i_L_law_799 : DV m_L_law 799 m_X11_took 802 := ⟨93, by decide +kernel, w_6_107, rfl⟩
theorem i_L_law_802 : D2 m_L_law 802 (.if_icmp .eq 725) 725 805 1527 := ⟨by decide +kernel, rfl, by decide⟩
theorem i_L_law_805 : Dc m_L_law 805 0 806 := Or.inl ⟨0, by decide +kernel, by decide, rfl⟩
theorem i_L_law_806 : D1 m_L_law 806 (.ireturn) 1 807 := ⟨by decide +kernel, rfl⟩
theorem i_L_law_807 : Dal m_L_law 807 1 808 := Or.inl ⟨1, by decide +kernel, rfl, rfl⟩
theorem i_L_law_808 : DV m_L_law 808 m_X10_left 811 := ⟨94, by decide +kernel, w_3_154, rfl⟩
theorem i_L_law_811 : Dal m_L_law 811 2 812 := Or.inl ⟨2, by decide +kernel, rfl, rfl⟩
theorem i_L_law_812 : DV m_L_law 812 m_X11_left 815 := ⟨97, by decide +kernel, w_6_111, rfl⟩
theorem i_L_law_815 : D2 m_L_law 815 (.if_icmp .eq 712) 712 818 1527 := ⟨by decide +kernel, rfl, by decide⟩
theorem i_L_law_818 : Dc m_L_law 818 0 819 := Or.inl ⟨0, by decide +kernel, by decide, rfl⟩
theorem i_L_law_819 : D1 m_L_law 819 (.ireturn) 1 820 := ⟨by decide +kernel, rfl⟩
theorem i_L_law_820 : Dal m_L_law 820 1 821 := Or.inl ⟨1, by decide +kernel, rfl, rfl⟩
theorem i_L_law_821 : DV m_L_law 821 m_X10_fed 824 := ⟨98, by decide +kernel, w_3_158, rfl⟩
theorem i_L_law_824 : Dal m_L_law 824 2 825 := Or.inl ⟨2, by decide +kernel, rfl, rfl⟩
theorem i_L_law_825 : DV m_L_law 825 m_X11_fed 828 := ⟨101, by decide +kernel, w_6_115, rfl⟩
theorem i_L_law_828 : D2 m_L_law 828 (.if_icmp .eq 699) 699 831 1527 := ⟨by decide +kernel, rfl, by decide⟩
theorem i_L_law_831 : Dc m_L_law 831 0 832 := Or.inl ⟨0, by decide +kernel, by decide, rfl⟩
theorem i_L_law_832 : D1 m_L_law 832 (.ireturn) 1 833 := ⟨by decide +kernel, rfl⟩
theorem i_L_law_833 : Dal m_L_law 833 1 834 := Or.inl ⟨1, by decide +kernel, rfl, rfl⟩
theorem i_L_law_834 : Dal m_L_law 834 0 835 := Or.inl ⟨0, by decide +kernel, rfl, rfl⟩
theorem i_L_law_835 : Dil m_L_law 835 3 836 := Or.inl ⟨3, by decide +kernel, rfl, rfl⟩
theorem i_L_law_836 : Dc m_L_law 836 1 837 := Or.inl ⟨1, by decide +kernel, by decide, rfl⟩
theorem i_L_law_837 : D1 m_L_law 837 (.iadd) 1 838 := ⟨by decide +kernel, rfl⟩
theorem i_L_law_838 : D1 m_L_law 838 (.iaload) 1 839 := ⟨by decide +kernel, rfl⟩
theorem i_L_law_839 : DV m_L_law 839 m_X10_keep 842 := ⟨102, by decide +kernel, w_3_170, rfl⟩
theorem i_L_law_842 : Dal m_L_law 842 2 843 := Or.inl ⟨2, by decide +kernel, rfl, rfl⟩
theorem i_L_law_843 : Dal m_L_law 843 0 844 := Or.inl ⟨0, by decide +kernel, rfl, rfl⟩
theorem i_L_law_844 : Dil m_L_law 844 3 845 := Or.inl ⟨3, by decide +kernel, rfl, rfl⟩
theorem i_L_law_845 : Dc m_L_law 845 1 846 := Or.inl ⟨1, by decide +kernel, by decide, rfl⟩
theorem i_L_law_846 : D1 m_L_law 846 (.iadd) 1 847 := ⟨by decide +kernel, rfl⟩
theorem i_L_law_847 : D1 m_L_law 847 (.iaload) 1 848 := ⟨by decide +kernel, rfl⟩
theorem i_L_law_848 : DV m_L_law 848 m_X11_keep 851 := ⟨105, by decide +kernel, w_6_123, rfl⟩
theorem i_L_law_851 : D2 m_L_law 851 (.if_icmp .eq 676) 676 854 1527 := ⟨by decide +kernel, rfl, by decide⟩
theorem i_L_law_854 : Dc m_L_law 854 0 855 := Or.inl ⟨0, by decide +kernel, by decide, rfl⟩
theorem i_L_law_855 : D1 m_L_law 855 (.ireturn) 1 856 := ⟨by decide +kernel, rfl⟩
theorem i_L_law_856 : Dal m_L_law 856 1 857 := Or.inl ⟨1, by decide +kernel, rfl, rfl⟩
theorem i_L_law_857 : Dal m_L_law 857 0 858 := Or.inl ⟨0, by decide +kernel, rfl, rfl⟩
theorem i_L_law_858 : Dil m_L_law 858 3 859 := Or.inl ⟨3, by decide +kernel, rfl, rfl⟩
theorem i_L_law_859 : Dc m_L_law 859 1 860 := Or.inl ⟨1, by decide +kernel, by decide, rfl⟩
theorem i_L_law_860 : D1 m_L_law 860 (.iadd) 1 861 := ⟨by decide +kernel, rfl⟩
theorem i_L_law_861 : D1 m_L_law 861 (.iaload) 1 862 := ⟨by decide +kernel, rfl⟩
theorem i_L_law_862 : DV m_L_law 862 m_X10_on 865 := ⟨106, by decide +kernel, w_3_187, rfl⟩
theorem i_L_law_865 : Dal m_L_law 865 2 866 := Or.inl ⟨2, by decide +kernel, rfl, rfl⟩
theorem i_L_law_866 : Dal m_L_law 866 0 867 := Or.inl ⟨0, by decide +kernel, rfl, rfl⟩
theorem i_L_law_867 : Dil m_L_law 867 3 868 := Or.inl ⟨3, by decide +kernel, rfl, rfl⟩
theorem i_L_law_868 : Dc m_L_law 868 1 869 := Or.inl ⟨1, by decide +kernel, by decide, rfl⟩
theorem i_L_law_869 : D1 m_L_law 869 (.iadd) 1 870 := ⟨by decide +kernel, rfl⟩
theorem i_L_law_870 : D1 m_L_law 870 (.iaload) 1 871 := ⟨by decide +kernel, rfl⟩
theorem i_L_law_871 : DV m_L_law 871 m_X11_on 874 := ⟨109, by decide +kernel, w_6_127, rfl⟩
theorem i_L_law_874 : D2 m_L_law 874 (.if_icmp .eq 653) 653 877 1527 := ⟨by decide +kernel, rfl, by decide⟩
theorem i_L_law_877 : Dc m_L_law 877 0 878 := Or.inl ⟨0, by decide +kernel, by decide, rfl⟩
theorem i_L_law_878 : D1 m_L_law 878 (.ireturn) 1 879 := ⟨by decide +kernel, rfl⟩
theorem i_L_law_879 : Dal m_L_law 879 1 880 := Or.inl ⟨1, by decide +kernel, rfl, rfl⟩
theorem i_L_law_880 : Dal m_L_law 880 0 881 := Or.inl ⟨0, by decide +kernel, rfl, rfl⟩
theorem i_L_law_881 : Dil m_L_law 881 3 882 := Or.inl ⟨3, by decide +kernel, rfl, rfl⟩
theorem i_L_law_882 : Dc m_L_law 882 1 883 := Or.inl ⟨1, by decide +kernel, by decide, rfl⟩
theorem i_L_law_883 : D1 m_L_law 883 (.iadd) 1 884 := ⟨by decide +kernel, rfl⟩
theorem i_L_law_884 : D1 m_L_law 884 (.iaload) 1 885 := ⟨by decide +kernel, rfl⟩
theorem i_L_law_885 : DV m_L_law 885 m_X10_evening 888 := ⟨110, by decide +kernel, w_3_191, rfl⟩
theorem i_L_law_888 : Dal m_L_law 888 2 889 := Or.inl ⟨2, by decide +kernel, rfl, rfl⟩
theorem i_L_law_889 : Dal m_L_law 889 0 890 := Or.inl ⟨0, by decide +kernel, rfl, rfl⟩
theorem i_L_law_890 : Dil m_L_law 890 3 891 := Or.inl ⟨3, by decide +kernel, rfl, rfl⟩
theorem i_L_law_891 : Dc m_L_law 891 1 892 := Or.inl ⟨1, by decide +kernel, by decide, rfl⟩
theorem i_L_law_892 : D1 m_L_law 892 (.iadd) 1 893 := ⟨by decide +kernel, rfl⟩
theorem i_L_law_893 : D1 m_L_law 893 (.iaload) 1 894 := ⟨by decide +kernel, rfl⟩
theorem i_L_law_894 : DV m_L_law 894 m_X11_evening 897 := ⟨113, by decide +kernel, w_6_131, rfl⟩
theorem i_L_law_897 : D2 m_L_law 897 (.if_icmp .eq 630) 630 900 1527 := ⟨by decide +kernel, rfl, by decide⟩
theorem i_L_law_900 : Dc m_L_law 900 0 901 := Or.inl ⟨0, by decide +kernel, by decide, rfl⟩
theorem i_L_law_901 : D1 m_L_law 901 (.ireturn) 1 902 := ⟨by decide +kernel, rfl⟩
theorem i_L_law_902 : Dal m_L_law 902 1 903 := Or.inl ⟨1, by decide +kernel, rfl, rfl⟩
theorem i_L_law_903 : Dal m_L_law 903 0 904 := Or.inl ⟨0, by decide +kernel, rfl, rfl⟩
theorem i_L_law_904 : Dil m_L_law 904 3 905 := Or.inl ⟨3, by decide +kernel, rfl, rfl⟩
theorem i_L_law_905 : Dc m_L_law 905 1 906 := Or.inl ⟨1, by decide +kernel, by decide, rfl⟩
theorem i_L_law_906 : D1 m_L_law 906 (.iadd) 1 907 := ⟨by decide +kernel, rfl⟩
theorem i_L_law_907 : D1 m_L_law 907 (.iaload) 1 908 := ⟨by decide +kernel, rfl⟩
theorem i_L_law_908 : Dal m_L_law 908 0 909 := Or.inl ⟨0, by decide +kernel, rfl, rfl⟩
theorem i_L_law_909 : Dil m_L_law 909 3 910 := Or.inl ⟨3, by decide +kernel, rfl, rfl⟩
theorem i_L_law_910 : Dc m_L_law 910 2 911 := Or.inl ⟨2, by decide +kernel, by decide, rfl⟩
theorem i_L_law_911 : D1 m_L_law 911 (.iadd) 1 912 := ⟨by decide +kernel, rfl⟩
theorem i_L_law_912 : D1 m_L_law 912 (.iaload) 1 913 := ⟨by decide +kernel, rfl⟩
theorem i_L_law_913 : Dal m_L_law 913 0 914 := Or.inl ⟨0, by decide +kernel, rfl, rfl⟩
theorem i_L_law_914 : Dil m_L_law 914 3 915 := Or.inl ⟨3, by decide +kernel, rfl, rfl⟩
theorem i_L_law_915 : Dc m_L_law 915 3 916 := Or.inl ⟨3, by decide +kernel, by decide, rfl⟩
theorem i_L_law_916 : D1 m_L_law 916 (.iadd) 1 917 := ⟨by decide +kernel, rfl⟩
theorem i_L_law_917 : D1 m_L_law 917 (.iaload) 1 918 := ⟨by decide +kernel, rfl⟩
theorem i_L_law_918 : DV m_L_law 918 m_X10_place 921 := ⟨114, by decide +kernel, w_3_203, rfl⟩
theorem i_L_law_921 : Dal m_L_law 921 2 922 := Or.inl ⟨2, by decide +kernel, rfl, rfl⟩
theorem i_L_law_922 : Dal m_L_law 922 0 923 := Or.inl ⟨0, by decide +kernel, rfl, rfl⟩
theorem i_L_law_923 : Dil m_L_law 923 3 924 := Or.inl ⟨3, by decide +kernel, rfl, rfl⟩
theorem i_L_law_924 : Dc m_L_law 924 1 925 := Or.inl ⟨1, by decide +kernel, by decide, rfl⟩
theorem i_L_law_925 : D1 m_L_law 925 (.iadd) 1 926 := ⟨by decide +kernel, rfl⟩
theorem i_L_law_926 : D1 m_L_law 926 (.iaload) 1 927 := ⟨by decide +kernel, rfl⟩
theorem i_L_law_927 : Dal m_L_law 927 0 928 := Or.inl ⟨0, by decide +kernel, rfl, rfl⟩
theorem i_L_law_928 : Dil m_L_law 928 3 929 := Or.inl ⟨3, by decide +kernel, rfl, rfl⟩
theorem i_L_law_929 : Dc m_L_law 929 2 930 := Or.inl ⟨2, by decide +kernel, by decide, rfl⟩
theorem i_L_law_930 : D1 m_L_law 930 (.iadd) 1 931 := ⟨by decide +kernel, rfl⟩
theorem i_L_law_931 : D1 m_L_law 931 (.iaload) 1 932 := ⟨by decide +kernel, rfl⟩
theorem i_L_law_932 : Dal m_L_law 932 0 933 := Or.inl ⟨0, by decide +kernel, rfl, rfl⟩
theorem i_L_law_933 : Dil m_L_law 933 3 934 := Or.inl ⟨3, by decide +kernel, rfl, rfl⟩
theorem i_L_law_934 : Dc m_L_law 934 3 935 := Or.inl ⟨3, by decide +kernel, by decide, rfl⟩
theorem i_L_law_935 : D1 m_L_law 935 (.iadd) 1 936 := ⟨by decide +kernel, rfl⟩
theorem i_L_law_936 : D1 m_L_law 936 (.iaload) 1 937 := ⟨by decide +kernel, rfl⟩
theorem i_L_law_937 : DV m_L_law 937 m_X11_place 940 := ⟨117, by decide +kernel, w_6_139, rfl⟩
theorem i_L_law_940 : D2 m_L_law 940 (.if_icmp .eq 587) 587 943 1527 := ⟨by decide +kernel, rfl, by decide⟩
theorem i_L_law_943 : Dc m_L_law 943 0 944 := Or.inl ⟨0, by decide +kernel, by decide, rfl⟩
theorem i_L_law_944 : D1 m_L_law 944 (.ireturn) 1 945 := ⟨by decide +kernel, rfl⟩
theorem i_L_law_945 : Dal m_L_law 945 1 946 := Or.inl ⟨1, by decide +kernel, rfl, rfl⟩
theorem i_L_law_946 : Dal m_L_law 946 0 947 := Or.inl ⟨0, by decide +kernel, rfl, rfl⟩
theorem i_L_law_947 : Dil m_L_law 947 3 948 := Or.inl ⟨3, by decide +kernel, rfl, rfl⟩
theorem i_L_law_948 : Dc m_L_law 948 1 949 := Or.inl ⟨1, by decide +kernel, by decide, rfl⟩
theorem i_L_law_949 : D1 m_L_law 949 (.iadd) 1 950 := ⟨by decide +kernel, rfl⟩
theorem i_L_law_950 : D1 m_L_law 950 (.iaload) 1 951 := ⟨by decide +kernel, rfl⟩
theorem i_L_law_951 : Dal m_L_law 951 0 952 := Or.inl ⟨0, by decide +kernel, rfl, rfl⟩
theorem i_L_law_952 : Dil m_L_law 952 3 953 := Or.inl ⟨3, by decide +kernel, rfl, rfl⟩
theorem i_L_law_953 : Dc m_L_law 953 2 954 := Or.inl ⟨2, by decide +kernel, by decide, rfl⟩
theorem i_L_law_954 : D1 m_L_law 954 (.iadd) 1 955 := ⟨by decide +kernel, rfl⟩
theorem i_L_law_955 : D1 m_L_law 955 (.iaload) 1 956 := ⟨by decide +kernel, rfl⟩
theorem i_L_law_956 : DV m_L_law 956 m_X10_favours 959 := ⟨118, by decide +kernel, w_3_207, rfl⟩
theorem i_L_law_959 : Dal m_L_law 959 2 960 := Or.inl ⟨2, by decide +kernel, rfl, rfl⟩
theorem i_L_law_960 : Dal m_L_law 960 0 961 := Or.inl ⟨0, by decide +kernel, rfl, rfl⟩
theorem i_L_law_961 : Dil m_L_law 961 3 962 := Or.inl ⟨3, by decide +kernel, rfl, rfl⟩
theorem i_L_law_962 : Dc m_L_law 962 1 963 := Or.inl ⟨1, by decide +kernel, by decide, rfl⟩
theorem i_L_law_963 : D1 m_L_law 963 (.iadd) 1 964 := ⟨by decide +kernel, rfl⟩
theorem i_L_law_964 : D1 m_L_law 964 (.iaload) 1 965 := ⟨by decide +kernel, rfl⟩
theorem i_L_law_965 : Dal m_L_law 965 0 966 := Or.inl ⟨0, by decide +kernel, rfl, rfl⟩
theorem i_L_law_966 : Dil m_L_law 966 3 967 := Or.inl ⟨3, by decide +kernel, rfl, rfl⟩
theorem i_L_law_967 : Dc m_L_law 967 2 968 := Or.inl ⟨2, by decide +kernel, by decide, rfl⟩
theorem i_L_law_968 : D1 m_L_law 968 (.iadd) 1 969 := ⟨by decide +kernel, rfl⟩
theorem i_L_law_969 : D1 m_L_law 969 (.iaload) 1 970 := ⟨by decide +kernel, rfl⟩
theorem i_L_law_970 : DV m_L_law 970 m_X11_favours 973 := ⟨121, by decide +kernel, w_6_143, rfl⟩
theorem i_L_law_973 : D2 m_L_law 973 (.if_icmp .eq 554) 554 976 1527 := ⟨by decide +kernel, rfl, by decide⟩
theorem i_L_law_976 : Dc m_L_law 976 0 977 := Or.inl ⟨0, by decide +kernel, by decide, rfl⟩
theorem i_L_law_977 : D1 m_L_law 977 (.ireturn) 1 978 := ⟨by decide +kernel, rfl⟩
theorem i_L_law_978 : Dal m_L_law 978 1 979 := Or.inl ⟨1, by decide +kernel, rfl, rfl⟩
theorem i_L_law_979 : Dal m_L_law 979 0 980 := Or.inl ⟨0, by decide +kernel, rfl, rfl⟩
theorem i_L_law_980 : Dil m_L_law 980 3 981 := Or.inl ⟨3, by decide +kernel, rfl, rfl⟩
theorem i_L_law_981 : Dc m_L_law 981 1 982 := Or.inl ⟨1, by decide +kernel, by decide, rfl⟩
theorem i_L_law_982 : D1 m_L_law 982 (.iadd) 1 983 := ⟨by decide +kernel, rfl⟩
theorem i_L_law_983 : D1 m_L_law 983 (.iaload) 1 984 := ⟨by decide +kernel, rfl⟩
theorem i_L_law_984 : DV m_L_law 984 m_X10_least 987 := ⟨122, by decide +kernel, w_3_212, rfl⟩
theorem i_L_law_987 : Dal m_L_law 987 2 988 := Or.inl ⟨2, by decide +kernel, rfl, rfl⟩
theorem i_L_law_988 : Dal m_L_law 988 0 989 := Or.inl ⟨0, by decide +kernel, rfl, rfl⟩
theorem i_L_law_989 : Dil m_L_law 989 3 990 := Or.inl ⟨3, by decide +kernel, rfl, rfl⟩
theorem i_L_law_990 : Dc m_L_law 990 1 991 := Or.inl ⟨1, by decide +kernel, by decide, rfl⟩
theorem i_L_law_991 : D1 m_L_law 991 (.iadd) 1 992 := ⟨by decide +kernel, rfl⟩
theorem i_L_law_992 : D1 m_L_law 992 (.iaload) 1 993 := ⟨by decide +kernel, rfl⟩
theorem i_L_law_993 : DV m_L_law 993 m_X11_least 996 := ⟨125, by decide +kernel, w_6_148, rfl⟩
theorem i_L_law_996 : D2 m_L_law 996 (.if_icmp .eq 531) 531 999 1527 := ⟨by decide +kernel, rfl, by decide⟩
theorem i_L_law_999 : Dc m_L_law 999 0 1000 := Or.inl ⟨0, by decide +kernel, by decide, rfl⟩
theorem i_L_law_1000 : D1 m_L_law 1000 (.ireturn) 1 1001 := ⟨by decide +kernel, rfl⟩
theorem i_L_law_1001 : Dal m_L_law 1001 1 1002 := Or.inl ⟨1, by decide +kernel, rfl, rfl⟩
theorem i_L_law_1002 : Dal m_L_law 1002 0 1003 := Or.inl ⟨0, by decide +kernel, rfl, rfl⟩
theorem i_L_law_1003 : Dil m_L_law 1003 3 1004 := Or.inl ⟨3, by decide +kernel, rfl, rfl⟩
theorem i_L_law_1004 : Dc m_L_law 1004 1 1005 := Or.inl ⟨1, by decide +kernel, by decide, rfl⟩
theorem i_L_law_1005 : D1 m_L_law 1005 (.iadd) 1 1006 := ⟨by decide +kernel, rfl⟩
theorem i_L_law_1006 : D1 m_L_law 1006 (.iaload) 1 1007 := ⟨by decide +kernel, rfl⟩
theorem i_L_law_1007 : Dal m_L_law 1007 0 1008 := Or.inl ⟨0, by decide +kernel, rfl, rfl⟩
theorem i_L_law_1008 : Dil m_L_law 1008 3 1009 := Or.inl ⟨3, by decide +kernel, rfl, rfl⟩
theorem i_L_law_1009 : Dc m_L_law 1009 2 1010 := Or.inl ⟨2, by decide +kernel, by decide, rfl⟩
theorem i_L_law_1010 : D1 m_L_law 1010 (.iadd) 1 1011 := ⟨by decide +kernel, rfl⟩
theorem i_L_law_1011 : D1 m_L_law 1011 (.iaload) 1 1012 := ⟨by decide +kernel, rfl⟩
theorem i_L_law_1012 : DV m_L_law 1012 m_X10_best 1015 := ⟨126, by decide +kernel, w_3_237, rfl⟩
theorem i_L_law_1015 : Dal m_L_law 1015 2 1016 := Or.inl ⟨2, by decide +kernel, rfl, rfl⟩
theorem i_L_law_1016 : Dal m_L_law 1016 0 1017 := Or.inl ⟨0, by decide +kernel, rfl, rfl⟩
theorem i_L_law_1017 : Dil m_L_law 1017 3 1018 := Or.inl ⟨3, by decide +kernel, rfl, rfl⟩
theorem i_L_law_1018 : Dc m_L_law 1018 1 1019 := Or.inl ⟨1, by decide +kernel, by decide, rfl⟩
theorem i_L_law_1019 : D1 m_L_law 1019 (.iadd) 1 1020 := ⟨by decide +kernel, rfl⟩
theorem i_L_law_1020 : D1 m_L_law 1020 (.iaload) 1 1021 := ⟨by decide +kernel, rfl⟩
theorem i_L_law_1021 : Dal m_L_law 1021 0 1022 := Or.inl ⟨0, by decide +kernel, rfl, rfl⟩
theorem i_L_law_1022 : Dil m_L_law 1022 3 1023 := Or.inl ⟨3, by decide +kernel, rfl, rfl⟩
theorem i_L_law_1023 : Dc m_L_law 1023 2 1024 := Or.inl ⟨2, by decide +kernel, by decide, rfl⟩
theorem i_L_law_1024 : D1 m_L_law 1024 (.iadd) 1 1025 := ⟨by decide +kernel, rfl⟩
theorem i_L_law_1025 : D1 m_L_law 1025 (.iaload) 1 1026 := ⟨by decide +kernel, rfl⟩
theorem i_L_law_1026 : DV m_L_law 1026 m_X11_best 1029 := ⟨129, by decide +kernel, w_6_156, rfl⟩
theorem i_L_law_1029 : D2 m_L_law 1029 (.if_icmp .eq 498) 498 1032 1527 := ⟨by decide +kernel, rfl, by decide⟩
theorem i_L_law_1032 : Dc m_L_law 1032 0 1033 := Or.inl ⟨0, by decide +kernel, by decide, rfl⟩
theorem i_L_law_1033 : D1 m_L_law 1033 (.ireturn) 1 1034 := ⟨by decide +kernel, rfl⟩
theorem i_L_law_1034 : Dal m_L_law 1034 1 1035 := Or.inl ⟨1, by decide +kernel, rfl, rfl⟩
theorem i_L_law_1035 : Dal m_L_law 1035 0 1036 := Or.inl ⟨0, by decide +kernel, rfl, rfl⟩
theorem i_L_law_1036 : Dil m_L_law 1036 3 1037 := Or.inl ⟨3, by decide +kernel, rfl, rfl⟩
theorem i_L_law_1037 : Dc m_L_law 1037 1 1038 := Or.inl ⟨1, by decide +kernel, by decide, rfl⟩
theorem i_L_law_1038 : D1 m_L_law 1038 (.iadd) 1 1039 := ⟨by decide +kernel, rfl⟩
theorem i_L_law_1039 : D1 m_L_law 1039 (.iaload) 1 1040 := ⟨by decide +kernel, rfl⟩
theorem i_L_law_1040 : DV m_L_law 1040 m_X10_most 1043 := ⟨130, by decide +kernel, w_4_20, rfl⟩
theorem i_L_law_1043 : Dal m_L_law 1043 2 1044 := Or.inl ⟨2, by decide +kernel, rfl, rfl⟩
theorem i_L_law_1044 : Dal m_L_law 1044 0 1045 := Or.inl ⟨0, by decide +kernel, rfl, rfl⟩
theorem i_L_law_1045 : Dil m_L_law 1045 3 1046 := Or.inl ⟨3, by decide +kernel, rfl, rfl⟩
theorem i_L_law_1046 : Dc m_L_law 1046 1 1047 := Or.inl ⟨1, by decide +kernel, by decide, rfl⟩
theorem i_L_law_1047 : D1 m_L_law 1047 (.iadd) 1 1048 := ⟨by decide +kernel, rfl⟩
theorem i_L_law_1048 : D1 m_L_law 1048 (.iaload) 1 1049 := ⟨by decide +kernel, rfl⟩
theorem i_L_law_1049 : DV m_L_law 1049 m_X11_most 1052 := ⟨133, by decide +kernel, w_6_176, rfl⟩
theorem i_L_law_1052 : D2 m_L_law 1052 (.if_icmp .eq 475) 475 1055 1527 := ⟨by decide +kernel, rfl, by decide⟩
theorem i_L_law_1055 : Dc m_L_law 1055 0 1056 := Or.inl ⟨0, by decide +kernel, by decide, rfl⟩
theorem i_L_law_1056 : D1 m_L_law 1056 (.ireturn) 1 1057 := ⟨by decide +kernel, rfl⟩
theorem i_L_law_1057 : Dal m_L_law 1057 1 1058 := Or.inl ⟨1, by decide +kernel, rfl, rfl⟩
theorem i_L_law_1058 : Dal m_L_law 1058 0 1059 := Or.inl ⟨0, by decide +kernel, rfl, rfl⟩
theorem i_L_law_1059 : Dil m_L_law 1059 3 1060 := Or.inl ⟨3, by decide +kernel, rfl, rfl⟩
theorem i_L_law_1060 : Dc m_L_law 1060 1 1061 := Or.inl ⟨1, by decide +kernel, by decide, rfl⟩
theorem i_L_law_1061 : D1 m_L_law 1061 (.iadd) 1 1062 := ⟨by decide +kernel, rfl⟩
theorem i_L_law_1062 : D1 m_L_law 1062 (.iaload) 1 1063 := ⟨by decide +kernel, rfl⟩
theorem i_L_law_1063 : DV m_L_law 1063 m_X10_kind 1066 := ⟨134, by decide +kernel, w_4_35, rfl⟩
theorem i_L_law_1066 : Dal m_L_law 1066 2 1067 := Or.inl ⟨2, by decide +kernel, rfl, rfl⟩
theorem i_L_law_1067 : Dal m_L_law 1067 0 1068 := Or.inl ⟨0, by decide +kernel, rfl, rfl⟩
theorem i_L_law_1068 : Dil m_L_law 1068 3 1069 := Or.inl ⟨3, by decide +kernel, rfl, rfl⟩
theorem i_L_law_1069 : Dc m_L_law 1069 1 1070 := Or.inl ⟨1, by decide +kernel, by decide, rfl⟩
theorem i_L_law_1070 : D1 m_L_law 1070 (.iadd) 1 1071 := ⟨by decide +kernel, rfl⟩
theorem i_L_law_1071 : D1 m_L_law 1071 (.iaload) 1 1072 := ⟨by decide +kernel, rfl⟩
theorem i_L_law_1072 : DV m_L_law 1072 m_X11_kind 1075 := ⟨137, by decide +kernel, w_6_180, rfl⟩
theorem i_L_law_1075 : D2 m_L_law 1075 (.if_icmp .eq 452) 452 1078 1527 := ⟨by decide +kernel, rfl, by decide⟩
theorem i_L_law_1078 : Dc m_L_law 1078 0 1079 := Or.inl ⟨0, by decide +kernel, by decide, rfl⟩
theorem i_L_law_1079 : D1 m_L_law 1079 (.ireturn) 1 1080 := ⟨by decide +kernel, rfl⟩
theorem i_L_law_1080 : Dal m_L_law 1080 1 1081 := Or.inl ⟨1, by decide +kernel, rfl, rfl⟩
theorem i_L_law_1081 : Dal m_L_law 1081 0 1082 := Or.inl ⟨0, by decide +kernel, rfl, rfl⟩
theorem i_L_law_1082 : Dil m_L_law 1082 3 1083 := Or.inl ⟨3, by decide +kernel, rfl, rfl⟩
theorem i_L_law_1083 : Dc m_L_law 1083 1 1084 := Or.inl ⟨1, by decide +kernel, by decide, rfl⟩
theorem i_L_law_1084 : D1 m_L_law 1084 (.iadd) 1 1085 := ⟨by decide +kernel, rfl⟩
theorem i_L_law_1085 : D1 m_L_law 1085 (.iaload) 1 1086 := ⟨by decide +kernel, rfl⟩
theorem i_L_law_1086 : Dal m_L_law 1086 0 1087 := Or.inl ⟨0, by decide +kernel, rfl, rfl⟩
theorem i_L_law_1087 : Dil m_L_law 1087 3 1088 := Or.inl ⟨3, by decide +kernel, rfl, rfl⟩
theorem i_L_law_1088 : Dc m_L_law 1088 2 1089 := Or.inl ⟨2, by decide +kernel, by decide, rfl⟩
theorem i_L_law_1089 : D1 m_L_law 1089 (.iadd) 1 1090 := ⟨by decide +kernel, rfl⟩
theorem i_L_law_1090 : D1 m_L_law 1090 (.iaload) 1 1091 := ⟨by decide +kernel, rfl⟩
theorem i_L_law_1091 : Dal m_L_law 1091 0 1092 := Or.inl ⟨0, by decide +kernel, rfl, rfl⟩
theorem i_L_law_1092 : Dil m_L_law 1092 3 1093 := Or.inl ⟨3, by decide +kernel, rfl, rfl⟩
theorem i_L_law_1093 : Dc m_L_law 1093 3 1094 := Or.inl ⟨3, by decide +kernel, by decide, rfl⟩
theorem i_L_law_1094 : D1 m_L_law 1094 (.iadd) 1 1095 := ⟨by decide +kernel, rfl⟩
theorem i_L_law_1095 : D1 m_L_law 1095 (.iaload) 1 1096 := ⟨by decide +kernel, rfl⟩
theorem i_L_law_1096 : DV m_L_law 1096 m_X10_week 1099 := ⟨138, by decide +kernel, w_4_39, rfl⟩
theorem i_L_law_1099 : Dal m_L_law 1099 2 1100 := Or.inl ⟨2, by decide +kernel, rfl, rfl⟩
theorem i_L_law_1100 : Dal m_L_law 1100 0 1101 := Or.inl ⟨0, by decide +kernel, rfl, rfl⟩
theorem i_L_law_1101 : Dil m_L_law 1101 3 1102 := Or.inl ⟨3, by decide +kernel, rfl, rfl⟩
theorem i_L_law_1102 : Dc m_L_law 1102 1 1103 := Or.inl ⟨1, by decide +kernel, by decide, rfl⟩
theorem i_L_law_1103 : D1 m_L_law 1103 (.iadd) 1 1104 := ⟨by decide +kernel, rfl⟩
theorem i_L_law_1104 : D1 m_L_law 1104 (.iaload) 1 1105 := ⟨by decide +kernel, rfl⟩
theorem i_L_law_1105 : Dal m_L_law 1105 0 1106 := Or.inl ⟨0, by decide +kernel, rfl, rfl⟩
theorem i_L_law_1106 : Dil m_L_law 1106 3 1107 := Or.inl ⟨3, by decide +kernel, rfl, rfl⟩
theorem i_L_law_1107 : Dc m_L_law 1107 2 1108 := Or.inl ⟨2, by decide +kernel, by decide, rfl⟩
theorem i_L_law_1108 : D1 m_L_law 1108 (.iadd) 1 1109 := ⟨by decide +kernel, rfl⟩
theorem i_L_law_1109 : D1 m_L_law 1109 (.iaload) 1 1110 := ⟨by decide +kernel, rfl⟩
theorem i_L_law_1110 : Dal m_L_law 1110 0 1111 := Or.inl ⟨0, by decide +kernel, rfl, rfl⟩
theorem i_L_law_1111 : Dil m_L_law 1111 3 1112 := Or.inl ⟨3, by decide +kernel, rfl, rfl⟩
theorem i_L_law_1112 : Dc m_L_law 1112 3 1113 := Or.inl ⟨3, by decide +kernel, by decide, rfl⟩
theorem i_L_law_1113 : D1 m_L_law 1113 (.iadd) 1 1114 := ⟨by decide +kernel, rfl⟩
theorem i_L_law_1114 : D1 m_L_law 1114 (.iaload) 1 1115 := ⟨by decide +kernel, rfl⟩
theorem i_L_law_1115 : DV m_L_law 1115 m_X11_week 1118 := ⟨141, by decide +kernel, w_6_184, rfl⟩
theorem i_L_law_1118 : D2 m_L_law 1118 (.if_icmp .eq 409) 409 1121 1527 := ⟨by decide +kernel, rfl, by decide⟩
theorem i_L_law_1121 : Dc m_L_law 1121 0 1122 := Or.inl ⟨0, by decide +kernel, by decide, rfl⟩
theorem i_L_law_1122 : D1 m_L_law 1122 (.ireturn) 1 1123 := ⟨by decide +kernel, rfl⟩
theorem i_L_law_1123 : Dal m_L_law 1123 1 1124 := Or.inl ⟨1, by decide +kernel, rfl, rfl⟩
theorem i_L_law_1124 : Dal m_L_law 1124 0 1125 := Or.inl ⟨0, by decide +kernel, rfl, rfl⟩
theorem i_L_law_1125 : Dil m_L_law 1125 3 1126 := Or.inl ⟨3, by decide +kernel, rfl, rfl⟩
theorem i_L_law_1126 : Dc m_L_law 1126 1 1127 := Or.inl ⟨1, by decide +kernel, by decide, rfl⟩
theorem i_L_law_1127 : D1 m_L_law 1127 (.iadd) 1 1128 := ⟨by decide +kernel, rfl⟩
theorem i_L_law_1128 : D1 m_L_law 1128 (.iaload) 1 1129 := ⟨by decide +kernel, rfl⟩
theorem i_L_law_1129 : Dal m_L_law 1129 0 1130 := Or.inl ⟨0, by decide +kernel, rfl, rfl⟩
theorem i_L_law_1130 : Dil m_L_law 1130 3 1131 := Or.inl ⟨3, by decide +kernel, rfl, rfl⟩
theorem i_L_law_1131 : Dc m_L_law 1131 2 1132 := Or.inl ⟨2, by decide +kernel, by decide, rfl⟩
theorem i_L_law_1132 : D1 m_L_law 1132 (.iadd) 1 1133 := ⟨by decide +kernel, rfl⟩
theorem i_L_law_1133 : D1 m_L_law 1133 (.iaload) 1 1134 := ⟨by decide +kernel, rfl⟩
theorem i_L_law_1134 : DV m_L_law 1134 m_X10_even 1137 := ⟨142, by decide +kernel, w_4_43, rfl⟩
theorem i_L_law_1137 : Dal m_L_law 1137 2 1138 := Or.inl ⟨2, by decide +kernel, rfl, rfl⟩
theorem i_L_law_1138 : Dal m_L_law 1138 0 1139 := Or.inl ⟨0, by decide +kernel, rfl, rfl⟩
theorem i_L_law_1139 : Dil m_L_law 1139 3 1140 := Or.inl ⟨3, by decide +kernel, rfl, rfl⟩
theorem i_L_law_1140 : Dc m_L_law 1140 1 1141 := Or.inl ⟨1, by decide +kernel, by decide, rfl⟩
theorem i_L_law_1141 : D1 m_L_law 1141 (.iadd) 1 1142 := ⟨by decide +kernel, rfl⟩
theorem i_L_law_1142 : D1 m_L_law 1142 (.iaload) 1 1143 := ⟨by decide +kernel, rfl⟩
theorem i_L_law_1143 : Dal m_L_law 1143 0 1144 := Or.inl ⟨0, by decide +kernel, rfl, rfl⟩
theorem i_L_law_1144 : Dil m_L_law 1144 3 1145 := Or.inl ⟨3, by decide +kernel, rfl, rfl⟩
theorem i_L_law_1145 : Dc m_L_law 1145 2 1146 := Or.inl ⟨2, by decide +kernel, by decide, rfl⟩
theorem i_L_law_1146 : D1 m_L_law 1146 (.iadd) 1 1147 := ⟨by decide +kernel, rfl⟩
theorem i_L_law_1147 : D1 m_L_law 1147 (.iaload) 1 1148 := ⟨by decide +kernel, rfl⟩
theorem i_L_law_1148 : DV m_L_law 1148 m_X11_even 1151 := ⟨145, by decide +kernel, w_6_193, rfl⟩
theorem i_L_law_1151 : D2 m_L_law 1151 (.if_icmp .eq 376) 376 1154 1527 := ⟨by decide +kernel, rfl, by decide⟩
theorem i_L_law_1154 : Dc m_L_law 1154 0 1155 := Or.inl ⟨0, by decide +kernel, by decide, rfl⟩
theorem i_L_law_1155 : D1 m_L_law 1155 (.ireturn) 1 1156 := ⟨by decide +kernel, rfl⟩
theorem i_L_law_1156 : Dal m_L_law 1156 1 1157 := Or.inl ⟨1, by decide +kernel, rfl, rfl⟩
theorem i_L_law_1157 : Dal m_L_law 1157 0 1158 := Or.inl ⟨0, by decide +kernel, rfl, rfl⟩
theorem i_L_law_1158 : Dil m_L_law 1158 3 1159 := Or.inl ⟨3, by decide +kernel, rfl, rfl⟩
theorem i_L_law_1159 : Dc m_L_law 1159 1 1160 := Or.inl ⟨1, by decide +kernel, by decide, rfl⟩
theorem i_L_law_1160 : D1 m_L_law 1160 (.iadd) 1 1161 := ⟨by decide +kernel, rfl⟩
theorem i_L_law_1161 : D1 m_L_law 1161 (.iaload) 1 1162 := ⟨by decide +kernel, rfl⟩
theorem i_L_law_1162 : DV m_L_law 1162 m_X10_two 1165 := ⟨146, by decide +kernel, w_4_72, rfl⟩
theorem i_L_law_1165 : Dal m_L_law 1165 2 1166 := Or.inl ⟨2, by decide +kernel, rfl, rfl⟩
theorem i_L_law_1166 : Dal m_L_law 1166 0 1167 := Or.inl ⟨0, by decide +kernel, rfl, rfl⟩
theorem i_L_law_1167 : Dil m_L_law 1167 3 1168 := Or.inl ⟨3, by decide +kernel, rfl, rfl⟩
theorem i_L_law_1168 : Dc m_L_law 1168 1 1169 := Or.inl ⟨1, by decide +kernel, by decide, rfl⟩
theorem i_L_law_1169 : D1 m_L_law 1169 (.iadd) 1 1170 := ⟨by decide +kernel, rfl⟩
theorem i_L_law_1170 : D1 m_L_law 1170 (.iaload) 1 1171 := ⟨by decide +kernel, rfl⟩
theorem i_L_law_1171 : DV m_L_law 1171 m_X11_two 1174 := ⟨149, by decide +kernel, w_6_206, rfl⟩
theorem i_L_law_1174 : D2 m_L_law 1174 (.if_icmp .eq 353) 353 1177 1527 := ⟨by decide +kernel, rfl, by decide⟩
theorem i_L_law_1177 : Dc m_L_law 1177 0 1178 := Or.inl ⟨0, by decide +kernel, by decide, rfl⟩
theorem i_L_law_1178 : D1 m_L_law 1178 (.ireturn) 1 1179 := ⟨by decide +kernel, rfl⟩
theorem i_L_law_1179 : Dal m_L_law 1179 1 1180 := Or.inl ⟨1, by decide +kernel, rfl, rfl⟩
theorem i_L_law_1180 : DV m_L_law 1180 m_X10_scales 1183 := ⟨150, by decide +kernel, w_4_80, rfl⟩
theorem i_L_law_1183 : Dal m_L_law 1183 2 1184 := Or.inl ⟨2, by decide +kernel, rfl, rfl⟩
theorem i_L_law_1184 : DV m_L_law 1184 m_X11_scales 1187 := ⟨153, by decide +kernel, w_6_214, rfl⟩
theorem i_L_law_1187 : D2 m_L_law 1187 (.if_icmp .eq 340) 340 1190 1527 := ⟨by decide +kernel, rfl, by decide⟩
theorem i_L_law_1190 : Dc m_L_law 1190 0 1191 := Or.inl ⟨0, by decide +kernel, by decide, rfl⟩
theorem i_L_law_1191 : D1 m_L_law 1191 (.ireturn) 1 1192 := ⟨by decide +kernel, rfl⟩
theorem i_L_law_1192 : Dal m_L_law 1192 1 1193 := Or.inl ⟨1, by decide +kernel, rfl, rfl⟩
theorem i_L_law_1193 : DV m_L_law 1193 m_X10_cheats 1196 := ⟨154, by decide +kernel, w_4_102, rfl⟩
theorem i_L_law_1196 : Dal m_L_law 1196 2 1197 := Or.inl ⟨2, by decide +kernel, rfl, rfl⟩
theorem i_L_law_1197 : DV m_L_law 1197 m_X11_cheats 1200 := ⟨157, by decide +kernel, w_6_222, rfl⟩
theorem i_L_law_1200 : D2 m_L_law 1200 (.if_icmp .eq 327) 327 1203 1527 := ⟨by decide +kernel, rfl, by decide⟩
theorem i_L_law_1203 : Dc m_L_law 1203 0 1204 := Or.inl ⟨0, by decide +kernel, by decide, rfl⟩
theorem i_L_law_1204 : D1 m_L_law 1204 (.ireturn) 1 1205 := ⟨by decide +kernel, rfl⟩
theorem i_L_law_1205 : Dal m_L_law 1205 1 1206 := Or.inl ⟨1, by decide +kernel, rfl, rfl⟩
theorem i_L_law_1206 : Dal m_L_law 1206 0 1207 := Or.inl ⟨0, by decide +kernel, rfl, rfl⟩
theorem i_L_law_1207 : Dil m_L_law 1207 3 1208 := Or.inl ⟨3, by decide +kernel, rfl, rfl⟩
theorem i_L_law_1208 : Dc m_L_law 1208 1 1209 := Or.inl ⟨1, by decide +kernel, by decide, rfl⟩
theorem i_L_law_1209 : D1 m_L_law 1209 (.iadd) 1 1210 := ⟨by decide +kernel, rfl⟩
theorem i_L_law_1210 : D1 m_L_law 1210 (.iaload) 1 1211 := ⟨by decide +kernel, rfl⟩
theorem i_L_law_1211 : DV m_L_law 1211 m_X10_bones 1214 := ⟨158, by decide +kernel, w_4_111, rfl⟩
theorem i_L_law_1214 : Dal m_L_law 1214 2 1215 := Or.inl ⟨2, by decide +kernel, rfl, rfl⟩
theorem i_L_law_1215 : Dal m_L_law 1215 0 1216 := Or.inl ⟨0, by decide +kernel, rfl, rfl⟩
theorem i_L_law_1216 : Dil m_L_law 1216 3 1217 := Or.inl ⟨3, by decide +kernel, rfl, rfl⟩
theorem i_L_law_1217 : Dc m_L_law 1217 1 1218 := Or.inl ⟨1, by decide +kernel, by decide, rfl⟩
theorem i_L_law_1218 : D1 m_L_law 1218 (.iadd) 1 1219 := ⟨by decide +kernel, rfl⟩
theorem i_L_law_1219 : D1 m_L_law 1219 (.iaload) 1 1220 := ⟨by decide +kernel, rfl⟩
theorem i_L_law_1220 : DV m_L_law 1220 m_X11_bones 1223 := ⟨161, by decide +kernel, w_6_226, rfl⟩
theorem i_L_law_1223 : D2 m_L_law 1223 (.if_icmp .eq 304) 304 1226 1527 := ⟨by decide +kernel, rfl, by decide⟩
theorem i_L_law_1226 : Dc m_L_law 1226 0 1227 := Or.inl ⟨0, by decide +kernel, by decide, rfl⟩
theorem i_L_law_1227 : D1 m_L_law 1227 (.ireturn) 1 1228 := ⟨by decide +kernel, rfl⟩
theorem i_L_law_1228 : Dal m_L_law 1228 1 1229 := Or.inl ⟨1, by decide +kernel, rfl, rfl⟩
theorem i_L_law_1229 : Dal m_L_law 1229 0 1230 := Or.inl ⟨0, by decide +kernel, rfl, rfl⟩
theorem i_L_law_1230 : Dil m_L_law 1230 3 1231 := Or.inl ⟨3, by decide +kernel, rfl, rfl⟩
theorem i_L_law_1231 : Dc m_L_law 1231 1 1232 := Or.inl ⟨1, by decide +kernel, by decide, rfl⟩
theorem i_L_law_1232 : D1 m_L_law 1232 (.iadd) 1 1233 := ⟨by decide +kernel, rfl⟩
theorem i_L_law_1233 : D1 m_L_law 1233 (.iaload) 1 1234 := ⟨by decide +kernel, rfl⟩
theorem i_L_law_1234 : DV m_L_law 1234 m_X10_last 1237 := ⟨162, by decide +kernel, w_4_125, rfl⟩
theorem i_L_law_1237 : Dal m_L_law 1237 2 1238 := Or.inl ⟨2, by decide +kernel, rfl, rfl⟩
theorem i_L_law_1238 : Dal m_L_law 1238 0 1239 := Or.inl ⟨0, by decide +kernel, rfl, rfl⟩
theorem i_L_law_1239 : Dil m_L_law 1239 3 1240 := Or.inl ⟨3, by decide +kernel, rfl, rfl⟩
theorem i_L_law_1240 : Dc m_L_law 1240 1 1241 := Or.inl ⟨1, by decide +kernel, by decide, rfl⟩
theorem i_L_law_1241 : D1 m_L_law 1241 (.iadd) 1 1242 := ⟨by decide +kernel, rfl⟩
theorem i_L_law_1242 : D1 m_L_law 1242 (.iaload) 1 1243 := ⟨by decide +kernel, rfl⟩
theorem i_L_law_1243 : DV m_L_law 1243 m_X11_last 1246 := ⟨165, by decide +kernel, w_6_238, rfl⟩
theorem i_L_law_1246 : D2 m_L_law 1246 (.if_icmp .eq 281) 281 1249 1527 := ⟨by decide +kernel, rfl, by decide⟩
theorem i_L_law_1249 : Dc m_L_law 1249 0 1250 := Or.inl ⟨0, by decide +kernel, by decide, rfl⟩
theorem i_L_law_1250 : D1 m_L_law 1250 (.ireturn) 1 1251 := ⟨by decide +kernel, rfl⟩
theorem i_L_law_1251 : Dal m_L_law 1251 1 1252 := Or.inl ⟨1, by decide +kernel, rfl, rfl⟩
theorem i_L_law_1252 : Dal m_L_law 1252 0 1253 := Or.inl ⟨0, by decide +kernel, rfl, rfl⟩
theorem i_L_law_1253 : Dil m_L_law 1253 3 1254 := Or.inl ⟨3, by decide +kernel, rfl, rfl⟩
theorem i_L_law_1254 : Dc m_L_law 1254 1 1255 := Or.inl ⟨1, by decide +kernel, by decide, rfl⟩
theorem i_L_law_1255 : D1 m_L_law 1255 (.iadd) 1 1256 := ⟨by decide +kernel, rfl⟩
theorem i_L_law_1256 : D1 m_L_law 1256 (.iaload) 1 1257 := ⟨by decide +kernel, rfl⟩
theorem i_L_law_1257 : Dal m_L_law 1257 0 1258 := Or.inl ⟨0, by decide +kernel, rfl, rfl⟩
theorem i_L_law_1258 : Dil m_L_law 1258 3 1259 := Or.inl ⟨3, by decide +kernel, rfl, rfl⟩
theorem i_L_law_1259 : Dc m_L_law 1259 2 1260 := Or.inl ⟨2, by decide +kernel, by decide, rfl⟩
theorem i_L_law_1260 : D1 m_L_law 1260 (.iadd) 1 1261 := ⟨by decide +kernel, rfl⟩
theorem i_L_law_1261 : D1 m_L_law 1261 (.iaload) 1 1262 := ⟨by decide +kernel, rfl⟩
theorem i_L_law_1262 : Dal m_L_law 1262 0 1263 := Or.inl ⟨0, by decide +kernel, rfl, rfl⟩
theorem i_L_law_1263 : Dil m_L_law 1263 3 1264 := Or.inl ⟨3, by decide +kernel, rfl, rfl⟩
theorem i_L_law_1264 : Dc m_L_law 1264 3 1265 := Or.inl ⟨3, by decide +kernel, by decide, rfl⟩
theorem i_L_law_1265 : D1 m_L_law 1265 (.iadd) 1 1266 := ⟨by decide +kernel, rfl⟩
theorem i_L_law_1266 : D1 m_L_law 1266 (.iaload) 1 1267 := ⟨by decide +kernel, rfl⟩
theorem i_L_law_1267 : DV m_L_law 1267 m_X10_ahead 1270 := ⟨166, by decide +kernel, w_4_129, rfl⟩
theorem i_L_law_1270 : Dal m_L_law 1270 2 1271 := Or.inl ⟨2, by decide +kernel, rfl, rfl⟩
theorem i_L_law_1271 : Dal m_L_law 1271 0 1272 := Or.inl ⟨0, by decide +kernel, rfl, rfl⟩
theorem i_L_law_1272 : Dil m_L_law 1272 3 1273 := Or.inl ⟨3, by decide +kernel, rfl, rfl⟩
theorem i_L_law_1273 : Dc m_L_law 1273 1 1274 := Or.inl ⟨1, by decide +kernel, by decide, rfl⟩
theorem i_L_law_1274 : D1 m_L_law 1274 (.iadd) 1 1275 := ⟨by decide +kernel, rfl⟩
theorem i_L_law_1275 : D1 m_L_law 1275 (.iaload) 1 1276 := ⟨by decide +kernel, rfl⟩
theorem i_L_law_1276 : Dal m_L_law 1276 0 1277 := Or.inl ⟨0, by decide +kernel, rfl, rfl⟩
theorem i_L_law_1277 : Dil m_L_law 1277 3 1278 := Or.inl ⟨3, by decide +kernel, rfl, rfl⟩
theorem i_L_law_1278 : Dc m_L_law 1278 2 1279 := Or.inl ⟨2, by decide +kernel, by decide, rfl⟩
theorem i_L_law_1279 : D1 m_L_law 1279 (.iadd) 1 1280 := ⟨by decide +kernel, rfl⟩
theorem i_L_law_1280 : D1 m_L_law 1280 (.iaload) 1 1281 := ⟨by decide +kernel, rfl⟩
theorem i_L_law_1281 : Dal m_L_law 1281 0 1282 := Or.inl ⟨0, by decide +kernel, rfl, rfl⟩
theorem i_L_law_1282 : Dil m_L_law 1282 3 1283 := Or.inl ⟨3, by decide +kernel, rfl, rfl⟩
theorem i_L_law_1283 : Dc m_L_law 1283 3 1284 := Or.inl ⟨3, by decide +kernel, by decide, rfl⟩
theorem i_L_law_1284 : D1 m_L_law 1284 (.iadd) 1 1285 := ⟨by decide +kernel, rfl⟩
theorem i_L_law_1285 : D1 m_L_law 1285 (.iaload) 1 1286 := ⟨by decide +kernel, rfl⟩
theorem i_L_law_1286 : DV m_L_law 1286 m_X11_ahead 1289 := ⟨169, by decide +kernel, w_7_2, rfl⟩
theorem i_L_law_1289 : D2 m_L_law 1289 (.if_icmp .eq 238) 238 1292 1527 := ⟨by decide +kernel, rfl, by decide⟩
theorem i_L_law_1292 : Dc m_L_law 1292 0 1293 := Or.inl ⟨0, by decide +kernel, by decide, rfl⟩
theorem i_L_law_1293 : D1 m_L_law 1293 (.ireturn) 1 1294 := ⟨by decide +kernel, rfl⟩
theorem i_L_law_1294 : Dal m_L_law 1294 1 1295 := Or.inl ⟨1, by decide +kernel, rfl, rfl⟩
theorem i_L_law_1295 : Dal m_L_law 1295 0 1296 := Or.inl ⟨0, by decide +kernel, rfl, rfl⟩
theorem i_L_law_1296 : Dil m_L_law 1296 3 1297 := Or.inl ⟨3, by decide +kernel, rfl, rfl⟩
theorem i_L_law_1297 : Dc m_L_law 1297 1 1298 := Or.inl ⟨1, by decide +kernel, by decide, rfl⟩
theorem i_L_law_1298 : D1 m_L_law 1298 (.iadd) 1 1299 := ⟨by decide +kernel, rfl⟩
theorem i_L_law_1299 : D1 m_L_law 1299 (.iaload) 1 1300 := ⟨by decide +kernel, rfl⟩
theorem i_L_law_1300 : Dal m_L_law 1300 0 1301 := Or.inl ⟨0, by decide +kernel, rfl, rfl⟩
theorem i_L_law_1301 : Dil m_L_law 1301 3 1302 := Or.inl ⟨3, by decide +kernel, rfl, rfl⟩
theorem i_L_law_1302 : Dc m_L_law 1302 2 1303 := Or.inl ⟨2, by decide +kernel, by decide, rfl⟩
theorem i_L_law_1303 : D1 m_L_law 1303 (.iadd) 1 1304 := ⟨by decide +kernel, rfl⟩
theorem i_L_law_1304 : D1 m_L_law 1304 (.iaload) 1 1305 := ⟨by decide +kernel, rfl⟩
theorem i_L_law_1305 : DV m_L_law 1305 m_X10_famine 1308 := ⟨170, by decide +kernel, w_4_133, rfl⟩
theorem i_L_law_1308 : Dal m_L_law 1308 2 1309 := Or.inl ⟨2, by decide +kernel, rfl, rfl⟩
theorem i_L_law_1309 : Dal m_L_law 1309 0 1310 := Or.inl ⟨0, by decide +kernel, rfl, rfl⟩
theorem i_L_law_1310 : Dil m_L_law 1310 3 1311 := Or.inl ⟨3, by decide +kernel, rfl, rfl⟩
theorem i_L_law_1311 : Dc m_L_law 1311 1 1312 := Or.inl ⟨1, by decide +kernel, by decide, rfl⟩
theorem i_L_law_1312 : D1 m_L_law 1312 (.iadd) 1 1313 := ⟨by decide +kernel, rfl⟩
theorem i_L_law_1313 : D1 m_L_law 1313 (.iaload) 1 1314 := ⟨by decide +kernel, rfl⟩
theorem i_L_law_1314 : Dal m_L_law 1314 0 1315 := Or.inl ⟨0, by decide +kernel, rfl, rfl⟩
theorem i_L_law_1315 : Dil m_L_law 1315 3 1316 := Or.inl ⟨3, by decide +kernel, rfl, rfl⟩
theorem i_L_law_1316 : Dc m_L_law 1316 2 1317 := Or.inl ⟨2, by decide +kernel, by decide, rfl⟩
theorem i_L_law_1317 : D1 m_L_law 1317 (.iadd) 1 1318 := ⟨by decide +kernel, rfl⟩
theorem i_L_law_1318 : D1 m_L_law 1318 (.iaload) 1 1319 := ⟨by decide +kernel, rfl⟩
theorem i_L_law_1319 : DV m_L_law 1319 m_X11_famine 1322 := ⟨173, by decide +kernel, w_7_6, rfl⟩
theorem i_L_law_1322 : D2 m_L_law 1322 (.if_icmp .eq 205) 205 1325 1527 := ⟨by decide +kernel, rfl, by decide⟩
theorem i_L_law_1325 : Dc m_L_law 1325 0 1326 := Or.inl ⟨0, by decide +kernel, by decide, rfl⟩
theorem i_L_law_1326 : D1 m_L_law 1326 (.ireturn) 1 1327 := ⟨by decide +kernel, rfl⟩
theorem i_L_law_1327 : Dal m_L_law 1327 1 1328 := Or.inl ⟨1, by decide +kernel, rfl, rfl⟩
theorem i_L_law_1328 : Dal m_L_law 1328 0 1329 := Or.inl ⟨0, by decide +kernel, rfl, rfl⟩
theorem i_L_law_1329 : Dil m_L_law 1329 3 1330 := Or.inl ⟨3, by decide +kernel, rfl, rfl⟩
theorem i_L_law_1330 : Dc m_L_law 1330 1 1331 := Or.inl ⟨1, by decide +kernel, by decide, rfl⟩
theorem i_L_law_1331 : D1 m_L_law 1331 (.iadd) 1 1332 := ⟨by decide +kernel, rfl⟩
theorem i_L_law_1332 : D1 m_L_law 1332 (.iaload) 1 1333 := ⟨by decide +kernel, rfl⟩
theorem i_L_law_1333 : Dal m_L_law 1333 0 1334 := Or.inl ⟨0, by decide +kernel, rfl, rfl⟩
theorem i_L_law_1334 : Dil m_L_law 1334 3 1335 := Or.inl ⟨3, by decide +kernel, rfl, rfl⟩
theorem i_L_law_1335 : Dc m_L_law 1335 2 1336 := Or.inl ⟨2, by decide +kernel, by decide, rfl⟩
theorem i_L_law_1336 : D1 m_L_law 1336 (.iadd) 1 1337 := ⟨by decide +kernel, rfl⟩
theorem i_L_law_1337 : D1 m_L_law 1337 (.iaload) 1 1338 := ⟨by decide +kernel, rfl⟩
theorem i_L_law_1338 : DV m_L_law 1338 m_X10_kindest 1341 := ⟨174, by decide +kernel, w_4_137, rfl⟩
theorem i_L_law_1341 : Dal m_L_law 1341 2 1342 := Or.inl ⟨2, by decide +kernel, rfl, rfl⟩
theorem i_L_law_1342 : Dal m_L_law 1342 0 1343 := Or.inl ⟨0, by decide +kernel, rfl, rfl⟩
theorem i_L_law_1343 : Dil m_L_law 1343 3 1344 := Or.inl ⟨3, by decide +kernel, rfl, rfl⟩
theorem i_L_law_1344 : Dc m_L_law 1344 1 1345 := Or.inl ⟨1, by decide +kernel, by decide, rfl⟩
theorem i_L_law_1345 : D1 m_L_law 1345 (.iadd) 1 1346 := ⟨by decide +kernel, rfl⟩
theorem i_L_law_1346 : D1 m_L_law 1346 (.iaload) 1 1347 := ⟨by decide +kernel, rfl⟩
theorem i_L_law_1347 : Dal m_L_law 1347 0 1348 := Or.inl ⟨0, by decide +kernel, rfl, rfl⟩
theorem i_L_law_1348 : Dil m_L_law 1348 3 1349 := Or.inl ⟨3, by decide +kernel, rfl, rfl⟩
theorem i_L_law_1349 : Dc m_L_law 1349 2 1350 := Or.inl ⟨2, by decide +kernel, by decide, rfl⟩
theorem i_L_law_1350 : D1 m_L_law 1350 (.iadd) 1 1351 := ⟨by decide +kernel, rfl⟩
theorem i_L_law_1351 : D1 m_L_law 1351 (.iaload) 1 1352 := ⟨by decide +kernel, rfl⟩
theorem i_L_law_1352 : DV m_L_law 1352 m_X11_kindest 1355 := ⟨177, by decide +kernel, w_7_14, rfl⟩
theorem i_L_law_1355 : D2 m_L_law 1355 (.if_icmp .eq 172) 172 1358 1527 := ⟨by decide +kernel, rfl, by decide⟩
theorem i_L_law_1358 : Dc m_L_law 1358 0 1359 := Or.inl ⟨0, by decide +kernel, by decide, rfl⟩
theorem i_L_law_1359 : D1 m_L_law 1359 (.ireturn) 1 1360 := ⟨by decide +kernel, rfl⟩
theorem i_L_law_1360 : Dal m_L_law 1360 1 1361 := Or.inl ⟨1, by decide +kernel, rfl, rfl⟩
theorem i_L_law_1361 : Dal m_L_law 1361 0 1362 := Or.inl ⟨0, by decide +kernel, rfl, rfl⟩
theorem i_L_law_1362 : Dil m_L_law 1362 3 1363 := Or.inl ⟨3, by decide +kernel, rfl, rfl⟩
theorem i_L_law_1363 : Dc m_L_law 1363 1 1364 := Or.inl ⟨1, by decide +kernel, by decide, rfl⟩
theorem i_L_law_1364 : D1 m_L_law 1364 (.iadd) 1 1365 := ⟨by decide +kernel, rfl⟩
theorem i_L_law_1365 : D1 m_L_law 1365 (.iaload) 1 1366 := ⟨by decide +kernel, rfl⟩
theorem i_L_law_1366 : Dal m_L_law 1366 0 1367 := Or.inl ⟨0, by decide +kernel, rfl, rfl⟩
theorem i_L_law_1367 : Dil m_L_law 1367 3 1368 := Or.inl ⟨3, by decide +kernel, rfl, rfl⟩
theorem i_L_law_1368 : Dc m_L_law 1368 2 1369 := Or.inl ⟨2, by decide +kernel, by decide, rfl⟩
theorem i_L_law_1369 : D1 m_L_law 1369 (.iadd) 1 1370 := ⟨by decide +kernel, rfl⟩
theorem i_L_law_1370 : D1 m_L_law 1370 (.iaload) 1 1371 := ⟨by decide +kernel, rfl⟩
theorem i_L_law_1371 : Dal m_L_law 1371 0 1372 := Or.inl ⟨0, by decide +kernel, rfl, rfl⟩
theorem i_L_law_1372 : Dil m_L_law 1372 3 1373 := Or.inl ⟨3, by decide +kernel, rfl, rfl⟩
theorem i_L_law_1373 : Dc m_L_law 1373 3 1374 := Or.inl ⟨3, by decide +kernel, by decide, rfl⟩
theorem i_L_law_1374 : D1 m_L_law 1374 (.iadd) 1 1375 := ⟨by decide +kernel, rfl⟩
theorem i_L_law_1375 : D1 m_L_law 1375 (.iaload) 1 1376 := ⟨by decide +kernel, rfl⟩
theorem i_L_law_1376 : Dal m_L_law 1376 0 1377 := Or.inl ⟨0, by decide +kernel, rfl, rfl⟩
theorem i_L_law_1377 : Dil m_L_law 1377 3 1378 := Or.inl ⟨3, by decide +kernel, rfl, rfl⟩
theorem i_L_law_1378 : Dc m_L_law 1378 4 1379 := Or.inl ⟨4, by decide +kernel, by decide, rfl⟩
theorem i_L_law_1379 : D1 m_L_law 1379 (.iadd) 1 1380 := ⟨by decide +kernel, rfl⟩
theorem i_L_law_1380 : D1 m_L_law 1380 (.iaload) 1 1381 := ⟨by decide +kernel, rfl⟩
theorem i_L_law_1381 : DV m_L_law 1381 m_X10_kitchens 1384 := ⟨178, by decide +kernel, w_4_141, rfl⟩
theorem i_L_law_1384 : Dal m_L_law 1384 2 1385 := Or.inl ⟨2, by decide +kernel, rfl, rfl⟩
theorem i_L_law_1385 : Dal m_L_law 1385 0 1386 := Or.inl ⟨0, by decide +kernel, rfl, rfl⟩
theorem i_L_law_1386 : Dil m_L_law 1386 3 1387 := Or.inl ⟨3, by decide +kernel, rfl, rfl⟩
theorem i_L_law_1387 : Dc m_L_law 1387 1 1388 := Or.inl ⟨1, by decide +kernel, by decide, rfl⟩
theorem i_L_law_1388 : D1 m_L_law 1388 (.iadd) 1 1389 := ⟨by decide +kernel, rfl⟩
theorem i_L_law_1389 : D1 m_L_law 1389 (.iaload) 1 1390 := ⟨by decide +kernel, rfl⟩
theorem i_L_law_1390 : Dal m_L_law 1390 0 1391 := Or.inl ⟨0, by decide +kernel, rfl, rfl⟩
theorem i_L_law_1391 : Dil m_L_law 1391 3 1392 := Or.inl ⟨3, by decide +kernel, rfl, rfl⟩
theorem i_L_law_1392 : Dc m_L_law 1392 2 1393 := Or.inl ⟨2, by decide +kernel, by decide, rfl⟩
theorem i_L_law_1393 : D1 m_L_law 1393 (.iadd) 1 1394 := ⟨by decide +kernel, rfl⟩
theorem i_L_law_1394 : D1 m_L_law 1394 (.iaload) 1 1395 := ⟨by decide +kernel, rfl⟩
theorem i_L_law_1395 : Dal m_L_law 1395 0 1396 := Or.inl ⟨0, by decide +kernel, rfl, rfl⟩
theorem i_L_law_1396 : Dil m_L_law 1396 3 1397 := Or.inl ⟨3, by decide +kernel, rfl, rfl⟩
theorem i_L_law_1397 : Dc m_L_law 1397 3 1398 := Or.inl ⟨3, by decide +kernel, by decide, rfl⟩
theorem i_L_law_1398 : D1 m_L_law 1398 (.iadd) 1 1399 := ⟨by decide +kernel, rfl⟩
theorem i_L_law_1399 : D1 m_L_law 1399 (.iaload) 1 1400 := ⟨by decide +kernel, rfl⟩
theorem i_L_law_1400 : Dal m_L_law 1400 0 1401 := Or.inl ⟨0, by decide +kernel, rfl, rfl⟩
theorem i_L_law_1401 : Dil m_L_law 1401 3 1402 := Or.inl ⟨3, by decide +kernel, rfl, rfl⟩
theorem i_L_law_1402 : Dc m_L_law 1402 4 1403 := Or.inl ⟨4, by decide +kernel, by decide, rfl⟩
theorem i_L_law_1403 : D1 m_L_law 1403 (.iadd) 1 1404 := ⟨by decide +kernel, rfl⟩
theorem i_L_law_1404 : D1 m_L_law 1404 (.iaload) 1 1405 := ⟨by decide +kernel, rfl⟩
theorem i_L_law_1405 : DV m_L_law 1405 m_X11_kitchens 1408 := ⟨182, by decide +kernel, w_7_18, rfl⟩
theorem i_L_law_1408 : D2 m_L_law 1408 (.if_icmp .eq 119) 119 1411 1527 := ⟨by decide +kernel, rfl, by decide⟩
theorem i_L_law_1411 : Dc m_L_law 1411 0 1412 := Or.inl ⟨0, by decide +kernel, by decide, rfl⟩
theorem i_L_law_1412 : D1 m_L_law 1412 (.ireturn) 1 1413 := ⟨by decide +kernel, rfl⟩
theorem i_L_law_1413 : Dal m_L_law 1413 1 1414 := Or.inl ⟨1, by decide +kernel, rfl, rfl⟩
theorem i_L_law_1414 : DV m_L_law 1414 m_X10_asked 1417 := ⟨183, by decide +kernel, w_4_162, rfl⟩
theorem i_L_law_1417 : Dal m_L_law 1417 2 1418 := Or.inl ⟨2, by decide +kernel, rfl, rfl⟩
theorem i_L_law_1418 : DV m_L_law 1418 m_X11_asked 1421 := ⟨186, by decide +kernel, w_7_26, rfl⟩
theorem i_L_law_1421 : D2 m_L_law 1421 (.if_icmp .eq 106) 106 1424 1527 := ⟨by decide +kernel, rfl, by decide⟩
theorem i_L_law_1424 : Dc m_L_law 1424 0 1425 := Or.inl ⟨0, by decide +kernel, by decide, rfl⟩
theorem i_L_law_1425 : D1 m_L_law 1425 (.ireturn) 1 1426 := ⟨by decide +kernel, rfl⟩
theorem i_L_law_1426 : Dal m_L_law 1426 1 1427 := Or.inl ⟨1, by decide +kernel, rfl, rfl⟩
theorem i_L_law_1427 : DV m_L_law 1427 m_X10_upper 1430 := ⟨187, by decide +kernel, w_4_166, rfl⟩
theorem i_L_law_1430 : Dal m_L_law 1430 2 1431 := Or.inl ⟨2, by decide +kernel, rfl, rfl⟩
theorem i_L_law_1431 : DV m_L_law 1431 m_X11_upper 1434 := ⟨191, by decide +kernel, w_7_30, rfl⟩
theorem i_L_law_1434 : D1 m_L_law 1434 (.lcmp) 1 1435 := ⟨by decide +kernel, rfl⟩
theorem i_L_law_1435 : D2 m_L_law 1435 (.ifCond .eq 92) 92 1438 1527 := ⟨by decide +kernel, rfl, by decide⟩
theorem i_L_law_1438 : Dc m_L_law 1438 0 1439 := Or.inl ⟨0, by decide +kernel, by decide, rfl⟩
theorem i_L_law_1439 : D1 m_L_law 1439 (.ireturn) 1 1440 := ⟨by decide +kernel, rfl⟩
theorem i_L_law_1440 : Dal m_L_law 1440 1 1441 := Or.inl ⟨1, by decide +kernel, rfl, rfl⟩
theorem i_L_law_1441 : DV m_L_law 1441 m_X10_lower 1444 := ⟨192, by decide +kernel, w_4_170, rfl⟩
theorem i_L_law_1444 : Dal m_L_law 1444 2 1445 := Or.inl ⟨2, by decide +kernel, rfl, rfl⟩
theorem i_L_law_1445 : DV m_L_law 1445 m_X11_lower 1448 := ⟨195, by decide +kernel, w_7_34, rfl⟩
theorem i_L_law_1448 : D1 m_L_law 1448 (.lcmp) 1 1449 := ⟨by decide +kernel, rfl⟩
theorem i_L_law_1449 : D2 m_L_law 1449 (.ifCond .eq 78) 78 1452 1527 := ⟨by decide +kernel, rfl, by decide⟩
theorem i_L_law_1452 : Dc m_L_law 1452 0 1453 := Or.inl ⟨0, by decide +kernel, by decide, rfl⟩
theorem i_L_law_1453 : D1 m_L_law 1453 (.ireturn) 1 1454 := ⟨by decide +kernel, rfl⟩
theorem i_L_law_1454 : Dal m_L_law 1454 1 1455 := Or.inl ⟨1, by decide +kernel, rfl, rfl⟩
theorem i_L_law_1455 : Dal m_L_law 1455 0 1456 := Or.inl ⟨0, by decide +kernel, rfl, rfl⟩
theorem i_L_law_1456 : Dil m_L_law 1456 3 1457 := Or.inl ⟨3, by decide +kernel, rfl, rfl⟩
theorem i_L_law_1457 : Dc m_L_law 1457 1 1458 := Or.inl ⟨1, by decide +kernel, by decide, rfl⟩
theorem i_L_law_1458 : D1 m_L_law 1458 (.iadd) 1 1459 := ⟨by decide +kernel, rfl⟩
theorem i_L_law_1459 : D1 m_L_law 1459 (.iaload) 1 1460 := ⟨by decide +kernel, rfl⟩
theorem i_L_law_1460 : DV m_L_law 1460 m_X10_count 1463 := ⟨196, by decide +kernel, w_4_174, rfl⟩
theorem i_L_law_1463 : Dal m_L_law 1463 2 1464 := Or.inl ⟨2, by decide +kernel, rfl, rfl⟩
theorem i_L_law_1464 : Dal m_L_law 1464 0 1465 := Or.inl ⟨0, by decide +kernel, rfl, rfl⟩
theorem i_L_law_1465 : Dil m_L_law 1465 3 1466 := Or.inl ⟨3, by decide +kernel, rfl, rfl⟩
theorem i_L_law_1466 : Dc m_L_law 1466 1 1467 := Or.inl ⟨1, by decide +kernel, by decide, rfl⟩
theorem i_L_law_1467 : D1 m_L_law 1467 (.iadd) 1 1468 := ⟨by decide +kernel, rfl⟩
theorem i_L_law_1468 : D1 m_L_law 1468 (.iaload) 1 1469 := ⟨by decide +kernel, rfl⟩
theorem i_L_law_1469 : DV m_L_law 1469 m_X11_count 1472 := ⟨199, by decide +kernel, w_7_38, rfl⟩
theorem i_L_law_1472 : D2 m_L_law 1472 (.if_icmp .eq 55) 55 1475 1527 := ⟨by decide +kernel, rfl, by decide⟩
theorem i_L_law_1475 : Dc m_L_law 1475 0 1476 := Or.inl ⟨0, by decide +kernel, by decide, rfl⟩
theorem i_L_law_1476 : D1 m_L_law 1476 (.ireturn) 1 1477 := ⟨by decide +kernel, rfl⟩
theorem i_L_law_1477 : Dal m_L_law 1477 1 1478 := Or.inl ⟨1, by decide +kernel, rfl, rfl⟩
theorem i_L_law_1478 : DV m_L_law 1478 m_X10_finding 1481 := ⟨200, by decide +kernel, w_4_189, rfl⟩
theorem i_L_law_1481 : Dal m_L_law 1481 2 1482 := Or.inl ⟨2, by decide +kernel, rfl, rfl⟩
theorem i_L_law_1482 : DV m_L_law 1482 m_X11_finding 1485 := ⟨203, by decide +kernel, w_7_46, rfl⟩
theorem i_L_law_1485 : D2 m_L_law 1485 (.if_icmp .eq 42) 42 1488 1527 := ⟨by decide +kernel, rfl, by decide⟩
theorem i_L_law_1488 : Dc m_L_law 1488 0 1489 := Or.inl ⟨0, by decide +kernel, by decide, rfl⟩
theorem i_L_law_1489 : D1 m_L_law 1489 (.ireturn) 1 1490 := ⟨by decide +kernel, rfl⟩
theorem i_L_law_1490 : Dal m_L_law 1490 1 1491 := Or.inl ⟨1, by decide +kernel, rfl, rfl⟩
theorem i_L_law_1491 : Dal m_L_law 1491 0 1492 := Or.inl ⟨0, by decide +kernel, rfl, rfl⟩
theorem i_L_law_1492 : Dil m_L_law 1492 3 1493 := Or.inl ⟨3, by decide +kernel, rfl, rfl⟩
theorem i_L_law_1493 : Dc m_L_law 1493 1 1494 := Or.inl ⟨1, by decide +kernel, by decide, rfl⟩
theorem i_L_law_1494 : D1 m_L_law 1494 (.iadd) 1 1495 := ⟨by decide +kernel, rfl⟩
theorem i_L_law_1495 : D1 m_L_law 1495 (.iaload) 1 1496 := ⟨by decide +kernel, rfl⟩
theorem i_L_law_1496 : DV m_L_law 1496 m_X10_findings 1499 := ⟨204, by decide +kernel, w_4_193, rfl⟩
theorem i_L_law_1499 : Dal m_L_law 1499 2 1500 := Or.inl ⟨2, by decide +kernel, rfl, rfl⟩
theorem i_L_law_1500 : Dal m_L_law 1500 0 1501 := Or.inl ⟨0, by decide +kernel, rfl, rfl⟩
theorem i_L_law_1501 : Dil m_L_law 1501 3 1502 := Or.inl ⟨3, by decide +kernel, rfl, rfl⟩
theorem i_L_law_1502 : Dc m_L_law 1502 1 1503 := Or.inl ⟨1, by decide +kernel, by decide, rfl⟩
theorem i_L_law_1503 : D1 m_L_law 1503 (.iadd) 1 1504 := ⟨by decide +kernel, rfl⟩
theorem i_L_law_1504 : D1 m_L_law 1504 (.iaload) 1 1505 := ⟨by decide +kernel, rfl⟩
theorem i_L_law_1505 : DV m_L_law 1505 m_X11_findings 1508 := ⟨207, by decide +kernel, w_7_50, rfl⟩
theorem i_L_law_1508 : D2 m_L_law 1508 (.if_icmp .eq 19) 19 1511 1527 := ⟨by decide +kernel, rfl, by decide⟩
theorem i_L_law_1511 : Dc m_L_law 1511 0 1512 := Or.inl ⟨0, by decide +kernel, by decide, rfl⟩
theorem i_L_law_1512 : D1 m_L_law 1512 (.ireturn) 1 1513 := ⟨by decide +kernel, rfl⟩
theorem i_L_law_1513 : Dal m_L_law 1513 1 1514 := Or.inl ⟨1, by decide +kernel, rfl, rfl⟩
theorem i_L_law_1514 : DV m_L_law 1514 m_X10_digest 1517 := ⟨208, by decide +kernel, w_4_197, rfl⟩
theorem i_L_law_1517 : Dal m_L_law 1517 2 1518 := Or.inl ⟨2, by decide +kernel, rfl, rfl⟩
theorem i_L_law_1518 : DV m_L_law 1518 m_X11_digest 1521 := ⟨211, by decide +kernel, w_7_54, rfl⟩
theorem i_L_law_1521 : D1 m_L_law 1521 (.lcmp) 1 1522 := ⟨by decide +kernel, rfl⟩
theorem i_L_law_1522 : D2 m_L_law 1522 (.ifCond .eq 5) 5 1525 1527 := ⟨by decide +kernel, rfl, by decide⟩
theorem i_L_law_1525 : Dc m_L_law 1525 0 1526 := Or.inl ⟨0, by decide +kernel, by decide, rfl⟩
theorem i_L_law_1526 : D1 m_L_law 1526 (.ireturn) 1 1527 := ⟨by decide +kernel, rfl⟩
theorem i_L_law_1527 : D1 m_L_law 1527 (.iinc 3 6) 3 1530 := ⟨by decide +kernel, rfl⟩
theorem i_L_law_1530 : D2 m_L_law 1530 (.goto (-1512)) (-1512) 1533 18 := ⟨by decide +kernel, rfl, by decide⟩
theorem i_L_law_1533 : Dc m_L_law 1533 1 1534 := Or.inl ⟨1, by decide +kernel, by decide, rfl⟩
theorem i_L_law_1534 : D1 m_L_law 1534 (.ireturn) 1 1535 := ⟨by decide +kernel, rfl⟩
