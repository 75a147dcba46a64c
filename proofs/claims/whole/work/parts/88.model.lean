/-! the constructor of the reference -/
theorem m_ins_X7 : Cond.instantiable RX7 30 ∈ xtbl := xtb (List.mem_of_getElem? (i := 1048) (by decide +kernel)) (by decide +kernel)
theorem m_kl_X7_37 : Cond.classLink RX7 37 "java/lang/String" ∈ xtbl := xtb (List.mem_of_getElem? (i := 1053) (by decide +kernel)) (by decide +kernel)
theorem dX7_init_0 : decode cX7_init 0 = .ok (.aload_n 0, 1) := by decide +kernel
theorem dX7_init_1 : decode cX7_init 1 = .ok (.invokespecial 1, 3) := by decide +kernel
theorem dX7_init_4 : decode cX7_init 4 = .ok (.aload_n 0, 1) := by decide +kernel
theorem dX7_init_5 : decode cX7_init 5 = .ok (.sipush 177, 3) := by decide +kernel
theorem dX7_init_8 : decode cX7_init 8 = .ok (.newarray .int, 2) := by decide +kernel
theorem dX7_init_10 : decode cX7_init 10 = .ok (.putfield 9, 3) := by decide +kernel
theorem dX7_init_13 : decode cX7_init 13 = .ok (.aload_n 0, 1) := by decide +kernel
theorem dX7_init_14 : decode cX7_init 14 = .ok (.sipush 177, 3) := by decide +kernel
theorem dX7_init_17 : decode cX7_init 17 = .ok (.newarray .int, 2) := by decide +kernel
theorem dX7_init_19 : decode cX7_init 19 = .ok (.putfield 13, 3) := by decide +kernel
theorem dX7_init_22 : decode cX7_init 22 = .ok (.aload_n 0, 1) := by decide +kernel
theorem dX7_init_23 : decode cX7_init 23 = .ok (.sipush 177, 3) := by decide +kernel
theorem dX7_init_26 : decode cX7_init 26 = .ok (.newarray .int, 2) := by decide +kernel
theorem dX7_init_28 : decode cX7_init 28 = .ok (.putfield 16, 3) := by decide +kernel
theorem dX7_init_31 : decode cX7_init 31 = .ok (.aload_n 0, 1) := by decide +kernel
theorem dX7_init_32 : decode cX7_init 32 = .ok (.bipush 8, 2) := by decide +kernel
theorem dX7_init_34 : decode cX7_init 34 = .ok (.newarray .int, 2) := by decide +kernel
theorem dX7_init_36 : decode cX7_init 36 = .ok (.putfield 19, 3) := by decide +kernel
theorem dX7_init_39 : decode cX7_init 39 = .ok (.aload_n 0, 1) := by decide +kernel
theorem dX7_init_40 : decode cX7_init 40 = .ok (.bipush 100, 2) := by decide +kernel
theorem dX7_init_42 : decode cX7_init 42 = .ok (.newarray .int, 2) := by decide +kernel
theorem dX7_init_44 : decode cX7_init 44 = .ok (.putfield 22, 3) := by decide +kernel
theorem dX7_init_47 : decode cX7_init 47 = .ok (.aload_n 0, 1) := by decide +kernel
theorem dX7_init_48 : decode cX7_init 48 = .ok (.sipush 177, 3) := by decide +kernel
theorem dX7_init_51 : decode cX7_init 51 = .ok (.newarray .int, 2) := by decide +kernel
theorem dX7_init_53 : decode cX7_init 53 = .ok (.putfield 25, 3) := by decide +kernel
theorem dX7_init_56 : decode cX7_init 56 = .ok (.aload_n 0, 1) := by decide +kernel
theorem dX7_init_57 : decode cX7_init 57 = .ok (.sipush 256, 3) := by decide +kernel
theorem dX7_init_60 : decode cX7_init 60 = .ok (.newarray .int, 2) := by decide +kernel
theorem dX7_init_62 : decode cX7_init 62 = .ok (.putfield 28, 3) := by decide +kernel
theorem dX7_init_65 : decode cX7_init 65 = .ok (.aload_n 0, 1) := by decide +kernel
theorem dX7_init_66 : decode cX7_init 66 = .ok (.sipush 256, 3) := by decide +kernel
theorem dX7_init_69 : decode cX7_init 69 = .ok (.newarray .int, 2) := by decide +kernel
theorem dX7_init_71 : decode cX7_init 71 = .ok (.putfield 31, 3) := by decide +kernel
theorem dX7_init_74 : decode cX7_init 74 = .ok (.aload_n 0, 1) := by decide +kernel
theorem dX7_init_75 : decode cX7_init 75 = .ok (.bipush 120, 2) := by decide +kernel
theorem dX7_init_77 : decode cX7_init 77 = .ok (.newarray .int, 2) := by decide +kernel
theorem dX7_init_79 : decode cX7_init 79 = .ok (.putfield 34, 3) := by decide +kernel
theorem dX7_init_82 : decode cX7_init 82 = .ok (.aload_n 0, 1) := by decide +kernel
theorem dX7_init_83 : decode cX7_init 83 = .ok (.bipush 7, 2) := by decide +kernel
theorem dX7_init_85 : decode cX7_init 85 = .ok (.anewarray 37, 3) := by decide +kernel
theorem dX7_init_88 : decode cX7_init 88 = .ok (.dup, 1) := by decide +kernel
theorem dX7_init_89 : decode cX7_init 89 = .ok (.iconst 0, 1) := by decide +kernel
theorem dX7_init_90 : decode cX7_init 90 = .ok (.ldc 39, 2) := by decide +kernel
theorem dX7_init_92 : decode cX7_init 92 = .ok (.aastore, 1) := by decide +kernel
theorem dX7_init_93 : decode cX7_init 93 = .ok (.dup, 1) := by decide +kernel
theorem dX7_init_94 : decode cX7_init 94 = .ok (.iconst 1, 1) := by decide +kernel
theorem dX7_init_95 : decode cX7_init 95 = .ok (.ldc 41, 2) := by decide +kernel
theorem dX7_init_97 : decode cX7_init 97 = .ok (.aastore, 1) := by decide +kernel
theorem dX7_init_98 : decode cX7_init 98 = .ok (.dup, 1) := by decide +kernel
theorem dX7_init_99 : decode cX7_init 99 = .ok (.iconst 2, 1) := by decide +kernel
theorem dX7_init_100 : decode cX7_init 100 = .ok (.ldc 43, 2) := by decide +kernel
theorem dX7_init_102 : decode cX7_init 102 = .ok (.aastore, 1) := by decide +kernel
theorem dX7_init_103 : decode cX7_init 103 = .ok (.dup, 1) := by decide +kernel
theorem dX7_init_104 : decode cX7_init 104 = .ok (.iconst 3, 1) := by decide +kernel
theorem dX7_init_105 : decode cX7_init 105 = .ok (.ldc 45, 2) := by decide +kernel
theorem dX7_init_107 : decode cX7_init 107 = .ok (.aastore, 1) := by decide +kernel
theorem dX7_init_108 : decode cX7_init 108 = .ok (.dup, 1) := by decide +kernel
theorem dX7_init_109 : decode cX7_init 109 = .ok (.iconst 4, 1) := by decide +kernel
theorem dX7_init_110 : decode cX7_init 110 = .ok (.ldc 47, 2) := by decide +kernel
theorem dX7_init_112 : decode cX7_init 112 = .ok (.aastore, 1) := by decide +kernel
theorem dX7_init_113 : decode cX7_init 113 = .ok (.dup, 1) := by decide +kernel
theorem dX7_init_114 : decode cX7_init 114 = .ok (.iconst 5, 1) := by decide +kernel
theorem dX7_init_115 : decode cX7_init 115 = .ok (.ldc 49, 2) := by decide +kernel
theorem dX7_init_117 : decode cX7_init 117 = .ok (.aastore, 1) := by decide +kernel
theorem dX7_init_118 : decode cX7_init 118 = .ok (.dup, 1) := by decide +kernel
theorem dX7_init_119 : decode cX7_init 119 = .ok (.bipush 6, 2) := by decide +kernel
theorem dX7_init_121 : decode cX7_init 121 = .ok (.ldc 51, 2) := by decide +kernel
theorem dX7_init_123 : decode cX7_init 123 = .ok (.aastore, 1) := by decide +kernel
theorem dX7_init_124 : decode cX7_init 124 = .ok (.putfield 53, 3) := by decide +kernel
theorem dX7_init_127 : decode cX7_init 127 = .ok (.aload_n 0, 1) := by decide +kernel
theorem dX7_init_128 : decode cX7_init 128 = .ok (.sipush 480, 3) := by decide +kernel
theorem dX7_init_131 : decode cX7_init 131 = .ok (.newarray .int, 2) := by decide +kernel
theorem dX7_init_133 : decode cX7_init 133 = .ok (.putfield 57, 3) := by decide +kernel
theorem dX7_init_136 : decode cX7_init 136 = .ok (.aload_n 0, 1) := by decide +kernel
theorem dX7_init_137 : decode cX7_init 137 = .ok (.iconst 4, 1) := by decide +kernel
theorem dX7_init_138 : decode cX7_init 138 = .ok (.newarray .int, 2) := by decide +kernel
theorem dX7_init_140 : decode cX7_init 140 = .ok (.putfield 60, 3) := by decide +kernel
theorem dX7_init_143 : decode cX7_init 143 = .ok (.aload_n 0, 1) := by decide +kernel
theorem dX7_init_144 : decode cX7_init 144 = .ok (.iconst 4, 1) := by decide +kernel
theorem dX7_init_145 : decode cX7_init 145 = .ok (.newarray .int, 2) := by decide +kernel
theorem dX7_init_147 : decode cX7_init 147 = .ok (.putfield 63, 3) := by decide +kernel
theorem dX7_init_150 : decode cX7_init 150 = .ok (.aload_n 0, 1) := by decide +kernel
theorem dX7_init_151 : decode cX7_init 151 = .ok (.sipush 160, 3) := by decide +kernel
theorem dX7_init_154 : decode cX7_init 154 = .ok (.newarray .int, 2) := by decide +kernel
theorem dX7_init_156 : decode cX7_init 156 = .ok (.putfield 66, 3) := by decide +kernel
theorem dX7_init_159 : decode cX7_init 159 = .ok (.aload_n 0, 1) := by decide +kernel
theorem dX7_init_160 : decode cX7_init 160 = .ok (.bipush 40, 2) := by decide +kernel
theorem dX7_init_162 : decode cX7_init 162 = .ok (.newarray .int, 2) := by decide +kernel
theorem dX7_init_164 : decode cX7_init 164 = .ok (.putfield 69, 3) := by decide +kernel
theorem dX7_init_167 : decode cX7_init 167 = .ok (.aload_n 0, 1) := by decide +kernel
theorem dX7_init_168 : decode cX7_init 168 = .ok (.getfield 9, 3) := by decide +kernel
theorem dX7_init_171 : decode cX7_init 171 = .ok (.iconst 2, 1) := by decide +kernel
theorem dX7_init_172 : decode cX7_init 172 = .ok (.iconst 1, 1) := by decide +kernel
theorem dX7_init_173 : decode cX7_init 173 = .ok (.iastore, 1) := by decide +kernel
theorem dX7_init_174 : decode cX7_init 174 = .ok (.iconst 0, 1) := by decide +kernel
theorem dX7_init_175 : decode cX7_init 175 = .ok (.istore_n 1, 1) := by decide +kernel
theorem dX7_init_176 : decode cX7_init 176 = .ok (.iload_n 1, 1) := by decide +kernel
theorem dX7_init_177 : decode cX7_init 177 = .ok (.iconst 1, 1) := by decide +kernel
theorem dX7_init_178 : decode cX7_init 178 = .ok (.iadd, 1) := by decide +kernel
theorem dX7_init_179 : decode cX7_init 179 = .ok (.bipush 10, 2) := by decide +kernel
theorem dX7_init_181 : decode cX7_init 181 = .ok (.if_icmp .ge 19, 3) := by decide +kernel
theorem dX7_init_184 : decode cX7_init 184 = .ok (.aload_n 0, 1) := by decide +kernel
theorem dX7_init_185 : decode cX7_init 185 = .ok (.iload_n 1, 1) := by decide +kernel
theorem dX7_init_186 : decode cX7_init 186 = .ok (.iload_n 1, 1) := by decide +kernel
theorem dX7_init_187 : decode cX7_init 187 = .ok (.iconst 1, 1) := by decide +kernel
theorem dX7_init_188 : decode cX7_init 188 = .ok (.iadd, 1) := by decide +kernel
theorem dX7_init_189 : decode cX7_init 189 = .ok (.iconst 1, 1) := by decide +kernel
theorem dX7_init_190 : decode cX7_init 190 = .ok (.invokevirtual 72, 3) := by decide +kernel
theorem dX7_init_193 : decode cX7_init 193 = .ok (.pop, 1) := by decide +kernel
theorem dX7_init_194 : decode cX7_init 194 = .ok (.iinc 1 1, 3) := by decide +kernel
theorem dX7_init_197 : decode cX7_init 197 = .ok (.goto (-21), 3) := by decide +kernel
theorem dX7_init_200 : decode cX7_init 200 = .ok (.iconst 0, 1) := by decide +kernel
theorem dX7_init_201 : decode cX7_init 201 = .ok (.istore_n 1, 1) := by decide +kernel
theorem dX7_init_202 : decode cX7_init 202 = .ok (.iload_n 1, 1) := by decide +kernel
theorem dX7_init_203 : decode cX7_init 203 = .ok (.bipush 10, 2) := by decide +kernel
theorem dX7_init_205 : decode cX7_init 205 = .ok (.if_icmp .ge 18, 3) := by decide +kernel
theorem dX7_init_208 : decode cX7_init 208 = .ok (.aload_n 0, 1) := by decide +kernel
theorem dX7_init_209 : decode cX7_init 209 = .ok (.getfield 9, 3) := by decide +kernel
theorem dX7_init_212 : decode cX7_init 212 = .ok (.iconst 3, 1) := by decide +kernel
theorem dX7_init_213 : decode cX7_init 213 = .ok (.iload_n 1, 1) := by decide +kernel
theorem dX7_init_214 : decode cX7_init 214 = .ok (.iadd, 1) := by decide +kernel
theorem dX7_init_215 : decode cX7_init 215 = .ok (.iconst (-1), 1) := by decide +kernel
theorem dX7_init_216 : decode cX7_init 216 = .ok (.iastore, 1) := by decide +kernel
theorem dX7_init_217 : decode cX7_init 217 = .ok (.iinc 1 1, 3) := by decide +kernel
theorem dX7_init_220 : decode cX7_init 220 = .ok (.goto (-18), 3) := by decide +kernel
theorem dX7_init_223 : decode cX7_init 223 = .ok (.return_, 1) := by decide +kernel
theorem ac_S {D : va_G} {cl : List vw_C} {tys : List (ClassId × FieldType)} {s : State} {i j : Nat} {a c : ClassId} (hK : va_K D cl tys s) (hi : tys[i]? = some (a, .object "java/lang/String")) (hj : tys[j]? = some (c, .object "java/lang/String")) : a = c := by
  obtain ⟨_, _, _, _, _, k1⟩ := (hK.2 i _ hi).2
  obtain ⟨_, _, _, _, _, k2⟩ := (hK.2 j _ hj).2
  exact Option.some.inj (k1.symm.trans k2)
theorem st_Any {k : Nat} {A : Nat → Prop} {s : State} {H : Heap} (h : va_O "java/lang/String" k A s s.heap) (hq : ∀ a : Nat, a < s.heap.size → ¬ A a → H[a]? = s.heap[a]?) : va_Any "java/lang/String" s H k := by
  obtain ⟨cell, h1, h2, h3, -⟩ := h.kept hq
  obtain ⟨kC, hkC, hn⟩ := Vm.findClass_spec h3
  exact ⟨cell, h1, h2, ⟨kC, hkC⟩, fun comp h9 => by
    cases h3.symm.trans h9
    exact va_asg _ _⟩
theorem va_O.wk {E : String} {t : Nat} {A B : Nat → Prop} {U : State} {H : Heap} (hAB : ∀ q, B q → A q) (h : va_O E t A U H) : va_O E t B U H := by
  obtain ⟨cell, h1, h2, h3, h4⟩ := h
  exact ⟨cell, h1, h2, h3, fun z => h4 (hAB _ z)⟩
theorem va_OF.wk {o n d : String} {v : Value} {t : Nat} {A B : Nat → Prop} {U : State} {H : Heap} (hAB : ∀ q, B q → A q) (h : va_OF o n d v t A U H) : va_OF o n d v t B U H := by
  obtain ⟨cf, k, i, f, cell, h1, h2, h3, h4, h5, h6⟩ := h
  exact ⟨cf, k, i, f, cell, h1, h2, h3, h4, h5, fun z => h6 (hAB _ z)⟩
theorem va_T.wk {ty : FieldType} {t N : Nat} {f : Nat → Value} {A B : Nat → Prop} {U : State} {H : Heap} (hAB : ∀ q, B q → A q) (h : va_T ty t N f A U H) : va_T ty t N f B U H := by
  obtain ⟨cell, h1, h2, h3, h4, h5, h6, h7⟩ := h
  exact ⟨cell, h1, h2, h3, h4, h5, h6, fun z => h7 (hAB _ z)⟩
theorem va_Z.wk {C n d : String} {v : Value} {A B : Nat → Prop} {U : State} {H : Heap} (hAB : ∀ q, B q → A q) (h : va_Z C n d v A U H) : va_Z C n d v B U H := by
  obtain ⟨cf, kf, fi, f, a, cell, h1, h2, h3, h4, h5, h6, h7, h8⟩ := h
  exact ⟨cf, kf, fi, f, a, cell, h1, h2, h3, h4, h5, h6, h7, fun z => h8 (hAB _ z)⟩
theorem va_Zq.wk {C n d : String} {A B : Nat → Prop} {U : State} {H : Heap} (hAB : ∀ q, B q → A q) (h : va_Zq C n d A U H) : va_Zq C n d B U H := by
  rcases h with h | ⟨t, h⟩
  · exact Or.inl (h.wk hAB)
  · exact Or.inr ⟨t, h.wk hAB⟩
theorem xStr.wk {ki vi : Nat → Nat} {A B : Nat → Prop} {U : State} (hAB : ∀ q, B q → A q) (h : xStr ki vi A U) : xStr ki vi B U := by
  refine ⟨fun i hi => ?_, h.2.1.wk hAB, h.2.2.wk hAB⟩
  obtain ⟨h1, h2, h3, h4, h5⟩ := h.1 i hi
  exact ⟨h1, h2.wk hAB, h3.wk hAB, h4.wk hAB, h5.wk hAB⟩
/-- the ways among the places up to i, as the reference lays them -/
def mA (i : Nat) : xMem := fun k => if k = 1 then (fun j => if j = 2 then 1 else if (13 ≤ j ∧ j < 113) ∧ ((j - 13) / 10 - (j - 13) % 10 = 1 ∨ (j - 13) % 10 - (j - 13) / 10 = 1) ∧ (j - 13) / 10 ≤ (i : Int) ∧ (j - 13) % 10 ≤ (i : Int) then 1 else 0) else zRw
theorem mA_R (i : Nat) : xR (mA i) := by
  intro k j
  unfold mA
  split
  · dsimp only
    split
    · decide
    · split <;> decide
  · show inR 0
    decide
theorem mA_1 {i : Nat} (hi : i < 9) : lyM (mA i) (i : Int) ((i : Int) + 1) 1 = mA (i + 1) := by
  funext k j
  unfold lyM up
  by_cases h1 : k = 1
  · subst h1
    rw [upr_s, upr_s, upr_n (by decide)]
    unfold ur mA
    rw [if_pos rfl, if_pos rfl]
    by_cases a1 : j = 13 + 10 * ((i : Int) + 1) + i
    · rw [if_pos a1, if_neg (by omega), if_pos (by omega)]
    rw [if_neg a1]
    by_cases a2 : j = 13 + 10 * (i : Int) + (i + 1)
    · rw [if_pos a2, if_neg (by omega), if_pos (by omega)]
    rw [if_neg a2]
    by_cases a3 : j = 2
    · rw [if_pos a3, if_pos a3]
    rw [if_neg a3, if_neg a3]
    by_cases a4 : (13 ≤ j ∧ j < 113) ∧ ((j - 13) / 10 - (j - 13) % 10 = 1 ∨ (j - 13) % 10 - (j - 13) / 10 = 1) ∧ (j - 13) / 10 ≤ (i : Int) ∧ (j - 13) % 10 ≤ (i : Int)
    · rw [if_pos a4, if_pos (by omega)]
    · rw [if_neg a4, if_neg (by omega)]
  · rw [upr_n h1, upr_n h1]
    by_cases h0 : k = 0
    · subst h0
      rw [upr_s]
      unfold ur
      by_cases a1 : j = 6
      · rw [if_pos a1]; rfl
      · rw [if_neg a1]; rfl
    · rw [upr_n h0]
      unfold mA
      rw [if_neg h1, if_neg h1]
def mB (i : Nat) : xMem := fun k => if k = 1 then (fun j => if j = 2 then 1 else if 3 ≤ j ∧ j < 3 + (i : Int) then -1 else if 13 ≤ j ∧ j < 113 then lwL (j - 13) else 0) else zRw
theorem mB_R (i : Nat) : xR (mB i) := by
  intro k j
  unfold mB
  split
  · dsimp only
    split
    · decide
    split
    · decide
    split
    · have := lwL_R (j - 13)
      unfold inR
      omega
    · decide
  · show inR 0
    decide
theorem mA_B : mA 9 = mB 0 := by
  funext k j
  unfold mA mB
  by_cases h1 : k = 1
  · rw [if_pos h1, if_pos h1]
    by_cases a1 : j = 2
    · rw [if_pos a1, if_pos a1]
    rw [if_neg a1, if_neg a1, if_neg (show ¬ (3 ≤ j ∧ j < 3 + ((0 : Nat) : Int)) by omega)]
    by_cases a2 : 13 ≤ j ∧ j < 113
    · rw [if_pos a2]
      unfold lwL
      by_cases a3 : (j - 13) / 10 - (j - 13) % 10 = 1 ∨ (j - 13) % 10 - (j - 13) / 10 = 1
      · rw [if_pos (by omega), if_pos (by omega)]
      · rw [if_neg (by omega), if_neg (by omega)]
    · rw [if_neg a2, if_neg (by omega)]
  · rw [if_neg h1, if_neg h1]
theorem mB_1 {i : Nat} (hi : i < 10) : up (mB i) 1 ((3 + i : Nat) : Int) (-1) = mB (i + 1) := by
  funext k j
  unfold up
  by_cases h1 : k = 1
  · subst h1
    rw [upr_s]
    unfold ur mB
    rw [if_pos rfl, if_pos rfl]
    by_cases a1 : j = ((3 + i : Nat) : Int)
    · rw [if_pos a1, if_neg (by omega), if_pos (by omega)]
    rw [if_neg a1]
    by_cases a2 : j = 2
    · rw [if_pos a2, if_pos a2]
    rw [if_neg a2, if_neg a2]
    by_cases a3 : 3 ≤ j ∧ j < 3 + (i : Int)
    · rw [if_pos a3, if_pos (by omega)]
    · rw [if_neg a3, if_neg (show ¬ (3 ≤ j ∧ j < 3 + ((i + 1 : Nat) : Int)) by omega)]
  · rw [upr_n h1]
    unfold mB
    rw [if_neg h1, if_neg h1]
theorem mB_N : mB 10 = N0 := by
  funext k j
  unfold mB N0
  by_cases h1 : k = 1
  · rw [if_pos h1, if_pos h1]
    by_cases a2 : j = 2
    · rw [if_pos a2, if_pos a2]
    rw [if_neg a2, if_neg a2]
    by_cases a3 : 3 ≤ j ∧ j < 13
    · rw [if_pos a3, if_pos (show 3 ≤ j ∧ j < 3 + ((10 : Nat) : Int) by omega)]
    · rw [if_neg a3, if_neg (show ¬ (3 ≤ j ∧ j < 3 + ((10 : Nat) : Int)) by omega)]
  · rw [if_neg h1, if_neg h1]
/-- the reference while it is made -/
abbrev mdO (D : va_G) (cI cS : ClassId) (f : Nat → Nat) (ks : Nat → Option Nat) : xO := (D, cI, cS, f, mdS ks, fun _ => True)
section ML
variable {p : Program} {l : Launch} {e : Env} {R : Room} {s : State} {m : MethodId} {args : Array Value} {below : List Frame} {meth : Method} {c : Code} {cells slots : Nat} {Q : State → Prop}
variable {D : va_G} {cI cS : ClassId} {A : Nat → Prop} {f : Nat → Nat} {ks : Nat → Option Nat}
theorem md_loop1 (hx : p.tables.exec = Jvm.exec) (hb : c.code = cX7_init) (hml : c.maxLocals = 2) (hown : s.vm.findClass RX7 = some m.cls) (xts : ∀ w ∈ xtbl, w.before args s = true) (hK : va_K D xcl [(cI, .int), (cS, .object "java/lang/String")] s) (hR1 : 2 ≤ R.frames) (hR2 : 46 ≤ R.locals) (hc : cells ≤ R.cells) (hs : slots ≤ R.slots) (hF : xFine (mdO D cI cS f ks)) (hNe : xNest s) (hAx : ∀ q, xA (mdO D cI cS f ks) q → A q) (hA2 : ∀ q, q < s.heap.size → ¬ xA (mdO D cI cS f ks) q → ¬ A q)
    (kk : ∀ (H : Heap) (locs : List Loc) (ls : Array Slot), va_P D xcl (xw (mdO D cI cS f ks) (mA 9)) H → va_S A s.heap H locs → lv_has ls 2 [(1, .int (iI 9)), (0, .ref (f 0))] → W p l e R s m args below meth c H locs cells slots Q (F0 m 200 ls [])) :
    ∀ (d i : Nat), i + d = 9 → ∀ (H : Heap) (locs : List Loc) (ls : Array Slot), va_P D xcl (xw (mdO D cI cS f ks) (mA i)) H → va_S A s.heap H locs → lv_has ls 2 [(1, .int (iI (i : Int))), (0, .ref (f 0))] → W p l e R s m args below meth c H locs cells slots Q (F0 m 176 ls []) := by
  intro d
  induction d with
  | zero =>
    intro i hi H locs ls hP hS hl
    have e : i = 9 := by omega
    subst e
    refine lv_iload_n hx hb dX7_init_176 rfl (lv_at hl 0 rfl) ?_
    refine lv_iconst (v := iI 1) hx hb dX7_init_177 (by decide) ?_
    refine lv_iadd hx hb dX7_init_178 ?_
    refine lv_bipush (v := iI 10) hx hb dX7_init_179 (by decide) ?_
    refine lv_icmp_ge hx hb dX7_init_181 (tgt := 200) (by decide) (fun _ => kk H locs ls hP hS hl) (fun q => absurd (show iI 10 ≤ iI ((9 : Nat) : Int) + iI 1 by decide) q)
  | succ d ih =>
    intro i hi H locs ls hP hS hl
    refine lv_iload_n hx hb dX7_init_176 rfl (lv_at hl 0 rfl) ?_
    refine lv_iconst (v := iI 1) hx hb dX7_init_177 (by decide) ?_
    refine lv_iadd hx hb dX7_init_178 ?_
    refine lv_bipush (v := iI 10) hx hb dX7_init_179 (by decide) ?_
    refine lv_icmp_ge hx hb dX7_init_181 (tgt := 200) (by decide) (fun q => ?_) (fun _ => ?_)
    · exfalso
      rw [iI_add, iI_le (by omega) (by omega)] at q
      omega
    refine lv_aload_n hx hb dX7_init_184 rfl (lv_at hl 1 rfl) ?_
    refine lv_iload_n hx hb dX7_init_185 rfl (lv_at hl 0 rfl) ?_
    refine lv_iload_n hx hb dX7_init_186 rfl (lv_at hl 0 rfl) ?_
    refine lv_iconst (v := iI 1) hx hb dX7_init_187 (by decide) ?_
    refine lv_iadd hx hb dX7_init_188 ?_
    rw [iI_add]
    refine lv_iconst (v := iI 1) hx hb dX7_init_189 (by decide) ?_
    refine y_callV (ω := mdO D cI cS f ks) (M := mA i) (k := 0) (As := [.int (iI (i : Int)), .int (iI ((i : Int) + 1)), .int (iI 1)]) (rest := []) (A0 := A) hx hb hml hown xts dX7_init_190 m_ml_X7_72 m_im_X7_lays m_se_X7_lays (sM0 rfl) rfl ⟨by show 1 + 1 ≤ _; omega, by show 8 + (4 + 11) + 23 ≤ _; omega⟩ rfl rfl (by decide) hl.1 (c_X7_lays (ω := mdO D cI cS f ks) (ks := ks) rfl ⟨by omega, by omega⟩ ⟨by omega, by omega⟩ (by decide)) (mA_R i) hP hK hF trivial hA2 hNe hS hAx ⟨hc, hs⟩ (fun H locs hRf hP hz hk hS => ?_)
    rw [mA_1 (by omega)] at hP
    refine lv_pop hx hb dX7_init_193 rfl ?_
    refine lv_iinc (k := 0) (v := iI ((i + 1 : Nat) : Int)) (lv' := [(1, .int (iI ((i + 1 : Nat) : Int))), (0, .ref (f 0))]) hx hb dX7_init_194 hl rfl (by show iI _ + iI 1 = _; rw [iI_add]; congr 1) (by decide) rfl (fun ls hl => ?_)
    refine lv_goto hx hb dX7_init_197 (tgt := 176) (by decide) ?_
    exact ih (i + 1) (by omega) H locs ls hP hS hl
theorem md_loop2 (hx : p.tables.exec = Jvm.exec) (hb : c.code = cX7_init) (hml : c.maxLocals = 2) (hown : s.vm.findClass RX7 = some m.cls) (xts : ∀ w ∈ xtbl, w.before args s = true) (hK : va_K D xcl [(cI, .int), (cS, .object "java/lang/String")] s) (hF : xFine (mdO D cI cS f ks)) (hAx : ∀ q, xA (mdO D cI cS f ks) q → A q)
    (kk : ∀ (H : Heap) (locs : List Loc) (ls : Array Slot), va_P D xcl (xw (mdO D cI cS f ks) (mB 10)) H → va_S A s.heap H locs → W p l e R s m args below meth c H locs cells slots Q (F0 m 223 ls [])) :
    ∀ (d i : Nat), i + d = 10 → ∀ (H : Heap) (locs : List Loc) (ls : Array Slot), va_P D xcl (xw (mdO D cI cS f ks) (mB i)) H → va_S A s.heap H locs → lv_has ls 2 [(1, .int (iI (i : Int))), (0, .ref (f 0))] → W p l e R s m args below meth c H locs cells slots Q (F0 m 202 ls []) := by
  intro d
  induction d with
  | zero =>
    intro i hi H locs ls hP hS hl
    have e : i = 10 := by omega
    subst e
    refine lv_iload_n hx hb dX7_init_202 rfl (lv_at hl 0 rfl) ?_
    refine lv_bipush (v := iI 10) hx hb dX7_init_203 (by decide) ?_
    refine lv_icmp_ge hx hb dX7_init_205 (tgt := 223) (by decide) (fun _ => kk H locs ls hP hS) (fun q => absurd (show iI 10 ≤ iI ((10 : Nat) : Int) by decide) q)
  | succ d ih =>
    intro i hi H locs ls hP hS hl
    refine lv_iload_n hx hb dX7_init_202 rfl (lv_at hl 0 rfl) ?_
    refine lv_bipush (v := iI 10) hx hb dX7_init_203 (by decide) ?_
    refine lv_icmp_ge hx hb dX7_init_205 (tgt := 223) (by decide) (fun q => ?_) (fun _ => ?_)
    · exfalso
      rw [iI_le (by omega) (by omega)] at q
      omega
    refine lv_aload_n hx hb dX7_init_208 rfl (lv_at hl 1 rfl) ?_
    refine va_get (D := D) (ci := 7) (v := .ref (f 1)) (C := RX7) (T := TX7) (N := 30) hx hb xts in_X7 hown hK hP 0 (xw_at (ω := mdO D cI cS f ks) (sM0 rfl)) rfl 0 (by decide) (xts _ m_fl_X7_9) (fun _ h9 => h9) rfl dX7_init_209 ?_
    refine lv_iconst (v := iI 3) hx hb dX7_init_212 (by decide) ?_
    refine lv_iload_n hx hb dX7_init_213 rfl (lv_at hl 0 rfl) ?_
    refine lv_iadd hx hb dX7_init_214 ?_
    have ei : iI 3 + iI (i : Int) = iI ((3 + i : Nat) : Int) := by
      rw [iI_add]
      congr 1
    rw [ei]
    refine lv_iconst (v := iI (-1)) hx hb dX7_init_215 (by decide) ?_
    have hD : va_D A (xw (mdO D cI cS f ks) (mB i)) := ⟨(xw_D hF _).1, fun k q hk => hAx _ ((xw_D hF _).2 k q hk)⟩
    refine va_iast hx hb hK hP hD hS 1 0 (xw_at (ω := mdO D cI cS f ks) (sM1 rfl)) rfl (iI_in (j := 3 + i) rfl (by omega) (by omega)) dX7_init_216 (fun H locs hP hD hS => ?_)
    rw [iI_nat (by omega)] at hP
    have e : (upd (fun t : Nat => iI (mB i 1 (t : Int))) (3 + i) (iI (-1))) = (fun t : Nat => iI (ur (mB i 1) ((3 + i : Nat) : Int) (-1) (t : Int))) := by
      funext t
      by_cases ht : t = 3 + i
      · subst ht; simp [upd, ur]
      · have : ¬ (t : Int) = ((3 + i : Nat) : Int) := by omega
        simp only [upd, ur, if_neg ht]
        rw [if_neg this]
    rw [e] at hP
    have e2 := xw_set (ω := mdO D cI cS f ks) (M := mB i) (k := 1) (c := .inl 177) (r := ur (mB i 1) ((3 + i : Nat) : Int) (-1)) (sM1 rfl)
    have hP : va_P D xcl (xw (mdO D cI cS f ks) (mB (i + 1))) H := by rw [← mB_1 (by omega)]; unfold up; rw [← e2]; exact hP
    refine lv_iinc (k := 0) (v := iI ((i + 1 : Nat) : Int)) (lv' := [(1, .int (iI ((i + 1 : Nat) : Int))), (0, .ref (f 0))]) hx hb dX7_init_217 hl rfl (by show iI _ + iI 1 = _; rw [iI_add]; congr 1) (by decide) rfl (fun ls hl => ?_)
    refine lv_goto hx hb dX7_init_220 (tgt := 202) (by decide) ?_
    exact ih (i + 1) (by omega) H locs ls hP hS hl
end ML
set_option maxHeartbeats 8000000 in
set_option maxRecDepth 100000 in
theorem k_X7_init (l : Launch) (D : va_G) (cI cS : ClassId) (ki vi : Nat → Nat) (h0 sz : Nat) : Met l yX7_init (.code yX7_init cX7_init 2 none :: xtbl) ({ frames := 2, cells := 15, slots := 2143, locals := 46 }) (va_Pc [.ref h0] (fun U => U.heap.size = sz ∧ va_P D xcl [(h0, .inr (7, [.null, .null, .null, .int 0, .null, .null, .int 0, .int 0, .int 0, .int 0, .int 0, .int 0, .null, .null, .null, .null, .int 0, .int 0, .int 0, .int 0, .int 0, .int 0, .null, .null, .int 0, .int 0, .null, .null, .null, .null]))] U.heap ∧ va_K D xcl [(cI, .int), (cS, .object "java/lang/String")] U ∧ va_D (fun _ => True) [(h0, .inr (7, [.null, .null, .null, .int 0, .null, .null, .int 0, .int 0, .int 0, .int 0, .int 0, .int 0, .null, .null, .null, .null, .int 0, .int 0, .int 0, .int 0, .int 0, .int 0, .null, .null, .int 0, .int 0, .null, .null, .null, .null]))] ∧ xNest U ∧ xStr ki vi (va_A [(h0, .inr (7, [.null, .null, .null, .int 0, .null, .null, .int 0, .int 0, .int 0, .int 0, .int 0, .int 0, .null, .null, .null, .null, .int 0, .int 0, .int 0, .int 0, .int 0, .int 0, .null, .null, .int 0, .int 0, .null, .null, .null, .null]))] sz) U ∧ va_AO "java/lang/String" U)) (va_Qv (fun _ : Unit => True) (fun _ t => ∃ (f : Nat → Nat) (ks : Nat → Option Nat), f 0 = h0 ∧ (∀ k, k < 7 → ks k = some (ki (12 + k))) ∧ va_P D xcl (xw (mdO D cI cS f ks) N0) t.heap ∧ va_K D xcl [(cI, .int), (cS, .object "java/lang/String")] t ∧ va_D (va_A [(h0, .inr (7, [.null, .null, .null, .int 0, .null, .null, .int 0, .int 0, .int 0, .int 0, .int 0, .int 0, .null, .null, .null, .null, .int 0, .int 0, .int 0, .int 0, .int 0, .int 0, .null, .null, .int 0, .int 0, .null, .null, .null, .null]))] sz) (xw (mdO D cI cS f ks) N0)) (va_A [(h0, .inr (7, [.null, .null, .null, .int 0, .null, .null, .int 0, .int 0, .int 0, .int 0, .int 0, .int 0, .null, .null, .null, .null, .int 0, .int 0, .int 0, .int 0, .int 0, .int 0, .null, .null, .int 0, .int 0, .null, .null, .null, .null]))] sz)) 15 2143 (va_A [(h0, .inr (7, [.null, .null, .null, .int 0, .null, .null, .int 0, .int 0, .int 0, .int 0, .int 0, .int 0, .null, .null, .null, .null, .int 0, .int 0, .int 0, .int 0, .int 0, .int 0, .null, .null, .int 0, .int 0, .null, .null, .null, .null]))] sz) := by
  refine Met.ofW (cc := cX7_init) (maxL := 2) (ret := none) (by decide) rfl ?_
  intro p e s m args below meth c s₁ B hml hv
  obtain ⟨rfl, hsz, hP, hK, hD0, hNe, hT, hAO⟩ := hv
  have hx := B.exec
  have hb := B.bytes
  have hr := B.returns
  have hts := atoms_spec (ws := .code yX7_init cX7_init 2 none :: xtbl) B.pre
  have xts : ∀ w ∈ xtbl, w.before [.ref h0].toArray s = true := fun w hw => hts w (List.mem_cons_of_mem _ hw)
  have hown : s.vm.findClass RX7 = some m.cls := findClass_of_methodNamed B.named
  have hin : meth.name = "<init>" := (name_of_methodNamed B.named B.method).1
  subst hsz
  have hD := hD0.self (sz := s.heap.size)
  generalize hAe : va_A [(h0, .inr (7, [.null, .null, .null, .int 0, .null, .null, .int 0, .int 0, .int 0, .int 0, .int 0, .int 0, .null, .null, .null, .null, .int 0, .int 0, .int 0, .int 0, .int 0, .int 0, .null, .null, .int 0, .int 0, .null, .null, .null, .null]))] s.heap.size = A at hD hT ⊢
  have hA : ∀ q : Nat, s.heap.size ≤ q → A q := fun q h => by rw [← hAe]; exact Or.inr h
  have hS : va_S A s.heap s.heap [] := va_S.rf
  have hP : va_P D xcl [(h0, .inr (7, [.null, .null, .null, .int 0, .null, .null, .int 0, .int 0, .int 0, .int 0, .int 0, .int 0, .null, .null, .null, .null, .int 0, .int 0, .int 0, .int 0, .int 0, .int 0, .null, .null, .int 0, .int 0, .null, .null, .null, .null]))] s.heap := hP
  have hl := lv_entry ([.ref h0]) (n := 2) (Nat.le_of_ble_eq_true rfl)
  rw [lg_entry_eq]
  generalize (lg_sl ([.ref h0]) ++ List.replicate (2 - (lg_sl ([.ref h0])).length) Slot.unset).toArray = ls at hl ⊢
  have hl : lv_has ls 2 [(0, .ref h0)] := hl
  refine lv_aload_n hx hb dX7_init_0 rfl (lv_at hl 0 rfl) ?_
  refine W.objInit hx hb hown (xts _ m_ml_X7_1) (xts _ m_obi) (xts _ m_ob) rfl (by rw [hml]; exact hl.1) rfl dX7_init_1 (Nat.le_of_ble_eq_true rfl) (Nat.le_of_ble_eq_true rfl) ?_
  refine W.eq (g2 := F0 m 4 ls []) rfl ?_
  refine lv_aload_n hx hb dX7_init_4 rfl (lv_at hl 0 rfl) ?_
  refine lv_sipush (v := 177) hx hb dX7_init_5 (by decide) ?_
  refine va_newa (atype := .int) (ty := .int) hx hb (xts _ m_aci) rfl hK hP hD hS hA (N' := 177) (a0 := (177, .inl (fun _ => 0))) (fun _ => rfl) (by decide) (by decide) (by decide) (show 0 + 1 ≤ 15 by decide) (show 0 + 177 ≤ 2143 by decide) dX7_init_8 (fun q8 cA H hK2 hP hD hS => ?_)
  obtain rfl : cI = cA := ac_1 (i := 0) (j := 2) hK2 rfl rfl
  clear hK2
  have hP : va_P D xcl [(h0, .inr (7, [.null, .null, .null, .int 0, .null, .null, .int 0, .int 0, .int 0, .int 0, .int 0, .int 0, .null, .null, .null, .null, .int 0, .int 0, .int 0, .int 0, .int 0, .int 0, .null, .null, .int 0, .int 0, .null, .null, .null, .null])), (q8, .inl (cI, 177, .inl (fun _ => 0)))] H := hP
  have hD : va_D A [(h0, .inr (7, [.null, .null, .null, .int 0, .null, .null, .int 0, .int 0, .int 0, .int 0, .int 0, .int 0, .null, .null, .null, .null, .int 0, .int 0, .int 0, .int 0, .int 0, .int 0, .null, .null, .int 0, .int 0, .null, .null, .null, .null])), (q8, .inl (cI, 177, .inl (fun _ => 0)))] := hD
  refine W.widen (k := 1) (n := 177) (by decide) (by decide) ?_
  refine va_putF (D := D) (ci := 7) (v := .ref q8) (ty := .array .int) (C := RX7) (T := TX7) (N := 30) hx hb xts in_X7 tyX7 tyX7_ok nmX7 hown hK hP hD hS 0 rfl rfl 0 (by decide) (xts _ m_fl_X7_9) (fun _ h9 => h9) rfl hin rfl (by decide +kernel) rfl rfl (Nat.le_of_ble_eq_true rfl) dX7_init_10 (fun H locs hP hD hS => ?_)
  have hP : va_P D xcl [(h0, .inr (7, [.ref q8, .null, .null, .int 0, .null, .null, .int 0, .int 0, .int 0, .int 0, .int 0, .int 0, .null, .null, .null, .null, .int 0, .int 0, .int 0, .int 0, .int 0, .int 0, .null, .null, .int 0, .int 0, .null, .null, .null, .null])), (q8, .inl (cI, 177, .inl (fun _ => 0)))] H := hP
  have hD : va_D A [(h0, .inr (7, [.ref q8, .null, .null, .int 0, .null, .null, .int 0, .int 0, .int 0, .int 0, .int 0, .int 0, .null, .null, .null, .null, .int 0, .int 0, .int 0, .int 0, .int 0, .int 0, .null, .null, .int 0, .int 0, .null, .null, .null, .null])), (q8, .inl (cI, 177, .inl (fun _ => 0)))] := hD
  refine lv_aload_n hx hb dX7_init_13 rfl (lv_at hl 0 rfl) ?_
  refine lv_sipush (v := 177) hx hb dX7_init_14 (by decide) ?_
  refine va_newa (atype := .int) (ty := .int) hx hb (xts _ m_aci) rfl hK hP hD hS hA (N' := 177) (a0 := (177, .inl (fun _ => 0))) (fun _ => rfl) (by decide) (by decide) (by decide) (show 1 + 1 ≤ 15 by decide) (show 177 + 177 ≤ 2143 by decide) dX7_init_17 (fun q17 cA H hK2 hP hD hS => ?_)
  obtain rfl : cI = cA := ac_1 (i := 0) (j := 2) hK2 rfl rfl
  clear hK2
  have hP : va_P D xcl [(h0, .inr (7, [.ref q8, .null, .null, .int 0, .null, .null, .int 0, .int 0, .int 0, .int 0, .int 0, .int 0, .null, .null, .null, .null, .int 0, .int 0, .int 0, .int 0, .int 0, .int 0, .null, .null, .int 0, .int 0, .null, .null, .null, .null])), (q8, .inl (cI, 177, .inl (fun _ => 0))), (q17, .inl (cI, 177, .inl (fun _ => 0)))] H := hP
  have hD : va_D A [(h0, .inr (7, [.ref q8, .null, .null, .int 0, .null, .null, .int 0, .int 0, .int 0, .int 0, .int 0, .int 0, .null, .null, .null, .null, .int 0, .int 0, .int 0, .int 0, .int 0, .int 0, .null, .null, .int 0, .int 0, .null, .null, .null, .null])), (q8, .inl (cI, 177, .inl (fun _ => 0))), (q17, .inl (cI, 177, .inl (fun _ => 0)))] := hD
  refine W.widen (k := 2) (n := 354) (by decide) (by decide) ?_
  refine va_putF (D := D) (ci := 7) (v := .ref q17) (ty := .array .int) (C := RX7) (T := TX7) (N := 30) hx hb xts in_X7 tyX7 tyX7_ok nmX7 hown hK hP hD hS 0 rfl rfl 1 (by decide) (xts _ m_fl_X7_13) (fun _ h9 => h9) rfl hin rfl (by decide +kernel) rfl rfl (Nat.le_of_ble_eq_true rfl) dX7_init_19 (fun H locs hP hD hS => ?_)
  have hP : va_P D xcl [(h0, .inr (7, [.ref q8, .ref q17, .null, .int 0, .null, .null, .int 0, .int 0, .int 0, .int 0, .int 0, .int 0, .null, .null, .null, .null, .int 0, .int 0, .int 0, .int 0, .int 0, .int 0, .null, .null, .int 0, .int 0, .null, .null, .null, .null])), (q8, .inl (cI, 177, .inl (fun _ => 0))), (q17, .inl (cI, 177, .inl (fun _ => 0)))] H := hP
  have hD : va_D A [(h0, .inr (7, [.ref q8, .ref q17, .null, .int 0, .null, .null, .int 0, .int 0, .int 0, .int 0, .int 0, .int 0, .null, .null, .null, .null, .int 0, .int 0, .int 0, .int 0, .int 0, .int 0, .null, .null, .int 0, .int 0, .null, .null, .null, .null])), (q8, .inl (cI, 177, .inl (fun _ => 0))), (q17, .inl (cI, 177, .inl (fun _ => 0)))] := hD
  refine lv_aload_n hx hb dX7_init_22 rfl (lv_at hl 0 rfl) ?_
  refine lv_sipush (v := 177) hx hb dX7_init_23 (by decide) ?_
  refine va_newa (atype := .int) (ty := .int) hx hb (xts _ m_aci) rfl hK hP hD hS hA (N' := 177) (a0 := (177, .inl (fun _ => 0))) (fun _ => rfl) (by decide) (by decide) (by decide) (show 2 + 1 ≤ 15 by decide) (show 354 + 177 ≤ 2143 by decide) dX7_init_26 (fun q26 cA H hK2 hP hD hS => ?_)
  obtain rfl : cI = cA := ac_1 (i := 0) (j := 2) hK2 rfl rfl
  clear hK2
  have hP : va_P D xcl [(h0, .inr (7, [.ref q8, .ref q17, .null, .int 0, .null, .null, .int 0, .int 0, .int 0, .int 0, .int 0, .int 0, .null, .null, .null, .null, .int 0, .int 0, .int 0, .int 0, .int 0, .int 0, .null, .null, .int 0, .int 0, .null, .null, .null, .null])), (q8, .inl (cI, 177, .inl (fun _ => 0))), (q17, .inl (cI, 177, .inl (fun _ => 0))), (q26, .inl (cI, 177, .inl (fun _ => 0)))] H := hP
  have hD : va_D A [(h0, .inr (7, [.ref q8, .ref q17, .null, .int 0, .null, .null, .int 0, .int 0, .int 0, .int 0, .int 0, .int 0, .null, .null, .null, .null, .int 0, .int 0, .int 0, .int 0, .int 0, .int 0, .null, .null, .int 0, .int 0, .null, .null, .null, .null])), (q8, .inl (cI, 177, .inl (fun _ => 0))), (q17, .inl (cI, 177, .inl (fun _ => 0))), (q26, .inl (cI, 177, .inl (fun _ => 0)))] := hD
  refine W.widen (k := 3) (n := 531) (by decide) (by decide) ?_
  refine va_putF (D := D) (ci := 7) (v := .ref q26) (ty := .array .int) (C := RX7) (T := TX7) (N := 30) hx hb xts in_X7 tyX7 tyX7_ok nmX7 hown hK hP hD hS 0 rfl rfl 2 (by decide) (xts _ m_fl_X7_16) (fun _ h9 => h9) rfl hin rfl (by decide +kernel) rfl rfl (Nat.le_of_ble_eq_true rfl) dX7_init_28 (fun H locs hP hD hS => ?_)
  have hP : va_P D xcl [(h0, .inr (7, [.ref q8, .ref q17, .ref q26, .int 0, .null, .null, .int 0, .int 0, .int 0, .int 0, .int 0, .int 0, .null, .null, .null, .null, .int 0, .int 0, .int 0, .int 0, .int 0, .int 0, .null, .null, .int 0, .int 0, .null, .null, .null, .null])), (q8, .inl (cI, 177, .inl (fun _ => 0))), (q17, .inl (cI, 177, .inl (fun _ => 0))), (q26, .inl (cI, 177, .inl (fun _ => 0)))] H := hP
  have hD : va_D A [(h0, .inr (7, [.ref q8, .ref q17, .ref q26, .int 0, .null, .null, .int 0, .int 0, .int 0, .int 0, .int 0, .int 0, .null, .null, .null, .null, .int 0, .int 0, .int 0, .int 0, .int 0, .int 0, .null, .null, .int 0, .int 0, .null, .null, .null, .null])), (q8, .inl (cI, 177, .inl (fun _ => 0))), (q17, .inl (cI, 177, .inl (fun _ => 0))), (q26, .inl (cI, 177, .inl (fun _ => 0)))] := hD
  refine lv_aload_n hx hb dX7_init_31 rfl (lv_at hl 0 rfl) ?_
  refine lv_bipush (v := 8) hx hb dX7_init_32 (by decide) ?_
  refine va_newa (atype := .int) (ty := .int) hx hb (xts _ m_aci) rfl hK hP hD hS hA (N' := 8) (a0 := (8, .inl (fun _ => 0))) (fun _ => rfl) (by decide) (by decide) (by decide) (show 3 + 1 ≤ 15 by decide) (show 531 + 8 ≤ 2143 by decide) dX7_init_34 (fun q34 cA H hK2 hP hD hS => ?_)
  obtain rfl : cI = cA := ac_1 (i := 0) (j := 2) hK2 rfl rfl
  clear hK2
  have hP : va_P D xcl [(h0, .inr (7, [.ref q8, .ref q17, .ref q26, .int 0, .null, .null, .int 0, .int 0, .int 0, .int 0, .int 0, .int 0, .null, .null, .null, .null, .int 0, .int 0, .int 0, .int 0, .int 0, .int 0, .null, .null, .int 0, .int 0, .null, .null, .null, .null])), (q8, .inl (cI, 177, .inl (fun _ => 0))), (q17, .inl (cI, 177, .inl (fun _ => 0))), (q26, .inl (cI, 177, .inl (fun _ => 0))), (q34, .inl (cI, 8, .inl (fun _ => 0)))] H := hP
  have hD : va_D A [(h0, .inr (7, [.ref q8, .ref q17, .ref q26, .int 0, .null, .null, .int 0, .int 0, .int 0, .int 0, .int 0, .int 0, .null, .null, .null, .null, .int 0, .int 0, .int 0, .int 0, .int 0, .int 0, .null, .null, .int 0, .int 0, .null, .null, .null, .null])), (q8, .inl (cI, 177, .inl (fun _ => 0))), (q17, .inl (cI, 177, .inl (fun _ => 0))), (q26, .inl (cI, 177, .inl (fun _ => 0))), (q34, .inl (cI, 8, .inl (fun _ => 0)))] := hD
  refine W.widen (k := 4) (n := 539) (by decide) (by decide) ?_
  refine va_putF (D := D) (ci := 7) (v := .ref q34) (ty := .array .int) (C := RX7) (T := TX7) (N := 30) hx hb xts in_X7 tyX7 tyX7_ok nmX7 hown hK hP hD hS 0 rfl rfl 4 (by decide) (xts _ m_fl_X7_19) (fun _ h9 => h9) rfl hin rfl (by decide +kernel) rfl rfl (Nat.le_of_ble_eq_true rfl) dX7_init_36 (fun H locs hP hD hS => ?_)
  have hP : va_P D xcl [(h0, .inr (7, [.ref q8, .ref q17, .ref q26, .int 0, .ref q34, .null, .int 0, .int 0, .int 0, .int 0, .int 0, .int 0, .null, .null, .null, .null, .int 0, .int 0, .int 0, .int 0, .int 0, .int 0, .null, .null, .int 0, .int 0, .null, .null, .null, .null])), (q8, .inl (cI, 177, .inl (fun _ => 0))), (q17, .inl (cI, 177, .inl (fun _ => 0))), (q26, .inl (cI, 177, .inl (fun _ => 0))), (q34, .inl (cI, 8, .inl (fun _ => 0)))] H := hP
  have hD : va_D A [(h0, .inr (7, [.ref q8, .ref q17, .ref q26, .int 0, .ref q34, .null, .int 0, .int 0, .int 0, .int 0, .int 0, .int 0, .null, .null, .null, .null, .int 0, .int 0, .int 0, .int 0, .int 0, .int 0, .null, .null, .int 0, .int 0, .null, .null, .null, .null])), (q8, .inl (cI, 177, .inl (fun _ => 0))), (q17, .inl (cI, 177, .inl (fun _ => 0))), (q26, .inl (cI, 177, .inl (fun _ => 0))), (q34, .inl (cI, 8, .inl (fun _ => 0)))] := hD
  refine lv_aload_n hx hb dX7_init_39 rfl (lv_at hl 0 rfl) ?_
  refine lv_bipush (v := 100) hx hb dX7_init_40 (by decide) ?_
  refine va_newa (atype := .int) (ty := .int) hx hb (xts _ m_aci) rfl hK hP hD hS hA (N' := 100) (a0 := (100, .inl (fun _ => 0))) (fun _ => rfl) (by decide) (by decide) (by decide) (show 4 + 1 ≤ 15 by decide) (show 539 + 100 ≤ 2143 by decide) dX7_init_42 (fun q42 cA H hK2 hP hD hS => ?_)
  obtain rfl : cI = cA := ac_1 (i := 0) (j := 2) hK2 rfl rfl
  clear hK2
  have hP : va_P D xcl [(h0, .inr (7, [.ref q8, .ref q17, .ref q26, .int 0, .ref q34, .null, .int 0, .int 0, .int 0, .int 0, .int 0, .int 0, .null, .null, .null, .null, .int 0, .int 0, .int 0, .int 0, .int 0, .int 0, .null, .null, .int 0, .int 0, .null, .null, .null, .null])), (q8, .inl (cI, 177, .inl (fun _ => 0))), (q17, .inl (cI, 177, .inl (fun _ => 0))), (q26, .inl (cI, 177, .inl (fun _ => 0))), (q34, .inl (cI, 8, .inl (fun _ => 0))), (q42, .inl (cI, 100, .inl (fun _ => 0)))] H := hP
  have hD : va_D A [(h0, .inr (7, [.ref q8, .ref q17, .ref q26, .int 0, .ref q34, .null, .int 0, .int 0, .int 0, .int 0, .int 0, .int 0, .null, .null, .null, .null, .int 0, .int 0, .int 0, .int 0, .int 0, .int 0, .null, .null, .int 0, .int 0, .null, .null, .null, .null])), (q8, .inl (cI, 177, .inl (fun _ => 0))), (q17, .inl (cI, 177, .inl (fun _ => 0))), (q26, .inl (cI, 177, .inl (fun _ => 0))), (q34, .inl (cI, 8, .inl (fun _ => 0))), (q42, .inl (cI, 100, .inl (fun _ => 0)))] := hD
  refine W.widen (k := 5) (n := 639) (by decide) (by decide) ?_
  refine va_putF (D := D) (ci := 7) (v := .ref q42) (ty := .array .int) (C := RX7) (T := TX7) (N := 30) hx hb xts in_X7 tyX7 tyX7_ok nmX7 hown hK hP hD hS 0 rfl rfl 5 (by decide) (xts _ m_fl_X7_22) (fun _ h9 => h9) rfl hin rfl (by decide +kernel) rfl rfl (Nat.le_of_ble_eq_true rfl) dX7_init_44 (fun H locs hP hD hS => ?_)
  have hP : va_P D xcl [(h0, .inr (7, [.ref q8, .ref q17, .ref q26, .int 0, .ref q34, .ref q42, .int 0, .int 0, .int 0, .int 0, .int 0, .int 0, .null, .null, .null, .null, .int 0, .int 0, .int 0, .int 0, .int 0, .int 0, .null, .null, .int 0, .int 0, .null, .null, .null, .null])), (q8, .inl (cI, 177, .inl (fun _ => 0))), (q17, .inl (cI, 177, .inl (fun _ => 0))), (q26, .inl (cI, 177, .inl (fun _ => 0))), (q34, .inl (cI, 8, .inl (fun _ => 0))), (q42, .inl (cI, 100, .inl (fun _ => 0)))] H := hP
  have hD : va_D A [(h0, .inr (7, [.ref q8, .ref q17, .ref q26, .int 0, .ref q34, .ref q42, .int 0, .int 0, .int 0, .int 0, .int 0, .int 0, .null, .null, .null, .null, .int 0, .int 0, .int 0, .int 0, .int 0, .int 0, .null, .null, .int 0, .int 0, .null, .null, .null, .null])), (q8, .inl (cI, 177, .inl (fun _ => 0))), (q17, .inl (cI, 177, .inl (fun _ => 0))), (q26, .inl (cI, 177, .inl (fun _ => 0))), (q34, .inl (cI, 8, .inl (fun _ => 0))), (q42, .inl (cI, 100, .inl (fun _ => 0)))] := hD
  refine lv_aload_n hx hb dX7_init_47 rfl (lv_at hl 0 rfl) ?_
  refine lv_sipush (v := 177) hx hb dX7_init_48 (by decide) ?_
  refine va_newa (atype := .int) (ty := .int) hx hb (xts _ m_aci) rfl hK hP hD hS hA (N' := 177) (a0 := (177, .inl (fun _ => 0))) (fun _ => rfl) (by decide) (by decide) (by decide) (show 5 + 1 ≤ 15 by decide) (show 639 + 177 ≤ 2143 by decide) dX7_init_51 (fun q51 cA H hK2 hP hD hS => ?_)
  obtain rfl : cI = cA := ac_1 (i := 0) (j := 2) hK2 rfl rfl
  clear hK2
  have hP : va_P D xcl [(h0, .inr (7, [.ref q8, .ref q17, .ref q26, .int 0, .ref q34, .ref q42, .int 0, .int 0, .int 0, .int 0, .int 0, .int 0, .null, .null, .null, .null, .int 0, .int 0, .int 0, .int 0, .int 0, .int 0, .null, .null, .int 0, .int 0, .null, .null, .null, .null])), (q8, .inl (cI, 177, .inl (fun _ => 0))), (q17, .inl (cI, 177, .inl (fun _ => 0))), (q26, .inl (cI, 177, .inl (fun _ => 0))), (q34, .inl (cI, 8, .inl (fun _ => 0))), (q42, .inl (cI, 100, .inl (fun _ => 0))), (q51, .inl (cI, 177, .inl (fun _ => 0)))] H := hP
  have hD : va_D A [(h0, .inr (7, [.ref q8, .ref q17, .ref q26, .int 0, .ref q34, .ref q42, .int 0, .int 0, .int 0, .int 0, .int 0, .int 0, .null, .null, .null, .null, .int 0, .int 0, .int 0, .int 0, .int 0, .int 0, .null, .null, .int 0, .int 0, .null, .null, .null, .null])), (q8, .inl (cI, 177, .inl (fun _ => 0))), (q17, .inl (cI, 177, .inl (fun _ => 0))), (q26, .inl (cI, 177, .inl (fun _ => 0))), (q34, .inl (cI, 8, .inl (fun _ => 0))), (q42, .inl (cI, 100, .inl (fun _ => 0))), (q51, .inl (cI, 177, .inl (fun _ => 0)))] := hD
  refine W.widen (k := 6) (n := 816) (by decide) (by decide) ?_
  refine va_putF (D := D) (ci := 7) (v := .ref q51) (ty := .array .int) (C := RX7) (T := TX7) (N := 30) hx hb xts in_X7 tyX7 tyX7_ok nmX7 hown hK hP hD hS 0 rfl rfl 12 (by decide) (xts _ m_fl_X7_25) (fun _ h9 => h9) rfl hin rfl (by decide +kernel) rfl rfl (Nat.le_of_ble_eq_true rfl) dX7_init_53 (fun H locs hP hD hS => ?_)
  have hP : va_P D xcl [(h0, .inr (7, [.ref q8, .ref q17, .ref q26, .int 0, .ref q34, .ref q42, .int 0, .int 0, .int 0, .int 0, .int 0, .int 0, .ref q51, .null, .null, .null, .int 0, .int 0, .int 0, .int 0, .int 0, .int 0, .null, .null, .int 0, .int 0, .null, .null, .null, .null])), (q8, .inl (cI, 177, .inl (fun _ => 0))), (q17, .inl (cI, 177, .inl (fun _ => 0))), (q26, .inl (cI, 177, .inl (fun _ => 0))), (q34, .inl (cI, 8, .inl (fun _ => 0))), (q42, .inl (cI, 100, .inl (fun _ => 0))), (q51, .inl (cI, 177, .inl (fun _ => 0)))] H := hP
  have hD : va_D A [(h0, .inr (7, [.ref q8, .ref q17, .ref q26, .int 0, .ref q34, .ref q42, .int 0, .int 0, .int 0, .int 0, .int 0, .int 0, .ref q51, .null, .null, .null, .int 0, .int 0, .int 0, .int 0, .int 0, .int 0, .null, .null, .int 0, .int 0, .null, .null, .null, .null])), (q8, .inl (cI, 177, .inl (fun _ => 0))), (q17, .inl (cI, 177, .inl (fun _ => 0))), (q26, .inl (cI, 177, .inl (fun _ => 0))), (q34, .inl (cI, 8, .inl (fun _ => 0))), (q42, .inl (cI, 100, .inl (fun _ => 0))), (q51, .inl (cI, 177, .inl (fun _ => 0)))] := hD
  refine lv_aload_n hx hb dX7_init_56 rfl (lv_at hl 0 rfl) ?_
  refine lv_sipush (v := 256) hx hb dX7_init_57 (by decide) ?_
  refine va_newa (atype := .int) (ty := .int) hx hb (xts _ m_aci) rfl hK hP hD hS hA (N' := 256) (a0 := (256, .inl (fun _ => 0))) (fun _ => rfl) (by decide) (by decide) (by decide) (show 6 + 1 ≤ 15 by decide) (show 816 + 256 ≤ 2143 by decide) dX7_init_60 (fun q60 cA H hK2 hP hD hS => ?_)
  obtain rfl : cI = cA := ac_1 (i := 0) (j := 2) hK2 rfl rfl
  clear hK2
  have hP : va_P D xcl [(h0, .inr (7, [.ref q8, .ref q17, .ref q26, .int 0, .ref q34, .ref q42, .int 0, .int 0, .int 0, .int 0, .int 0, .int 0, .ref q51, .null, .null, .null, .int 0, .int 0, .int 0, .int 0, .int 0, .int 0, .null, .null, .int 0, .int 0, .null, .null, .null, .null])), (q8, .inl (cI, 177, .inl (fun _ => 0))), (q17, .inl (cI, 177, .inl (fun _ => 0))), (q26, .inl (cI, 177, .inl (fun _ => 0))), (q34, .inl (cI, 8, .inl (fun _ => 0))), (q42, .inl (cI, 100, .inl (fun _ => 0))), (q51, .inl (cI, 177, .inl (fun _ => 0))), (q60, .inl (cI, 256, .inl (fun _ => 0)))] H := hP
  have hD : va_D A [(h0, .inr (7, [.ref q8, .ref q17, .ref q26, .int 0, .ref q34, .ref q42, .int 0, .int 0, .int 0, .int 0, .int 0, .int 0, .ref q51, .null, .null, .null, .int 0, .int 0, .int 0, .int 0, .int 0, .int 0, .null, .null, .int 0, .int 0, .null, .null, .null, .null])), (q8, .inl (cI, 177, .inl (fun _ => 0))), (q17, .inl (cI, 177, .inl (fun _ => 0))), (q26, .inl (cI, 177, .inl (fun _ => 0))), (q34, .inl (cI, 8, .inl (fun _ => 0))), (q42, .inl (cI, 100, .inl (fun _ => 0))), (q51, .inl (cI, 177, .inl (fun _ => 0))), (q60, .inl (cI, 256, .inl (fun _ => 0)))] := hD
  refine W.widen (k := 7) (n := 1072) (by decide) (by decide) ?_
  refine va_putF (D := D) (ci := 7) (v := .ref q60) (ty := .array .int) (C := RX7) (T := TX7) (N := 30) hx hb xts in_X7 tyX7 tyX7_ok nmX7 hown hK hP hD hS 0 rfl rfl 13 (by decide) (xts _ m_fl_X7_28) (fun _ h9 => h9) rfl hin rfl (by decide +kernel) rfl rfl (Nat.le_of_ble_eq_true rfl) dX7_init_62 (fun H locs hP hD hS => ?_)
  have hP : va_P D xcl [(h0, .inr (7, [.ref q8, .ref q17, .ref q26, .int 0, .ref q34, .ref q42, .int 0, .int 0, .int 0, .int 0, .int 0, .int 0, .ref q51, .ref q60, .null, .null, .int 0, .int 0, .int 0, .int 0, .int 0, .int 0, .null, .null, .int 0, .int 0, .null, .null, .null, .null])), (q8, .inl (cI, 177, .inl (fun _ => 0))), (q17, .inl (cI, 177, .inl (fun _ => 0))), (q26, .inl (cI, 177, .inl (fun _ => 0))), (q34, .inl (cI, 8, .inl (fun _ => 0))), (q42, .inl (cI, 100, .inl (fun _ => 0))), (q51, .inl (cI, 177, .inl (fun _ => 0))), (q60, .inl (cI, 256, .inl (fun _ => 0)))] H := hP
  have hD : va_D A [(h0, .inr (7, [.ref q8, .ref q17, .ref q26, .int 0, .ref q34, .ref q42, .int 0, .int 0, .int 0, .int 0, .int 0, .int 0, .ref q51, .ref q60, .null, .null, .int 0, .int 0, .int 0, .int 0, .int 0, .int 0, .null, .null, .int 0, .int 0, .null, .null, .null, .null])), (q8, .inl (cI, 177, .inl (fun _ => 0))), (q17, .inl (cI, 177, .inl (fun _ => 0))), (q26, .inl (cI, 177, .inl (fun _ => 0))), (q34, .inl (cI, 8, .inl (fun _ => 0))), (q42, .inl (cI, 100, .inl (fun _ => 0))), (q51, .inl (cI, 177, .inl (fun _ => 0))), (q60, .inl (cI, 256, .inl (fun _ => 0)))] := hD
  refine lv_aload_n hx hb dX7_init_65 rfl (lv_at hl 0 rfl) ?_
  refine lv_sipush (v := 256) hx hb dX7_init_66 (by decide) ?_
  refine va_newa (atype := .int) (ty := .int) hx hb (xts _ m_aci) rfl hK hP hD hS hA (N' := 256) (a0 := (256, .inl (fun _ => 0))) (fun _ => rfl) (by decide) (by decide) (by decide) (show 7 + 1 ≤ 15 by decide) (show 1072 + 256 ≤ 2143 by decide) dX7_init_69 (fun q69 cA H hK2 hP hD hS => ?_)
  obtain rfl : cI = cA := ac_1 (i := 0) (j := 2) hK2 rfl rfl
  clear hK2
  have hP : va_P D xcl [(h0, .inr (7, [.ref q8, .ref q17, .ref q26, .int 0, .ref q34, .ref q42, .int 0, .int 0, .int 0, .int 0, .int 0, .int 0, .ref q51, .ref q60, .null, .null, .int 0, .int 0, .int 0, .int 0, .int 0, .int 0, .null, .null, .int 0, .int 0, .null, .null, .null, .null])), (q8, .inl (cI, 177, .inl (fun _ => 0))), (q17, .inl (cI, 177, .inl (fun _ => 0))), (q26, .inl (cI, 177, .inl (fun _ => 0))), (q34, .inl (cI, 8, .inl (fun _ => 0))), (q42, .inl (cI, 100, .inl (fun _ => 0))), (q51, .inl (cI, 177, .inl (fun _ => 0))), (q60, .inl (cI, 256, .inl (fun _ => 0))), (q69, .inl (cI, 256, .inl (fun _ => 0)))] H := hP
  have hD : va_D A [(h0, .inr (7, [.ref q8, .ref q17, .ref q26, .int 0, .ref q34, .ref q42, .int 0, .int 0, .int 0, .int 0, .int 0, .int 0, .ref q51, .ref q60, .null, .null, .int 0, .int 0, .int 0, .int 0, .int 0, .int 0, .null, .null, .int 0, .int 0, .null, .null, .null, .null])), (q8, .inl (cI, 177, .inl (fun _ => 0))), (q17, .inl (cI, 177, .inl (fun _ => 0))), (q26, .inl (cI, 177, .inl (fun _ => 0))), (q34, .inl (cI, 8, .inl (fun _ => 0))), (q42, .inl (cI, 100, .inl (fun _ => 0))), (q51, .inl (cI, 177, .inl (fun _ => 0))), (q60, .inl (cI, 256, .inl (fun _ => 0))), (q69, .inl (cI, 256, .inl (fun _ => 0)))] := hD
  refine W.widen (k := 8) (n := 1328) (by decide) (by decide) ?_
  refine va_putF (D := D) (ci := 7) (v := .ref q69) (ty := .array .int) (C := RX7) (T := TX7) (N := 30) hx hb xts in_X7 tyX7 tyX7_ok nmX7 hown hK hP hD hS 0 rfl rfl 14 (by decide) (xts _ m_fl_X7_31) (fun _ h9 => h9) rfl hin rfl (by decide +kernel) rfl rfl (Nat.le_of_ble_eq_true rfl) dX7_init_71 (fun H locs hP hD hS => ?_)
  have hP : va_P D xcl [(h0, .inr (7, [.ref q8, .ref q17, .ref q26, .int 0, .ref q34, .ref q42, .int 0, .int 0, .int 0, .int 0, .int 0, .int 0, .ref q51, .ref q60, .ref q69, .null, .int 0, .int 0, .int 0, .int 0, .int 0, .int 0, .null, .null, .int 0, .int 0, .null, .null, .null, .null])), (q8, .inl (cI, 177, .inl (fun _ => 0))), (q17, .inl (cI, 177, .inl (fun _ => 0))), (q26, .inl (cI, 177, .inl (fun _ => 0))), (q34, .inl (cI, 8, .inl (fun _ => 0))), (q42, .inl (cI, 100, .inl (fun _ => 0))), (q51, .inl (cI, 177, .inl (fun _ => 0))), (q60, .inl (cI, 256, .inl (fun _ => 0))), (q69, .inl (cI, 256, .inl (fun _ => 0)))] H := hP
  have hD : va_D A [(h0, .inr (7, [.ref q8, .ref q17, .ref q26, .int 0, .ref q34, .ref q42, .int 0, .int 0, .int 0, .int 0, .int 0, .int 0, .ref q51, .ref q60, .ref q69, .null, .int 0, .int 0, .int 0, .int 0, .int 0, .int 0, .null, .null, .int 0, .int 0, .null, .null, .null, .null])), (q8, .inl (cI, 177, .inl (fun _ => 0))), (q17, .inl (cI, 177, .inl (fun _ => 0))), (q26, .inl (cI, 177, .inl (fun _ => 0))), (q34, .inl (cI, 8, .inl (fun _ => 0))), (q42, .inl (cI, 100, .inl (fun _ => 0))), (q51, .inl (cI, 177, .inl (fun _ => 0))), (q60, .inl (cI, 256, .inl (fun _ => 0))), (q69, .inl (cI, 256, .inl (fun _ => 0)))] := hD
  refine lv_aload_n hx hb dX7_init_74 rfl (lv_at hl 0 rfl) ?_
  refine lv_bipush (v := 120) hx hb dX7_init_75 (by decide) ?_
  refine va_newa (atype := .int) (ty := .int) hx hb (xts _ m_aci) rfl hK hP hD hS hA (N' := 120) (a0 := (120, .inl (fun _ => 0))) (fun _ => rfl) (by decide) (by decide) (by decide) (show 8 + 1 ≤ 15 by decide) (show 1328 + 120 ≤ 2143 by decide) dX7_init_77 (fun q77 cA H hK2 hP hD hS => ?_)
  obtain rfl : cI = cA := ac_1 (i := 0) (j := 2) hK2 rfl rfl
  clear hK2
  have hP : va_P D xcl [(h0, .inr (7, [.ref q8, .ref q17, .ref q26, .int 0, .ref q34, .ref q42, .int 0, .int 0, .int 0, .int 0, .int 0, .int 0, .ref q51, .ref q60, .ref q69, .null, .int 0, .int 0, .int 0, .int 0, .int 0, .int 0, .null, .null, .int 0, .int 0, .null, .null, .null, .null])), (q8, .inl (cI, 177, .inl (fun _ => 0))), (q17, .inl (cI, 177, .inl (fun _ => 0))), (q26, .inl (cI, 177, .inl (fun _ => 0))), (q34, .inl (cI, 8, .inl (fun _ => 0))), (q42, .inl (cI, 100, .inl (fun _ => 0))), (q51, .inl (cI, 177, .inl (fun _ => 0))), (q60, .inl (cI, 256, .inl (fun _ => 0))), (q69, .inl (cI, 256, .inl (fun _ => 0))), (q77, .inl (cI, 120, .inl (fun _ => 0)))] H := hP
  have hD : va_D A [(h0, .inr (7, [.ref q8, .ref q17, .ref q26, .int 0, .ref q34, .ref q42, .int 0, .int 0, .int 0, .int 0, .int 0, .int 0, .ref q51, .ref q60, .ref q69, .null, .int 0, .int 0, .int 0, .int 0, .int 0, .int 0, .null, .null, .int 0, .int 0, .null, .null, .null, .null])), (q8, .inl (cI, 177, .inl (fun _ => 0))), (q17, .inl (cI, 177, .inl (fun _ => 0))), (q26, .inl (cI, 177, .inl (fun _ => 0))), (q34, .inl (cI, 8, .inl (fun _ => 0))), (q42, .inl (cI, 100, .inl (fun _ => 0))), (q51, .inl (cI, 177, .inl (fun _ => 0))), (q60, .inl (cI, 256, .inl (fun _ => 0))), (q69, .inl (cI, 256, .inl (fun _ => 0))), (q77, .inl (cI, 120, .inl (fun _ => 0)))] := hD
  refine W.widen (k := 9) (n := 1448) (by decide) (by decide) ?_
  refine va_putF (D := D) (ci := 7) (v := .ref q77) (ty := .array .int) (C := RX7) (T := TX7) (N := 30) hx hb xts in_X7 tyX7 tyX7_ok nmX7 hown hK hP hD hS 0 rfl rfl 15 (by decide) (xts _ m_fl_X7_34) (fun _ h9 => h9) rfl hin rfl (by decide +kernel) rfl rfl (Nat.le_of_ble_eq_true rfl) dX7_init_79 (fun H locs hP hD hS => ?_)
  have hP : va_P D xcl [(h0, .inr (7, [.ref q8, .ref q17, .ref q26, .int 0, .ref q34, .ref q42, .int 0, .int 0, .int 0, .int 0, .int 0, .int 0, .ref q51, .ref q60, .ref q69, .ref q77, .int 0, .int 0, .int 0, .int 0, .int 0, .int 0, .null, .null, .int 0, .int 0, .null, .null, .null, .null])), (q8, .inl (cI, 177, .inl (fun _ => 0))), (q17, .inl (cI, 177, .inl (fun _ => 0))), (q26, .inl (cI, 177, .inl (fun _ => 0))), (q34, .inl (cI, 8, .inl (fun _ => 0))), (q42, .inl (cI, 100, .inl (fun _ => 0))), (q51, .inl (cI, 177, .inl (fun _ => 0))), (q60, .inl (cI, 256, .inl (fun _ => 0))), (q69, .inl (cI, 256, .inl (fun _ => 0))), (q77, .inl (cI, 120, .inl (fun _ => 0)))] H := hP
  have hD : va_D A [(h0, .inr (7, [.ref q8, .ref q17, .ref q26, .int 0, .ref q34, .ref q42, .int 0, .int 0, .int 0, .int 0, .int 0, .int 0, .ref q51, .ref q60, .ref q69, .ref q77, .int 0, .int 0, .int 0, .int 0, .int 0, .int 0, .null, .null, .int 0, .int 0, .null, .null, .null, .null])), (q8, .inl (cI, 177, .inl (fun _ => 0))), (q17, .inl (cI, 177, .inl (fun _ => 0))), (q26, .inl (cI, 177, .inl (fun _ => 0))), (q34, .inl (cI, 8, .inl (fun _ => 0))), (q42, .inl (cI, 100, .inl (fun _ => 0))), (q51, .inl (cI, 177, .inl (fun _ => 0))), (q60, .inl (cI, 256, .inl (fun _ => 0))), (q69, .inl (cI, 256, .inl (fun _ => 0))), (q77, .inl (cI, 120, .inl (fun _ => 0)))] := hD
  refine lv_aload_n hx hb dX7_init_82 rfl (lv_at hl 0 rfl) ?_
  refine lv_bipush (v := 7) hx hb dX7_init_83 (by decide) ?_
  refine va_newq hx hb hown (xts _ m_kl_X7_37) hAO hK hP hD hS hA (N' := 7) (by decide) (by decide) (by decide) (show 9 + 1 ≤ 15 by decide) (show 1448 + 7 ≤ 2143 by decide) dX7_init_85 (fun q85 cA H hK2 hP hD hS => ?_)
  obtain rfl : cS = cA := ac_S (i := 1) (j := 2) hK2 rfl rfl
  clear hK2
  have hP : va_P D xcl [(h0, .inr (7, [.ref q8, .ref q17, .ref q26, .int 0, .ref q34, .ref q42, .int 0, .int 0, .int 0, .int 0, .int 0, .int 0, .ref q51, .ref q60, .ref q69, .ref q77, .int 0, .int 0, .int 0, .int 0, .int 0, .int 0, .null, .null, .int 0, .int 0, .null, .null, .null, .null])), (q8, .inl (cI, 177, .inl (fun _ => 0))), (q17, .inl (cI, 177, .inl (fun _ => 0))), (q26, .inl (cI, 177, .inl (fun _ => 0))), (q34, .inl (cI, 8, .inl (fun _ => 0))), (q42, .inl (cI, 100, .inl (fun _ => 0))), (q51, .inl (cI, 177, .inl (fun _ => 0))), (q60, .inl (cI, 256, .inl (fun _ => 0))), (q69, .inl (cI, 256, .inl (fun _ => 0))), (q77, .inl (cI, 120, .inl (fun _ => 0))), (q85, .inl (cS, 7, .inr (.inr (.inr (.inr (fun _ => none))))))] H := hP
  have hD : va_D A [(h0, .inr (7, [.ref q8, .ref q17, .ref q26, .int 0, .ref q34, .ref q42, .int 0, .int 0, .int 0, .int 0, .int 0, .int 0, .ref q51, .ref q60, .ref q69, .ref q77, .int 0, .int 0, .int 0, .int 0, .int 0, .int 0, .null, .null, .int 0, .int 0, .null, .null, .null, .null])), (q8, .inl (cI, 177, .inl (fun _ => 0))), (q17, .inl (cI, 177, .inl (fun _ => 0))), (q26, .inl (cI, 177, .inl (fun _ => 0))), (q34, .inl (cI, 8, .inl (fun _ => 0))), (q42, .inl (cI, 100, .inl (fun _ => 0))), (q51, .inl (cI, 177, .inl (fun _ => 0))), (q60, .inl (cI, 256, .inl (fun _ => 0))), (q69, .inl (cI, 256, .inl (fun _ => 0))), (q77, .inl (cI, 120, .inl (fun _ => 0))), (q85, .inl (cS, 7, .inr (.inr (.inr (.inr (fun _ => none))))))] := hD
  refine W.widen (k := 10) (n := 1455) (by decide) (by decide) ?_
  refine lv_dup hx hb dX7_init_88 rfl ?_
  refine lv_iconst (v := 0) hx hb dX7_init_89 (by decide) ?_
  refine va_ldcS (tx := stX 12) (q := ki 12) hx hb hown (hT.1 12 (by decide)).1 dX7_init_90 ?_
  refine va_astqM (E := "java/lang/String") (v := (ki 12)) hx hb hK hP hD hS 10 1 rfl rfl (st_Any (hT.1 12 (by decide)).2.1 hS.2.1) (by unfold vp_in; decide) dX7_init_92 (fun H locs hP hD hS => ?_)
  have hP : va_P D xcl [(h0, .inr (7, [.ref q8, .ref q17, .ref q26, .int 0, .ref q34, .ref q42, .int 0, .int 0, .int 0, .int 0, .int 0, .int 0, .ref q51, .ref q60, .ref q69, .ref q77, .int 0, .int 0, .int 0, .int 0, .int 0, .int 0, .null, .null, .int 0, .int 0, .null, .null, .null, .null])), (q8, .inl (cI, 177, .inl (fun _ => 0))), (q17, .inl (cI, 177, .inl (fun _ => 0))), (q26, .inl (cI, 177, .inl (fun _ => 0))), (q34, .inl (cI, 8, .inl (fun _ => 0))), (q42, .inl (cI, 100, .inl (fun _ => 0))), (q51, .inl (cI, 177, .inl (fun _ => 0))), (q60, .inl (cI, 256, .inl (fun _ => 0))), (q69, .inl (cI, 256, .inl (fun _ => 0))), (q77, .inl (cI, 120, .inl (fun _ => 0))), (q85, .inl (cS, 7, .inr (.inr (.inr (.inr (va_up (fun _ => none) 0 (some (ki 12))))))))] H := hP
  have hD : va_D A [(h0, .inr (7, [.ref q8, .ref q17, .ref q26, .int 0, .ref q34, .ref q42, .int 0, .int 0, .int 0, .int 0, .int 0, .int 0, .ref q51, .ref q60, .ref q69, .ref q77, .int 0, .int 0, .int 0, .int 0, .int 0, .int 0, .null, .null, .int 0, .int 0, .null, .null, .null, .null])), (q8, .inl (cI, 177, .inl (fun _ => 0))), (q17, .inl (cI, 177, .inl (fun _ => 0))), (q26, .inl (cI, 177, .inl (fun _ => 0))), (q34, .inl (cI, 8, .inl (fun _ => 0))), (q42, .inl (cI, 100, .inl (fun _ => 0))), (q51, .inl (cI, 177, .inl (fun _ => 0))), (q60, .inl (cI, 256, .inl (fun _ => 0))), (q69, .inl (cI, 256, .inl (fun _ => 0))), (q77, .inl (cI, 120, .inl (fun _ => 0))), (q85, .inl (cS, 7, .inr (.inr (.inr (.inr (va_up (fun _ => none) 0 (some (ki 12))))))))] := hD
  refine lv_dup hx hb dX7_init_93 rfl ?_
  refine lv_iconst (v := 1) hx hb dX7_init_94 (by decide) ?_
  refine va_ldcS (tx := stX 13) (q := ki 13) hx hb hown (hT.1 13 (by decide)).1 dX7_init_95 ?_
  refine va_astqM (E := "java/lang/String") (v := (ki 13)) hx hb hK hP hD hS 10 1 rfl rfl (st_Any (hT.1 13 (by decide)).2.1 hS.2.1) (by unfold vp_in; decide) dX7_init_97 (fun H locs hP hD hS => ?_)
  have hP : va_P D xcl [(h0, .inr (7, [.ref q8, .ref q17, .ref q26, .int 0, .ref q34, .ref q42, .int 0, .int 0, .int 0, .int 0, .int 0, .int 0, .ref q51, .ref q60, .ref q69, .ref q77, .int 0, .int 0, .int 0, .int 0, .int 0, .int 0, .null, .null, .int 0, .int 0, .null, .null, .null, .null])), (q8, .inl (cI, 177, .inl (fun _ => 0))), (q17, .inl (cI, 177, .inl (fun _ => 0))), (q26, .inl (cI, 177, .inl (fun _ => 0))), (q34, .inl (cI, 8, .inl (fun _ => 0))), (q42, .inl (cI, 100, .inl (fun _ => 0))), (q51, .inl (cI, 177, .inl (fun _ => 0))), (q60, .inl (cI, 256, .inl (fun _ => 0))), (q69, .inl (cI, 256, .inl (fun _ => 0))), (q77, .inl (cI, 120, .inl (fun _ => 0))), (q85, .inl (cS, 7, .inr (.inr (.inr (.inr (va_up (va_up (fun _ => none) 0 (some (ki 12))) 1 (some (ki 13))))))))] H := hP
  have hD : va_D A [(h0, .inr (7, [.ref q8, .ref q17, .ref q26, .int 0, .ref q34, .ref q42, .int 0, .int 0, .int 0, .int 0, .int 0, .int 0, .ref q51, .ref q60, .ref q69, .ref q77, .int 0, .int 0, .int 0, .int 0, .int 0, .int 0, .null, .null, .int 0, .int 0, .null, .null, .null, .null])), (q8, .inl (cI, 177, .inl (fun _ => 0))), (q17, .inl (cI, 177, .inl (fun _ => 0))), (q26, .inl (cI, 177, .inl (fun _ => 0))), (q34, .inl (cI, 8, .inl (fun _ => 0))), (q42, .inl (cI, 100, .inl (fun _ => 0))), (q51, .inl (cI, 177, .inl (fun _ => 0))), (q60, .inl (cI, 256, .inl (fun _ => 0))), (q69, .inl (cI, 256, .inl (fun _ => 0))), (q77, .inl (cI, 120, .inl (fun _ => 0))), (q85, .inl (cS, 7, .inr (.inr (.inr (.inr (va_up (va_up (fun _ => none) 0 (some (ki 12))) 1 (some (ki 13))))))))] := hD
  refine lv_dup hx hb dX7_init_98 rfl ?_
  refine lv_iconst (v := 2) hx hb dX7_init_99 (by decide) ?_
  refine va_ldcS (tx := stX 14) (q := ki 14) hx hb hown (hT.1 14 (by decide)).1 dX7_init_100 ?_
  refine va_astqM (E := "java/lang/String") (v := (ki 14)) hx hb hK hP hD hS 10 1 rfl rfl (st_Any (hT.1 14 (by decide)).2.1 hS.2.1) (by unfold vp_in; decide) dX7_init_102 (fun H locs hP hD hS => ?_)
  have hP : va_P D xcl [(h0, .inr (7, [.ref q8, .ref q17, .ref q26, .int 0, .ref q34, .ref q42, .int 0, .int 0, .int 0, .int 0, .int 0, .int 0, .ref q51, .ref q60, .ref q69, .ref q77, .int 0, .int 0, .int 0, .int 0, .int 0, .int 0, .null, .null, .int 0, .int 0, .null, .null, .null, .null])), (q8, .inl (cI, 177, .inl (fun _ => 0))), (q17, .inl (cI, 177, .inl (fun _ => 0))), (q26, .inl (cI, 177, .inl (fun _ => 0))), (q34, .inl (cI, 8, .inl (fun _ => 0))), (q42, .inl (cI, 100, .inl (fun _ => 0))), (q51, .inl (cI, 177, .inl (fun _ => 0))), (q60, .inl (cI, 256, .inl (fun _ => 0))), (q69, .inl (cI, 256, .inl (fun _ => 0))), (q77, .inl (cI, 120, .inl (fun _ => 0))), (q85, .inl (cS, 7, .inr (.inr (.inr (.inr (va_up (va_up (va_up (fun _ => none) 0 (some (ki 12))) 1 (some (ki 13))) 2 (some (ki 14))))))))] H := hP
  have hD : va_D A [(h0, .inr (7, [.ref q8, .ref q17, .ref q26, .int 0, .ref q34, .ref q42, .int 0, .int 0, .int 0, .int 0, .int 0, .int 0, .ref q51, .ref q60, .ref q69, .ref q77, .int 0, .int 0, .int 0, .int 0, .int 0, .int 0, .null, .null, .int 0, .int 0, .null, .null, .null, .null])), (q8, .inl (cI, 177, .inl (fun _ => 0))), (q17, .inl (cI, 177, .inl (fun _ => 0))), (q26, .inl (cI, 177, .inl (fun _ => 0))), (q34, .inl (cI, 8, .inl (fun _ => 0))), (q42, .inl (cI, 100, .inl (fun _ => 0))), (q51, .inl (cI, 177, .inl (fun _ => 0))), (q60, .inl (cI, 256, .inl (fun _ => 0))), (q69, .inl (cI, 256, .inl (fun _ => 0))), (q77, .inl (cI, 120, .inl (fun _ => 0))), (q85, .inl (cS, 7, .inr (.inr (.inr (.inr (va_up (va_up (va_up (fun _ => none) 0 (some (ki 12))) 1 (some (ki 13))) 2 (some (ki 14))))))))] := hD
  refine lv_dup hx hb dX7_init_103 rfl ?_
  refine lv_iconst (v := 3) hx hb dX7_init_104 (by decide) ?_
  refine va_ldcS (tx := stX 15) (q := ki 15) hx hb hown (hT.1 15 (by decide)).1 dX7_init_105 ?_
  refine va_astqM (E := "java/lang/String") (v := (ki 15)) hx hb hK hP hD hS 10 1 rfl rfl (st_Any (hT.1 15 (by decide)).2.1 hS.2.1) (by unfold vp_in; decide) dX7_init_107 (fun H locs hP hD hS => ?_)
  have hP : va_P D xcl [(h0, .inr (7, [.ref q8, .ref q17, .ref q26, .int 0, .ref q34, .ref q42, .int 0, .int 0, .int 0, .int 0, .int 0, .int 0, .ref q51, .ref q60, .ref q69, .ref q77, .int 0, .int 0, .int 0, .int 0, .int 0, .int 0, .null, .null, .int 0, .int 0, .null, .null, .null, .null])), (q8, .inl (cI, 177, .inl (fun _ => 0))), (q17, .inl (cI, 177, .inl (fun _ => 0))), (q26, .inl (cI, 177, .inl (fun _ => 0))), (q34, .inl (cI, 8, .inl (fun _ => 0))), (q42, .inl (cI, 100, .inl (fun _ => 0))), (q51, .inl (cI, 177, .inl (fun _ => 0))), (q60, .inl (cI, 256, .inl (fun _ => 0))), (q69, .inl (cI, 256, .inl (fun _ => 0))), (q77, .inl (cI, 120, .inl (fun _ => 0))), (q85, .inl (cS, 7, .inr (.inr (.inr (.inr (va_up (va_up (va_up (va_up (fun _ => none) 0 (some (ki 12))) 1 (some (ki 13))) 2 (some (ki 14))) 3 (some (ki 15))))))))] H := hP
  have hD : va_D A [(h0, .inr (7, [.ref q8, .ref q17, .ref q26, .int 0, .ref q34, .ref q42, .int 0, .int 0, .int 0, .int 0, .int 0, .int 0, .ref q51, .ref q60, .ref q69, .ref q77, .int 0, .int 0, .int 0, .int 0, .int 0, .int 0, .null, .null, .int 0, .int 0, .null, .null, .null, .null])), (q8, .inl (cI, 177, .inl (fun _ => 0))), (q17, .inl (cI, 177, .inl (fun _ => 0))), (q26, .inl (cI, 177, .inl (fun _ => 0))), (q34, .inl (cI, 8, .inl (fun _ => 0))), (q42, .inl (cI, 100, .inl (fun _ => 0))), (q51, .inl (cI, 177, .inl (fun _ => 0))), (q60, .inl (cI, 256, .inl (fun _ => 0))), (q69, .inl (cI, 256, .inl (fun _ => 0))), (q77, .inl (cI, 120, .inl (fun _ => 0))), (q85, .inl (cS, 7, .inr (.inr (.inr (.inr (va_up (va_up (va_up (va_up (fun _ => none) 0 (some (ki 12))) 1 (some (ki 13))) 2 (some (ki 14))) 3 (some (ki 15))))))))] := hD
  refine lv_dup hx hb dX7_init_108 rfl ?_
  refine lv_iconst (v := 4) hx hb dX7_init_109 (by decide) ?_
  refine va_ldcS (tx := stX 16) (q := ki 16) hx hb hown (hT.1 16 (by decide)).1 dX7_init_110 ?_
  refine va_astqM (E := "java/lang/String") (v := (ki 16)) hx hb hK hP hD hS 10 1 rfl rfl (st_Any (hT.1 16 (by decide)).2.1 hS.2.1) (by unfold vp_in; decide) dX7_init_112 (fun H locs hP hD hS => ?_)
  have hP : va_P D xcl [(h0, .inr (7, [.ref q8, .ref q17, .ref q26, .int 0, .ref q34, .ref q42, .int 0, .int 0, .int 0, .int 0, .int 0, .int 0, .ref q51, .ref q60, .ref q69, .ref q77, .int 0, .int 0, .int 0, .int 0, .int 0, .int 0, .null, .null, .int 0, .int 0, .null, .null, .null, .null])), (q8, .inl (cI, 177, .inl (fun _ => 0))), (q17, .inl (cI, 177, .inl (fun _ => 0))), (q26, .inl (cI, 177, .inl (fun _ => 0))), (q34, .inl (cI, 8, .inl (fun _ => 0))), (q42, .inl (cI, 100, .inl (fun _ => 0))), (q51, .inl (cI, 177, .inl (fun _ => 0))), (q60, .inl (cI, 256, .inl (fun _ => 0))), (q69, .inl (cI, 256, .inl (fun _ => 0))), (q77, .inl (cI, 120, .inl (fun _ => 0))), (q85, .inl (cS, 7, .inr (.inr (.inr (.inr (va_up (va_up (va_up (va_up (va_up (fun _ => none) 0 (some (ki 12))) 1 (some (ki 13))) 2 (some (ki 14))) 3 (some (ki 15))) 4 (some (ki 16))))))))] H := hP
  have hD : va_D A [(h0, .inr (7, [.ref q8, .ref q17, .ref q26, .int 0, .ref q34, .ref q42, .int 0, .int 0, .int 0, .int 0, .int 0, .int 0, .ref q51, .ref q60, .ref q69, .ref q77, .int 0, .int 0, .int 0, .int 0, .int 0, .int 0, .null, .null, .int 0, .int 0, .null, .null, .null, .null])), (q8, .inl (cI, 177, .inl (fun _ => 0))), (q17, .inl (cI, 177, .inl (fun _ => 0))), (q26, .inl (cI, 177, .inl (fun _ => 0))), (q34, .inl (cI, 8, .inl (fun _ => 0))), (q42, .inl (cI, 100, .inl (fun _ => 0))), (q51, .inl (cI, 177, .inl (fun _ => 0))), (q60, .inl (cI, 256, .inl (fun _ => 0))), (q69, .inl (cI, 256, .inl (fun _ => 0))), (q77, .inl (cI, 120, .inl (fun _ => 0))), (q85, .inl (cS, 7, .inr (.inr (.inr (.inr (va_up (va_up (va_up (va_up (va_up (fun _ => none) 0 (some (ki 12))) 1 (some (ki 13))) 2 (some (ki 14))) 3 (some (ki 15))) 4 (some (ki 16))))))))] := hD
  refine lv_dup hx hb dX7_init_113 rfl ?_
  refine lv_iconst (v := 5) hx hb dX7_init_114 (by decide) ?_
  refine va_ldcS (tx := stX 17) (q := ki 17) hx hb hown (hT.1 17 (by decide)).1 dX7_init_115 ?_
  refine va_astqM (E := "java/lang/String") (v := (ki 17)) hx hb hK hP hD hS 10 1 rfl rfl (st_Any (hT.1 17 (by decide)).2.1 hS.2.1) (by unfold vp_in; decide) dX7_init_117 (fun H locs hP hD hS => ?_)
  have hP : va_P D xcl [(h0, .inr (7, [.ref q8, .ref q17, .ref q26, .int 0, .ref q34, .ref q42, .int 0, .int 0, .int 0, .int 0, .int 0, .int 0, .ref q51, .ref q60, .ref q69, .ref q77, .int 0, .int 0, .int 0, .int 0, .int 0, .int 0, .null, .null, .int 0, .int 0, .null, .null, .null, .null])), (q8, .inl (cI, 177, .inl (fun _ => 0))), (q17, .inl (cI, 177, .inl (fun _ => 0))), (q26, .inl (cI, 177, .inl (fun _ => 0))), (q34, .inl (cI, 8, .inl (fun _ => 0))), (q42, .inl (cI, 100, .inl (fun _ => 0))), (q51, .inl (cI, 177, .inl (fun _ => 0))), (q60, .inl (cI, 256, .inl (fun _ => 0))), (q69, .inl (cI, 256, .inl (fun _ => 0))), (q77, .inl (cI, 120, .inl (fun _ => 0))), (q85, .inl (cS, 7, .inr (.inr (.inr (.inr (va_up (va_up (va_up (va_up (va_up (va_up (fun _ => none) 0 (some (ki 12))) 1 (some (ki 13))) 2 (some (ki 14))) 3 (some (ki 15))) 4 (some (ki 16))) 5 (some (ki 17))))))))] H := hP
  have hD : va_D A [(h0, .inr (7, [.ref q8, .ref q17, .ref q26, .int 0, .ref q34, .ref q42, .int 0, .int 0, .int 0, .int 0, .int 0, .int 0, .ref q51, .ref q60, .ref q69, .ref q77, .int 0, .int 0, .int 0, .int 0, .int 0, .int 0, .null, .null, .int 0, .int 0, .null, .null, .null, .null])), (q8, .inl (cI, 177, .inl (fun _ => 0))), (q17, .inl (cI, 177, .inl (fun _ => 0))), (q26, .inl (cI, 177, .inl (fun _ => 0))), (q34, .inl (cI, 8, .inl (fun _ => 0))), (q42, .inl (cI, 100, .inl (fun _ => 0))), (q51, .inl (cI, 177, .inl (fun _ => 0))), (q60, .inl (cI, 256, .inl (fun _ => 0))), (q69, .inl (cI, 256, .inl (fun _ => 0))), (q77, .inl (cI, 120, .inl (fun _ => 0))), (q85, .inl (cS, 7, .inr (.inr (.inr (.inr (va_up (va_up (va_up (va_up (va_up (va_up (fun _ => none) 0 (some (ki 12))) 1 (some (ki 13))) 2 (some (ki 14))) 3 (some (ki 15))) 4 (some (ki 16))) 5 (some (ki 17))))))))] := hD
  refine lv_dup hx hb dX7_init_118 rfl ?_
  refine lv_bipush (v := 6) hx hb dX7_init_119 (by decide) ?_
  refine va_ldcS (tx := stX 18) (q := ki 18) hx hb hown (hT.1 18 (by decide)).1 dX7_init_121 ?_
  refine va_astqM (E := "java/lang/String") (v := (ki 18)) hx hb hK hP hD hS 10 1 rfl rfl (st_Any (hT.1 18 (by decide)).2.1 hS.2.1) (by unfold vp_in; decide) dX7_init_123 (fun H locs hP hD hS => ?_)
  have hP : va_P D xcl [(h0, .inr (7, [.ref q8, .ref q17, .ref q26, .int 0, .ref q34, .ref q42, .int 0, .int 0, .int 0, .int 0, .int 0, .int 0, .ref q51, .ref q60, .ref q69, .ref q77, .int 0, .int 0, .int 0, .int 0, .int 0, .int 0, .null, .null, .int 0, .int 0, .null, .null, .null, .null])), (q8, .inl (cI, 177, .inl (fun _ => 0))), (q17, .inl (cI, 177, .inl (fun _ => 0))), (q26, .inl (cI, 177, .inl (fun _ => 0))), (q34, .inl (cI, 8, .inl (fun _ => 0))), (q42, .inl (cI, 100, .inl (fun _ => 0))), (q51, .inl (cI, 177, .inl (fun _ => 0))), (q60, .inl (cI, 256, .inl (fun _ => 0))), (q69, .inl (cI, 256, .inl (fun _ => 0))), (q77, .inl (cI, 120, .inl (fun _ => 0))), (q85, .inl (cS, 7, .inr (.inr (.inr (.inr (va_up (va_up (va_up (va_up (va_up (va_up (va_up (fun _ => none) 0 (some (ki 12))) 1 (some (ki 13))) 2 (some (ki 14))) 3 (some (ki 15))) 4 (some (ki 16))) 5 (some (ki 17))) 6 (some (ki 18))))))))] H := hP
  have hD : va_D A [(h0, .inr (7, [.ref q8, .ref q17, .ref q26, .int 0, .ref q34, .ref q42, .int 0, .int 0, .int 0, .int 0, .int 0, .int 0, .ref q51, .ref q60, .ref q69, .ref q77, .int 0, .int 0, .int 0, .int 0, .int 0, .int 0, .null, .null, .int 0, .int 0, .null, .null, .null, .null])), (q8, .inl (cI, 177, .inl (fun _ => 0))), (q17, .inl (cI, 177, .inl (fun _ => 0))), (q26, .inl (cI, 177, .inl (fun _ => 0))), (q34, .inl (cI, 8, .inl (fun _ => 0))), (q42, .inl (cI, 100, .inl (fun _ => 0))), (q51, .inl (cI, 177, .inl (fun _ => 0))), (q60, .inl (cI, 256, .inl (fun _ => 0))), (q69, .inl (cI, 256, .inl (fun _ => 0))), (q77, .inl (cI, 120, .inl (fun _ => 0))), (q85, .inl (cS, 7, .inr (.inr (.inr (.inr (va_up (va_up (va_up (va_up (va_up (va_up (va_up (fun _ => none) 0 (some (ki 12))) 1 (some (ki 13))) 2 (some (ki 14))) 3 (some (ki 15))) 4 (some (ki 16))) 5 (some (ki 17))) 6 (some (ki 18))))))))] := hD
  refine va_putF (D := D) (ci := 7) (v := .ref q85) (ty := .array (.object "java/lang/String")) (C := RX7) (T := TX7) (N := 30) hx hb xts in_X7 tyX7 tyX7_ok nmX7 hown hK hP hD hS 0 rfl rfl 22 (by decide) (xts _ m_fl_X7_53) (fun _ h9 => h9) rfl hin rfl (by decide +kernel) rfl rfl (Nat.le_of_ble_eq_true rfl) dX7_init_124 (fun H locs hP hD hS => ?_)
  have hP : va_P D xcl [(h0, .inr (7, [.ref q8, .ref q17, .ref q26, .int 0, .ref q34, .ref q42, .int 0, .int 0, .int 0, .int 0, .int 0, .int 0, .ref q51, .ref q60, .ref q69, .ref q77, .int 0, .int 0, .int 0, .int 0, .int 0, .int 0, .ref q85, .null, .int 0, .int 0, .null, .null, .null, .null])), (q8, .inl (cI, 177, .inl (fun _ => 0))), (q17, .inl (cI, 177, .inl (fun _ => 0))), (q26, .inl (cI, 177, .inl (fun _ => 0))), (q34, .inl (cI, 8, .inl (fun _ => 0))), (q42, .inl (cI, 100, .inl (fun _ => 0))), (q51, .inl (cI, 177, .inl (fun _ => 0))), (q60, .inl (cI, 256, .inl (fun _ => 0))), (q69, .inl (cI, 256, .inl (fun _ => 0))), (q77, .inl (cI, 120, .inl (fun _ => 0))), (q85, .inl (cS, 7, .inr (.inr (.inr (.inr (va_up (va_up (va_up (va_up (va_up (va_up (va_up (fun _ => none) 0 (some (ki 12))) 1 (some (ki 13))) 2 (some (ki 14))) 3 (some (ki 15))) 4 (some (ki 16))) 5 (some (ki 17))) 6 (some (ki 18))))))))] H := hP
  have hD : va_D A [(h0, .inr (7, [.ref q8, .ref q17, .ref q26, .int 0, .ref q34, .ref q42, .int 0, .int 0, .int 0, .int 0, .int 0, .int 0, .ref q51, .ref q60, .ref q69, .ref q77, .int 0, .int 0, .int 0, .int 0, .int 0, .int 0, .ref q85, .null, .int 0, .int 0, .null, .null, .null, .null])), (q8, .inl (cI, 177, .inl (fun _ => 0))), (q17, .inl (cI, 177, .inl (fun _ => 0))), (q26, .inl (cI, 177, .inl (fun _ => 0))), (q34, .inl (cI, 8, .inl (fun _ => 0))), (q42, .inl (cI, 100, .inl (fun _ => 0))), (q51, .inl (cI, 177, .inl (fun _ => 0))), (q60, .inl (cI, 256, .inl (fun _ => 0))), (q69, .inl (cI, 256, .inl (fun _ => 0))), (q77, .inl (cI, 120, .inl (fun _ => 0))), (q85, .inl (cS, 7, .inr (.inr (.inr (.inr (va_up (va_up (va_up (va_up (va_up (va_up (va_up (fun _ => none) 0 (some (ki 12))) 1 (some (ki 13))) 2 (some (ki 14))) 3 (some (ki 15))) 4 (some (ki 16))) 5 (some (ki 17))) 6 (some (ki 18))))))))] := hD
  refine lv_aload_n hx hb dX7_init_127 rfl (lv_at hl 0 rfl) ?_
  refine lv_sipush (v := 480) hx hb dX7_init_128 (by decide) ?_
  refine va_newa (atype := .int) (ty := .int) hx hb (xts _ m_aci) rfl hK hP hD hS hA (N' := 480) (a0 := (480, .inl (fun _ => 0))) (fun _ => rfl) (by decide) (by decide) (by decide) (show 10 + 1 ≤ 15 by decide) (show 1455 + 480 ≤ 2143 by decide) dX7_init_131 (fun q131 cA H hK2 hP hD hS => ?_)
  obtain rfl : cI = cA := ac_1 (i := 0) (j := 2) hK2 rfl rfl
  clear hK2
  have hP : va_P D xcl [(h0, .inr (7, [.ref q8, .ref q17, .ref q26, .int 0, .ref q34, .ref q42, .int 0, .int 0, .int 0, .int 0, .int 0, .int 0, .ref q51, .ref q60, .ref q69, .ref q77, .int 0, .int 0, .int 0, .int 0, .int 0, .int 0, .ref q85, .null, .int 0, .int 0, .null, .null, .null, .null])), (q8, .inl (cI, 177, .inl (fun _ => 0))), (q17, .inl (cI, 177, .inl (fun _ => 0))), (q26, .inl (cI, 177, .inl (fun _ => 0))), (q34, .inl (cI, 8, .inl (fun _ => 0))), (q42, .inl (cI, 100, .inl (fun _ => 0))), (q51, .inl (cI, 177, .inl (fun _ => 0))), (q60, .inl (cI, 256, .inl (fun _ => 0))), (q69, .inl (cI, 256, .inl (fun _ => 0))), (q77, .inl (cI, 120, .inl (fun _ => 0))), (q85, .inl (cS, 7, .inr (.inr (.inr (.inr (va_up (va_up (va_up (va_up (va_up (va_up (va_up (fun _ => none) 0 (some (ki 12))) 1 (some (ki 13))) 2 (some (ki 14))) 3 (some (ki 15))) 4 (some (ki 16))) 5 (some (ki 17))) 6 (some (ki 18)))))))), (q131, .inl (cI, 480, .inl (fun _ => 0)))] H := hP
  have hD : va_D A [(h0, .inr (7, [.ref q8, .ref q17, .ref q26, .int 0, .ref q34, .ref q42, .int 0, .int 0, .int 0, .int 0, .int 0, .int 0, .ref q51, .ref q60, .ref q69, .ref q77, .int 0, .int 0, .int 0, .int 0, .int 0, .int 0, .ref q85, .null, .int 0, .int 0, .null, .null, .null, .null])), (q8, .inl (cI, 177, .inl (fun _ => 0))), (q17, .inl (cI, 177, .inl (fun _ => 0))), (q26, .inl (cI, 177, .inl (fun _ => 0))), (q34, .inl (cI, 8, .inl (fun _ => 0))), (q42, .inl (cI, 100, .inl (fun _ => 0))), (q51, .inl (cI, 177, .inl (fun _ => 0))), (q60, .inl (cI, 256, .inl (fun _ => 0))), (q69, .inl (cI, 256, .inl (fun _ => 0))), (q77, .inl (cI, 120, .inl (fun _ => 0))), (q85, .inl (cS, 7, .inr (.inr (.inr (.inr (va_up (va_up (va_up (va_up (va_up (va_up (va_up (fun _ => none) 0 (some (ki 12))) 1 (some (ki 13))) 2 (some (ki 14))) 3 (some (ki 15))) 4 (some (ki 16))) 5 (some (ki 17))) 6 (some (ki 18)))))))), (q131, .inl (cI, 480, .inl (fun _ => 0)))] := hD
  refine W.widen (k := 11) (n := 1935) (by decide) (by decide) ?_
  refine va_putF (D := D) (ci := 7) (v := .ref q131) (ty := .array .int) (C := RX7) (T := TX7) (N := 30) hx hb xts in_X7 tyX7 tyX7_ok nmX7 hown hK hP hD hS 0 rfl rfl 23 (by decide) (xts _ m_fl_X7_57) (fun _ h9 => h9) rfl hin rfl (by decide +kernel) rfl rfl (Nat.le_of_ble_eq_true rfl) dX7_init_133 (fun H locs hP hD hS => ?_)
  have hP : va_P D xcl [(h0, .inr (7, [.ref q8, .ref q17, .ref q26, .int 0, .ref q34, .ref q42, .int 0, .int 0, .int 0, .int 0, .int 0, .int 0, .ref q51, .ref q60, .ref q69, .ref q77, .int 0, .int 0, .int 0, .int 0, .int 0, .int 0, .ref q85, .ref q131, .int 0, .int 0, .null, .null, .null, .null])), (q8, .inl (cI, 177, .inl (fun _ => 0))), (q17, .inl (cI, 177, .inl (fun _ => 0))), (q26, .inl (cI, 177, .inl (fun _ => 0))), (q34, .inl (cI, 8, .inl (fun _ => 0))), (q42, .inl (cI, 100, .inl (fun _ => 0))), (q51, .inl (cI, 177, .inl (fun _ => 0))), (q60, .inl (cI, 256, .inl (fun _ => 0))), (q69, .inl (cI, 256, .inl (fun _ => 0))), (q77, .inl (cI, 120, .inl (fun _ => 0))), (q85, .inl (cS, 7, .inr (.inr (.inr (.inr (va_up (va_up (va_up (va_up (va_up (va_up (va_up (fun _ => none) 0 (some (ki 12))) 1 (some (ki 13))) 2 (some (ki 14))) 3 (some (ki 15))) 4 (some (ki 16))) 5 (some (ki 17))) 6 (some (ki 18)))))))), (q131, .inl (cI, 480, .inl (fun _ => 0)))] H := hP
  have hD : va_D A [(h0, .inr (7, [.ref q8, .ref q17, .ref q26, .int 0, .ref q34, .ref q42, .int 0, .int 0, .int 0, .int 0, .int 0, .int 0, .ref q51, .ref q60, .ref q69, .ref q77, .int 0, .int 0, .int 0, .int 0, .int 0, .int 0, .ref q85, .ref q131, .int 0, .int 0, .null, .null, .null, .null])), (q8, .inl (cI, 177, .inl (fun _ => 0))), (q17, .inl (cI, 177, .inl (fun _ => 0))), (q26, .inl (cI, 177, .inl (fun _ => 0))), (q34, .inl (cI, 8, .inl (fun _ => 0))), (q42, .inl (cI, 100, .inl (fun _ => 0))), (q51, .inl (cI, 177, .inl (fun _ => 0))), (q60, .inl (cI, 256, .inl (fun _ => 0))), (q69, .inl (cI, 256, .inl (fun _ => 0))), (q77, .inl (cI, 120, .inl (fun _ => 0))), (q85, .inl (cS, 7, .inr (.inr (.inr (.inr (va_up (va_up (va_up (va_up (va_up (va_up (va_up (fun _ => none) 0 (some (ki 12))) 1 (some (ki 13))) 2 (some (ki 14))) 3 (some (ki 15))) 4 (some (ki 16))) 5 (some (ki 17))) 6 (some (ki 18)))))))), (q131, .inl (cI, 480, .inl (fun _ => 0)))] := hD
  refine lv_aload_n hx hb dX7_init_136 rfl (lv_at hl 0 rfl) ?_
  refine lv_iconst (v := 4) hx hb dX7_init_137 (by decide) ?_
  refine va_newa (atype := .int) (ty := .int) hx hb (xts _ m_aci) rfl hK hP hD hS hA (N' := 4) (a0 := (4, .inl (fun _ => 0))) (fun _ => rfl) (by decide) (by decide) (by decide) (show 11 + 1 ≤ 15 by decide) (show 1935 + 4 ≤ 2143 by decide) dX7_init_138 (fun q138 cA H hK2 hP hD hS => ?_)
  obtain rfl : cI = cA := ac_1 (i := 0) (j := 2) hK2 rfl rfl
  clear hK2
  have hP : va_P D xcl [(h0, .inr (7, [.ref q8, .ref q17, .ref q26, .int 0, .ref q34, .ref q42, .int 0, .int 0, .int 0, .int 0, .int 0, .int 0, .ref q51, .ref q60, .ref q69, .ref q77, .int 0, .int 0, .int 0, .int 0, .int 0, .int 0, .ref q85, .ref q131, .int 0, .int 0, .null, .null, .null, .null])), (q8, .inl (cI, 177, .inl (fun _ => 0))), (q17, .inl (cI, 177, .inl (fun _ => 0))), (q26, .inl (cI, 177, .inl (fun _ => 0))), (q34, .inl (cI, 8, .inl (fun _ => 0))), (q42, .inl (cI, 100, .inl (fun _ => 0))), (q51, .inl (cI, 177, .inl (fun _ => 0))), (q60, .inl (cI, 256, .inl (fun _ => 0))), (q69, .inl (cI, 256, .inl (fun _ => 0))), (q77, .inl (cI, 120, .inl (fun _ => 0))), (q85, .inl (cS, 7, .inr (.inr (.inr (.inr (va_up (va_up (va_up (va_up (va_up (va_up (va_up (fun _ => none) 0 (some (ki 12))) 1 (some (ki 13))) 2 (some (ki 14))) 3 (some (ki 15))) 4 (some (ki 16))) 5 (some (ki 17))) 6 (some (ki 18)))))))), (q131, .inl (cI, 480, .inl (fun _ => 0))), (q138, .inl (cI, 4, .inl (fun _ => 0)))] H := hP
  have hD : va_D A [(h0, .inr (7, [.ref q8, .ref q17, .ref q26, .int 0, .ref q34, .ref q42, .int 0, .int 0, .int 0, .int 0, .int 0, .int 0, .ref q51, .ref q60, .ref q69, .ref q77, .int 0, .int 0, .int 0, .int 0, .int 0, .int 0, .ref q85, .ref q131, .int 0, .int 0, .null, .null, .null, .null])), (q8, .inl (cI, 177, .inl (fun _ => 0))), (q17, .inl (cI, 177, .inl (fun _ => 0))), (q26, .inl (cI, 177, .inl (fun _ => 0))), (q34, .inl (cI, 8, .inl (fun _ => 0))), (q42, .inl (cI, 100, .inl (fun _ => 0))), (q51, .inl (cI, 177, .inl (fun _ => 0))), (q60, .inl (cI, 256, .inl (fun _ => 0))), (q69, .inl (cI, 256, .inl (fun _ => 0))), (q77, .inl (cI, 120, .inl (fun _ => 0))), (q85, .inl (cS, 7, .inr (.inr (.inr (.inr (va_up (va_up (va_up (va_up (va_up (va_up (va_up (fun _ => none) 0 (some (ki 12))) 1 (some (ki 13))) 2 (some (ki 14))) 3 (some (ki 15))) 4 (some (ki 16))) 5 (some (ki 17))) 6 (some (ki 18)))))))), (q131, .inl (cI, 480, .inl (fun _ => 0))), (q138, .inl (cI, 4, .inl (fun _ => 0)))] := hD
  refine W.widen (k := 12) (n := 1939) (by decide) (by decide) ?_
  refine va_putF (D := D) (ci := 7) (v := .ref q138) (ty := .array .int) (C := RX7) (T := TX7) (N := 30) hx hb xts in_X7 tyX7 tyX7_ok nmX7 hown hK hP hD hS 0 rfl rfl 26 (by decide) (xts _ m_fl_X7_60) (fun _ h9 => h9) rfl hin rfl (by decide +kernel) rfl rfl (Nat.le_of_ble_eq_true rfl) dX7_init_140 (fun H locs hP hD hS => ?_)
  have hP : va_P D xcl [(h0, .inr (7, [.ref q8, .ref q17, .ref q26, .int 0, .ref q34, .ref q42, .int 0, .int 0, .int 0, .int 0, .int 0, .int 0, .ref q51, .ref q60, .ref q69, .ref q77, .int 0, .int 0, .int 0, .int 0, .int 0, .int 0, .ref q85, .ref q131, .int 0, .int 0, .ref q138, .null, .null, .null])), (q8, .inl (cI, 177, .inl (fun _ => 0))), (q17, .inl (cI, 177, .inl (fun _ => 0))), (q26, .inl (cI, 177, .inl (fun _ => 0))), (q34, .inl (cI, 8, .inl (fun _ => 0))), (q42, .inl (cI, 100, .inl (fun _ => 0))), (q51, .inl (cI, 177, .inl (fun _ => 0))), (q60, .inl (cI, 256, .inl (fun _ => 0))), (q69, .inl (cI, 256, .inl (fun _ => 0))), (q77, .inl (cI, 120, .inl (fun _ => 0))), (q85, .inl (cS, 7, .inr (.inr (.inr (.inr (va_up (va_up (va_up (va_up (va_up (va_up (va_up (fun _ => none) 0 (some (ki 12))) 1 (some (ki 13))) 2 (some (ki 14))) 3 (some (ki 15))) 4 (some (ki 16))) 5 (some (ki 17))) 6 (some (ki 18)))))))), (q131, .inl (cI, 480, .inl (fun _ => 0))), (q138, .inl (cI, 4, .inl (fun _ => 0)))] H := hP
  have hD : va_D A [(h0, .inr (7, [.ref q8, .ref q17, .ref q26, .int 0, .ref q34, .ref q42, .int 0, .int 0, .int 0, .int 0, .int 0, .int 0, .ref q51, .ref q60, .ref q69, .ref q77, .int 0, .int 0, .int 0, .int 0, .int 0, .int 0, .ref q85, .ref q131, .int 0, .int 0, .ref q138, .null, .null, .null])), (q8, .inl (cI, 177, .inl (fun _ => 0))), (q17, .inl (cI, 177, .inl (fun _ => 0))), (q26, .inl (cI, 177, .inl (fun _ => 0))), (q34, .inl (cI, 8, .inl (fun _ => 0))), (q42, .inl (cI, 100, .inl (fun _ => 0))), (q51, .inl (cI, 177, .inl (fun _ => 0))), (q60, .inl (cI, 256, .inl (fun _ => 0))), (q69, .inl (cI, 256, .inl (fun _ => 0))), (q77, .inl (cI, 120, .inl (fun _ => 0))), (q85, .inl (cS, 7, .inr (.inr (.inr (.inr (va_up (va_up (va_up (va_up (va_up (va_up (va_up (fun _ => none) 0 (some (ki 12))) 1 (some (ki 13))) 2 (some (ki 14))) 3 (some (ki 15))) 4 (some (ki 16))) 5 (some (ki 17))) 6 (some (ki 18)))))))), (q131, .inl (cI, 480, .inl (fun _ => 0))), (q138, .inl (cI, 4, .inl (fun _ => 0)))] := hD
  refine lv_aload_n hx hb dX7_init_143 rfl (lv_at hl 0 rfl) ?_
  refine lv_iconst (v := 4) hx hb dX7_init_144 (by decide) ?_
  refine va_newa (atype := .int) (ty := .int) hx hb (xts _ m_aci) rfl hK hP hD hS hA (N' := 4) (a0 := (4, .inl (fun _ => 0))) (fun _ => rfl) (by decide) (by decide) (by decide) (show 12 + 1 ≤ 15 by decide) (show 1939 + 4 ≤ 2143 by decide) dX7_init_145 (fun q145 cA H hK2 hP hD hS => ?_)
  obtain rfl : cI = cA := ac_1 (i := 0) (j := 2) hK2 rfl rfl
  clear hK2
  have hP : va_P D xcl [(h0, .inr (7, [.ref q8, .ref q17, .ref q26, .int 0, .ref q34, .ref q42, .int 0, .int 0, .int 0, .int 0, .int 0, .int 0, .ref q51, .ref q60, .ref q69, .ref q77, .int 0, .int 0, .int 0, .int 0, .int 0, .int 0, .ref q85, .ref q131, .int 0, .int 0, .ref q138, .null, .null, .null])), (q8, .inl (cI, 177, .inl (fun _ => 0))), (q17, .inl (cI, 177, .inl (fun _ => 0))), (q26, .inl (cI, 177, .inl (fun _ => 0))), (q34, .inl (cI, 8, .inl (fun _ => 0))), (q42, .inl (cI, 100, .inl (fun _ => 0))), (q51, .inl (cI, 177, .inl (fun _ => 0))), (q60, .inl (cI, 256, .inl (fun _ => 0))), (q69, .inl (cI, 256, .inl (fun _ => 0))), (q77, .inl (cI, 120, .inl (fun _ => 0))), (q85, .inl (cS, 7, .inr (.inr (.inr (.inr (va_up (va_up (va_up (va_up (va_up (va_up (va_up (fun _ => none) 0 (some (ki 12))) 1 (some (ki 13))) 2 (some (ki 14))) 3 (some (ki 15))) 4 (some (ki 16))) 5 (some (ki 17))) 6 (some (ki 18)))))))), (q131, .inl (cI, 480, .inl (fun _ => 0))), (q138, .inl (cI, 4, .inl (fun _ => 0))), (q145, .inl (cI, 4, .inl (fun _ => 0)))] H := hP
  have hD : va_D A [(h0, .inr (7, [.ref q8, .ref q17, .ref q26, .int 0, .ref q34, .ref q42, .int 0, .int 0, .int 0, .int 0, .int 0, .int 0, .ref q51, .ref q60, .ref q69, .ref q77, .int 0, .int 0, .int 0, .int 0, .int 0, .int 0, .ref q85, .ref q131, .int 0, .int 0, .ref q138, .null, .null, .null])), (q8, .inl (cI, 177, .inl (fun _ => 0))), (q17, .inl (cI, 177, .inl (fun _ => 0))), (q26, .inl (cI, 177, .inl (fun _ => 0))), (q34, .inl (cI, 8, .inl (fun _ => 0))), (q42, .inl (cI, 100, .inl (fun _ => 0))), (q51, .inl (cI, 177, .inl (fun _ => 0))), (q60, .inl (cI, 256, .inl (fun _ => 0))), (q69, .inl (cI, 256, .inl (fun _ => 0))), (q77, .inl (cI, 120, .inl (fun _ => 0))), (q85, .inl (cS, 7, .inr (.inr (.inr (.inr (va_up (va_up (va_up (va_up (va_up (va_up (va_up (fun _ => none) 0 (some (ki 12))) 1 (some (ki 13))) 2 (some (ki 14))) 3 (some (ki 15))) 4 (some (ki 16))) 5 (some (ki 17))) 6 (some (ki 18)))))))), (q131, .inl (cI, 480, .inl (fun _ => 0))), (q138, .inl (cI, 4, .inl (fun _ => 0))), (q145, .inl (cI, 4, .inl (fun _ => 0)))] := hD
  refine W.widen (k := 13) (n := 1943) (by decide) (by decide) ?_
  refine va_putF (D := D) (ci := 7) (v := .ref q145) (ty := .array .int) (C := RX7) (T := TX7) (N := 30) hx hb xts in_X7 tyX7 tyX7_ok nmX7 hown hK hP hD hS 0 rfl rfl 27 (by decide) (xts _ m_fl_X7_63) (fun _ h9 => h9) rfl hin rfl (by decide +kernel) rfl rfl (Nat.le_of_ble_eq_true rfl) dX7_init_147 (fun H locs hP hD hS => ?_)
  have hP : va_P D xcl [(h0, .inr (7, [.ref q8, .ref q17, .ref q26, .int 0, .ref q34, .ref q42, .int 0, .int 0, .int 0, .int 0, .int 0, .int 0, .ref q51, .ref q60, .ref q69, .ref q77, .int 0, .int 0, .int 0, .int 0, .int 0, .int 0, .ref q85, .ref q131, .int 0, .int 0, .ref q138, .ref q145, .null, .null])), (q8, .inl (cI, 177, .inl (fun _ => 0))), (q17, .inl (cI, 177, .inl (fun _ => 0))), (q26, .inl (cI, 177, .inl (fun _ => 0))), (q34, .inl (cI, 8, .inl (fun _ => 0))), (q42, .inl (cI, 100, .inl (fun _ => 0))), (q51, .inl (cI, 177, .inl (fun _ => 0))), (q60, .inl (cI, 256, .inl (fun _ => 0))), (q69, .inl (cI, 256, .inl (fun _ => 0))), (q77, .inl (cI, 120, .inl (fun _ => 0))), (q85, .inl (cS, 7, .inr (.inr (.inr (.inr (va_up (va_up (va_up (va_up (va_up (va_up (va_up (fun _ => none) 0 (some (ki 12))) 1 (some (ki 13))) 2 (some (ki 14))) 3 (some (ki 15))) 4 (some (ki 16))) 5 (some (ki 17))) 6 (some (ki 18)))))))), (q131, .inl (cI, 480, .inl (fun _ => 0))), (q138, .inl (cI, 4, .inl (fun _ => 0))), (q145, .inl (cI, 4, .inl (fun _ => 0)))] H := hP
  have hD : va_D A [(h0, .inr (7, [.ref q8, .ref q17, .ref q26, .int 0, .ref q34, .ref q42, .int 0, .int 0, .int 0, .int 0, .int 0, .int 0, .ref q51, .ref q60, .ref q69, .ref q77, .int 0, .int 0, .int 0, .int 0, .int 0, .int 0, .ref q85, .ref q131, .int 0, .int 0, .ref q138, .ref q145, .null, .null])), (q8, .inl (cI, 177, .inl (fun _ => 0))), (q17, .inl (cI, 177, .inl (fun _ => 0))), (q26, .inl (cI, 177, .inl (fun _ => 0))), (q34, .inl (cI, 8, .inl (fun _ => 0))), (q42, .inl (cI, 100, .inl (fun _ => 0))), (q51, .inl (cI, 177, .inl (fun _ => 0))), (q60, .inl (cI, 256, .inl (fun _ => 0))), (q69, .inl (cI, 256, .inl (fun _ => 0))), (q77, .inl (cI, 120, .inl (fun _ => 0))), (q85, .inl (cS, 7, .inr (.inr (.inr (.inr (va_up (va_up (va_up (va_up (va_up (va_up (va_up (fun _ => none) 0 (some (ki 12))) 1 (some (ki 13))) 2 (some (ki 14))) 3 (some (ki 15))) 4 (some (ki 16))) 5 (some (ki 17))) 6 (some (ki 18)))))))), (q131, .inl (cI, 480, .inl (fun _ => 0))), (q138, .inl (cI, 4, .inl (fun _ => 0))), (q145, .inl (cI, 4, .inl (fun _ => 0)))] := hD
  refine lv_aload_n hx hb dX7_init_150 rfl (lv_at hl 0 rfl) ?_
  refine lv_sipush (v := 160) hx hb dX7_init_151 (by decide) ?_
  refine va_newa (atype := .int) (ty := .int) hx hb (xts _ m_aci) rfl hK hP hD hS hA (N' := 160) (a0 := (160, .inl (fun _ => 0))) (fun _ => rfl) (by decide) (by decide) (by decide) (show 13 + 1 ≤ 15 by decide) (show 1943 + 160 ≤ 2143 by decide) dX7_init_154 (fun q154 cA H hK2 hP hD hS => ?_)
  obtain rfl : cI = cA := ac_1 (i := 0) (j := 2) hK2 rfl rfl
  clear hK2
  have hP : va_P D xcl [(h0, .inr (7, [.ref q8, .ref q17, .ref q26, .int 0, .ref q34, .ref q42, .int 0, .int 0, .int 0, .int 0, .int 0, .int 0, .ref q51, .ref q60, .ref q69, .ref q77, .int 0, .int 0, .int 0, .int 0, .int 0, .int 0, .ref q85, .ref q131, .int 0, .int 0, .ref q138, .ref q145, .null, .null])), (q8, .inl (cI, 177, .inl (fun _ => 0))), (q17, .inl (cI, 177, .inl (fun _ => 0))), (q26, .inl (cI, 177, .inl (fun _ => 0))), (q34, .inl (cI, 8, .inl (fun _ => 0))), (q42, .inl (cI, 100, .inl (fun _ => 0))), (q51, .inl (cI, 177, .inl (fun _ => 0))), (q60, .inl (cI, 256, .inl (fun _ => 0))), (q69, .inl (cI, 256, .inl (fun _ => 0))), (q77, .inl (cI, 120, .inl (fun _ => 0))), (q85, .inl (cS, 7, .inr (.inr (.inr (.inr (va_up (va_up (va_up (va_up (va_up (va_up (va_up (fun _ => none) 0 (some (ki 12))) 1 (some (ki 13))) 2 (some (ki 14))) 3 (some (ki 15))) 4 (some (ki 16))) 5 (some (ki 17))) 6 (some (ki 18)))))))), (q131, .inl (cI, 480, .inl (fun _ => 0))), (q138, .inl (cI, 4, .inl (fun _ => 0))), (q145, .inl (cI, 4, .inl (fun _ => 0))), (q154, .inl (cI, 160, .inl (fun _ => 0)))] H := hP
  have hD : va_D A [(h0, .inr (7, [.ref q8, .ref q17, .ref q26, .int 0, .ref q34, .ref q42, .int 0, .int 0, .int 0, .int 0, .int 0, .int 0, .ref q51, .ref q60, .ref q69, .ref q77, .int 0, .int 0, .int 0, .int 0, .int 0, .int 0, .ref q85, .ref q131, .int 0, .int 0, .ref q138, .ref q145, .null, .null])), (q8, .inl (cI, 177, .inl (fun _ => 0))), (q17, .inl (cI, 177, .inl (fun _ => 0))), (q26, .inl (cI, 177, .inl (fun _ => 0))), (q34, .inl (cI, 8, .inl (fun _ => 0))), (q42, .inl (cI, 100, .inl (fun _ => 0))), (q51, .inl (cI, 177, .inl (fun _ => 0))), (q60, .inl (cI, 256, .inl (fun _ => 0))), (q69, .inl (cI, 256, .inl (fun _ => 0))), (q77, .inl (cI, 120, .inl (fun _ => 0))), (q85, .inl (cS, 7, .inr (.inr (.inr (.inr (va_up (va_up (va_up (va_up (va_up (va_up (va_up (fun _ => none) 0 (some (ki 12))) 1 (some (ki 13))) 2 (some (ki 14))) 3 (some (ki 15))) 4 (some (ki 16))) 5 (some (ki 17))) 6 (some (ki 18)))))))), (q131, .inl (cI, 480, .inl (fun _ => 0))), (q138, .inl (cI, 4, .inl (fun _ => 0))), (q145, .inl (cI, 4, .inl (fun _ => 0))), (q154, .inl (cI, 160, .inl (fun _ => 0)))] := hD
  refine W.widen (k := 14) (n := 2103) (by decide) (by decide) ?_
  refine va_putF (D := D) (ci := 7) (v := .ref q154) (ty := .array .int) (C := RX7) (T := TX7) (N := 30) hx hb xts in_X7 tyX7 tyX7_ok nmX7 hown hK hP hD hS 0 rfl rfl 28 (by decide) (xts _ m_fl_X7_66) (fun _ h9 => h9) rfl hin rfl (by decide +kernel) rfl rfl (Nat.le_of_ble_eq_true rfl) dX7_init_156 (fun H locs hP hD hS => ?_)
  have hP : va_P D xcl [(h0, .inr (7, [.ref q8, .ref q17, .ref q26, .int 0, .ref q34, .ref q42, .int 0, .int 0, .int 0, .int 0, .int 0, .int 0, .ref q51, .ref q60, .ref q69, .ref q77, .int 0, .int 0, .int 0, .int 0, .int 0, .int 0, .ref q85, .ref q131, .int 0, .int 0, .ref q138, .ref q145, .ref q154, .null])), (q8, .inl (cI, 177, .inl (fun _ => 0))), (q17, .inl (cI, 177, .inl (fun _ => 0))), (q26, .inl (cI, 177, .inl (fun _ => 0))), (q34, .inl (cI, 8, .inl (fun _ => 0))), (q42, .inl (cI, 100, .inl (fun _ => 0))), (q51, .inl (cI, 177, .inl (fun _ => 0))), (q60, .inl (cI, 256, .inl (fun _ => 0))), (q69, .inl (cI, 256, .inl (fun _ => 0))), (q77, .inl (cI, 120, .inl (fun _ => 0))), (q85, .inl (cS, 7, .inr (.inr (.inr (.inr (va_up (va_up (va_up (va_up (va_up (va_up (va_up (fun _ => none) 0 (some (ki 12))) 1 (some (ki 13))) 2 (some (ki 14))) 3 (some (ki 15))) 4 (some (ki 16))) 5 (some (ki 17))) 6 (some (ki 18)))))))), (q131, .inl (cI, 480, .inl (fun _ => 0))), (q138, .inl (cI, 4, .inl (fun _ => 0))), (q145, .inl (cI, 4, .inl (fun _ => 0))), (q154, .inl (cI, 160, .inl (fun _ => 0)))] H := hP
  have hD : va_D A [(h0, .inr (7, [.ref q8, .ref q17, .ref q26, .int 0, .ref q34, .ref q42, .int 0, .int 0, .int 0, .int 0, .int 0, .int 0, .ref q51, .ref q60, .ref q69, .ref q77, .int 0, .int 0, .int 0, .int 0, .int 0, .int 0, .ref q85, .ref q131, .int 0, .int 0, .ref q138, .ref q145, .ref q154, .null])), (q8, .inl (cI, 177, .inl (fun _ => 0))), (q17, .inl (cI, 177, .inl (fun _ => 0))), (q26, .inl (cI, 177, .inl (fun _ => 0))), (q34, .inl (cI, 8, .inl (fun _ => 0))), (q42, .inl (cI, 100, .inl (fun _ => 0))), (q51, .inl (cI, 177, .inl (fun _ => 0))), (q60, .inl (cI, 256, .inl (fun _ => 0))), (q69, .inl (cI, 256, .inl (fun _ => 0))), (q77, .inl (cI, 120, .inl (fun _ => 0))), (q85, .inl (cS, 7, .inr (.inr (.inr (.inr (va_up (va_up (va_up (va_up (va_up (va_up (va_up (fun _ => none) 0 (some (ki 12))) 1 (some (ki 13))) 2 (some (ki 14))) 3 (some (ki 15))) 4 (some (ki 16))) 5 (some (ki 17))) 6 (some (ki 18)))))))), (q131, .inl (cI, 480, .inl (fun _ => 0))), (q138, .inl (cI, 4, .inl (fun _ => 0))), (q145, .inl (cI, 4, .inl (fun _ => 0))), (q154, .inl (cI, 160, .inl (fun _ => 0)))] := hD
  refine lv_aload_n hx hb dX7_init_159 rfl (lv_at hl 0 rfl) ?_
  refine lv_bipush (v := 40) hx hb dX7_init_160 (by decide) ?_
  refine va_newa (atype := .int) (ty := .int) hx hb (xts _ m_aci) rfl hK hP hD hS hA (N' := 40) (a0 := (40, .inl (fun _ => 0))) (fun _ => rfl) (by decide) (by decide) (by decide) (show 14 + 1 ≤ 15 by decide) (show 2103 + 40 ≤ 2143 by decide) dX7_init_162 (fun q162 cA H hK2 hP hD hS => ?_)
  obtain rfl : cI = cA := ac_1 (i := 0) (j := 2) hK2 rfl rfl
  clear hK2
  have hP : va_P D xcl [(h0, .inr (7, [.ref q8, .ref q17, .ref q26, .int 0, .ref q34, .ref q42, .int 0, .int 0, .int 0, .int 0, .int 0, .int 0, .ref q51, .ref q60, .ref q69, .ref q77, .int 0, .int 0, .int 0, .int 0, .int 0, .int 0, .ref q85, .ref q131, .int 0, .int 0, .ref q138, .ref q145, .ref q154, .null])), (q8, .inl (cI, 177, .inl (fun _ => 0))), (q17, .inl (cI, 177, .inl (fun _ => 0))), (q26, .inl (cI, 177, .inl (fun _ => 0))), (q34, .inl (cI, 8, .inl (fun _ => 0))), (q42, .inl (cI, 100, .inl (fun _ => 0))), (q51, .inl (cI, 177, .inl (fun _ => 0))), (q60, .inl (cI, 256, .inl (fun _ => 0))), (q69, .inl (cI, 256, .inl (fun _ => 0))), (q77, .inl (cI, 120, .inl (fun _ => 0))), (q85, .inl (cS, 7, .inr (.inr (.inr (.inr (va_up (va_up (va_up (va_up (va_up (va_up (va_up (fun _ => none) 0 (some (ki 12))) 1 (some (ki 13))) 2 (some (ki 14))) 3 (some (ki 15))) 4 (some (ki 16))) 5 (some (ki 17))) 6 (some (ki 18)))))))), (q131, .inl (cI, 480, .inl (fun _ => 0))), (q138, .inl (cI, 4, .inl (fun _ => 0))), (q145, .inl (cI, 4, .inl (fun _ => 0))), (q154, .inl (cI, 160, .inl (fun _ => 0))), (q162, .inl (cI, 40, .inl (fun _ => 0)))] H := hP
  have hD : va_D A [(h0, .inr (7, [.ref q8, .ref q17, .ref q26, .int 0, .ref q34, .ref q42, .int 0, .int 0, .int 0, .int 0, .int 0, .int 0, .ref q51, .ref q60, .ref q69, .ref q77, .int 0, .int 0, .int 0, .int 0, .int 0, .int 0, .ref q85, .ref q131, .int 0, .int 0, .ref q138, .ref q145, .ref q154, .null])), (q8, .inl (cI, 177, .inl (fun _ => 0))), (q17, .inl (cI, 177, .inl (fun _ => 0))), (q26, .inl (cI, 177, .inl (fun _ => 0))), (q34, .inl (cI, 8, .inl (fun _ => 0))), (q42, .inl (cI, 100, .inl (fun _ => 0))), (q51, .inl (cI, 177, .inl (fun _ => 0))), (q60, .inl (cI, 256, .inl (fun _ => 0))), (q69, .inl (cI, 256, .inl (fun _ => 0))), (q77, .inl (cI, 120, .inl (fun _ => 0))), (q85, .inl (cS, 7, .inr (.inr (.inr (.inr (va_up (va_up (va_up (va_up (va_up (va_up (va_up (fun _ => none) 0 (some (ki 12))) 1 (some (ki 13))) 2 (some (ki 14))) 3 (some (ki 15))) 4 (some (ki 16))) 5 (some (ki 17))) 6 (some (ki 18)))))))), (q131, .inl (cI, 480, .inl (fun _ => 0))), (q138, .inl (cI, 4, .inl (fun _ => 0))), (q145, .inl (cI, 4, .inl (fun _ => 0))), (q154, .inl (cI, 160, .inl (fun _ => 0))), (q162, .inl (cI, 40, .inl (fun _ => 0)))] := hD
  refine W.widen (k := 15) (n := 2143) (by decide) (by decide) ?_
  refine va_putF (D := D) (ci := 7) (v := .ref q162) (ty := .array .int) (C := RX7) (T := TX7) (N := 30) hx hb xts in_X7 tyX7 tyX7_ok nmX7 hown hK hP hD hS 0 rfl rfl 29 (by decide) (xts _ m_fl_X7_69) (fun _ h9 => h9) rfl hin rfl (by decide +kernel) rfl rfl (Nat.le_of_ble_eq_true rfl) dX7_init_164 (fun H locs hP hD hS => ?_)
  have hP : va_P D xcl [(h0, .inr (7, [.ref q8, .ref q17, .ref q26, .int 0, .ref q34, .ref q42, .int 0, .int 0, .int 0, .int 0, .int 0, .int 0, .ref q51, .ref q60, .ref q69, .ref q77, .int 0, .int 0, .int 0, .int 0, .int 0, .int 0, .ref q85, .ref q131, .int 0, .int 0, .ref q138, .ref q145, .ref q154, .ref q162])), (q8, .inl (cI, 177, .inl (fun _ => 0))), (q17, .inl (cI, 177, .inl (fun _ => 0))), (q26, .inl (cI, 177, .inl (fun _ => 0))), (q34, .inl (cI, 8, .inl (fun _ => 0))), (q42, .inl (cI, 100, .inl (fun _ => 0))), (q51, .inl (cI, 177, .inl (fun _ => 0))), (q60, .inl (cI, 256, .inl (fun _ => 0))), (q69, .inl (cI, 256, .inl (fun _ => 0))), (q77, .inl (cI, 120, .inl (fun _ => 0))), (q85, .inl (cS, 7, .inr (.inr (.inr (.inr (va_up (va_up (va_up (va_up (va_up (va_up (va_up (fun _ => none) 0 (some (ki 12))) 1 (some (ki 13))) 2 (some (ki 14))) 3 (some (ki 15))) 4 (some (ki 16))) 5 (some (ki 17))) 6 (some (ki 18)))))))), (q131, .inl (cI, 480, .inl (fun _ => 0))), (q138, .inl (cI, 4, .inl (fun _ => 0))), (q145, .inl (cI, 4, .inl (fun _ => 0))), (q154, .inl (cI, 160, .inl (fun _ => 0))), (q162, .inl (cI, 40, .inl (fun _ => 0)))] H := hP
  have hD : va_D A [(h0, .inr (7, [.ref q8, .ref q17, .ref q26, .int 0, .ref q34, .ref q42, .int 0, .int 0, .int 0, .int 0, .int 0, .int 0, .ref q51, .ref q60, .ref q69, .ref q77, .int 0, .int 0, .int 0, .int 0, .int 0, .int 0, .ref q85, .ref q131, .int 0, .int 0, .ref q138, .ref q145, .ref q154, .ref q162])), (q8, .inl (cI, 177, .inl (fun _ => 0))), (q17, .inl (cI, 177, .inl (fun _ => 0))), (q26, .inl (cI, 177, .inl (fun _ => 0))), (q34, .inl (cI, 8, .inl (fun _ => 0))), (q42, .inl (cI, 100, .inl (fun _ => 0))), (q51, .inl (cI, 177, .inl (fun _ => 0))), (q60, .inl (cI, 256, .inl (fun _ => 0))), (q69, .inl (cI, 256, .inl (fun _ => 0))), (q77, .inl (cI, 120, .inl (fun _ => 0))), (q85, .inl (cS, 7, .inr (.inr (.inr (.inr (va_up (va_up (va_up (va_up (va_up (va_up (va_up (fun _ => none) 0 (some (ki 12))) 1 (some (ki 13))) 2 (some (ki 14))) 3 (some (ki 15))) 4 (some (ki 16))) 5 (some (ki 17))) 6 (some (ki 18)))))))), (q131, .inl (cI, 480, .inl (fun _ => 0))), (q138, .inl (cI, 4, .inl (fun _ => 0))), (q145, .inl (cI, 4, .inl (fun _ => 0))), (q154, .inl (cI, 160, .inl (fun _ => 0))), (q162, .inl (cI, 40, .inl (fun _ => 0)))] := hD
  refine lv_aload_n hx hb dX7_init_167 rfl (lv_at hl 0 rfl) ?_
  refine va_get (D := D) (ci := 7) (v := .ref q8) (C := RX7) (T := TX7) (N := 30) hx hb xts in_X7 hown hK hP 0 rfl rfl 0 (by decide) (xts _ m_fl_X7_9) (fun _ h9 => h9) rfl dX7_init_168 ?_
  refine lv_iconst (v := 2) hx hb dX7_init_171 (by decide) ?_
  refine lv_iconst (v := 1) hx hb dX7_init_172 (by decide) ?_
  refine va_iast hx hb hK hP hD hS 1 0 rfl rfl (by unfold vp_in; decide) dX7_init_173 (fun H locs hP hD hS => ?_)
  have hP : va_P D xcl [(h0, .inr (7, [.ref q8, .ref q17, .ref q26, .int 0, .ref q34, .ref q42, .int 0, .int 0, .int 0, .int 0, .int 0, .int 0, .ref q51, .ref q60, .ref q69, .ref q77, .int 0, .int 0, .int 0, .int 0, .int 0, .int 0, .ref q85, .ref q131, .int 0, .int 0, .ref q138, .ref q145, .ref q154, .ref q162])), (q8, .inl (cI, 177, .inl (upd (fun _ => 0) (2 : Int32).toNatClampNeg 1))), (q17, .inl (cI, 177, .inl (fun _ => 0))), (q26, .inl (cI, 177, .inl (fun _ => 0))), (q34, .inl (cI, 8, .inl (fun _ => 0))), (q42, .inl (cI, 100, .inl (fun _ => 0))), (q51, .inl (cI, 177, .inl (fun _ => 0))), (q60, .inl (cI, 256, .inl (fun _ => 0))), (q69, .inl (cI, 256, .inl (fun _ => 0))), (q77, .inl (cI, 120, .inl (fun _ => 0))), (q85, .inl (cS, 7, .inr (.inr (.inr (.inr (va_up (va_up (va_up (va_up (va_up (va_up (va_up (fun _ => none) 0 (some (ki 12))) 1 (some (ki 13))) 2 (some (ki 14))) 3 (some (ki 15))) 4 (some (ki 16))) 5 (some (ki 17))) 6 (some (ki 18)))))))), (q131, .inl (cI, 480, .inl (fun _ => 0))), (q138, .inl (cI, 4, .inl (fun _ => 0))), (q145, .inl (cI, 4, .inl (fun _ => 0))), (q154, .inl (cI, 160, .inl (fun _ => 0))), (q162, .inl (cI, 40, .inl (fun _ => 0)))] H := hP
  have hD : va_D A [(h0, .inr (7, [.ref q8, .ref q17, .ref q26, .int 0, .ref q34, .ref q42, .int 0, .int 0, .int 0, .int 0, .int 0, .int 0, .ref q51, .ref q60, .ref q69, .ref q77, .int 0, .int 0, .int 0, .int 0, .int 0, .int 0, .ref q85, .ref q131, .int 0, .int 0, .ref q138, .ref q145, .ref q154, .ref q162])), (q8, .inl (cI, 177, .inl (upd (fun _ => 0) (2 : Int32).toNatClampNeg 1))), (q17, .inl (cI, 177, .inl (fun _ => 0))), (q26, .inl (cI, 177, .inl (fun _ => 0))), (q34, .inl (cI, 8, .inl (fun _ => 0))), (q42, .inl (cI, 100, .inl (fun _ => 0))), (q51, .inl (cI, 177, .inl (fun _ => 0))), (q60, .inl (cI, 256, .inl (fun _ => 0))), (q69, .inl (cI, 256, .inl (fun _ => 0))), (q77, .inl (cI, 120, .inl (fun _ => 0))), (q85, .inl (cS, 7, .inr (.inr (.inr (.inr (va_up (va_up (va_up (va_up (va_up (va_up (va_up (fun _ => none) 0 (some (ki 12))) 1 (some (ki 13))) 2 (some (ki 14))) 3 (some (ki 15))) 4 (some (ki 16))) 5 (some (ki 17))) 6 (some (ki 18)))))))), (q131, .inl (cI, 480, .inl (fun _ => 0))), (q138, .inl (cI, 4, .inl (fun _ => 0))), (q145, .inl (cI, 4, .inl (fun _ => 0))), (q154, .inl (cI, 160, .inl (fun _ => 0))), (q162, .inl (cI, 40, .inl (fun _ => 0)))] := hD
  generalize hf : (fun k => match k with | 0 => h0 | 1 => q8 | 2 => q17 | 3 => q26 | 4 => q34 | 5 => q42 | 6 => q51 | 7 => q60 | 8 => q69 | 9 => q77 | 10 => q85 | 11 => q131 | 12 => q138 | 13 => q145 | 14 => q154 | _ => q162 : Nat → Nat) = f
  generalize hks : (va_up (va_up (va_up (va_up (va_up (va_up (va_up (fun _ => none) 0 (some (ki 12))) 1 (some (ki 13))) 2 (some (ki 14))) 3 (some (ki 15))) 4 (some (ki 16))) 5 (some (ki 17))) 6 (some (ki 18))) = ks at hP hD
  have hk7 : ∀ k, k < 7 → ks k = some (ki (12 + k)) := by
    intro k hk
    rw [← hks]
    rcases (show k = 0 ∨ k = 1 ∨ k = 2 ∨ k = 3 ∨ k = 4 ∨ k = 5 ∨ k = 6 by omega) with rfl | rfl | rfl | rfl | rfl | rfl | rfl <;> rfl
  have f0 : f 0 = h0 := by rw [← hf]; rfl
  have e1 : (upd (fun _ => 0) (2 : Int32).toNatClampNeg 1 : Nat → Int32) = (fun j : Nat => iI (mA 0 1 (j : Int))) := by
    funext j
    show upd (fun _ => 0) 2 1 j = iI (mA 0 1 (j : Int))
    unfold upd mA
    rw [if_pos rfl]
    dsimp only
    by_cases a1 : j = 2
    · subst a1; rw [if_pos rfl, if_pos (by decide)]; rfl
    · rw [if_neg a1, if_neg (show ¬ (j : Int) = 2 by omega), if_neg (by omega)]; rfl
  have eW : [(h0, .inr (7, [.ref q8, .ref q17, .ref q26, .int 0, .ref q34, .ref q42, .int 0, .int 0, .int 0, .int 0, .int 0, .int 0, .ref q51, .ref q60, .ref q69, .ref q77, .int 0, .int 0, .int 0, .int 0, .int 0, .int 0, .ref q85, .ref q131, .int 0, .int 0, .ref q138, .ref q145, .ref q154, .ref q162])), (q8, .inl (cI, 177, .inl (upd (fun _ => 0) (2 : Int32).toNatClampNeg 1))), (q17, .inl (cI, 177, .inl (fun _ => 0))), (q26, .inl (cI, 177, .inl (fun _ => 0))), (q34, .inl (cI, 8, .inl (fun _ => 0))), (q42, .inl (cI, 100, .inl (fun _ => 0))), (q51, .inl (cI, 177, .inl (fun _ => 0))), (q60, .inl (cI, 256, .inl (fun _ => 0))), (q69, .inl (cI, 256, .inl (fun _ => 0))), (q77, .inl (cI, 120, .inl (fun _ => 0))), (q85, .inl (cS, 7, .inr (.inr (.inr (.inr (ks)))))), (q131, .inl (cI, 480, .inl (fun _ => 0))), (q138, .inl (cI, 4, .inl (fun _ => 0))), (q145, .inl (cI, 4, .inl (fun _ => 0))), (q154, .inl (cI, 160, .inl (fun _ => 0))), (q162, .inl (cI, 40, .inl (fun _ => 0)))] = xw (mdO D cI cS f ks) (mA 0) := by
    rw [e1, ← hf]
    rfl
  rw [eW] at hP hD
  have hL : (xsh (mdO D cI cS f ks)).length = 16 := rfl
  have hF : xFine (mdO D cI cS f ks) := by
    refine ⟨fun i j hi hj hij => ?_, fun _ _ _ _ _ => trivial⟩
    obtain ⟨ci, hci⟩ : ∃ x, (xsh (mdO D cI cS f ks))[i]? = some x := ⟨_, List.getElem?_eq_getElem hi⟩
    obtain ⟨cj, hcj⟩ : ∃ x, (xsh (mdO D cI cS f ks))[j]? = some x := ⟨_, List.getElem?_eq_getElem hj⟩
    exact hD.1 i j _ _ (xw_at hci) (xw_at hcj) hij
  have hAx : ∀ q, xA (mdO D cI cS f ks) q → A q := by
    rintro q ⟨k, hk, rfl⟩
    obtain ⟨ck, hck⟩ : ∃ x, (xsh (mdO D cI cS f ks))[k]? = some x := ⟨_, List.getElem?_eq_getElem hk⟩
    exact hD.2 k _ (xw_at (M := mA 0) hck)
  have hA2 : ∀ q, q < s.heap.size → ¬ xA (mdO D cI cS f ks) q → ¬ A q := by
    intro q hq hn hAq
    rw [← hAe] at hAq
    rcases hAq with ⟨k, e9, h9⟩ | h9
    · cases k with
      | zero =>
        have : q = h0 := by
          have := Option.some.inj h9
          exact (congrArg Prod.fst this).symm
        exact hn ⟨0, by rw [hL]; decide, by rw [this]; exact f0.symm⟩
      | succ k => cases h9
    · omega
  refine lv_iconst (v := iI 0) hx hb dX7_init_174 (by decide) ?_
  refine lv_istore_n (lv' := [(1, .int (iI 0)), (0, .ref h0)]) hx hb dX7_init_175 rfl hl (by decide) rfl (fun ls hl => ?_)
  rw [← f0] at hl
  refine md_loop1 hx hb hml hown xts hK (by decide) (by decide) (by decide) (by decide) hF hNe hAx hA2 (fun H locs ls hP hS hl => ?_) 9 0 rfl H locs ls hP hS hl
  refine lv_iconst (v := iI 0) hx hb dX7_init_200 (by decide) ?_
  refine lv_istore_n (lv' := [(1, .int (iI 0)), (0, .ref (f 0))]) hx hb dX7_init_201 rfl hl (by decide) rfl (fun ls hl => ?_)
  rw [mA_B] at hP
  refine md_loop2 hx hb hml hown xts hK hF hAx (fun H locs ls hP hS => ?_) 10 0 rfl H locs ls hP hS hl
  rw [mB_N] at hP
  have hD9 := xw_D hF N0
  have hDA : va_D A (xw (mdO D cI cS f ks) N0) := ⟨hD9.1, fun k q hk => hAx _ (hD9.2 k q hk)⟩
  exact W.vret hx hb hr (fun t ht hW => ⟨⟨(), rfl, trivial, f, ks, f0, hk7, by rw [ht]; exact hP, va_K.moved hW.alike hK, hDA⟩, hS.F ht⟩) hS.2.2 dX7_init_223
