/-! the reference: its reader: an ITEM -/
noncomputable def kdF (b : Int → Int) (z : ZsT) : Int := ktF b z.1 7
noncomputable def zk1 (b : Int → Int) (z : ZsT) (pe : Int) : ZsT := zMu b z (pe < 8)
noncomputable def zk2 (b : Int → Int) (z : ZsT) (pe : Int) : ZsT := zOp b (zk1 b z pe) 19 9
noncomputable def zk3 (b : Int → Int) (z : ZsT) (pe : Int) : ZsT := zOp b (zk2 b z pe) 20 9
noncomputable def zk4 (b : Int → Int) (z : ZsT) (pe : Int) : ZsT := zOp b (zk3 b z pe) 21 9
noncomputable def vk1 (b : Int → Int) (z : ZsT) (pe : Int) : Int := zOv b (zk1 b z pe) 19 0
noncomputable def vk2 (b : Int → Int) (z : ZsT) (pe : Int) : Int := zOv b (zk2 b z pe) 20 (vk1 b z pe)
noncomputable def vk3 (b : Int → Int) (z : ZsT) (pe : Int) : Int := zOv b (zk3 b z pe) 21 3
noncomputable def zt2 (b : Int → Int) (z : ZsT) (m : Int) : ZsT := zNu b z m
noncomputable def zt3 (b : Int → Int) (z : ZsT) (m : Int) : ZsT := zAn b (zt2 b z m) m (tkV b z.1)
noncomputable def zt4 (b : Int → Int) (z : ZsT) (m m3 : Int) : ZsT := zNu b (zt3 b z m) m3
noncomputable def zw1 (b : Int → Int) (z : ZsT) : ZsT := zIn b z 22
noncomputable def zu1 (b : Int → Int) (z : ZsT) : ZsT := zMu b z (wdP b z.1 23)
noncomputable def riZ (b : Int → Int) (z : ZsT) (pe : Int) : ZsT := if 0 ≤ kdF b z then zk4 b z pe else tI (wdP b z.1 22) (zt4 b (zw1 b z) 9 9) (zt4 b (zu1 b z) (pe - 1) 999)
noncomputable def riE (b : Int → Int) (z : ZsT) (pe : Int) : Int := if 0 ≤ kdF b z then pe + 1 else pe
noncomputable def itT (b : Int → Int) (pa : Int → Int) (it h m : Int) (z : ZsT) : Int → Int := itF pa it h (tkV b z.1) (tkV b (zt2 b z m).1) (tkV b (zt3 b z m).1)
noncomputable def riA (b : Int → Int) (z : ZsT) (it pe : Int) (pa : Int → Int) : Int → Int := if 0 ≤ kdF b z then itF pa it (kdF b z) (vk1 b z pe) (vk2 b z pe) (vk3 b z pe) else tI (wdP b z.1 22) (itT b pa it 10 9 (zw1 b z)) (itT b pa it 11 (pe - 1) (zu1 b z))
section RI
variable {b : Int → Int} {n : Int} {z : ZsT} {pe : Int}
theorem zk_O (hb : BtO b n) (h : zO b n z) : zO b n (zk1 b z pe) ∧ zO b n (zk2 b z pe) ∧ zO b n (zk3 b z pe) ∧ zO b n (zk4 b z pe) := by
  have h1 : zO b n (zk1 b z pe) := zMu_O hb h
  have h2 : zO b n (zk2 b z pe) := zOp_O hb h1
  have h3 : zO b n (zk3 b z pe) := zOp_O hb h2
  exact ⟨h1, h2, h3, zOp_O hb h3⟩
theorem vkk_R (hb : BtO b n) (h : zO b n z) : inR (vk1 b z pe) ∧ inR (vk2 b z pe) ∧ inR (vk3 b z pe) := by
  obtain ⟨h1, h2, h3, h4⟩ := zk_O hb h (pe := pe)
  have v1 : inR (vk1 b z pe) := zOv_R hb h1 (by decide)
  exact ⟨v1, zOv_R hb h2 v1, zOv_R hb h3 (by decide)⟩
theorem zt_O (hb : BtO b n) (h : zO b n z) {m m3 : Int} : zO b n (zt2 b z m) ∧ zO b n (zt3 b z m) ∧ zO b n (zt4 b z m m3) := by
  have h1 : zO b n (zt2 b z m) := zNu_O hb h
  have h2 : zO b n (zt3 b z m) := zAn_O hb h1
  exact ⟨h1, h2, zNu_O hb h2⟩
theorem tkV_I (hb : BtO b n) (h : zO b n z) : inR (tkV b z.1) := by have := tkV_R hb h.1; omega
theorem riZ_O (hb : BtO b n) (h : zO b n z) : zO b n (riZ b z pe) := by
  unfold riZ tI
  split
  · exact (zk_O hb h).2.2.2
  · split
    · exact (zt_O hb (zIn_O hb h)).2.2
    · exact (zt_O hb (zMu_O hb h)).2.2
theorem riA_R (hb : BtO b n) (h : zO b n z) {it : Int} {pa : Int → Int} (hp : ∀ k, inR (pa k)) : ∀ k, inR (riA b z it pe pa k) := by
  have hk := ktF_R b z.1 7 (by decide)
  have hv := vkk_R hb h (pe := pe)
  have hw : zO b n (zw1 b z) := zIn_O hb h
  have hu : zO b n (zu1 b z) := zMu_O hb h
  unfold riA tI
  split
  · exact itF_R hp (by unfold kdF; omega) hv.1 hv.2.1 hv.2.2
  · split
    · exact itF_R hp (by decide) (tkV_I hb hw) (tkV_I hb (zt_O hb hw (m3 := 0)).1) (tkV_I hb (zt_O hb hw (m3 := 0)).2.1)
    · exact itF_R hp (by decide) (tkV_I hb hu) (tkV_I hb (zt_O hb hu (m3 := 0)).1) (tkV_I hb (zt_O hb hu (m3 := 0)).2.1)
end RI
theorem dX7_readItem_0 : decode cX7_readItem 0 = .ok (.aload_n 0, 1) := by decide +kernel
theorem dX7_readItem_1 : decode cX7_readItem 1 = .ok (.invokevirtual 340, 3) := by decide +kernel
theorem dX7_readItem_4 : decode cX7_readItem 4 = .ok (.istore_n 1, 1) := by decide +kernel
theorem dX7_readItem_5 : decode cX7_readItem 5 = .ok (.iload_n 1, 1) := by decide +kernel
theorem dX7_readItem_6 : decode cX7_readItem 6 = .ok (.ifCond .lt 110, 3) := by decide +kernel
theorem dX7_readItem_9 : decode cX7_readItem 9 = .ok (.aload_n 0, 1) := by decide +kernel
theorem dX7_readItem_10 : decode cX7_readItem 10 = .ok (.aload_n 0, 1) := by decide +kernel
theorem dX7_readItem_11 : decode cX7_readItem 11 = .ok (.getfield 343, 3) := by decide +kernel
theorem dX7_readItem_14 : decode cX7_readItem 14 = .ok (.bipush 8, 2) := by decide +kernel
theorem dX7_readItem_16 : decode cX7_readItem 16 = .ok (.if_icmp .ge 7, 3) := by decide +kernel
theorem dX7_readItem_19 : decode cX7_readItem 19 = .ok (.iconst 1, 1) := by decide +kernel
theorem dX7_readItem_20 : decode cX7_readItem 20 = .ok (.goto 4, 3) := by decide +kernel
theorem dX7_readItem_23 : decode cX7_readItem 23 = .ok (.iconst 0, 1) := by decide +kernel
theorem dX7_readItem_24 : decode cX7_readItem 24 = .ok (.invokevirtual 326, 3) := by decide +kernel
theorem dX7_readItem_27 : decode cX7_readItem 27 = .ok (.aload_n 0, 1) := by decide +kernel
theorem dX7_readItem_28 : decode cX7_readItem 28 = .ok (.dup, 1) := by decide +kernel
theorem dX7_readItem_29 : decode cX7_readItem 29 = .ok (.getfield 343, 3) := by decide +kernel
theorem dX7_readItem_32 : decode cX7_readItem 32 = .ok (.iconst 1, 1) := by decide +kernel
theorem dX7_readItem_33 : decode cX7_readItem 33 = .ok (.iadd, 1) := by decide +kernel
theorem dX7_readItem_34 : decode cX7_readItem 34 = .ok (.putfield 343, 3) := by decide +kernel
theorem dX7_readItem_37 : decode cX7_readItem 37 = .ok (.aload_n 0, 1) := by decide +kernel
theorem dX7_readItem_38 : decode cX7_readItem 38 = .ok (.ldc_w 346, 3) := by decide +kernel
theorem dX7_readItem_41 : decode cX7_readItem 41 = .ok (.invokevirtual 347, 3) := by decide +kernel
theorem dX7_readItem_44 : decode cX7_readItem 44 = .ok (.ifCond .eq 13, 3) := by decide +kernel
theorem dX7_readItem_47 : decode cX7_readItem 47 = .ok (.aload_n 0, 1) := by decide +kernel
theorem dX7_readItem_48 : decode cX7_readItem 48 = .ok (.iconst 0, 1) := by decide +kernel
theorem dX7_readItem_49 : decode cX7_readItem 49 = .ok (.bipush 9, 2) := by decide +kernel
theorem dX7_readItem_51 : decode cX7_readItem 51 = .ok (.invokevirtual 337, 3) := by decide +kernel
theorem dX7_readItem_54 : decode cX7_readItem 54 = .ok (.goto 4, 3) := by decide +kernel
theorem dX7_readItem_57 : decode cX7_readItem 57 = .ok (.iconst 0, 1) := by decide +kernel
theorem dX7_readItem_58 : decode cX7_readItem 58 = .ok (.istore_n 2, 1) := by decide +kernel
theorem dX7_readItem_59 : decode cX7_readItem 59 = .ok (.aload_n 0, 1) := by decide +kernel
theorem dX7_readItem_60 : decode cX7_readItem 60 = .ok (.ldc_w 350, 3) := by decide +kernel
theorem dX7_readItem_63 : decode cX7_readItem 63 = .ok (.invokevirtual 347, 3) := by decide +kernel
theorem dX7_readItem_66 : decode cX7_readItem 66 = .ok (.ifCond .eq 13, 3) := by decide +kernel
theorem dX7_readItem_69 : decode cX7_readItem 69 = .ok (.aload_n 0, 1) := by decide +kernel
theorem dX7_readItem_70 : decode cX7_readItem 70 = .ok (.iconst 0, 1) := by decide +kernel
theorem dX7_readItem_71 : decode cX7_readItem 71 = .ok (.bipush 9, 2) := by decide +kernel
theorem dX7_readItem_73 : decode cX7_readItem 73 = .ok (.invokevirtual 337, 3) := by decide +kernel
theorem dX7_readItem_76 : decode cX7_readItem 76 = .ok (.goto 4, 3) := by decide +kernel
theorem dX7_readItem_79 : decode cX7_readItem 79 = .ok (.iload_n 2, 1) := by decide +kernel
theorem dX7_readItem_80 : decode cX7_readItem 80 = .ok (.istore_n 3, 1) := by decide +kernel
theorem dX7_readItem_81 : decode cX7_readItem 81 = .ok (.aload_n 0, 1) := by decide +kernel
theorem dX7_readItem_82 : decode cX7_readItem 82 = .ok (.ldc_w 352, 3) := by decide +kernel
theorem dX7_readItem_85 : decode cX7_readItem 85 = .ok (.invokevirtual 347, 3) := by decide +kernel
theorem dX7_readItem_88 : decode cX7_readItem 88 = .ok (.ifCond .eq 13, 3) := by decide +kernel
theorem dX7_readItem_91 : decode cX7_readItem 91 = .ok (.aload_n 0, 1) := by decide +kernel
theorem dX7_readItem_92 : decode cX7_readItem 92 = .ok (.iconst 0, 1) := by decide +kernel
theorem dX7_readItem_93 : decode cX7_readItem 93 = .ok (.bipush 9, 2) := by decide +kernel
theorem dX7_readItem_95 : decode cX7_readItem 95 = .ok (.invokevirtual 337, 3) := by decide +kernel
theorem dX7_readItem_98 : decode cX7_readItem 98 = .ok (.goto 4, 3) := by decide +kernel
theorem dX7_readItem_101 : decode cX7_readItem 101 = .ok (.iconst 3, 1) := by decide +kernel
theorem dX7_readItem_102 : decode cX7_readItem 102 = .ok (.istore 4, 2) := by decide +kernel
theorem dX7_readItem_104 : decode cX7_readItem 104 = .ok (.aload_n 0, 1) := by decide +kernel
theorem dX7_readItem_105 : decode cX7_readItem 105 = .ok (.iload_n 1, 1) := by decide +kernel
theorem dX7_readItem_106 : decode cX7_readItem 106 = .ok (.iload_n 2, 1) := by decide +kernel
theorem dX7_readItem_107 : decode cX7_readItem 107 = .ok (.iload_n 3, 1) := by decide +kernel
theorem dX7_readItem_108 : decode cX7_readItem 108 = .ok (.iload 4, 2) := by decide +kernel
theorem dX7_readItem_110 : decode cX7_readItem 110 = .ok (.invokevirtual 354, 3) := by decide +kernel
theorem dX7_readItem_113 : decode cX7_readItem 113 = .ok (.goto 98, 3) := by decide +kernel
theorem dX7_readItem_116 : decode cX7_readItem 116 = .ok (.aload_n 0, 1) := by decide +kernel
theorem dX7_readItem_117 : decode cX7_readItem 117 = .ok (.ldc_w 358, 3) := by decide +kernel
theorem dX7_readItem_120 : decode cX7_readItem 120 = .ok (.invokevirtual 347, 3) := by decide +kernel
theorem dX7_readItem_123 : decode cX7_readItem 123 = .ok (.ifCond .eq 37, 3) := by decide +kernel
theorem dX7_readItem_126 : decode cX7_readItem 126 = .ok (.aload_n 0, 1) := by decide +kernel
theorem dX7_readItem_127 : decode cX7_readItem 127 = .ok (.iconst 0, 1) := by decide +kernel
theorem dX7_readItem_128 : decode cX7_readItem 128 = .ok (.bipush 9, 2) := by decide +kernel
theorem dX7_readItem_130 : decode cX7_readItem 130 = .ok (.invokevirtual 337, 3) := by decide +kernel
theorem dX7_readItem_133 : decode cX7_readItem 133 = .ok (.istore_n 2, 1) := by decide +kernel
theorem dX7_readItem_134 : decode cX7_readItem 134 = .ok (.aload_n 0, 1) := by decide +kernel
theorem dX7_readItem_135 : decode cX7_readItem 135 = .ok (.bipush 9, 2) := by decide +kernel
theorem dX7_readItem_137 : decode cX7_readItem 137 = .ok (.iload_n 2, 1) := by decide +kernel
theorem dX7_readItem_138 : decode cX7_readItem 138 = .ok (.invokevirtual 360, 3) := by decide +kernel
theorem dX7_readItem_141 : decode cX7_readItem 141 = .ok (.istore_n 3, 1) := by decide +kernel
theorem dX7_readItem_142 : decode cX7_readItem 142 = .ok (.aload_n 0, 1) := by decide +kernel
theorem dX7_readItem_143 : decode cX7_readItem 143 = .ok (.bipush 10, 2) := by decide +kernel
theorem dX7_readItem_145 : decode cX7_readItem 145 = .ok (.iload_n 2, 1) := by decide +kernel
theorem dX7_readItem_146 : decode cX7_readItem 146 = .ok (.iload_n 3, 1) := by decide +kernel
theorem dX7_readItem_147 : decode cX7_readItem 147 = .ok (.aload_n 0, 1) := by decide +kernel
theorem dX7_readItem_148 : decode cX7_readItem 148 = .ok (.iconst 0, 1) := by decide +kernel
theorem dX7_readItem_149 : decode cX7_readItem 149 = .ok (.bipush 9, 2) := by decide +kernel
theorem dX7_readItem_151 : decode cX7_readItem 151 = .ok (.invokevirtual 337, 3) := by decide +kernel
theorem dX7_readItem_154 : decode cX7_readItem 154 = .ok (.invokevirtual 354, 3) := by decide +kernel
theorem dX7_readItem_157 : decode cX7_readItem 157 = .ok (.goto 54, 3) := by decide +kernel
theorem dX7_readItem_160 : decode cX7_readItem 160 = .ok (.aload_n 0, 1) := by decide +kernel
theorem dX7_readItem_161 : decode cX7_readItem 161 = .ok (.aload_n 0, 1) := by decide +kernel
theorem dX7_readItem_162 : decode cX7_readItem 162 = .ok (.ldc_w 363, 3) := by decide +kernel
theorem dX7_readItem_165 : decode cX7_readItem 165 = .ok (.invokevirtual 333, 3) := by decide +kernel
theorem dX7_readItem_168 : decode cX7_readItem 168 = .ok (.invokevirtual 326, 3) := by decide +kernel
theorem dX7_readItem_171 : decode cX7_readItem 171 = .ok (.aload_n 0, 1) := by decide +kernel
theorem dX7_readItem_172 : decode cX7_readItem 172 = .ok (.iconst 0, 1) := by decide +kernel
theorem dX7_readItem_173 : decode cX7_readItem 173 = .ok (.aload_n 0, 1) := by decide +kernel
theorem dX7_readItem_174 : decode cX7_readItem 174 = .ok (.getfield 343, 3) := by decide +kernel
theorem dX7_readItem_177 : decode cX7_readItem 177 = .ok (.iconst 1, 1) := by decide +kernel
theorem dX7_readItem_178 : decode cX7_readItem 178 = .ok (.isub, 1) := by decide +kernel
theorem dX7_readItem_179 : decode cX7_readItem 179 = .ok (.invokevirtual 337, 3) := by decide +kernel
theorem dX7_readItem_182 : decode cX7_readItem 182 = .ok (.istore_n 2, 1) := by decide +kernel
theorem dX7_readItem_183 : decode cX7_readItem 183 = .ok (.aload_n 0, 1) := by decide +kernel
theorem dX7_readItem_184 : decode cX7_readItem 184 = .ok (.aload_n 0, 1) := by decide +kernel
theorem dX7_readItem_185 : decode cX7_readItem 185 = .ok (.getfield 343, 3) := by decide +kernel
theorem dX7_readItem_188 : decode cX7_readItem 188 = .ok (.iconst 1, 1) := by decide +kernel
theorem dX7_readItem_189 : decode cX7_readItem 189 = .ok (.isub, 1) := by decide +kernel
theorem dX7_readItem_190 : decode cX7_readItem 190 = .ok (.iload_n 2, 1) := by decide +kernel
theorem dX7_readItem_191 : decode cX7_readItem 191 = .ok (.invokevirtual 360, 3) := by decide +kernel
theorem dX7_readItem_194 : decode cX7_readItem 194 = .ok (.istore_n 3, 1) := by decide +kernel
theorem dX7_readItem_195 : decode cX7_readItem 195 = .ok (.aload_n 0, 1) := by decide +kernel
theorem dX7_readItem_196 : decode cX7_readItem 196 = .ok (.bipush 11, 2) := by decide +kernel
theorem dX7_readItem_198 : decode cX7_readItem 198 = .ok (.iload_n 2, 1) := by decide +kernel
theorem dX7_readItem_199 : decode cX7_readItem 199 = .ok (.iload_n 3, 1) := by decide +kernel
theorem dX7_readItem_200 : decode cX7_readItem 200 = .ok (.aload_n 0, 1) := by decide +kernel
theorem dX7_readItem_201 : decode cX7_readItem 201 = .ok (.iconst 0, 1) := by decide +kernel
theorem dX7_readItem_202 : decode cX7_readItem 202 = .ok (.sipush 999, 3) := by decide +kernel
theorem dX7_readItem_205 : decode cX7_readItem 205 = .ok (.invokevirtual 337, 3) := by decide +kernel
theorem dX7_readItem_208 : decode cX7_readItem 208 = .ok (.invokevirtual 354, 3) := by decide +kernel
theorem dX7_readItem_211 : decode cX7_readItem 211 = .ok (.return_, 1) := by decide +kernel
set_option maxHeartbeats 800000 in
set_option maxRecDepth 100000 in
theorem c_X7_readItem {l : Launch} {ω : xO} {ks : Nat → Option Nat} (hm : xsh ω = mdS ks) {ki vi : Nat → Nat} {z : ZsT} {it pe : Int} {pa : Int → Int} {M : xMem} (hφ : xph ω = xStr ki vi (xA ω)) (hb : BtO (btN M) (M 0 16)) (hz : zO (btN M) (M 0 16) z) (hw : z.2.2 = 0) (hks : ∀ k, k < 7 → ks k = some (ki (12 + k))) (hit : 0 ≤ it ∧ it < 120) (hpe : 0 ≤ pe ∧ pe ≤ 8) : Ct l ω yX7_readItem ({ frames := 6, cells := 0, slots := 0, locals := 130 } : Room) 5 0 [.ref (xad ω 0)] (nzM M z it pe pa) none (nzM M (riZ (btN M) z pe) (it + 1) (riE (btN M) z pe) (riA (btN M) z it pe pa)) := by
  refine Ct.of (bytes := cX7_readItem) (ret := none) (lv0 := [some (.ref (xad ω 0)), none, none, none, none]) m_cd_X7_readItem m_in_X7 (by decide +kernel) (by decide +kernel) rfl rfl rfl rfl (fun hR => nz_R hR hb (riZ_O hb hz) (by omega) (by unfold riE; split <;> omega) (riA_R hb hz (hR 11))) ?_
  intro κ h he hR
  have hg := hz.2.2.2 hw
  have hkd := ktF_R (btN M) z.1 7 (by decide)
  rw [show ktF (btN M) z.1 7 = kdF (btN M) z from rfl] at hkd
  obtain ⟨hk1, hk2, hk3, hk4⟩ := zk_O hb hz (pe := pe)
  obtain ⟨hv1, hv2, hv3⟩ := vkk_R hb hz (pe := pe)
  have hw1 : zO (btN M) (M 0 16) (zw1 (btN M) z) := zIn_O hb hz
  obtain ⟨hw2, hw3, hw4⟩ := zt_O hb hw1 (m := 9) (m3 := 9)
  have hu1 : zO (btN M) (M 0 16) (zu1 (btN M) z) := zMu_O hb hz
  obtain ⟨hu2, hu3, hu4⟩ := zt_O hb hu1 (m := pe - 1) (m3 := 999)
  refine x_aload_n h dX7_readItem_0 rfl ?_
  refine x_V0i h dX7_readItem_1 m_ml_X7_340 m_im_X7_kindTold m_se_X7_kindTold (sM0 hm) rfl (by decide) rfl (c_X7_kindTold hm hφ hb hz hg hks) ?_
  refine x_istore_n h dX7_readItem_4 rfl rfl ?_
  dsimp only [xset]
  rw [show ktF (btN M) z.1 7 = kdF (btN M) z from rfl]
  refine x_iload_n h dX7_readItem_5 rfl ?_
  refine x_if_lt h dX7_readItem_6 (tgt := 116) (by decide) (by omega) (fun q6 => ?_) (fun q6 => ?_)
  · refine x_aload_n h dX7_readItem_116 rfl ?_
    refine x_ldcwS h hφ 22 (by decide) rfl dX7_readItem_117 ?_
    refine x_V1i h dX7_readItem_120 m_ml_X7_347 m_im_X7_isNext m_se_X7_isNext (sM0 hm) rfl (by decide) rfl (c_X7_isNext hm hφ hb hz (by decide)) ?_
    refine x_ifeqB h dX7_readItem_123 (tgt := 160) (by decide) (fun q123 => ?_) (fun q123 => ?_)
    · have hnw : ¬ wdP (btN M) z.1 22 := fun y => q123 ⟨hw, y⟩
      refine x_mem (M' := nzM M z it pe pa) (by unfold zIn; rw [tI_n q123]) ?_
      refine x_aload_n h dX7_readItem_160 rfl ?_
      refine x_aload_n h dX7_readItem_161 rfl ?_
      refine x_ldcwS h hφ 23 (by decide) rfl dX7_readItem_162 ?_
      refine x_V1i h dX7_readItem_165 m_ml_X7_333 m_im_X7_isWord m_se_X7_isWord (sM0 hm) rfl (by decide) rfl (c_X7_isWord hm hφ hb hz hg (by decide)) ?_
      refine x_V1v h dX7_readItem_168 m_ml_X7_326 m_im_X7_must m_se_X7_must (sM0 hm) rfl (by decide) rfl (c_X7_mustB hm hb hz) ?_
      refine x_mem (M' := nzM M (zu1 (btN M) z) it pe pa) rfl ?_
      refine x_aload_n h dX7_readItem_171 rfl ?_
      refine x_iconst h dX7_readItem_172 ?_
      refine x_aload_n h dX7_readItem_173 rfl ?_
      refine x_geti (j := 25) 25 h dX7_readItem_174 (sM0 hm) rfl in_X7 rfl (by decide) m_fl_X7_343 rfl (fun r174 => ?_)
      try simp only [nz_r17, nz_r18, nz_r19, nz_r20, nz_r21, nz_r24, nz_r25, nz_r16, nz_r9, nz_r1, nz_r11, nz_b] at r174 ⊢
      refine x_iconst h dX7_readItem_177 ?_
      refine x_isub h dX7_readItem_178 ?_
      refine x_V2i h dX7_readItem_179 m_ml_X7_337 m_im_X7_number m_se_X7_number (sM0 hm) rfl (by decide) rfl (c_X7_number hm hb hu1 (by omega)) ?_
      refine x_istore_n h dX7_readItem_182 rfl rfl ?_
      dsimp only [xset]
      refine x_mem (M' := nzM M (zt2 (btN M) (zu1 (btN M) z) (pe - 1)) it pe pa) rfl ?_
      refine x_aload_n h dX7_readItem_183 rfl ?_
      refine x_aload_n h dX7_readItem_184 rfl ?_
      refine x_geti (j := 25) 25 h dX7_readItem_185 (sM0 hm) rfl in_X7 rfl (by decide) m_fl_X7_343 rfl (fun r185 => ?_)
      try simp only [nz_r17, nz_r18, nz_r19, nz_r20, nz_r21, nz_r24, nz_r25, nz_r16, nz_r9, nz_r1, nz_r11, nz_b] at r185 ⊢
      refine x_iconst h dX7_readItem_188 ?_
      refine x_isub h dX7_readItem_189 ?_
      refine x_iload_n h dX7_readItem_190 rfl ?_
      refine x_V2i h dX7_readItem_191 m_ml_X7_360 m_im_X7_another m_se_X7_another (sM0 hm) rfl (by decide) rfl (c_X7_another hm hb hu2 (by omega) (tkV_I hb hu1)) ?_
      refine x_istore_n h dX7_readItem_194 rfl rfl ?_
      dsimp only [xset]
      refine x_mem (M' := nzM M (zt3 (btN M) (zu1 (btN M) z) (pe - 1)) it pe pa) rfl ?_
      refine x_aload_n h dX7_readItem_195 rfl ?_
      refine x_bipush h dX7_readItem_196 (by decide) ?_
      refine x_iload_n h dX7_readItem_198 rfl ?_
      refine x_iload_n h dX7_readItem_199 rfl ?_
      refine x_aload_n h dX7_readItem_200 rfl ?_
      refine x_iconst h dX7_readItem_201 ?_
      refine x_sipush h dX7_readItem_202 (by decide) ?_
      refine x_V2i h dX7_readItem_205 m_ml_X7_337 m_im_X7_number m_se_X7_number (sM0 hm) rfl (by decide) rfl (c_X7_number hm hb hu3 (by decide)) ?_
      refine x_mem (M' := nzM M (zt4 (btN M) (zu1 (btN M) z) (pe - 1) 999) it pe pa) rfl ?_
      refine x_V4v h dX7_readItem_208 m_ml_X7_354 m_im_X7_item m_se_X7_item (sM0 hm) rfl (by decide) rfl (c_X7_item hm hb hu4 hit (by decide) (tkV_I hb hu1) (tkV_I hb hu2) (tkV_I hb hu3)) ?_
      exact x_vret h he dX7_readItem_211 (by unfold riZ riE riA; first | (have yk : 0 ≤ kdF (btN M) z := (by omega); rw [if_pos yk, if_pos yk, if_pos yk]) | (have yk : ¬ 0 ≤ kdF (btN M) z := (by omega); rw [if_neg yk, if_neg yk, if_neg yk]; first | (rw [tI_n hnw, tI_n hnw]; rfl) | (rw [tI_p q123.2, tI_p q123.2]; rfl)))
    · refine x_mem (M' := nzM M (zw1 (btN M) z) it pe pa) rfl ?_
      refine x_aload_n h dX7_readItem_126 rfl ?_
      refine x_iconst h dX7_readItem_127 ?_
      refine x_bipush h dX7_readItem_128 (by decide) ?_
      refine x_V2i h dX7_readItem_130 m_ml_X7_337 m_im_X7_number m_se_X7_number (sM0 hm) rfl (by decide) rfl (c_X7_number hm hb hw1 (by decide)) ?_
      refine x_istore_n h dX7_readItem_133 rfl rfl ?_
      dsimp only [xset]
      refine x_mem (M' := nzM M (zt2 (btN M) (zw1 (btN M) z) 9) it pe pa) rfl ?_
      refine x_aload_n h dX7_readItem_134 rfl ?_
      refine x_bipush h dX7_readItem_135 (by decide) ?_
      refine x_iload_n h dX7_readItem_137 rfl ?_
      refine x_V2i h dX7_readItem_138 m_ml_X7_360 m_im_X7_another m_se_X7_another (sM0 hm) rfl (by decide) rfl (c_X7_another hm hb hw2 (by decide) (tkV_I hb hw1)) ?_
      refine x_istore_n h dX7_readItem_141 rfl rfl ?_
      dsimp only [xset]
      refine x_mem (M' := nzM M (zt3 (btN M) (zw1 (btN M) z) 9) it pe pa) rfl ?_
      refine x_aload_n h dX7_readItem_142 rfl ?_
      refine x_bipush h dX7_readItem_143 (by decide) ?_
      refine x_iload_n h dX7_readItem_145 rfl ?_
      refine x_iload_n h dX7_readItem_146 rfl ?_
      refine x_aload_n h dX7_readItem_147 rfl ?_
      refine x_iconst h dX7_readItem_148 ?_
      refine x_bipush h dX7_readItem_149 (by decide) ?_
      refine x_V2i h dX7_readItem_151 m_ml_X7_337 m_im_X7_number m_se_X7_number (sM0 hm) rfl (by decide) rfl (c_X7_number hm hb hw3 (by decide)) ?_
      refine x_mem (M' := nzM M (zt4 (btN M) (zw1 (btN M) z) 9 9) it pe pa) rfl ?_
      refine x_V4v h dX7_readItem_154 m_ml_X7_354 m_im_X7_item m_se_X7_item (sM0 hm) rfl (by decide) rfl (c_X7_item hm hb hw4 hit (by decide) (tkV_I hb hw1) (tkV_I hb hw2) (tkV_I hb hw3)) ?_
      refine x_goto h dX7_readItem_157 (tgt := 211) (by decide) ?_
      exact x_vret h he dX7_readItem_211 (by unfold riZ riE riA; first | (have yk : 0 ≤ kdF (btN M) z := (by omega); rw [if_pos yk, if_pos yk, if_pos yk]) | (have yk : ¬ 0 ≤ kdF (btN M) z := (by omega); rw [if_neg yk, if_neg yk, if_neg yk]; first | (rw [tI_n hnw, tI_n hnw]; rfl) | (rw [tI_p q123.2, tI_p q123.2]; rfl)))
  · refine x_aload_n h dX7_readItem_9 rfl ?_
    refine x_aload_n h dX7_readItem_10 rfl ?_
    refine x_geti (j := 25) 25 h dX7_readItem_11 (sM0 hm) rfl in_X7 rfl (by decide) m_fl_X7_343 rfl (fun r11 => ?_)
    try simp only [nz_r17, nz_r18, nz_r19, nz_r20, nz_r21, nz_r24, nz_r25, nz_r16, nz_r9, nz_r1, nz_r11, nz_b] at r11 ⊢
    refine x_bipush h dX7_readItem_14 (by decide) ?_
    refine x_icmp_ge h dX7_readItem_16 (tgt := 23) (by decide) (by omega) (by omega) (fun q16 => ?_) (fun q16 => ?_)
    · refine x_iconst h dX7_readItem_23 ?_
      first | rw [bI_1 (show pe < 8 by omega)] | rw [bI_00 (show ¬ pe < 8 by omega)]
      refine x_V1v h dX7_readItem_24 m_ml_X7_326 m_im_X7_must m_se_X7_must (sM0 hm) rfl (by decide) rfl (c_X7_mustB hm hb hz) ?_
      refine x_aload_n h dX7_readItem_27 rfl ?_
      refine x_dup h dX7_readItem_28 rfl ?_
      refine x_geti (j := 25) 25 h dX7_readItem_29 (sM0 hm) rfl in_X7 rfl (by decide) m_fl_X7_343 rfl (fun r29 => ?_)
      try simp only [nz_r17, nz_r18, nz_r19, nz_r20, nz_r21, nz_r24, nz_r25, nz_r16, nz_r9, nz_r1, nz_r11, nz_b] at r29 ⊢
      refine x_iconst h dX7_readItem_32 ?_
      refine x_iadd h dX7_readItem_33 ?_
      refine x_puti (j := 25) 25 h dX7_readItem_34 (sM0 hm) rfl in_X7 rfl (by decide) m_fl_X7_343 tyX7_ok nmX7 rfl (tyX7_ok 25 (by decide)) rfl rfl (by omega) rfl ?_
      rw [nz_25]
      refine x_mem (M' := nzM M (zk1 (btN M) z pe) it (pe + 1) pa) rfl ?_
      refine x_aload_n h dX7_readItem_37 rfl ?_
      refine x_ldcwS h hφ 19 (by decide) rfl dX7_readItem_38 ?_
      refine x_V1i h dX7_readItem_41 m_ml_X7_347 m_im_X7_isNext m_se_X7_isNext (sM0 hm) rfl (by decide) rfl (c_X7_isNext hm hφ hb hk1 (by decide)) ?_
      refine x_ifeqB h dX7_readItem_44 (tgt := 57) (by decide) (fun q44 => ?_) (fun q44 => ?_)
      · refine x_iconst h dX7_readItem_57 ?_
        refine x_same (lv' := [some (.ref (xad ω 0)), some (.int (iI (kdF (btN M) z))), none, none, none]) (st' := [.int (iI (vk1 (btN M) z pe))]) (M' := nzM M (zk2 (btN M) z pe) it (pe + 1) pa) ?_ rfl (by unfold vk1 zOv; first | (rw [tI_n q44]) | (rw [tI_p q44]; try rfl)) (by unfold zk2 zOp; first | (rw [tI_n q44]) | (rw [tI_p q44]; try rfl))
        refine x_istore_n h dX7_readItem_58 rfl rfl ?_
        dsimp only [xset]
        refine x_aload_n h dX7_readItem_59 rfl ?_
        refine x_ldcwS h hφ 20 (by decide) rfl dX7_readItem_60 ?_
        refine x_V1i h dX7_readItem_63 m_ml_X7_347 m_im_X7_isNext m_se_X7_isNext (sM0 hm) rfl (by decide) rfl (c_X7_isNext hm hφ hb hk2 (by decide)) ?_
        refine x_ifeqB h dX7_readItem_66 (tgt := 79) (by decide) (fun q66 => ?_) (fun q66 => ?_)
        · refine x_iload_n h dX7_readItem_79 rfl ?_
          refine x_same (lv' := [some (.ref (xad ω 0)), some (.int (iI (kdF (btN M) z))), some (.int (iI (vk1 (btN M) z pe))), none, none]) (st' := [.int (iI (vk2 (btN M) z pe))]) (M' := nzM M (zk3 (btN M) z pe) it (pe + 1) pa) ?_ rfl (by unfold vk2 zOv; first | (rw [tI_n q66]) | (rw [tI_p q66]; try rfl)) (by unfold zk3 zOp; first | (rw [tI_n q66]) | (rw [tI_p q66]; try rfl))
          refine x_istore_n h dX7_readItem_80 rfl rfl ?_
          dsimp only [xset]
          refine x_aload_n h dX7_readItem_81 rfl ?_
          refine x_ldcwS h hφ 21 (by decide) rfl dX7_readItem_82 ?_
          refine x_V1i h dX7_readItem_85 m_ml_X7_347 m_im_X7_isNext m_se_X7_isNext (sM0 hm) rfl (by decide) rfl (c_X7_isNext hm hφ hb hk3 (by decide)) ?_
          refine x_ifeqB h dX7_readItem_88 (tgt := 101) (by decide) (fun q88 => ?_) (fun q88 => ?_)
          · refine x_iconst h dX7_readItem_101 ?_
            refine x_same (lv' := [some (.ref (xad ω 0)), some (.int (iI (kdF (btN M) z))), some (.int (iI (vk1 (btN M) z pe))), some (.int (iI (vk2 (btN M) z pe))), none]) (st' := [.int (iI (vk3 (btN M) z pe))]) (M' := nzM M (zk4 (btN M) z pe) it (pe + 1) pa) ?_ rfl (by unfold vk3 zOv; first | (rw [tI_n q88]) | (rw [tI_p q88]; try rfl)) (by unfold zk4 zOp; first | (rw [tI_n q88]) | (rw [tI_p q88]; try rfl))
            refine x_istore h dX7_readItem_102 rfl rfl ?_
            dsimp only [xset]
            refine x_aload_n h dX7_readItem_104 rfl ?_
            refine x_iload_n h dX7_readItem_105 rfl ?_
            refine x_iload_n h dX7_readItem_106 rfl ?_
            refine x_iload_n h dX7_readItem_107 rfl ?_
            refine x_iload h dX7_readItem_108 rfl ?_
            refine x_V4v h dX7_readItem_110 m_ml_X7_354 m_im_X7_item m_se_X7_item (sM0 hm) rfl (by decide) rfl (c_X7_item hm hb hk4 hit (by omega) hv1 hv2 hv3) ?_
            refine x_goto h dX7_readItem_113 (tgt := 211) (by decide) ?_
            exact x_vret h he dX7_readItem_211 (by unfold riZ riE riA; first | (have yk : 0 ≤ kdF (btN M) z := (by omega); rw [if_pos yk, if_pos yk, if_pos yk]) | (have yk : ¬ 0 ≤ kdF (btN M) z := (by omega); rw [if_neg yk, if_neg yk, if_neg yk]; first | (rw [tI_n hnw, tI_n hnw]; rfl) | (rw [tI_p q123.2, tI_p q123.2]; rfl)))
          · refine x_aload_n h dX7_readItem_91 rfl ?_
            refine x_iconst h dX7_readItem_92 ?_
            refine x_bipush h dX7_readItem_93 (by decide) ?_
            refine x_V2i h dX7_readItem_95 m_ml_X7_337 m_im_X7_number m_se_X7_number (sM0 hm) rfl (by decide) rfl (c_X7_number hm hb (zIn_O hb hk3) (by decide)) ?_
            refine x_goto h dX7_readItem_98 (tgt := 102) (by decide) ?_
            refine x_same (lv' := [some (.ref (xad ω 0)), some (.int (iI (kdF (btN M) z))), some (.int (iI (vk1 (btN M) z pe))), some (.int (iI (vk2 (btN M) z pe))), none]) (st' := [.int (iI (vk3 (btN M) z pe))]) (M' := nzM M (zk4 (btN M) z pe) it (pe + 1) pa) ?_ rfl (by unfold vk3 zOv; first | (rw [tI_n q88]) | (rw [tI_p q88]; try rfl)) (by unfold zk4 zOp; first | (rw [tI_n q88]) | (rw [tI_p q88]; try rfl))
            refine x_istore h dX7_readItem_102 rfl rfl ?_
            dsimp only [xset]
            refine x_aload_n h dX7_readItem_104 rfl ?_
            refine x_iload_n h dX7_readItem_105 rfl ?_
            refine x_iload_n h dX7_readItem_106 rfl ?_
            refine x_iload_n h dX7_readItem_107 rfl ?_
            refine x_iload h dX7_readItem_108 rfl ?_
            refine x_V4v h dX7_readItem_110 m_ml_X7_354 m_im_X7_item m_se_X7_item (sM0 hm) rfl (by decide) rfl (c_X7_item hm hb hk4 hit (by omega) hv1 hv2 hv3) ?_
            refine x_goto h dX7_readItem_113 (tgt := 211) (by decide) ?_
            exact x_vret h he dX7_readItem_211 (by unfold riZ riE riA; first | (have yk : 0 ≤ kdF (btN M) z := (by omega); rw [if_pos yk, if_pos yk, if_pos yk]) | (have yk : ¬ 0 ≤ kdF (btN M) z := (by omega); rw [if_neg yk, if_neg yk, if_neg yk]; first | (rw [tI_n hnw, tI_n hnw]; rfl) | (rw [tI_p q123.2, tI_p q123.2]; rfl)))
        · refine x_aload_n h dX7_readItem_69 rfl ?_
          refine x_iconst h dX7_readItem_70 ?_
          refine x_bipush h dX7_readItem_71 (by decide) ?_
          refine x_V2i h dX7_readItem_73 m_ml_X7_337 m_im_X7_number m_se_X7_number (sM0 hm) rfl (by decide) rfl (c_X7_number hm hb (zIn_O hb hk2) (by decide)) ?_
          refine x_goto h dX7_readItem_76 (tgt := 80) (by decide) ?_
          refine x_same (lv' := [some (.ref (xad ω 0)), some (.int (iI (kdF (btN M) z))), some (.int (iI (vk1 (btN M) z pe))), none, none]) (st' := [.int (iI (vk2 (btN M) z pe))]) (M' := nzM M (zk3 (btN M) z pe) it (pe + 1) pa) ?_ rfl (by unfold vk2 zOv; first | (rw [tI_n q66]) | (rw [tI_p q66]; try rfl)) (by unfold zk3 zOp; first | (rw [tI_n q66]) | (rw [tI_p q66]; try rfl))
          refine x_istore_n h dX7_readItem_80 rfl rfl ?_
          dsimp only [xset]
          refine x_aload_n h dX7_readItem_81 rfl ?_
          refine x_ldcwS h hφ 21 (by decide) rfl dX7_readItem_82 ?_
          refine x_V1i h dX7_readItem_85 m_ml_X7_347 m_im_X7_isNext m_se_X7_isNext (sM0 hm) rfl (by decide) rfl (c_X7_isNext hm hφ hb hk3 (by decide)) ?_
          refine x_ifeqB h dX7_readItem_88 (tgt := 101) (by decide) (fun q88 => ?_) (fun q88 => ?_)
          · refine x_iconst h dX7_readItem_101 ?_
            refine x_same (lv' := [some (.ref (xad ω 0)), some (.int (iI (kdF (btN M) z))), some (.int (iI (vk1 (btN M) z pe))), some (.int (iI (vk2 (btN M) z pe))), none]) (st' := [.int (iI (vk3 (btN M) z pe))]) (M' := nzM M (zk4 (btN M) z pe) it (pe + 1) pa) ?_ rfl (by unfold vk3 zOv; first | (rw [tI_n q88]) | (rw [tI_p q88]; try rfl)) (by unfold zk4 zOp; first | (rw [tI_n q88]) | (rw [tI_p q88]; try rfl))
            refine x_istore h dX7_readItem_102 rfl rfl ?_
            dsimp only [xset]
            refine x_aload_n h dX7_readItem_104 rfl ?_
            refine x_iload_n h dX7_readItem_105 rfl ?_
            refine x_iload_n h dX7_readItem_106 rfl ?_
            refine x_iload_n h dX7_readItem_107 rfl ?_
            refine x_iload h dX7_readItem_108 rfl ?_
            refine x_V4v h dX7_readItem_110 m_ml_X7_354 m_im_X7_item m_se_X7_item (sM0 hm) rfl (by decide) rfl (c_X7_item hm hb hk4 hit (by omega) hv1 hv2 hv3) ?_
            refine x_goto h dX7_readItem_113 (tgt := 211) (by decide) ?_
            exact x_vret h he dX7_readItem_211 (by unfold riZ riE riA; first | (have yk : 0 ≤ kdF (btN M) z := (by omega); rw [if_pos yk, if_pos yk, if_pos yk]) | (have yk : ¬ 0 ≤ kdF (btN M) z := (by omega); rw [if_neg yk, if_neg yk, if_neg yk]; first | (rw [tI_n hnw, tI_n hnw]; rfl) | (rw [tI_p q123.2, tI_p q123.2]; rfl)))
          · refine x_aload_n h dX7_readItem_91 rfl ?_
            refine x_iconst h dX7_readItem_92 ?_
            refine x_bipush h dX7_readItem_93 (by decide) ?_
            refine x_V2i h dX7_readItem_95 m_ml_X7_337 m_im_X7_number m_se_X7_number (sM0 hm) rfl (by decide) rfl (c_X7_number hm hb (zIn_O hb hk3) (by decide)) ?_
            refine x_goto h dX7_readItem_98 (tgt := 102) (by decide) ?_
            refine x_same (lv' := [some (.ref (xad ω 0)), some (.int (iI (kdF (btN M) z))), some (.int (iI (vk1 (btN M) z pe))), some (.int (iI (vk2 (btN M) z pe))), none]) (st' := [.int (iI (vk3 (btN M) z pe))]) (M' := nzM M (zk4 (btN M) z pe) it (pe + 1) pa) ?_ rfl (by unfold vk3 zOv; first | (rw [tI_n q88]) | (rw [tI_p q88]; try rfl)) (by unfold zk4 zOp; first | (rw [tI_n q88]) | (rw [tI_p q88]; try rfl))
            refine x_istore h dX7_readItem_102 rfl rfl ?_
            dsimp only [xset]
            refine x_aload_n h dX7_readItem_104 rfl ?_
            refine x_iload_n h dX7_readItem_105 rfl ?_
            refine x_iload_n h dX7_readItem_106 rfl ?_
            refine x_iload_n h dX7_readItem_107 rfl ?_
            refine x_iload h dX7_readItem_108 rfl ?_
            refine x_V4v h dX7_readItem_110 m_ml_X7_354 m_im_X7_item m_se_X7_item (sM0 hm) rfl (by decide) rfl (c_X7_item hm hb hk4 hit (by omega) hv1 hv2 hv3) ?_
            refine x_goto h dX7_readItem_113 (tgt := 211) (by decide) ?_
            exact x_vret h he dX7_readItem_211 (by unfold riZ riE riA; first | (have yk : 0 ≤ kdF (btN M) z := (by omega); rw [if_pos yk, if_pos yk, if_pos yk]) | (have yk : ¬ 0 ≤ kdF (btN M) z := (by omega); rw [if_neg yk, if_neg yk, if_neg yk]; first | (rw [tI_n hnw, tI_n hnw]; rfl) | (rw [tI_p q123.2, tI_p q123.2]; rfl)))
      · refine x_aload_n h dX7_readItem_47 rfl ?_
        refine x_iconst h dX7_readItem_48 ?_
        refine x_bipush h dX7_readItem_49 (by decide) ?_
        refine x_V2i h dX7_readItem_51 m_ml_X7_337 m_im_X7_number m_se_X7_number (sM0 hm) rfl (by decide) rfl (c_X7_number hm hb (zIn_O hb hk1) (by decide)) ?_
        refine x_goto h dX7_readItem_54 (tgt := 58) (by decide) ?_
        refine x_same (lv' := [some (.ref (xad ω 0)), some (.int (iI (kdF (btN M) z))), none, none, none]) (st' := [.int (iI (vk1 (btN M) z pe))]) (M' := nzM M (zk2 (btN M) z pe) it (pe + 1) pa) ?_ rfl (by unfold vk1 zOv; first | (rw [tI_n q44]) | (rw [tI_p q44]; try rfl)) (by unfold zk2 zOp; first | (rw [tI_n q44]) | (rw [tI_p q44]; try rfl))
        refine x_istore_n h dX7_readItem_58 rfl rfl ?_
        dsimp only [xset]
        refine x_aload_n h dX7_readItem_59 rfl ?_
        refine x_ldcwS h hφ 20 (by decide) rfl dX7_readItem_60 ?_
        refine x_V1i h dX7_readItem_63 m_ml_X7_347 m_im_X7_isNext m_se_X7_isNext (sM0 hm) rfl (by decide) rfl (c_X7_isNext hm hφ hb hk2 (by decide)) ?_
        refine x_ifeqB h dX7_readItem_66 (tgt := 79) (by decide) (fun q66 => ?_) (fun q66 => ?_)
        · refine x_iload_n h dX7_readItem_79 rfl ?_
          refine x_same (lv' := [some (.ref (xad ω 0)), some (.int (iI (kdF (btN M) z))), some (.int (iI (vk1 (btN M) z pe))), none, none]) (st' := [.int (iI (vk2 (btN M) z pe))]) (M' := nzM M (zk3 (btN M) z pe) it (pe + 1) pa) ?_ rfl (by unfold vk2 zOv; first | (rw [tI_n q66]) | (rw [tI_p q66]; try rfl)) (by unfold zk3 zOp; first | (rw [tI_n q66]) | (rw [tI_p q66]; try rfl))
          refine x_istore_n h dX7_readItem_80 rfl rfl ?_
          dsimp only [xset]
          refine x_aload_n h dX7_readItem_81 rfl ?_
          refine x_ldcwS h hφ 21 (by decide) rfl dX7_readItem_82 ?_
          refine x_V1i h dX7_readItem_85 m_ml_X7_347 m_im_X7_isNext m_se_X7_isNext (sM0 hm) rfl (by decide) rfl (c_X7_isNext hm hφ hb hk3 (by decide)) ?_
          refine x_ifeqB h dX7_readItem_88 (tgt := 101) (by decide) (fun q88 => ?_) (fun q88 => ?_)
          · refine x_iconst h dX7_readItem_101 ?_
            refine x_same (lv' := [some (.ref (xad ω 0)), some (.int (iI (kdF (btN M) z))), some (.int (iI (vk1 (btN M) z pe))), some (.int (iI (vk2 (btN M) z pe))), none]) (st' := [.int (iI (vk3 (btN M) z pe))]) (M' := nzM M (zk4 (btN M) z pe) it (pe + 1) pa) ?_ rfl (by unfold vk3 zOv; first | (rw [tI_n q88]) | (rw [tI_p q88]; try rfl)) (by unfold zk4 zOp; first | (rw [tI_n q88]) | (rw [tI_p q88]; try rfl))
            refine x_istore h dX7_readItem_102 rfl rfl ?_
            dsimp only [xset]
            refine x_aload_n h dX7_readItem_104 rfl ?_
            refine x_iload_n h dX7_readItem_105 rfl ?_
            refine x_iload_n h dX7_readItem_106 rfl ?_
            refine x_iload_n h dX7_readItem_107 rfl ?_
            refine x_iload h dX7_readItem_108 rfl ?_
            refine x_V4v h dX7_readItem_110 m_ml_X7_354 m_im_X7_item m_se_X7_item (sM0 hm) rfl (by decide) rfl (c_X7_item hm hb hk4 hit (by omega) hv1 hv2 hv3) ?_
            refine x_goto h dX7_readItem_113 (tgt := 211) (by decide) ?_
            exact x_vret h he dX7_readItem_211 (by unfold riZ riE riA; first | (have yk : 0 ≤ kdF (btN M) z := (by omega); rw [if_pos yk, if_pos yk, if_pos yk]) | (have yk : ¬ 0 ≤ kdF (btN M) z := (by omega); rw [if_neg yk, if_neg yk, if_neg yk]; first | (rw [tI_n hnw, tI_n hnw]; rfl) | (rw [tI_p q123.2, tI_p q123.2]; rfl)))
          · refine x_aload_n h dX7_readItem_91 rfl ?_
            refine x_iconst h dX7_readItem_92 ?_
            refine x_bipush h dX7_readItem_93 (by decide) ?_
            refine x_V2i h dX7_readItem_95 m_ml_X7_337 m_im_X7_number m_se_X7_number (sM0 hm) rfl (by decide) rfl (c_X7_number hm hb (zIn_O hb hk3) (by decide)) ?_
            refine x_goto h dX7_readItem_98 (tgt := 102) (by decide) ?_
            refine x_same (lv' := [some (.ref (xad ω 0)), some (.int (iI (kdF (btN M) z))), some (.int (iI (vk1 (btN M) z pe))), some (.int (iI (vk2 (btN M) z pe))), none]) (st' := [.int (iI (vk3 (btN M) z pe))]) (M' := nzM M (zk4 (btN M) z pe) it (pe + 1) pa) ?_ rfl (by unfold vk3 zOv; first | (rw [tI_n q88]) | (rw [tI_p q88]; try rfl)) (by unfold zk4 zOp; first | (rw [tI_n q88]) | (rw [tI_p q88]; try rfl))
            refine x_istore h dX7_readItem_102 rfl rfl ?_
            dsimp only [xset]
            refine x_aload_n h dX7_readItem_104 rfl ?_
            refine x_iload_n h dX7_readItem_105 rfl ?_
            refine x_iload_n h dX7_readItem_106 rfl ?_
            refine x_iload_n h dX7_readItem_107 rfl ?_
            refine x_iload h dX7_readItem_108 rfl ?_
            refine x_V4v h dX7_readItem_110 m_ml_X7_354 m_im_X7_item m_se_X7_item (sM0 hm) rfl (by decide) rfl (c_X7_item hm hb hk4 hit (by omega) hv1 hv2 hv3) ?_
            refine x_goto h dX7_readItem_113 (tgt := 211) (by decide) ?_
            exact x_vret h he dX7_readItem_211 (by unfold riZ riE riA; first | (have yk : 0 ≤ kdF (btN M) z := (by omega); rw [if_pos yk, if_pos yk, if_pos yk]) | (have yk : ¬ 0 ≤ kdF (btN M) z := (by omega); rw [if_neg yk, if_neg yk, if_neg yk]; first | (rw [tI_n hnw, tI_n hnw]; rfl) | (rw [tI_p q123.2, tI_p q123.2]; rfl)))
        · refine x_aload_n h dX7_readItem_69 rfl ?_
          refine x_iconst h dX7_readItem_70 ?_
          refine x_bipush h dX7_readItem_71 (by decide) ?_
          refine x_V2i h dX7_readItem_73 m_ml_X7_337 m_im_X7_number m_se_X7_number (sM0 hm) rfl (by decide) rfl (c_X7_number hm hb (zIn_O hb hk2) (by decide)) ?_
          refine x_goto h dX7_readItem_76 (tgt := 80) (by decide) ?_
          refine x_same (lv' := [some (.ref (xad ω 0)), some (.int (iI (kdF (btN M) z))), some (.int (iI (vk1 (btN M) z pe))), none, none]) (st' := [.int (iI (vk2 (btN M) z pe))]) (M' := nzM M (zk3 (btN M) z pe) it (pe + 1) pa) ?_ rfl (by unfold vk2 zOv; first | (rw [tI_n q66]) | (rw [tI_p q66]; try rfl)) (by unfold zk3 zOp; first | (rw [tI_n q66]) | (rw [tI_p q66]; try rfl))
          refine x_istore_n h dX7_readItem_80 rfl rfl ?_
          dsimp only [xset]
          refine x_aload_n h dX7_readItem_81 rfl ?_
          refine x_ldcwS h hφ 21 (by decide) rfl dX7_readItem_82 ?_
          refine x_V1i h dX7_readItem_85 m_ml_X7_347 m_im_X7_isNext m_se_X7_isNext (sM0 hm) rfl (by decide) rfl (c_X7_isNext hm hφ hb hk3 (by decide)) ?_
          refine x_ifeqB h dX7_readItem_88 (tgt := 101) (by decide) (fun q88 => ?_) (fun q88 => ?_)
          · refine x_iconst h dX7_readItem_101 ?_
            refine x_same (lv' := [some (.ref (xad ω 0)), some (.int (iI (kdF (btN M) z))), some (.int (iI (vk1 (btN M) z pe))), some (.int (iI (vk2 (btN M) z pe))), none]) (st' := [.int (iI (vk3 (btN M) z pe))]) (M' := nzM M (zk4 (btN M) z pe) it (pe + 1) pa) ?_ rfl (by unfold vk3 zOv; first | (rw [tI_n q88]) | (rw [tI_p q88]; try rfl)) (by unfold zk4 zOp; first | (rw [tI_n q88]) | (rw [tI_p q88]; try rfl))
            refine x_istore h dX7_readItem_102 rfl rfl ?_
            dsimp only [xset]
            refine x_aload_n h dX7_readItem_104 rfl ?_
            refine x_iload_n h dX7_readItem_105 rfl ?_
            refine x_iload_n h dX7_readItem_106 rfl ?_
            refine x_iload_n h dX7_readItem_107 rfl ?_
            refine x_iload h dX7_readItem_108 rfl ?_
            refine x_V4v h dX7_readItem_110 m_ml_X7_354 m_im_X7_item m_se_X7_item (sM0 hm) rfl (by decide) rfl (c_X7_item hm hb hk4 hit (by omega) hv1 hv2 hv3) ?_
            refine x_goto h dX7_readItem_113 (tgt := 211) (by decide) ?_
            exact x_vret h he dX7_readItem_211 (by unfold riZ riE riA; first | (have yk : 0 ≤ kdF (btN M) z := (by omega); rw [if_pos yk, if_pos yk, if_pos yk]) | (have yk : ¬ 0 ≤ kdF (btN M) z := (by omega); rw [if_neg yk, if_neg yk, if_neg yk]; first | (rw [tI_n hnw, tI_n hnw]; rfl) | (rw [tI_p q123.2, tI_p q123.2]; rfl)))
          · refine x_aload_n h dX7_readItem_91 rfl ?_
            refine x_iconst h dX7_readItem_92 ?_
            refine x_bipush h dX7_readItem_93 (by decide) ?_
            refine x_V2i h dX7_readItem_95 m_ml_X7_337 m_im_X7_number m_se_X7_number (sM0 hm) rfl (by decide) rfl (c_X7_number hm hb (zIn_O hb hk3) (by decide)) ?_
            refine x_goto h dX7_readItem_98 (tgt := 102) (by decide) ?_
            refine x_same (lv' := [some (.ref (xad ω 0)), some (.int (iI (kdF (btN M) z))), some (.int (iI (vk1 (btN M) z pe))), some (.int (iI (vk2 (btN M) z pe))), none]) (st' := [.int (iI (vk3 (btN M) z pe))]) (M' := nzM M (zk4 (btN M) z pe) it (pe + 1) pa) ?_ rfl (by unfold vk3 zOv; first | (rw [tI_n q88]) | (rw [tI_p q88]; try rfl)) (by unfold zk4 zOp; first | (rw [tI_n q88]) | (rw [tI_p q88]; try rfl))
            refine x_istore h dX7_readItem_102 rfl rfl ?_
            dsimp only [xset]
            refine x_aload_n h dX7_readItem_104 rfl ?_
            refine x_iload_n h dX7_readItem_105 rfl ?_
            refine x_iload_n h dX7_readItem_106 rfl ?_
            refine x_iload_n h dX7_readItem_107 rfl ?_
            refine x_iload h dX7_readItem_108 rfl ?_
            refine x_V4v h dX7_readItem_110 m_ml_X7_354 m_im_X7_item m_se_X7_item (sM0 hm) rfl (by decide) rfl (c_X7_item hm hb hk4 hit (by omega) hv1 hv2 hv3) ?_
            refine x_goto h dX7_readItem_113 (tgt := 211) (by decide) ?_
            exact x_vret h he dX7_readItem_211 (by unfold riZ riE riA; first | (have yk : 0 ≤ kdF (btN M) z := (by omega); rw [if_pos yk, if_pos yk, if_pos yk]) | (have yk : ¬ 0 ≤ kdF (btN M) z := (by omega); rw [if_neg yk, if_neg yk, if_neg yk]; first | (rw [tI_n hnw, tI_n hnw]; rfl) | (rw [tI_p q123.2, tI_p q123.2]; rfl)))
    · refine x_iconst h dX7_readItem_19 ?_
      refine x_goto h dX7_readItem_20 (tgt := 24) (by decide) ?_
      first | rw [bI_1 (show pe < 8 by omega)] | rw [bI_00 (show ¬ pe < 8 by omega)]
      refine x_V1v h dX7_readItem_24 m_ml_X7_326 m_im_X7_must m_se_X7_must (sM0 hm) rfl (by decide) rfl (c_X7_mustB hm hb hz) ?_
      refine x_aload_n h dX7_readItem_27 rfl ?_
      refine x_dup h dX7_readItem_28 rfl ?_
      refine x_geti (j := 25) 25 h dX7_readItem_29 (sM0 hm) rfl in_X7 rfl (by decide) m_fl_X7_343 rfl (fun r29 => ?_)
      try simp only [nz_r17, nz_r18, nz_r19, nz_r20, nz_r21, nz_r24, nz_r25, nz_r16, nz_r9, nz_r1, nz_r11, nz_b] at r29 ⊢
      refine x_iconst h dX7_readItem_32 ?_
      refine x_iadd h dX7_readItem_33 ?_
      refine x_puti (j := 25) 25 h dX7_readItem_34 (sM0 hm) rfl in_X7 rfl (by decide) m_fl_X7_343 tyX7_ok nmX7 rfl (tyX7_ok 25 (by decide)) rfl rfl (by omega) rfl ?_
      rw [nz_25]
      refine x_mem (M' := nzM M (zk1 (btN M) z pe) it (pe + 1) pa) rfl ?_
      refine x_aload_n h dX7_readItem_37 rfl ?_
      refine x_ldcwS h hφ 19 (by decide) rfl dX7_readItem_38 ?_
      refine x_V1i h dX7_readItem_41 m_ml_X7_347 m_im_X7_isNext m_se_X7_isNext (sM0 hm) rfl (by decide) rfl (c_X7_isNext hm hφ hb hk1 (by decide)) ?_
      refine x_ifeqB h dX7_readItem_44 (tgt := 57) (by decide) (fun q44 => ?_) (fun q44 => ?_)
      · refine x_iconst h dX7_readItem_57 ?_
        refine x_same (lv' := [some (.ref (xad ω 0)), some (.int (iI (kdF (btN M) z))), none, none, none]) (st' := [.int (iI (vk1 (btN M) z pe))]) (M' := nzM M (zk2 (btN M) z pe) it (pe + 1) pa) ?_ rfl (by unfold vk1 zOv; first | (rw [tI_n q44]) | (rw [tI_p q44]; try rfl)) (by unfold zk2 zOp; first | (rw [tI_n q44]) | (rw [tI_p q44]; try rfl))
        refine x_istore_n h dX7_readItem_58 rfl rfl ?_
        dsimp only [xset]
        refine x_aload_n h dX7_readItem_59 rfl ?_
        refine x_ldcwS h hφ 20 (by decide) rfl dX7_readItem_60 ?_
        refine x_V1i h dX7_readItem_63 m_ml_X7_347 m_im_X7_isNext m_se_X7_isNext (sM0 hm) rfl (by decide) rfl (c_X7_isNext hm hφ hb hk2 (by decide)) ?_
        refine x_ifeqB h dX7_readItem_66 (tgt := 79) (by decide) (fun q66 => ?_) (fun q66 => ?_)
        · refine x_iload_n h dX7_readItem_79 rfl ?_
          refine x_same (lv' := [some (.ref (xad ω 0)), some (.int (iI (kdF (btN M) z))), some (.int (iI (vk1 (btN M) z pe))), none, none]) (st' := [.int (iI (vk2 (btN M) z pe))]) (M' := nzM M (zk3 (btN M) z pe) it (pe + 1) pa) ?_ rfl (by unfold vk2 zOv; first | (rw [tI_n q66]) | (rw [tI_p q66]; try rfl)) (by unfold zk3 zOp; first | (rw [tI_n q66]) | (rw [tI_p q66]; try rfl))
          refine x_istore_n h dX7_readItem_80 rfl rfl ?_
          dsimp only [xset]
          refine x_aload_n h dX7_readItem_81 rfl ?_
          refine x_ldcwS h hφ 21 (by decide) rfl dX7_readItem_82 ?_
          refine x_V1i h dX7_readItem_85 m_ml_X7_347 m_im_X7_isNext m_se_X7_isNext (sM0 hm) rfl (by decide) rfl (c_X7_isNext hm hφ hb hk3 (by decide)) ?_
          refine x_ifeqB h dX7_readItem_88 (tgt := 101) (by decide) (fun q88 => ?_) (fun q88 => ?_)
          · refine x_iconst h dX7_readItem_101 ?_
            refine x_same (lv' := [some (.ref (xad ω 0)), some (.int (iI (kdF (btN M) z))), some (.int (iI (vk1 (btN M) z pe))), some (.int (iI (vk2 (btN M) z pe))), none]) (st' := [.int (iI (vk3 (btN M) z pe))]) (M' := nzM M (zk4 (btN M) z pe) it (pe + 1) pa) ?_ rfl (by unfold vk3 zOv; first | (rw [tI_n q88]) | (rw [tI_p q88]; try rfl)) (by unfold zk4 zOp; first | (rw [tI_n q88]) | (rw [tI_p q88]; try rfl))
            refine x_istore h dX7_readItem_102 rfl rfl ?_
            dsimp only [xset]
            refine x_aload_n h dX7_readItem_104 rfl ?_
            refine x_iload_n h dX7_readItem_105 rfl ?_
            refine x_iload_n h dX7_readItem_106 rfl ?_
            refine x_iload_n h dX7_readItem_107 rfl ?_
            refine x_iload h dX7_readItem_108 rfl ?_
            refine x_V4v h dX7_readItem_110 m_ml_X7_354 m_im_X7_item m_se_X7_item (sM0 hm) rfl (by decide) rfl (c_X7_item hm hb hk4 hit (by omega) hv1 hv2 hv3) ?_
            refine x_goto h dX7_readItem_113 (tgt := 211) (by decide) ?_
            exact x_vret h he dX7_readItem_211 (by unfold riZ riE riA; first | (have yk : 0 ≤ kdF (btN M) z := (by omega); rw [if_pos yk, if_pos yk, if_pos yk]) | (have yk : ¬ 0 ≤ kdF (btN M) z := (by omega); rw [if_neg yk, if_neg yk, if_neg yk]; first | (rw [tI_n hnw, tI_n hnw]; rfl) | (rw [tI_p q123.2, tI_p q123.2]; rfl)))
          · refine x_aload_n h dX7_readItem_91 rfl ?_
            refine x_iconst h dX7_readItem_92 ?_
            refine x_bipush h dX7_readItem_93 (by decide) ?_
            refine x_V2i h dX7_readItem_95 m_ml_X7_337 m_im_X7_number m_se_X7_number (sM0 hm) rfl (by decide) rfl (c_X7_number hm hb (zIn_O hb hk3) (by decide)) ?_
            refine x_goto h dX7_readItem_98 (tgt := 102) (by decide) ?_
            refine x_same (lv' := [some (.ref (xad ω 0)), some (.int (iI (kdF (btN M) z))), some (.int (iI (vk1 (btN M) z pe))), some (.int (iI (vk2 (btN M) z pe))), none]) (st' := [.int (iI (vk3 (btN M) z pe))]) (M' := nzM M (zk4 (btN M) z pe) it (pe + 1) pa) ?_ rfl (by unfold vk3 zOv; first | (rw [tI_n q88]) | (rw [tI_p q88]; try rfl)) (by unfold zk4 zOp; first | (rw [tI_n q88]) | (rw [tI_p q88]; try rfl))
            refine x_istore h dX7_readItem_102 rfl rfl ?_
            dsimp only [xset]
            refine x_aload_n h dX7_readItem_104 rfl ?_
            refine x_iload_n h dX7_readItem_105 rfl ?_
            refine x_iload_n h dX7_readItem_106 rfl ?_
            refine x_iload_n h dX7_readItem_107 rfl ?_
            refine x_iload h dX7_readItem_108 rfl ?_
            refine x_V4v h dX7_readItem_110 m_ml_X7_354 m_im_X7_item m_se_X7_item (sM0 hm) rfl (by decide) rfl (c_X7_item hm hb hk4 hit (by omega) hv1 hv2 hv3) ?_
            refine x_goto h dX7_readItem_113 (tgt := 211) (by decide) ?_
            exact x_vret h he dX7_readItem_211 (by unfold riZ riE riA; first | (have yk : 0 ≤ kdF (btN M) z := (by omega); rw [if_pos yk, if_pos yk, if_pos yk]) | (have yk : ¬ 0 ≤ kdF (btN M) z := (by omega); rw [if_neg yk, if_neg yk, if_neg yk]; first | (rw [tI_n hnw, tI_n hnw]; rfl) | (rw [tI_p q123.2, tI_p q123.2]; rfl)))
        · refine x_aload_n h dX7_readItem_69 rfl ?_
          refine x_iconst h dX7_readItem_70 ?_
          refine x_bipush h dX7_readItem_71 (by decide) ?_
          refine x_V2i h dX7_readItem_73 m_ml_X7_337 m_im_X7_number m_se_X7_number (sM0 hm) rfl (by decide) rfl (c_X7_number hm hb (zIn_O hb hk2) (by decide)) ?_
          refine x_goto h dX7_readItem_76 (tgt := 80) (by decide) ?_
          refine x_same (lv' := [some (.ref (xad ω 0)), some (.int (iI (kdF (btN M) z))), some (.int (iI (vk1 (btN M) z pe))), none, none]) (st' := [.int (iI (vk2 (btN M) z pe))]) (M' := nzM M (zk3 (btN M) z pe) it (pe + 1) pa) ?_ rfl (by unfold vk2 zOv; first | (rw [tI_n q66]) | (rw [tI_p q66]; try rfl)) (by unfold zk3 zOp; first | (rw [tI_n q66]) | (rw [tI_p q66]; try rfl))
          refine x_istore_n h dX7_readItem_80 rfl rfl ?_
          dsimp only [xset]
          refine x_aload_n h dX7_readItem_81 rfl ?_
          refine x_ldcwS h hφ 21 (by decide) rfl dX7_readItem_82 ?_
          refine x_V1i h dX7_readItem_85 m_ml_X7_347 m_im_X7_isNext m_se_X7_isNext (sM0 hm) rfl (by decide) rfl (c_X7_isNext hm hφ hb hk3 (by decide)) ?_
          refine x_ifeqB h dX7_readItem_88 (tgt := 101) (by decide) (fun q88 => ?_) (fun q88 => ?_)
          · refine x_iconst h dX7_readItem_101 ?_
            refine x_same (lv' := [some (.ref (xad ω 0)), some (.int (iI (kdF (btN M) z))), some (.int (iI (vk1 (btN M) z pe))), some (.int (iI (vk2 (btN M) z pe))), none]) (st' := [.int (iI (vk3 (btN M) z pe))]) (M' := nzM M (zk4 (btN M) z pe) it (pe + 1) pa) ?_ rfl (by unfold vk3 zOv; first | (rw [tI_n q88]) | (rw [tI_p q88]; try rfl)) (by unfold zk4 zOp; first | (rw [tI_n q88]) | (rw [tI_p q88]; try rfl))
            refine x_istore h dX7_readItem_102 rfl rfl ?_
            dsimp only [xset]
            refine x_aload_n h dX7_readItem_104 rfl ?_
            refine x_iload_n h dX7_readItem_105 rfl ?_
            refine x_iload_n h dX7_readItem_106 rfl ?_
            refine x_iload_n h dX7_readItem_107 rfl ?_
            refine x_iload h dX7_readItem_108 rfl ?_
            refine x_V4v h dX7_readItem_110 m_ml_X7_354 m_im_X7_item m_se_X7_item (sM0 hm) rfl (by decide) rfl (c_X7_item hm hb hk4 hit (by omega) hv1 hv2 hv3) ?_
            refine x_goto h dX7_readItem_113 (tgt := 211) (by decide) ?_
            exact x_vret h he dX7_readItem_211 (by unfold riZ riE riA; first | (have yk : 0 ≤ kdF (btN M) z := (by omega); rw [if_pos yk, if_pos yk, if_pos yk]) | (have yk : ¬ 0 ≤ kdF (btN M) z := (by omega); rw [if_neg yk, if_neg yk, if_neg yk]; first | (rw [tI_n hnw, tI_n hnw]; rfl) | (rw [tI_p q123.2, tI_p q123.2]; rfl)))
          · refine x_aload_n h dX7_readItem_91 rfl ?_
            refine x_iconst h dX7_readItem_92 ?_
            refine x_bipush h dX7_readItem_93 (by decide) ?_
            refine x_V2i h dX7_readItem_95 m_ml_X7_337 m_im_X7_number m_se_X7_number (sM0 hm) rfl (by decide) rfl (c_X7_number hm hb (zIn_O hb hk3) (by decide)) ?_
            refine x_goto h dX7_readItem_98 (tgt := 102) (by decide) ?_
            refine x_same (lv' := [some (.ref (xad ω 0)), some (.int (iI (kdF (btN M) z))), some (.int (iI (vk1 (btN M) z pe))), some (.int (iI (vk2 (btN M) z pe))), none]) (st' := [.int (iI (vk3 (btN M) z pe))]) (M' := nzM M (zk4 (btN M) z pe) it (pe + 1) pa) ?_ rfl (by unfold vk3 zOv; first | (rw [tI_n q88]) | (rw [tI_p q88]; try rfl)) (by unfold zk4 zOp; first | (rw [tI_n q88]) | (rw [tI_p q88]; try rfl))
            refine x_istore h dX7_readItem_102 rfl rfl ?_
            dsimp only [xset]
            refine x_aload_n h dX7_readItem_104 rfl ?_
            refine x_iload_n h dX7_readItem_105 rfl ?_
            refine x_iload_n h dX7_readItem_106 rfl ?_
            refine x_iload_n h dX7_readItem_107 rfl ?_
            refine x_iload h dX7_readItem_108 rfl ?_
            refine x_V4v h dX7_readItem_110 m_ml_X7_354 m_im_X7_item m_se_X7_item (sM0 hm) rfl (by decide) rfl (c_X7_item hm hb hk4 hit (by omega) hv1 hv2 hv3) ?_
            refine x_goto h dX7_readItem_113 (tgt := 211) (by decide) ?_
            exact x_vret h he dX7_readItem_211 (by unfold riZ riE riA; first | (have yk : 0 ≤ kdF (btN M) z := (by omega); rw [if_pos yk, if_pos yk, if_pos yk]) | (have yk : ¬ 0 ≤ kdF (btN M) z := (by omega); rw [if_neg yk, if_neg yk, if_neg yk]; first | (rw [tI_n hnw, tI_n hnw]; rfl) | (rw [tI_p q123.2, tI_p q123.2]; rfl)))
      · refine x_aload_n h dX7_readItem_47 rfl ?_
        refine x_iconst h dX7_readItem_48 ?_
        refine x_bipush h dX7_readItem_49 (by decide) ?_
        refine x_V2i h dX7_readItem_51 m_ml_X7_337 m_im_X7_number m_se_X7_number (sM0 hm) rfl (by decide) rfl (c_X7_number hm hb (zIn_O hb hk1) (by decide)) ?_
        refine x_goto h dX7_readItem_54 (tgt := 58) (by decide) ?_
        refine x_same (lv' := [some (.ref (xad ω 0)), some (.int (iI (kdF (btN M) z))), none, none, none]) (st' := [.int (iI (vk1 (btN M) z pe))]) (M' := nzM M (zk2 (btN M) z pe) it (pe + 1) pa) ?_ rfl (by unfold vk1 zOv; first | (rw [tI_n q44]) | (rw [tI_p q44]; try rfl)) (by unfold zk2 zOp; first | (rw [tI_n q44]) | (rw [tI_p q44]; try rfl))
        refine x_istore_n h dX7_readItem_58 rfl rfl ?_
        dsimp only [xset]
        refine x_aload_n h dX7_readItem_59 rfl ?_
        refine x_ldcwS h hφ 20 (by decide) rfl dX7_readItem_60 ?_
        refine x_V1i h dX7_readItem_63 m_ml_X7_347 m_im_X7_isNext m_se_X7_isNext (sM0 hm) rfl (by decide) rfl (c_X7_isNext hm hφ hb hk2 (by decide)) ?_
        refine x_ifeqB h dX7_readItem_66 (tgt := 79) (by decide) (fun q66 => ?_) (fun q66 => ?_)
        · refine x_iload_n h dX7_readItem_79 rfl ?_
          refine x_same (lv' := [some (.ref (xad ω 0)), some (.int (iI (kdF (btN M) z))), some (.int (iI (vk1 (btN M) z pe))), none, none]) (st' := [.int (iI (vk2 (btN M) z pe))]) (M' := nzM M (zk3 (btN M) z pe) it (pe + 1) pa) ?_ rfl (by unfold vk2 zOv; first | (rw [tI_n q66]) | (rw [tI_p q66]; try rfl)) (by unfold zk3 zOp; first | (rw [tI_n q66]) | (rw [tI_p q66]; try rfl))
          refine x_istore_n h dX7_readItem_80 rfl rfl ?_
          dsimp only [xset]
          refine x_aload_n h dX7_readItem_81 rfl ?_
          refine x_ldcwS h hφ 21 (by decide) rfl dX7_readItem_82 ?_
          refine x_V1i h dX7_readItem_85 m_ml_X7_347 m_im_X7_isNext m_se_X7_isNext (sM0 hm) rfl (by decide) rfl (c_X7_isNext hm hφ hb hk3 (by decide)) ?_
          refine x_ifeqB h dX7_readItem_88 (tgt := 101) (by decide) (fun q88 => ?_) (fun q88 => ?_)
          · refine x_iconst h dX7_readItem_101 ?_
            refine x_same (lv' := [some (.ref (xad ω 0)), some (.int (iI (kdF (btN M) z))), some (.int (iI (vk1 (btN M) z pe))), some (.int (iI (vk2 (btN M) z pe))), none]) (st' := [.int (iI (vk3 (btN M) z pe))]) (M' := nzM M (zk4 (btN M) z pe) it (pe + 1) pa) ?_ rfl (by unfold vk3 zOv; first | (rw [tI_n q88]) | (rw [tI_p q88]; try rfl)) (by unfold zk4 zOp; first | (rw [tI_n q88]) | (rw [tI_p q88]; try rfl))
            refine x_istore h dX7_readItem_102 rfl rfl ?_
            dsimp only [xset]
            refine x_aload_n h dX7_readItem_104 rfl ?_
            refine x_iload_n h dX7_readItem_105 rfl ?_
            refine x_iload_n h dX7_readItem_106 rfl ?_
            refine x_iload_n h dX7_readItem_107 rfl ?_
            refine x_iload h dX7_readItem_108 rfl ?_
            refine x_V4v h dX7_readItem_110 m_ml_X7_354 m_im_X7_item m_se_X7_item (sM0 hm) rfl (by decide) rfl (c_X7_item hm hb hk4 hit (by omega) hv1 hv2 hv3) ?_
            refine x_goto h dX7_readItem_113 (tgt := 211) (by decide) ?_
            exact x_vret h he dX7_readItem_211 (by unfold riZ riE riA; first | (have yk : 0 ≤ kdF (btN M) z := (by omega); rw [if_pos yk, if_pos yk, if_pos yk]) | (have yk : ¬ 0 ≤ kdF (btN M) z := (by omega); rw [if_neg yk, if_neg yk, if_neg yk]; first | (rw [tI_n hnw, tI_n hnw]; rfl) | (rw [tI_p q123.2, tI_p q123.2]; rfl)))
          · refine x_aload_n h dX7_readItem_91 rfl ?_
            refine x_iconst h dX7_readItem_92 ?_
            refine x_bipush h dX7_readItem_93 (by decide) ?_
            refine x_V2i h dX7_readItem_95 m_ml_X7_337 m_im_X7_number m_se_X7_number (sM0 hm) rfl (by decide) rfl (c_X7_number hm hb (zIn_O hb hk3) (by decide)) ?_
            refine x_goto h dX7_readItem_98 (tgt := 102) (by decide) ?_
            refine x_same (lv' := [some (.ref (xad ω 0)), some (.int (iI (kdF (btN M) z))), some (.int (iI (vk1 (btN M) z pe))), some (.int (iI (vk2 (btN M) z pe))), none]) (st' := [.int (iI (vk3 (btN M) z pe))]) (M' := nzM M (zk4 (btN M) z pe) it (pe + 1) pa) ?_ rfl (by unfold vk3 zOv; first | (rw [tI_n q88]) | (rw [tI_p q88]; try rfl)) (by unfold zk4 zOp; first | (rw [tI_n q88]) | (rw [tI_p q88]; try rfl))
            refine x_istore h dX7_readItem_102 rfl rfl ?_
            dsimp only [xset]
            refine x_aload_n h dX7_readItem_104 rfl ?_
            refine x_iload_n h dX7_readItem_105 rfl ?_
            refine x_iload_n h dX7_readItem_106 rfl ?_
            refine x_iload_n h dX7_readItem_107 rfl ?_
            refine x_iload h dX7_readItem_108 rfl ?_
            refine x_V4v h dX7_readItem_110 m_ml_X7_354 m_im_X7_item m_se_X7_item (sM0 hm) rfl (by decide) rfl (c_X7_item hm hb hk4 hit (by omega) hv1 hv2 hv3) ?_
            refine x_goto h dX7_readItem_113 (tgt := 211) (by decide) ?_
            exact x_vret h he dX7_readItem_211 (by unfold riZ riE riA; first | (have yk : 0 ≤ kdF (btN M) z := (by omega); rw [if_pos yk, if_pos yk, if_pos yk]) | (have yk : ¬ 0 ≤ kdF (btN M) z := (by omega); rw [if_neg yk, if_neg yk, if_neg yk]; first | (rw [tI_n hnw, tI_n hnw]; rfl) | (rw [tI_p q123.2, tI_p q123.2]; rfl)))
        · refine x_aload_n h dX7_readItem_69 rfl ?_
          refine x_iconst h dX7_readItem_70 ?_
          refine x_bipush h dX7_readItem_71 (by decide) ?_
          refine x_V2i h dX7_readItem_73 m_ml_X7_337 m_im_X7_number m_se_X7_number (sM0 hm) rfl (by decide) rfl (c_X7_number hm hb (zIn_O hb hk2) (by decide)) ?_
          refine x_goto h dX7_readItem_76 (tgt := 80) (by decide) ?_
          refine x_same (lv' := [some (.ref (xad ω 0)), some (.int (iI (kdF (btN M) z))), some (.int (iI (vk1 (btN M) z pe))), none, none]) (st' := [.int (iI (vk2 (btN M) z pe))]) (M' := nzM M (zk3 (btN M) z pe) it (pe + 1) pa) ?_ rfl (by unfold vk2 zOv; first | (rw [tI_n q66]) | (rw [tI_p q66]; try rfl)) (by unfold zk3 zOp; first | (rw [tI_n q66]) | (rw [tI_p q66]; try rfl))
          refine x_istore_n h dX7_readItem_80 rfl rfl ?_
          dsimp only [xset]
          refine x_aload_n h dX7_readItem_81 rfl ?_
          refine x_ldcwS h hφ 21 (by decide) rfl dX7_readItem_82 ?_
          refine x_V1i h dX7_readItem_85 m_ml_X7_347 m_im_X7_isNext m_se_X7_isNext (sM0 hm) rfl (by decide) rfl (c_X7_isNext hm hφ hb hk3 (by decide)) ?_
          refine x_ifeqB h dX7_readItem_88 (tgt := 101) (by decide) (fun q88 => ?_) (fun q88 => ?_)
          · refine x_iconst h dX7_readItem_101 ?_
            refine x_same (lv' := [some (.ref (xad ω 0)), some (.int (iI (kdF (btN M) z))), some (.int (iI (vk1 (btN M) z pe))), some (.int (iI (vk2 (btN M) z pe))), none]) (st' := [.int (iI (vk3 (btN M) z pe))]) (M' := nzM M (zk4 (btN M) z pe) it (pe + 1) pa) ?_ rfl (by unfold vk3 zOv; first | (rw [tI_n q88]) | (rw [tI_p q88]; try rfl)) (by unfold zk4 zOp; first | (rw [tI_n q88]) | (rw [tI_p q88]; try rfl))
            refine x_istore h dX7_readItem_102 rfl rfl ?_
            dsimp only [xset]
            refine x_aload_n h dX7_readItem_104 rfl ?_
            refine x_iload_n h dX7_readItem_105 rfl ?_
            refine x_iload_n h dX7_readItem_106 rfl ?_
            refine x_iload_n h dX7_readItem_107 rfl ?_
            refine x_iload h dX7_readItem_108 rfl ?_
            refine x_V4v h dX7_readItem_110 m_ml_X7_354 m_im_X7_item m_se_X7_item (sM0 hm) rfl (by decide) rfl (c_X7_item hm hb hk4 hit (by omega) hv1 hv2 hv3) ?_
            refine x_goto h dX7_readItem_113 (tgt := 211) (by decide) ?_
            exact x_vret h he dX7_readItem_211 (by unfold riZ riE riA; first | (have yk : 0 ≤ kdF (btN M) z := (by omega); rw [if_pos yk, if_pos yk, if_pos yk]) | (have yk : ¬ 0 ≤ kdF (btN M) z := (by omega); rw [if_neg yk, if_neg yk, if_neg yk]; first | (rw [tI_n hnw, tI_n hnw]; rfl) | (rw [tI_p q123.2, tI_p q123.2]; rfl)))
          · refine x_aload_n h dX7_readItem_91 rfl ?_
            refine x_iconst h dX7_readItem_92 ?_
            refine x_bipush h dX7_readItem_93 (by decide) ?_
            refine x_V2i h dX7_readItem_95 m_ml_X7_337 m_im_X7_number m_se_X7_number (sM0 hm) rfl (by decide) rfl (c_X7_number hm hb (zIn_O hb hk3) (by decide)) ?_
            refine x_goto h dX7_readItem_98 (tgt := 102) (by decide) ?_
            refine x_same (lv' := [some (.ref (xad ω 0)), some (.int (iI (kdF (btN M) z))), some (.int (iI (vk1 (btN M) z pe))), some (.int (iI (vk2 (btN M) z pe))), none]) (st' := [.int (iI (vk3 (btN M) z pe))]) (M' := nzM M (zk4 (btN M) z pe) it (pe + 1) pa) ?_ rfl (by unfold vk3 zOv; first | (rw [tI_n q88]) | (rw [tI_p q88]; try rfl)) (by unfold zk4 zOp; first | (rw [tI_n q88]) | (rw [tI_p q88]; try rfl))
            refine x_istore h dX7_readItem_102 rfl rfl ?_
            dsimp only [xset]
            refine x_aload_n h dX7_readItem_104 rfl ?_
            refine x_iload_n h dX7_readItem_105 rfl ?_
            refine x_iload_n h dX7_readItem_106 rfl ?_
            refine x_iload_n h dX7_readItem_107 rfl ?_
            refine x_iload h dX7_readItem_108 rfl ?_
            refine x_V4v h dX7_readItem_110 m_ml_X7_354 m_im_X7_item m_se_X7_item (sM0 hm) rfl (by decide) rfl (c_X7_item hm hb hk4 hit (by omega) hv1 hv2 hv3) ?_
            refine x_goto h dX7_readItem_113 (tgt := 211) (by decide) ?_
            exact x_vret h he dX7_readItem_211 (by unfold riZ riE riA; first | (have yk : 0 ≤ kdF (btN M) z := (by omega); rw [if_pos yk, if_pos yk, if_pos yk]) | (have yk : ¬ 0 ≤ kdF (btN M) z := (by omega); rw [if_neg yk, if_neg yk, if_neg yk]; first | (rw [tI_n hnw, tI_n hnw]; rfl) | (rw [tI_p q123.2, tI_p q123.2]; rfl)))

