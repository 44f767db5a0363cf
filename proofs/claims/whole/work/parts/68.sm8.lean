/-! links of the pools, as the walks ask for them -/
theorem l_SM_137_SM : lnk "StreamFiltersModel" 137 F_SM 38 15 := ⟨by decide, "StreamFiltersModel", Or.inl rfl, Or.inl (tb 629 (by decide +kernel) rfl)⟩
theorem l_SM_37_SM : lnk "StreamFiltersModel" 37 F_SM 38 13 := ⟨by decide, "StreamFiltersModel", Or.inl rfl, Or.inl (tb 627 (by decide +kernel) rfl)⟩
theorem l_SM_40_SM : lnk "StreamFiltersModel" 40 F_SM 38 14 := ⟨by decide, "StreamFiltersModel", Or.inl rfl, Or.inl (tb 628 (by decide +kernel) rfl)⟩
/-! decode rows -/
theorem d_SM_make_0 : decode b_SM_make 0 = .ok (.iload_n 3, 1) := by decide +kernel
theorem d_SM_make_1 : decode b_SM_make 1 = .ok (.ifCond .ge 7, 3) := by decide +kernel
theorem d_SM_make_4 : decode b_SM_make 4 = .ok (.iconst 1, 1) := by decide +kernel
theorem d_SM_make_5 : decode b_SM_make 5 = .ok (.goto 26, 3) := by decide +kernel
theorem d_SM_make_8 : decode b_SM_make 8 = .ok (.aload_n 0, 1) := by decide +kernel
theorem d_SM_make_9 : decode b_SM_make 9 = .ok (.getfield 37, 3) := by decide +kernel
theorem d_SM_make_12 : decode b_SM_make 12 = .ok (.iload_n 3, 1) := by decide +kernel
theorem d_SM_make_13 : decode b_SM_make 13 = .ok (.iaload, 1) := by decide +kernel
theorem d_SM_make_14 : decode b_SM_make 14 = .ok (.iload 4, 2) := by decide +kernel
theorem d_SM_make_16 : decode b_SM_make 16 = .ok (.ifCond .ge 7, 3) := by decide +kernel
theorem d_SM_make_19 : decode b_SM_make 19 = .ok (.iconst 0, 1) := by decide +kernel
theorem d_SM_make_20 : decode b_SM_make 20 = .ok (.goto 10, 3) := by decide +kernel
theorem d_SM_make_23 : decode b_SM_make 23 = .ok (.aload_n 0, 1) := by decide +kernel
theorem d_SM_make_24 : decode b_SM_make 24 = .ok (.getfield 37, 3) := by decide +kernel
theorem d_SM_make_27 : decode b_SM_make 27 = .ok (.iload 4, 2) := by decide +kernel
theorem d_SM_make_29 : decode b_SM_make 29 = .ok (.iaload, 1) := by decide +kernel
theorem d_SM_make_30 : decode b_SM_make 30 = .ok (.iadd, 1) := by decide +kernel
theorem d_SM_make_31 : decode b_SM_make 31 = .ok (.istore 6, 2) := by decide +kernel
theorem d_SM_make_33 : decode b_SM_make 33 = .ok (.iload_n 3, 1) := by decide +kernel
theorem d_SM_make_34 : decode b_SM_make 34 = .ok (.ifCond .ge 7, 3) := by decide +kernel
theorem d_SM_make_37 : decode b_SM_make 37 = .ok (.iconst 1, 1) := by decide +kernel
theorem d_SM_make_38 : decode b_SM_make 38 = .ok (.goto 42, 3) := by decide +kernel
theorem d_SM_make_41 : decode b_SM_make 41 = .ok (.iconst 1, 1) := by decide +kernel
theorem d_SM_make_42 : decode b_SM_make 42 = .ok (.iload 4, 2) := by decide +kernel
theorem d_SM_make_44 : decode b_SM_make 44 = .ok (.ifCond .lt 29, 3) := by decide +kernel
theorem d_SM_make_47 : decode b_SM_make 47 = .ok (.aload_n 0, 1) := by decide +kernel
theorem d_SM_make_48 : decode b_SM_make 48 = .ok (.getfield 40, 3) := by decide +kernel
theorem d_SM_make_51 : decode b_SM_make 51 = .ok (.iload 4, 2) := by decide +kernel
theorem d_SM_make_53 : decode b_SM_make 53 = .ok (.iaload, 1) := by decide +kernel
theorem d_SM_make_54 : decode b_SM_make 54 = .ok (.aload_n 0, 1) := by decide +kernel
theorem d_SM_make_55 : decode b_SM_make 55 = .ok (.getfield 40, 3) := by decide +kernel
theorem d_SM_make_58 : decode b_SM_make 58 = .ok (.iload_n 3, 1) := by decide +kernel
theorem d_SM_make_59 : decode b_SM_make 59 = .ok (.iaload, 1) := by decide +kernel
theorem d_SM_make_60 : decode b_SM_make 60 = .ok (.if_icmp .le 13, 3) := by decide +kernel
theorem d_SM_make_63 : decode b_SM_make 63 = .ok (.aload_n 0, 1) := by decide +kernel
theorem d_SM_make_64 : decode b_SM_make 64 = .ok (.getfield 40, 3) := by decide +kernel
theorem d_SM_make_67 : decode b_SM_make 67 = .ok (.iload 4, 2) := by decide +kernel
theorem d_SM_make_69 : decode b_SM_make 69 = .ok (.iaload, 1) := by decide +kernel
theorem d_SM_make_70 : decode b_SM_make 70 = .ok (.goto 9, 3) := by decide +kernel
theorem d_SM_make_73 : decode b_SM_make 73 = .ok (.aload_n 0, 1) := by decide +kernel
theorem d_SM_make_74 : decode b_SM_make 74 = .ok (.getfield 40, 3) := by decide +kernel
theorem d_SM_make_77 : decode b_SM_make 77 = .ok (.iload_n 3, 1) := by decide +kernel
theorem d_SM_make_78 : decode b_SM_make 78 = .ok (.iaload, 1) := by decide +kernel
theorem d_SM_make_79 : decode b_SM_make 79 = .ok (.iadd, 1) := by decide +kernel
theorem d_SM_make_80 : decode b_SM_make 80 = .ok (.istore 7, 2) := by decide +kernel
theorem d_SM_make_82 : decode b_SM_make 82 = .ok (.iload 6, 2) := by decide +kernel
theorem d_SM_make_84 : decode b_SM_make 84 = .ok (.bipush 24, 2) := by decide +kernel
theorem d_SM_make_86 : decode b_SM_make 86 = .ok (.if_icmp .gt 10, 3) := by decide +kernel
theorem d_SM_make_89 : decode b_SM_make 89 = .ok (.iload 7, 2) := by decide +kernel
theorem d_SM_make_91 : decode b_SM_make 91 = .ok (.bipush 8, 2) := by decide +kernel
theorem d_SM_make_93 : decode b_SM_make 93 = .ok (.if_icmp .le 6, 3) := by decide +kernel
theorem d_SM_make_96 : decode b_SM_make 96 = .ok (.bipush (-3), 2) := by decide +kernel
theorem d_SM_make_98 : decode b_SM_make 98 = .ok (.ireturn, 1) := by decide +kernel
theorem d_SM_make_99 : decode b_SM_make 99 = .ok (.aload_n 0, 1) := by decide +kernel
theorem d_SM_make_100 : decode b_SM_make 100 = .ok (.getfield 19, 3) := by decide +kernel
theorem d_SM_make_103 : decode b_SM_make 103 = .ok (.aload_n 0, 1) := by decide +kernel
theorem d_SM_make_104 : decode b_SM_make 104 = .ok (.getfield 137, 3) := by decide +kernel
theorem d_SM_make_107 : decode b_SM_make 107 = .ok (.iload_n 2, 1) := by decide +kernel
theorem d_SM_make_108 : decode b_SM_make 108 = .ok (.iastore, 1) := by decide +kernel
theorem d_SM_make_109 : decode b_SM_make 109 = .ok (.aload_n 0, 1) := by decide +kernel
theorem d_SM_make_110 : decode b_SM_make 110 = .ok (.getfield 22, 3) := by decide +kernel
theorem d_SM_make_113 : decode b_SM_make 113 = .ok (.aload_n 0, 1) := by decide +kernel
theorem d_SM_make_114 : decode b_SM_make 114 = .ok (.getfield 137, 3) := by decide +kernel
theorem d_SM_make_117 : decode b_SM_make 117 = .ok (.iload_n 3, 1) := by decide +kernel
theorem d_SM_make_118 : decode b_SM_make 118 = .ok (.iastore, 1) := by decide +kernel
theorem d_SM_make_119 : decode b_SM_make 119 = .ok (.aload_n 0, 1) := by decide +kernel
theorem d_SM_make_120 : decode b_SM_make 120 = .ok (.getfield 25, 3) := by decide +kernel
theorem d_SM_make_123 : decode b_SM_make 123 = .ok (.aload_n 0, 1) := by decide +kernel
theorem d_SM_make_124 : decode b_SM_make 124 = .ok (.getfield 137, 3) := by decide +kernel
theorem d_SM_make_127 : decode b_SM_make 127 = .ok (.iload 4, 2) := by decide +kernel
theorem d_SM_make_129 : decode b_SM_make 129 = .ok (.iastore, 1) := by decide +kernel
theorem d_SM_make_130 : decode b_SM_make 130 = .ok (.aload_n 0, 1) := by decide +kernel
theorem d_SM_make_131 : decode b_SM_make 131 = .ok (.getfield 28, 3) := by decide +kernel
theorem d_SM_make_134 : decode b_SM_make 134 = .ok (.aload_n 0, 1) := by decide +kernel
theorem d_SM_make_135 : decode b_SM_make 135 = .ok (.getfield 137, 3) := by decide +kernel
theorem d_SM_make_138 : decode b_SM_make 138 = .ok (.aload_n 0, 1) := by decide +kernel
theorem d_SM_make_139 : decode b_SM_make 139 = .ok (.getfield 62, 3) := by decide +kernel
theorem d_SM_make_142 : decode b_SM_make 142 = .ok (.iastore, 1) := by decide +kernel
theorem d_SM_make_143 : decode b_SM_make 143 = .ok (.aload_n 0, 1) := by decide +kernel
theorem d_SM_make_144 : decode b_SM_make 144 = .ok (.getfield 31, 3) := by decide +kernel
theorem d_SM_make_147 : decode b_SM_make 147 = .ok (.aload_n 0, 1) := by decide +kernel
theorem d_SM_make_148 : decode b_SM_make 148 = .ok (.getfield 137, 3) := by decide +kernel
theorem d_SM_make_151 : decode b_SM_make 151 = .ok (.aload_n 0, 1) := by decide +kernel
theorem d_SM_make_152 : decode b_SM_make 152 = .ok (.getfield 59, 3) := by decide +kernel
theorem d_SM_make_155 : decode b_SM_make 155 = .ok (.aload_n 0, 1) := by decide +kernel
theorem d_SM_make_156 : decode b_SM_make 156 = .ok (.getfield 62, 3) := by decide +kernel
theorem d_SM_make_159 : decode b_SM_make 159 = .ok (.isub, 1) := by decide +kernel
theorem d_SM_make_160 : decode b_SM_make 160 = .ok (.iastore, 1) := by decide +kernel
theorem d_SM_make_161 : decode b_SM_make 161 = .ok (.aload_n 0, 1) := by decide +kernel
theorem d_SM_make_162 : decode b_SM_make 162 = .ok (.getfield 34, 3) := by decide +kernel
theorem d_SM_make_165 : decode b_SM_make 165 = .ok (.aload_n 0, 1) := by decide +kernel
theorem d_SM_make_166 : decode b_SM_make 166 = .ok (.getfield 137, 3) := by decide +kernel
theorem d_SM_make_169 : decode b_SM_make 169 = .ok (.iload 5, 2) := by decide +kernel
theorem d_SM_make_171 : decode b_SM_make 171 = .ok (.iastore, 1) := by decide +kernel
theorem d_SM_make_172 : decode b_SM_make 172 = .ok (.aload_n 0, 1) := by decide +kernel
theorem d_SM_make_173 : decode b_SM_make 173 = .ok (.getfield 37, 3) := by decide +kernel
theorem d_SM_make_176 : decode b_SM_make 176 = .ok (.aload_n 0, 1) := by decide +kernel
theorem d_SM_make_177 : decode b_SM_make 177 = .ok (.getfield 137, 3) := by decide +kernel
theorem d_SM_make_180 : decode b_SM_make 180 = .ok (.iload 6, 2) := by decide +kernel
theorem d_SM_make_182 : decode b_SM_make 182 = .ok (.iastore, 1) := by decide +kernel
theorem d_SM_make_183 : decode b_SM_make 183 = .ok (.aload_n 0, 1) := by decide +kernel
theorem d_SM_make_184 : decode b_SM_make 184 = .ok (.getfield 40, 3) := by decide +kernel
theorem d_SM_make_187 : decode b_SM_make 187 = .ok (.aload_n 0, 1) := by decide +kernel
theorem d_SM_make_188 : decode b_SM_make 188 = .ok (.getfield 137, 3) := by decide +kernel
theorem d_SM_make_191 : decode b_SM_make 191 = .ok (.iload 7, 2) := by decide +kernel
theorem d_SM_make_193 : decode b_SM_make 193 = .ok (.iastore, 1) := by decide +kernel
theorem d_SM_make_194 : decode b_SM_make 194 = .ok (.aload_n 0, 1) := by decide +kernel
theorem d_SM_make_195 : decode b_SM_make 195 = .ok (.getfield 43, 3) := by decide +kernel
theorem d_SM_make_198 : decode b_SM_make 198 = .ok (.iload_n 1, 1) := by decide +kernel
theorem d_SM_make_199 : decode b_SM_make 199 = .ok (.aload_n 0, 1) := by decide +kernel
theorem d_SM_make_200 : decode b_SM_make 200 = .ok (.getfield 137, 3) := by decide +kernel
theorem d_SM_make_203 : decode b_SM_make 203 = .ok (.iastore, 1) := by decide +kernel
theorem d_SM_make_204 : decode b_SM_make 204 = .ok (.aload_n 0, 1) := by decide +kernel
theorem d_SM_make_205 : decode b_SM_make 205 = .ok (.dup, 1) := by decide +kernel
theorem d_SM_make_206 : decode b_SM_make 206 = .ok (.getfield 137, 3) := by decide +kernel
theorem d_SM_make_209 : decode b_SM_make 209 = .ok (.iconst 1, 1) := by decide +kernel
theorem d_SM_make_210 : decode b_SM_make 210 = .ok (.iadd, 1) := by decide +kernel
theorem d_SM_make_211 : decode b_SM_make 211 = .ok (.putfield 137, 3) := by decide +kernel
theorem d_SM_make_214 : decode b_SM_make 214 = .ok (.iconst 0, 1) := by decide +kernel
theorem d_SM_make_215 : decode b_SM_make 215 = .ok (.ireturn, 1) := by decide +kernel
set_option maxHeartbeats 4000000 in
set_option maxRecDepth 100000 in
/-- make -/
theorem c_SM_makeT (G : GG) (l : Launch) (sz : Nat) (f : Wd) {mo : Nat} {ar : Nat → Nat} {sc : Nat → Int32} {av : Nat → Nat → Int32} (hM : Mw G mo ar sc av f) (xt : Int32) {kt md b pn : Nat} (hxt : xt = nI kt) (hkt : kt < 10) (hmd : md < 520) (h0 : sc 0 = nI (b + pn)) (h1 : sc 1 = nI b) (h4 : sc 4 = nI md) (hbn : b + pn ≤ 4200) (w0 num : Int32) : Ci G l y_SM_make b_SM_make 8 (some .int) ({ frames := 0, cells := 0, slots := 0, locals := 0 }) sz f [.ref mo, .int xt, .int w0, .int (-1), .int (-1), .int num] (fun v f' => v = 0 ∧ Mw G mo ar (upd sc 4 (nI (md + 1))) (mkA av md kt w0 (-1) (-1) (nI b) (nI pn) num 1 1) f' ∧ Mx mo ar f f') := by
  refine ct_of (by decide) (Nat.le_of_ble_eq_true rfl) ?_
  intro p e s m below meth c ls H locs hEn
  obtain ⟨hc, hr, hlk, hin, hE, hw, hsz, hl⟩ := hEn
  have hx := hc.1
  have hb := hc.2.1
  have hl : lv_has ls 8 [(0, .ref mo), (1, .int xt), (2, .int w0), (3, .int (-1)), (4, .int (-1)), (5, .int num)] := hl
  have hX : Mx mo ar f f := Mx.rf
  refine lv_iload_n hx hb d_SM_make_0 rfl (lv_at hl 3 rfl) ?_
  refine lv_if_ge (tgt := 8) hx hb d_SM_make_1 (by decide) (fun z => absurd z (by decide)) (fun _ => ?_)
  refine lv_iconst (v := 1) hx hb d_SM_make_4 (by decide) ?_
  refine lv_goto (tgt := 31) hx hb d_SM_make_5 (by decide) ?_
  refine lv_istore (lv' := [(6, .int 1), (0, .ref mo), (1, .int xt), (2, .int w0), (3, .int (-1)), (4, .int (-1)), (5, .int num)]) hx hb d_SM_make_31 hl (by decide) rfl (fun ls hl => ?_)
  refine lv_iload_n hx hb d_SM_make_33 rfl (lv_at hl 4 rfl) ?_
  refine lv_if_ge (tgt := 41) hx hb d_SM_make_34 (by decide) (fun z => absurd z (by decide)) (fun _ => ?_)
  refine lv_iconst (v := 1) hx hb d_SM_make_37 (by decide) ?_
  refine lv_goto (tgt := 80) hx hb d_SM_make_38 (by decide) ?_
  refine lv_istore (lv' := [(7, .int 1), (6, .int 1), (0, .ref mo), (1, .int xt), (2, .int w0), (3, .int (-1)), (4, .int (-1)), (5, .int num)]) hx hb d_SM_make_80 hl (by decide) rfl (fun ls hl => ?_)
  refine lv_iload hx hb d_SM_make_82 (lv_at hl 1 rfl) ?_
  refine lv_bipush (v := 24) hx hb d_SM_make_84 (by decide) ?_
  refine lv_icmp_gt (tgt := 96) hx hb d_SM_make_86 (by decide) (fun z => absurd z (by decide)) (fun _ => ?_)
  refine lv_iload hx hb d_SM_make_89 (lv_at hl 0 rfl) ?_
  refine lv_bipush (v := 8) hx hb d_SM_make_91 (by decide) ?_
  refine lv_icmp_le (tgt := 99) hx hb d_SM_make_93 (by decide) (fun _ => ?_) (fun z => absurd z (by decide))
  refine lv_aload_n hx hb d_SM_make_99 rfl (lv_at hl 2 rfl) ?_
  refine m_mget (v := .ref (ar 3)) hc hE hw hM l_SM_19_SM rfl d_SM_make_100 ?_
  refine lv_aload_n hx hb d_SM_make_103 rfl (lv_at hl 2 rfl) ?_
  refine m_mget (v := .int (sc 4)) hc hE hw hM l_SM_137_SM rfl d_SM_make_104 ?_
  refine m_top (y := nI md) h4 ?_
  refine lv_iload_n hx hb d_SM_make_107 rfl (lv_at hl 4 rfl) ?_
  refine m_mast (k := 3) (j := md) hc hE hw hM hX (by decide) (nI_clamp (n := md) (by omega)) (vp_in_nI (N := 520) (by omega) (by decide)) d_SM_make_108 (fun H locs f21 hM22 hX23 hw => ?_)
  replace hM22 : Mw G mo ar sc (va_up av 3 (upd (av 3) md w0)) f21 := hM22
  refine lv_aload_n hx hb d_SM_make_109 rfl (lv_at hl 2 rfl) ?_
  refine m_mget (v := .ref (ar 4)) hc hE hw hM22 l_SM_22_SM rfl d_SM_make_110 ?_
  refine lv_aload_n hx hb d_SM_make_113 rfl (lv_at hl 2 rfl) ?_
  refine m_mget (v := .int (sc 4)) hc hE hw hM22 l_SM_137_SM rfl d_SM_make_114 ?_
  refine m_top (y := nI md) h4 ?_
  refine lv_iload_n hx hb d_SM_make_117 rfl (lv_at hl 5 rfl) ?_
  refine m_mast (k := 4) (j := md) hc hE hw hM22 hX23 (by decide) (nI_clamp (n := md) (by omega)) (vp_in_nI (N := 520) (by omega) (by decide)) d_SM_make_118 (fun H locs f24 hM25 hX26 hw => ?_)
  replace hM25 : Mw G mo ar sc (va_up (va_up av 3 (upd (av 3) md w0)) 4 (upd (av 4) md (-1))) f24 := hM25
  refine lv_aload_n hx hb d_SM_make_119 rfl (lv_at hl 2 rfl) ?_
  refine m_mget (v := .ref (ar 5)) hc hE hw hM25 l_SM_25_SM rfl d_SM_make_120 ?_
  refine lv_aload_n hx hb d_SM_make_123 rfl (lv_at hl 2 rfl) ?_
  refine m_mget (v := .int (sc 4)) hc hE hw hM25 l_SM_137_SM rfl d_SM_make_124 ?_
  refine m_top (y := nI md) h4 ?_
  refine lv_iload hx hb d_SM_make_127 (lv_at hl 6 rfl) ?_
  refine m_mast (k := 5) (j := md) hc hE hw hM25 hX26 (by decide) (nI_clamp (n := md) (by omega)) (vp_in_nI (N := 520) (by omega) (by decide)) d_SM_make_129 (fun H locs f27 hM28 hX29 hw => ?_)
  replace hM28 : Mw G mo ar sc (va_up (va_up (va_up av 3 (upd (av 3) md w0)) 4 (upd (av 4) md (-1))) 5 (upd (av 5) md (-1))) f27 := hM28
  refine lv_aload_n hx hb d_SM_make_130 rfl (lv_at hl 2 rfl) ?_
  refine m_mget (v := .ref (ar 6)) hc hE hw hM28 l_SM_28_SM rfl d_SM_make_131 ?_
  refine lv_aload_n hx hb d_SM_make_134 rfl (lv_at hl 2 rfl) ?_
  refine m_mget (v := .int (sc 4)) hc hE hw hM28 l_SM_137_SM rfl d_SM_make_135 ?_
  refine m_top (y := nI md) h4 ?_
  refine lv_aload_n hx hb d_SM_make_138 rfl (lv_at hl 2 rfl) ?_
  refine m_mget (v := .int (sc 1)) hc hE hw hM28 l_SM_62_SM rfl d_SM_make_139 ?_
  refine m_top (y := nI b) h1 ?_
  refine m_mast (k := 6) (j := md) hc hE hw hM28 hX29 (by decide) (nI_clamp (n := md) (by omega)) (vp_in_nI (N := 520) (by omega) (by decide)) d_SM_make_142 (fun H locs f30 hM31 hX32 hw => ?_)
  replace hM31 : Mw G mo ar sc (va_up (va_up (va_up (va_up av 3 (upd (av 3) md w0)) 4 (upd (av 4) md (-1))) 5 (upd (av 5) md (-1))) 6 (upd (av 6) md (nI b))) f30 := hM31
  refine lv_aload_n hx hb d_SM_make_143 rfl (lv_at hl 2 rfl) ?_
  refine m_mget (v := .ref (ar 7)) hc hE hw hM31 l_SM_31_SM rfl d_SM_make_144 ?_
  refine lv_aload_n hx hb d_SM_make_147 rfl (lv_at hl 2 rfl) ?_
  refine m_mget (v := .int (sc 4)) hc hE hw hM31 l_SM_137_SM rfl d_SM_make_148 ?_
  refine m_top (y := nI md) h4 ?_
  refine lv_aload_n hx hb d_SM_make_151 rfl (lv_at hl 2 rfl) ?_
  refine m_mget (v := .int (sc 0)) hc hE hw hM31 l_SM_59_SM rfl d_SM_make_152 ?_
  refine m_top (y := nI (b + pn)) h0 ?_
  refine lv_aload_n hx hb d_SM_make_155 rfl (lv_at hl 2 rfl) ?_
  refine m_mget (v := .int (sc 1)) hc hE hw hM31 l_SM_62_SM rfl d_SM_make_156 ?_
  refine m_top (y := nI b) h1 ?_
  refine lv_isub hx hb d_SM_make_159 ?_
  refine m_top (y := (nI pn)) (by rw [pk_sub (by omega)]; congr 1; omega) ?_
  refine m_mast (k := 7) (j := md) hc hE hw hM31 hX32 (by decide) (nI_clamp (n := md) (by omega)) (vp_in_nI (N := 520) (by omega) (by decide)) d_SM_make_160 (fun H locs f33 hM34 hX35 hw => ?_)
  replace hM34 : Mw G mo ar sc (va_up (va_up (va_up (va_up (va_up av 3 (upd (av 3) md w0)) 4 (upd (av 4) md (-1))) 5 (upd (av 5) md (-1))) 6 (upd (av 6) md (nI b))) 7 (upd (av 7) md (nI pn))) f33 := hM34
  refine lv_aload_n hx hb d_SM_make_161 rfl (lv_at hl 2 rfl) ?_
  refine m_mget (v := .ref (ar 8)) hc hE hw hM34 l_SM_34_SM rfl d_SM_make_162 ?_
  refine lv_aload_n hx hb d_SM_make_165 rfl (lv_at hl 2 rfl) ?_
  refine m_mget (v := .int (sc 4)) hc hE hw hM34 l_SM_137_SM rfl d_SM_make_166 ?_
  refine m_top (y := nI md) h4 ?_
  refine lv_iload hx hb d_SM_make_169 (lv_at hl 7 rfl) ?_
  refine m_mast (k := 8) (j := md) hc hE hw hM34 hX35 (by decide) (nI_clamp (n := md) (by omega)) (vp_in_nI (N := 520) (by omega) (by decide)) d_SM_make_171 (fun H locs f36 hM37 hX38 hw => ?_)
  replace hM37 : Mw G mo ar sc (va_up (va_up (va_up (va_up (va_up (va_up av 3 (upd (av 3) md w0)) 4 (upd (av 4) md (-1))) 5 (upd (av 5) md (-1))) 6 (upd (av 6) md (nI b))) 7 (upd (av 7) md (nI pn))) 8 (upd (av 8) md num)) f36 := hM37
  refine lv_aload_n hx hb d_SM_make_172 rfl (lv_at hl 2 rfl) ?_
  refine m_mget (v := .ref (ar 9)) hc hE hw hM37 l_SM_37_SM rfl d_SM_make_173 ?_
  refine lv_aload_n hx hb d_SM_make_176 rfl (lv_at hl 2 rfl) ?_
  refine m_mget (v := .int (sc 4)) hc hE hw hM37 l_SM_137_SM rfl d_SM_make_177 ?_
  refine m_top (y := nI md) h4 ?_
  refine lv_iload hx hb d_SM_make_180 (lv_at hl 1 rfl) ?_
  refine m_mast (k := 9) (j := md) hc hE hw hM37 hX38 (by decide) (nI_clamp (n := md) (by omega)) (vp_in_nI (N := 520) (by omega) (by decide)) d_SM_make_182 (fun H locs f39 hM40 hX41 hw => ?_)
  replace hM40 : Mw G mo ar sc (va_up (va_up (va_up (va_up (va_up (va_up (va_up av 3 (upd (av 3) md w0)) 4 (upd (av 4) md (-1))) 5 (upd (av 5) md (-1))) 6 (upd (av 6) md (nI b))) 7 (upd (av 7) md (nI pn))) 8 (upd (av 8) md num)) 9 (upd (av 9) md 1)) f39 := hM40
  refine lv_aload_n hx hb d_SM_make_183 rfl (lv_at hl 2 rfl) ?_
  refine m_mget (v := .ref (ar 10)) hc hE hw hM40 l_SM_40_SM rfl d_SM_make_184 ?_
  refine lv_aload_n hx hb d_SM_make_187 rfl (lv_at hl 2 rfl) ?_
  refine m_mget (v := .int (sc 4)) hc hE hw hM40 l_SM_137_SM rfl d_SM_make_188 ?_
  refine m_top (y := nI md) h4 ?_
  refine lv_iload hx hb d_SM_make_191 (lv_at hl 0 rfl) ?_
  refine m_mast (k := 10) (j := md) hc hE hw hM40 hX41 (by decide) (nI_clamp (n := md) (by omega)) (vp_in_nI (N := 520) (by omega) (by decide)) d_SM_make_193 (fun H locs f42 hM43 hX44 hw => ?_)
  replace hM43 : Mw G mo ar sc (va_up (va_up (va_up (va_up (va_up (va_up (va_up (va_up av 3 (upd (av 3) md w0)) 4 (upd (av 4) md (-1))) 5 (upd (av 5) md (-1))) 6 (upd (av 6) md (nI b))) 7 (upd (av 7) md (nI pn))) 8 (upd (av 8) md num)) 9 (upd (av 9) md 1)) 10 (upd (av 10) md 1)) f42 := hM43
  refine lv_aload_n hx hb d_SM_make_194 rfl (lv_at hl 2 rfl) ?_
  refine m_mget (v := .ref (ar 11)) hc hE hw hM43 l_SM_43_SM rfl d_SM_make_195 ?_
  refine lv_iload_n hx hb d_SM_make_198 rfl (lv_at hl 3 rfl) ?_
  refine lv_aload_n hx hb d_SM_make_199 rfl (lv_at hl 2 rfl) ?_
  refine m_mget (v := .int (sc 4)) hc hE hw hM43 l_SM_137_SM rfl d_SM_make_200 ?_
  refine m_top (y := nI md) h4 ?_
  refine m_mast (k := 11) (j := kt) hc hE hw hM43 hX44 (by decide) (by rw [hxt]; exact nI_clamp (by omega)) (by rw [hxt]; exact vp_in_nI hkt (by decide)) d_SM_make_203 (fun H locs f45 hM46 hX47 hw => ?_)
  replace hM46 : Mw G mo ar sc (va_up (va_up (va_up (va_up (va_up (va_up (va_up (va_up (va_up av 3 (upd (av 3) md w0)) 4 (upd (av 4) md (-1))) 5 (upd (av 5) md (-1))) 6 (upd (av 6) md (nI b))) 7 (upd (av 7) md (nI pn))) 8 (upd (av 8) md num)) 9 (upd (av 9) md 1)) 10 (upd (av 10) md 1)) 11 (upd (av 11) kt (nI md))) f45 := hM46
  refine lv_aload_n hx hb d_SM_make_204 rfl (lv_at hl 2 rfl) ?_
  refine lv_dup hx hb d_SM_make_205 rfl ?_
  refine m_mget (v := .int (sc 4)) hc hE hw hM46 l_SM_137_SM rfl d_SM_make_206 ?_
  refine m_top (y := nI md) h4 ?_
  refine lv_iconst (v := 1) hx hb d_SM_make_209 (by decide) ?_
  refine lv_iadd hx hb d_SM_make_210 ?_
  refine m_top (y := (nI (md + 1))) (nI_add md 1) ?_
  refine m_mput (sc' := (upd sc 4 (nI (md + 1)))) hc hE hw hM46 hX47 l_SM_137_SM rfl ds_SM_15 rfl rfl rfl d_SM_make_211 (fun H locs f48 hM49 hX50 hw => ?_)
  refine lv_iconst (v := 0) hx hb d_SM_make_214 (by decide) ?_
  exact m_iret hc hr hlk hw ⟨by first | decide | (dsimp only; omega), by first | decide | (dsimp only; omega)⟩ d_SM_make_215 ⟨rfl, hM49, hX50⟩

set_option maxHeartbeats 4000000 in
set_option maxRecDepth 100000 in
/-- make -/
theorem c_SM_make1 (G : GG) (l : Launch) (sz : Nat) (f : Wd) {mo : Nat} {ar : Nat → Nat} {sc : Nat → Int32} {av : Nat → Nat → Int32} (hM : Mw G mo ar sc av f) (xt : Int32) {kt md b pn : Nat} (hxt : xt = nI kt) (hkt : kt < 10) (hmd : md < 520) (h0 : sc 0 = nI (b + pn)) (h1 : sc 1 = nI b) (h4 : sc 4 = nI md) (hbn : b + pn ≤ 4200) (w0 num : Int32) {i l0 g0 : Nat} (hi : i < 520) (hlv0 : av 9 i = nI l0) (hg : av 10 i = nI g0) (hl2 : l0 ≤ 24) (hg2 : g0 ≤ 8) : Ci G l y_SM_make b_SM_make 8 (some .int) ({ frames := 0, cells := 0, slots := 0, locals := 0 }) sz f [.ref mo, .int xt, .int w0, .int (nI i), .int (-1), .int num] (fun v f' => ((1 + g0 ≤ 8 → v = 0 ∧ Mw G mo ar (upd sc 4 (nI (md + 1))) (mkA av md kt w0 (nI i) (-1) (nI b) (nI pn) num (nI l0) (nI (1 + g0))) f') ∧ (¬ 1 + g0 ≤ 8 → v = -3 ∧ Mw G mo ar sc av f')) ∧ Mx mo ar f f') := by
  refine ct_of (by decide) (Nat.le_of_ble_eq_true rfl) ?_
  intro p e s m below meth c ls H locs hEn
  obtain ⟨hc, hr, hlk, hin, hE, hw, hsz, hl⟩ := hEn
  have hx := hc.1
  have hb := hc.2.1
  have hl : lv_has ls 8 [(0, .ref mo), (1, .int xt), (2, .int w0), (3, .int (nI i)), (4, .int (-1)), (5, .int num)] := hl
  have hX : Mx mo ar f f := Mx.rf
  refine lv_iload_n hx hb d_SM_make_0 rfl (lv_at hl 3 rfl) ?_
  refine lv_if_ge (tgt := 8) hx hb d_SM_make_1 (by decide) (fun _ => ?_) (fun z => absurd (nI_pos' (by omega)) z)
  refine lv_aload_n hx hb d_SM_make_8 rfl (lv_at hl 0 rfl) ?_
  refine m_mget (v := .ref (ar 9)) hc hE hw hM l_SM_37_SM rfl d_SM_make_9 ?_
  refine lv_iload_n hx hb d_SM_make_12 rfl (lv_at hl 3 rfl) ?_
  refine m_mald (v := (nI l0)) hc hE hw hM (k := 9) (by decide) (vp_in_nI (N := 520) (by omega) (by decide)) ((congrArg (av 9) (nI_clamp (n := i) (by omega))).trans hlv0) d_SM_make_13 ?_
  refine lv_iload hx hb d_SM_make_14 (lv_at hl 4 rfl) ?_
  refine lv_if_ge (tgt := 23) hx hb d_SM_make_16 (by decide) (fun z => absurd z (by decide)) (fun _ => ?_)
  refine lv_iconst (v := 0) hx hb d_SM_make_19 (by decide) ?_
  refine lv_goto (tgt := 30) hx hb d_SM_make_20 (by decide) ?_
  refine lv_iadd hx hb d_SM_make_30 ?_
  refine m_top (y := (nI (l0 + 0))) (nI_add l0 0) ?_
  refine lv_istore (lv' := [(6, .int (nI (l0 + 0))), (0, .ref mo), (1, .int xt), (2, .int w0), (3, .int (nI i)), (4, .int (-1)), (5, .int num)]) hx hb d_SM_make_31 hl (by decide) rfl (fun ls hl => ?_)
  refine lv_iload_n hx hb d_SM_make_33 rfl (lv_at hl 4 rfl) ?_
  refine lv_if_ge (tgt := 41) hx hb d_SM_make_34 (by decide) (fun _ => ?_) (fun z => absurd (nI_pos' (by omega)) z)
  refine lv_iconst (v := 1) hx hb d_SM_make_41 (by decide) ?_
  refine lv_iload hx hb d_SM_make_42 (lv_at hl 5 rfl) ?_
  refine lv_if_lt (tgt := 73) hx hb d_SM_make_44 (by decide) (fun _ => ?_) (fun z => absurd z (by decide))
  refine lv_aload_n hx hb d_SM_make_73 rfl (lv_at hl 1 rfl) ?_
  refine m_mget (v := .ref (ar 10)) hc hE hw hM l_SM_40_SM rfl d_SM_make_74 ?_
  refine lv_iload_n hx hb d_SM_make_77 rfl (lv_at hl 4 rfl) ?_
  refine m_mald (v := (nI g0)) hc hE hw hM (k := 10) (by decide) (vp_in_nI (N := 520) (by omega) (by decide)) ((congrArg (av 10) (nI_clamp (n := i) (by omega))).trans hg) d_SM_make_78 ?_
  refine lv_iadd hx hb d_SM_make_79 ?_
  refine m_top (y := (nI (1 + g0))) (nI_add 1 g0) ?_
  refine lv_istore (lv' := [(7, .int (nI (1 + g0))), (6, .int (nI (l0 + 0))), (0, .ref mo), (1, .int xt), (2, .int w0), (3, .int (nI i)), (4, .int (-1)), (5, .int num)]) hx hb d_SM_make_80 hl (by decide) rfl (fun ls hl => ?_)
  refine lv_iload hx hb d_SM_make_82 (lv_at hl 1 rfl) ?_
  refine lv_bipush (v := 24) hx hb d_SM_make_84 (by decide) ?_
  refine lv_icmp_gt (tgt := 96) hx hb d_SM_make_86 (by decide) (fun c21 => ?_) (fun c21 => ?_)
  · have c21n : 24 < (l0 + 0) := (nI_ltI (a := 24) (b := (l0 + 0)) (by omega) (by omega)).mp c21
    refine lv_bipush (v := (-3)) hx hb d_SM_make_96 (by decide) ?_
    exact absurd c21n (by omega)
  · have c21n : ¬ (24 < (l0 + 0)) := fun z => c21 ((nI_ltI (a := 24) (b := (l0 + 0)) (by omega) (by omega)).mpr z)
    refine lv_iload hx hb d_SM_make_89 (lv_at hl 0 rfl) ?_
    refine lv_bipush (v := 8) hx hb d_SM_make_91 (by decide) ?_
    refine lv_icmp_le (tgt := 99) hx hb d_SM_make_93 (by decide) (fun c22 => ?_) (fun c22 => ?_)
    · have c22n : (1 + g0) ≤ 8 := (nI_leI (a := (1 + g0)) (b := 8) (by omega) (by omega)).mp c22
      refine lv_aload_n hx hb d_SM_make_99 rfl (lv_at hl 2 rfl) ?_
      refine m_mget (v := .ref (ar 3)) hc hE hw hM l_SM_19_SM rfl d_SM_make_100 ?_
      refine lv_aload_n hx hb d_SM_make_103 rfl (lv_at hl 2 rfl) ?_
      refine m_mget (v := .int (sc 4)) hc hE hw hM l_SM_137_SM rfl d_SM_make_104 ?_
      refine m_top (y := nI md) h4 ?_
      refine lv_iload_n hx hb d_SM_make_107 rfl (lv_at hl 4 rfl) ?_
      refine m_mast (k := 3) (j := md) hc hE hw hM hX (by decide) (nI_clamp (n := md) (by omega)) (vp_in_nI (N := 520) (by omega) (by decide)) d_SM_make_108 (fun H locs f23 hM24 hX25 hw => ?_)
      replace hM24 : Mw G mo ar sc (va_up av 3 (upd (av 3) md w0)) f23 := hM24
      refine lv_aload_n hx hb d_SM_make_109 rfl (lv_at hl 2 rfl) ?_
      refine m_mget (v := .ref (ar 4)) hc hE hw hM24 l_SM_22_SM rfl d_SM_make_110 ?_
      refine lv_aload_n hx hb d_SM_make_113 rfl (lv_at hl 2 rfl) ?_
      refine m_mget (v := .int (sc 4)) hc hE hw hM24 l_SM_137_SM rfl d_SM_make_114 ?_
      refine m_top (y := nI md) h4 ?_
      refine lv_iload_n hx hb d_SM_make_117 rfl (lv_at hl 5 rfl) ?_
      refine m_mast (k := 4) (j := md) hc hE hw hM24 hX25 (by decide) (nI_clamp (n := md) (by omega)) (vp_in_nI (N := 520) (by omega) (by decide)) d_SM_make_118 (fun H locs f26 hM27 hX28 hw => ?_)
      replace hM27 : Mw G mo ar sc (va_up (va_up av 3 (upd (av 3) md w0)) 4 (upd (av 4) md (nI i))) f26 := hM27
      refine lv_aload_n hx hb d_SM_make_119 rfl (lv_at hl 2 rfl) ?_
      refine m_mget (v := .ref (ar 5)) hc hE hw hM27 l_SM_25_SM rfl d_SM_make_120 ?_
      refine lv_aload_n hx hb d_SM_make_123 rfl (lv_at hl 2 rfl) ?_
      refine m_mget (v := .int (sc 4)) hc hE hw hM27 l_SM_137_SM rfl d_SM_make_124 ?_
      refine m_top (y := nI md) h4 ?_
      refine lv_iload hx hb d_SM_make_127 (lv_at hl 6 rfl) ?_
      refine m_mast (k := 5) (j := md) hc hE hw hM27 hX28 (by decide) (nI_clamp (n := md) (by omega)) (vp_in_nI (N := 520) (by omega) (by decide)) d_SM_make_129 (fun H locs f29 hM30 hX31 hw => ?_)
      replace hM30 : Mw G mo ar sc (va_up (va_up (va_up av 3 (upd (av 3) md w0)) 4 (upd (av 4) md (nI i))) 5 (upd (av 5) md (-1))) f29 := hM30
      refine lv_aload_n hx hb d_SM_make_130 rfl (lv_at hl 2 rfl) ?_
      refine m_mget (v := .ref (ar 6)) hc hE hw hM30 l_SM_28_SM rfl d_SM_make_131 ?_
      refine lv_aload_n hx hb d_SM_make_134 rfl (lv_at hl 2 rfl) ?_
      refine m_mget (v := .int (sc 4)) hc hE hw hM30 l_SM_137_SM rfl d_SM_make_135 ?_
      refine m_top (y := nI md) h4 ?_
      refine lv_aload_n hx hb d_SM_make_138 rfl (lv_at hl 2 rfl) ?_
      refine m_mget (v := .int (sc 1)) hc hE hw hM30 l_SM_62_SM rfl d_SM_make_139 ?_
      refine m_top (y := nI b) h1 ?_
      refine m_mast (k := 6) (j := md) hc hE hw hM30 hX31 (by decide) (nI_clamp (n := md) (by omega)) (vp_in_nI (N := 520) (by omega) (by decide)) d_SM_make_142 (fun H locs f32 hM33 hX34 hw => ?_)
      replace hM33 : Mw G mo ar sc (va_up (va_up (va_up (va_up av 3 (upd (av 3) md w0)) 4 (upd (av 4) md (nI i))) 5 (upd (av 5) md (-1))) 6 (upd (av 6) md (nI b))) f32 := hM33
      refine lv_aload_n hx hb d_SM_make_143 rfl (lv_at hl 2 rfl) ?_
      refine m_mget (v := .ref (ar 7)) hc hE hw hM33 l_SM_31_SM rfl d_SM_make_144 ?_
      refine lv_aload_n hx hb d_SM_make_147 rfl (lv_at hl 2 rfl) ?_
      refine m_mget (v := .int (sc 4)) hc hE hw hM33 l_SM_137_SM rfl d_SM_make_148 ?_
      refine m_top (y := nI md) h4 ?_
      refine lv_aload_n hx hb d_SM_make_151 rfl (lv_at hl 2 rfl) ?_
      refine m_mget (v := .int (sc 0)) hc hE hw hM33 l_SM_59_SM rfl d_SM_make_152 ?_
      refine m_top (y := nI (b + pn)) h0 ?_
      refine lv_aload_n hx hb d_SM_make_155 rfl (lv_at hl 2 rfl) ?_
      refine m_mget (v := .int (sc 1)) hc hE hw hM33 l_SM_62_SM rfl d_SM_make_156 ?_
      refine m_top (y := nI b) h1 ?_
      refine lv_isub hx hb d_SM_make_159 ?_
      refine m_top (y := (nI pn)) (by rw [pk_sub (by omega)]; congr 1; omega) ?_
      refine m_mast (k := 7) (j := md) hc hE hw hM33 hX34 (by decide) (nI_clamp (n := md) (by omega)) (vp_in_nI (N := 520) (by omega) (by decide)) d_SM_make_160 (fun H locs f35 hM36 hX37 hw => ?_)
      replace hM36 : Mw G mo ar sc (va_up (va_up (va_up (va_up (va_up av 3 (upd (av 3) md w0)) 4 (upd (av 4) md (nI i))) 5 (upd (av 5) md (-1))) 6 (upd (av 6) md (nI b))) 7 (upd (av 7) md (nI pn))) f35 := hM36
      refine lv_aload_n hx hb d_SM_make_161 rfl (lv_at hl 2 rfl) ?_
      refine m_mget (v := .ref (ar 8)) hc hE hw hM36 l_SM_34_SM rfl d_SM_make_162 ?_
      refine lv_aload_n hx hb d_SM_make_165 rfl (lv_at hl 2 rfl) ?_
      refine m_mget (v := .int (sc 4)) hc hE hw hM36 l_SM_137_SM rfl d_SM_make_166 ?_
      refine m_top (y := nI md) h4 ?_
      refine lv_iload hx hb d_SM_make_169 (lv_at hl 7 rfl) ?_
      refine m_mast (k := 8) (j := md) hc hE hw hM36 hX37 (by decide) (nI_clamp (n := md) (by omega)) (vp_in_nI (N := 520) (by omega) (by decide)) d_SM_make_171 (fun H locs f38 hM39 hX40 hw => ?_)
      replace hM39 : Mw G mo ar sc (va_up (va_up (va_up (va_up (va_up (va_up av 3 (upd (av 3) md w0)) 4 (upd (av 4) md (nI i))) 5 (upd (av 5) md (-1))) 6 (upd (av 6) md (nI b))) 7 (upd (av 7) md (nI pn))) 8 (upd (av 8) md num)) f38 := hM39
      refine lv_aload_n hx hb d_SM_make_172 rfl (lv_at hl 2 rfl) ?_
      refine m_mget (v := .ref (ar 9)) hc hE hw hM39 l_SM_37_SM rfl d_SM_make_173 ?_
      refine lv_aload_n hx hb d_SM_make_176 rfl (lv_at hl 2 rfl) ?_
      refine m_mget (v := .int (sc 4)) hc hE hw hM39 l_SM_137_SM rfl d_SM_make_177 ?_
      refine m_top (y := nI md) h4 ?_
      refine lv_iload hx hb d_SM_make_180 (lv_at hl 1 rfl) ?_
      refine m_mast (k := 9) (j := md) hc hE hw hM39 hX40 (by decide) (nI_clamp (n := md) (by omega)) (vp_in_nI (N := 520) (by omega) (by decide)) d_SM_make_182 (fun H locs f41 hM42 hX43 hw => ?_)
      replace hM42 : Mw G mo ar sc (va_up (va_up (va_up (va_up (va_up (va_up (va_up av 3 (upd (av 3) md w0)) 4 (upd (av 4) md (nI i))) 5 (upd (av 5) md (-1))) 6 (upd (av 6) md (nI b))) 7 (upd (av 7) md (nI pn))) 8 (upd (av 8) md num)) 9 (upd (av 9) md (nI (l0 + 0)))) f41 := hM42
      refine lv_aload_n hx hb d_SM_make_183 rfl (lv_at hl 2 rfl) ?_
      refine m_mget (v := .ref (ar 10)) hc hE hw hM42 l_SM_40_SM rfl d_SM_make_184 ?_
      refine lv_aload_n hx hb d_SM_make_187 rfl (lv_at hl 2 rfl) ?_
      refine m_mget (v := .int (sc 4)) hc hE hw hM42 l_SM_137_SM rfl d_SM_make_188 ?_
      refine m_top (y := nI md) h4 ?_
      refine lv_iload hx hb d_SM_make_191 (lv_at hl 0 rfl) ?_
      refine m_mast (k := 10) (j := md) hc hE hw hM42 hX43 (by decide) (nI_clamp (n := md) (by omega)) (vp_in_nI (N := 520) (by omega) (by decide)) d_SM_make_193 (fun H locs f44 hM45 hX46 hw => ?_)
      replace hM45 : Mw G mo ar sc (va_up (va_up (va_up (va_up (va_up (va_up (va_up (va_up av 3 (upd (av 3) md w0)) 4 (upd (av 4) md (nI i))) 5 (upd (av 5) md (-1))) 6 (upd (av 6) md (nI b))) 7 (upd (av 7) md (nI pn))) 8 (upd (av 8) md num)) 9 (upd (av 9) md (nI (l0 + 0)))) 10 (upd (av 10) md (nI (1 + g0)))) f44 := hM45
      refine lv_aload_n hx hb d_SM_make_194 rfl (lv_at hl 2 rfl) ?_
      refine m_mget (v := .ref (ar 11)) hc hE hw hM45 l_SM_43_SM rfl d_SM_make_195 ?_
      refine lv_iload_n hx hb d_SM_make_198 rfl (lv_at hl 3 rfl) ?_
      refine lv_aload_n hx hb d_SM_make_199 rfl (lv_at hl 2 rfl) ?_
      refine m_mget (v := .int (sc 4)) hc hE hw hM45 l_SM_137_SM rfl d_SM_make_200 ?_
      refine m_top (y := nI md) h4 ?_
      refine m_mast (k := 11) (j := kt) hc hE hw hM45 hX46 (by decide) (by rw [hxt]; exact nI_clamp (by omega)) (by rw [hxt]; exact vp_in_nI hkt (by decide)) d_SM_make_203 (fun H locs f47 hM48 hX49 hw => ?_)
      replace hM48 : Mw G mo ar sc (va_up (va_up (va_up (va_up (va_up (va_up (va_up (va_up (va_up av 3 (upd (av 3) md w0)) 4 (upd (av 4) md (nI i))) 5 (upd (av 5) md (-1))) 6 (upd (av 6) md (nI b))) 7 (upd (av 7) md (nI pn))) 8 (upd (av 8) md num)) 9 (upd (av 9) md (nI (l0 + 0)))) 10 (upd (av 10) md (nI (1 + g0)))) 11 (upd (av 11) kt (nI md))) f47 := hM48
      refine lv_aload_n hx hb d_SM_make_204 rfl (lv_at hl 2 rfl) ?_
      refine lv_dup hx hb d_SM_make_205 rfl ?_
      refine m_mget (v := .int (sc 4)) hc hE hw hM48 l_SM_137_SM rfl d_SM_make_206 ?_
      refine m_top (y := nI md) h4 ?_
      refine lv_iconst (v := 1) hx hb d_SM_make_209 (by decide) ?_
      refine lv_iadd hx hb d_SM_make_210 ?_
      refine m_top (y := (nI (md + 1))) (nI_add md 1) ?_
      refine m_mput (sc' := (upd sc 4 (nI (md + 1)))) hc hE hw hM48 hX49 l_SM_137_SM rfl ds_SM_15 rfl rfl rfl d_SM_make_211 (fun H locs f50 hM51 hX52 hw => ?_)
      refine lv_iconst (v := 0) hx hb d_SM_make_214 (by decide) ?_
      exact m_iret hc hr hlk hw ⟨by first | decide | (dsimp only; omega), by first | decide | (dsimp only; omega)⟩ d_SM_make_215 ⟨⟨fun _ => ⟨rfl, hM51⟩, fun z => absurd (show 1 + g0 ≤ 8 by omega) z⟩, hX52⟩
    · have c22n : ¬ ((1 + g0) ≤ 8) := fun z => c22 ((nI_leI (a := (1 + g0)) (b := 8) (by omega) (by omega)).mpr z)
      refine lv_bipush (v := (-3)) hx hb d_SM_make_96 (by decide) ?_
      exact m_iret hc hr hlk hw ⟨by first | decide | (dsimp only; omega), by first | decide | (dsimp only; omega)⟩ d_SM_make_98 ⟨⟨fun z => absurd z (by omega), fun _ => ⟨rfl, hM⟩⟩, hX⟩

set_option maxHeartbeats 4000000 in
set_option maxRecDepth 100000 in
/-- make -/
theorem c_SM_make2 (G : GG) (l : Launch) (sz : Nat) (f : Wd) {mo : Nat} {ar : Nat → Nat} {sc : Nat → Int32} {av : Nat → Nat → Int32} (hM : Mw G mo ar sc av f) (xt : Int32) {kt md b pn : Nat} (hxt : xt = nI kt) (hkt : kt < 10) (hmd : md < 520) (h0 : sc 0 = nI (b + pn)) (h1 : sc 1 = nI b) (h4 : sc 4 = nI md) (hbn : b + pn ≤ 4200) (w0 num : Int32) {i j l0 g0 l1 g1 : Nat} (hi : i < 520) (hj : j < 520) (hlv0 : av 9 i = nI l0) (hg : av 10 i = nI g0) (hl1 : av 9 j = nI l1) (hg1 : av 10 j = nI g1) (hl2 : l0 ≤ 24) (hg2 : g0 ≤ 8) (hl3 : l1 ≤ 24) (hg3 : g1 ≤ 8) : Ci G l y_SM_make b_SM_make 8 (some .int) ({ frames := 0, cells := 0, slots := 0, locals := 0 }) sz f [.ref mo, .int xt, .int w0, .int (nI i), .int (nI j), .int num] (fun v f' => (((l0 + l1 ≤ 24 ∧ 1 + max g0 g1 ≤ 8) → v = 0 ∧ Mw G mo ar (upd sc 4 (nI (md + 1))) (mkA av md kt w0 (nI i) (nI j) (nI b) (nI pn) num (nI (l0 + l1)) (nI (1 + max g0 g1))) f') ∧ (¬ (l0 + l1 ≤ 24 ∧ 1 + max g0 g1 ≤ 8) → v = -3 ∧ Mw G mo ar sc av f')) ∧ Mx mo ar f f') := by
  refine ct_of (by decide) (Nat.le_of_ble_eq_true rfl) ?_
  intro p e s m below meth c ls H locs hEn
  obtain ⟨hc, hr, hlk, hin, hE, hw, hsz, hl⟩ := hEn
  have hx := hc.1
  have hb := hc.2.1
  have hl : lv_has ls 8 [(0, .ref mo), (1, .int xt), (2, .int w0), (3, .int (nI i)), (4, .int (nI j)), (5, .int num)] := hl
  have hX : Mx mo ar f f := Mx.rf
  refine lv_iload_n hx hb d_SM_make_0 rfl (lv_at hl 3 rfl) ?_
  refine lv_if_ge (tgt := 8) hx hb d_SM_make_1 (by decide) (fun _ => ?_) (fun z => absurd (nI_pos' (by omega)) z)
  refine lv_aload_n hx hb d_SM_make_8 rfl (lv_at hl 0 rfl) ?_
  refine m_mget (v := .ref (ar 9)) hc hE hw hM l_SM_37_SM rfl d_SM_make_9 ?_
  refine lv_iload_n hx hb d_SM_make_12 rfl (lv_at hl 3 rfl) ?_
  refine m_mald (v := (nI l0)) hc hE hw hM (k := 9) (by decide) (vp_in_nI (N := 520) (by omega) (by decide)) ((congrArg (av 9) (nI_clamp (n := i) (by omega))).trans hlv0) d_SM_make_13 ?_
  refine lv_iload hx hb d_SM_make_14 (lv_at hl 4 rfl) ?_
  refine lv_if_ge (tgt := 23) hx hb d_SM_make_16 (by decide) (fun _ => ?_) (fun z => absurd (nI_pos' (by omega)) z)
  refine lv_aload_n hx hb d_SM_make_23 rfl (lv_at hl 0 rfl) ?_
  refine m_mget (v := .ref (ar 9)) hc hE hw hM l_SM_37_SM rfl d_SM_make_24 ?_
  refine lv_iload hx hb d_SM_make_27 (lv_at hl 4 rfl) ?_
  refine m_mald (v := (nI l1)) hc hE hw hM (k := 9) (by decide) (vp_in_nI (N := 520) (by omega) (by decide)) ((congrArg (av 9) (nI_clamp (n := j) (by omega))).trans hl1) d_SM_make_29 ?_
  refine lv_iadd hx hb d_SM_make_30 ?_
  refine m_top (y := (nI (l0 + l1))) (nI_add l0 l1) ?_
  refine lv_istore (lv' := [(6, .int (nI (l0 + l1))), (0, .ref mo), (1, .int xt), (2, .int w0), (3, .int (nI i)), (4, .int (nI j)), (5, .int num)]) hx hb d_SM_make_31 hl (by decide) rfl (fun ls hl => ?_)
  refine lv_iload_n hx hb d_SM_make_33 rfl (lv_at hl 4 rfl) ?_
  refine lv_if_ge (tgt := 41) hx hb d_SM_make_34 (by decide) (fun _ => ?_) (fun z => absurd (nI_pos' (by omega)) z)
  refine lv_iconst (v := 1) hx hb d_SM_make_41 (by decide) ?_
  refine lv_iload hx hb d_SM_make_42 (lv_at hl 5 rfl) ?_
  refine lv_if_lt (tgt := 73) hx hb d_SM_make_44 (by decide) (fun z => absurd z (nI_pos (by omega))) (fun _ => ?_)
  refine lv_aload_n hx hb d_SM_make_47 rfl (lv_at hl 1 rfl) ?_
  refine m_mget (v := .ref (ar 10)) hc hE hw hM l_SM_40_SM rfl d_SM_make_48 ?_
  refine lv_iload hx hb d_SM_make_51 (lv_at hl 5 rfl) ?_
  refine m_mald (v := (nI g1)) hc hE hw hM (k := 10) (by decide) (vp_in_nI (N := 520) (by omega) (by decide)) ((congrArg (av 10) (nI_clamp (n := j) (by omega))).trans hg1) d_SM_make_53 ?_
  refine lv_aload_n hx hb d_SM_make_54 rfl (lv_at hl 1 rfl) ?_
  refine m_mget (v := .ref (ar 10)) hc hE hw hM l_SM_40_SM rfl d_SM_make_55 ?_
  refine lv_iload_n hx hb d_SM_make_58 rfl (lv_at hl 4 rfl) ?_
  refine m_mald (v := (nI g0)) hc hE hw hM (k := 10) (by decide) (vp_in_nI (N := 520) (by omega) (by decide)) ((congrArg (av 10) (nI_clamp (n := i) (by omega))).trans hg) d_SM_make_59 ?_
  refine lv_icmp_le (tgt := 73) hx hb d_SM_make_60 (by decide) (fun c21 => ?_) (fun c21 => ?_)
  · have c21n : g1 ≤ g0 := (nI_leI (a := g1) (b := g0) (by omega) (by omega)).mp c21
    refine lv_aload_n hx hb d_SM_make_73 rfl (lv_at hl 1 rfl) ?_
    refine m_mget (v := .ref (ar 10)) hc hE hw hM l_SM_40_SM rfl d_SM_make_74 ?_
    refine lv_iload_n hx hb d_SM_make_77 rfl (lv_at hl 4 rfl) ?_
    refine m_mald (v := (nI g0)) hc hE hw hM (k := 10) (by decide) (vp_in_nI (N := 520) (by omega) (by decide)) ((congrArg (av 10) (nI_clamp (n := i) (by omega))).trans hg) d_SM_make_78 ?_
    refine lv_iadd hx hb d_SM_make_79 ?_
    refine m_top (y := (nI (1 + g0))) (nI_add 1 g0) ?_
    refine lv_istore (lv' := [(7, .int (nI (1 + g0))), (6, .int (nI (l0 + l1))), (0, .ref mo), (1, .int xt), (2, .int w0), (3, .int (nI i)), (4, .int (nI j)), (5, .int num)]) hx hb d_SM_make_80 hl (by decide) rfl (fun ls hl => ?_)
    refine lv_iload hx hb d_SM_make_82 (lv_at hl 1 rfl) ?_
    refine lv_bipush (v := 24) hx hb d_SM_make_84 (by decide) ?_
    refine lv_icmp_gt (tgt := 96) hx hb d_SM_make_86 (by decide) (fun c22 => ?_) (fun c22 => ?_)
    · have c22n : 24 < (l0 + l1) := (nI_ltI (a := 24) (b := (l0 + l1)) (by omega) (by omega)).mp c22
      refine lv_bipush (v := (-3)) hx hb d_SM_make_96 (by decide) ?_
      exact m_iret hc hr hlk hw ⟨by first | decide | (dsimp only; omega), by first | decide | (dsimp only; omega)⟩ d_SM_make_98 ⟨⟨fun z => absurd z (by omega), fun _ => ⟨rfl, hM⟩⟩, hX⟩
    · have c22n : ¬ (24 < (l0 + l1)) := fun z => c22 ((nI_ltI (a := 24) (b := (l0 + l1)) (by omega) (by omega)).mpr z)
      refine lv_iload hx hb d_SM_make_89 (lv_at hl 0 rfl) ?_
      refine lv_bipush (v := 8) hx hb d_SM_make_91 (by decide) ?_
      refine lv_icmp_le (tgt := 99) hx hb d_SM_make_93 (by decide) (fun c23 => ?_) (fun c23 => ?_)
      · have c23n : (1 + g0) ≤ 8 := (nI_leI (a := (1 + g0)) (b := 8) (by omega) (by omega)).mp c23
        refine lv_aload_n hx hb d_SM_make_99 rfl (lv_at hl 2 rfl) ?_
        refine m_mget (v := .ref (ar 3)) hc hE hw hM l_SM_19_SM rfl d_SM_make_100 ?_
        refine lv_aload_n hx hb d_SM_make_103 rfl (lv_at hl 2 rfl) ?_
        refine m_mget (v := .int (sc 4)) hc hE hw hM l_SM_137_SM rfl d_SM_make_104 ?_
        refine m_top (y := nI md) h4 ?_
        refine lv_iload_n hx hb d_SM_make_107 rfl (lv_at hl 4 rfl) ?_
        refine m_mast (k := 3) (j := md) hc hE hw hM hX (by decide) (nI_clamp (n := md) (by omega)) (vp_in_nI (N := 520) (by omega) (by decide)) d_SM_make_108 (fun H locs f24 hM25 hX26 hw => ?_)
        replace hM25 : Mw G mo ar sc (va_up av 3 (upd (av 3) md w0)) f24 := hM25
        refine lv_aload_n hx hb d_SM_make_109 rfl (lv_at hl 2 rfl) ?_
        refine m_mget (v := .ref (ar 4)) hc hE hw hM25 l_SM_22_SM rfl d_SM_make_110 ?_
        refine lv_aload_n hx hb d_SM_make_113 rfl (lv_at hl 2 rfl) ?_
        refine m_mget (v := .int (sc 4)) hc hE hw hM25 l_SM_137_SM rfl d_SM_make_114 ?_
        refine m_top (y := nI md) h4 ?_
        refine lv_iload_n hx hb d_SM_make_117 rfl (lv_at hl 5 rfl) ?_
        refine m_mast (k := 4) (j := md) hc hE hw hM25 hX26 (by decide) (nI_clamp (n := md) (by omega)) (vp_in_nI (N := 520) (by omega) (by decide)) d_SM_make_118 (fun H locs f27 hM28 hX29 hw => ?_)
        replace hM28 : Mw G mo ar sc (va_up (va_up av 3 (upd (av 3) md w0)) 4 (upd (av 4) md (nI i))) f27 := hM28
        refine lv_aload_n hx hb d_SM_make_119 rfl (lv_at hl 2 rfl) ?_
        refine m_mget (v := .ref (ar 5)) hc hE hw hM28 l_SM_25_SM rfl d_SM_make_120 ?_
        refine lv_aload_n hx hb d_SM_make_123 rfl (lv_at hl 2 rfl) ?_
        refine m_mget (v := .int (sc 4)) hc hE hw hM28 l_SM_137_SM rfl d_SM_make_124 ?_
        refine m_top (y := nI md) h4 ?_
        refine lv_iload hx hb d_SM_make_127 (lv_at hl 6 rfl) ?_
        refine m_mast (k := 5) (j := md) hc hE hw hM28 hX29 (by decide) (nI_clamp (n := md) (by omega)) (vp_in_nI (N := 520) (by omega) (by decide)) d_SM_make_129 (fun H locs f30 hM31 hX32 hw => ?_)
        replace hM31 : Mw G mo ar sc (va_up (va_up (va_up av 3 (upd (av 3) md w0)) 4 (upd (av 4) md (nI i))) 5 (upd (av 5) md (nI j))) f30 := hM31
        refine lv_aload_n hx hb d_SM_make_130 rfl (lv_at hl 2 rfl) ?_
        refine m_mget (v := .ref (ar 6)) hc hE hw hM31 l_SM_28_SM rfl d_SM_make_131 ?_
        refine lv_aload_n hx hb d_SM_make_134 rfl (lv_at hl 2 rfl) ?_
        refine m_mget (v := .int (sc 4)) hc hE hw hM31 l_SM_137_SM rfl d_SM_make_135 ?_
        refine m_top (y := nI md) h4 ?_
        refine lv_aload_n hx hb d_SM_make_138 rfl (lv_at hl 2 rfl) ?_
        refine m_mget (v := .int (sc 1)) hc hE hw hM31 l_SM_62_SM rfl d_SM_make_139 ?_
        refine m_top (y := nI b) h1 ?_
        refine m_mast (k := 6) (j := md) hc hE hw hM31 hX32 (by decide) (nI_clamp (n := md) (by omega)) (vp_in_nI (N := 520) (by omega) (by decide)) d_SM_make_142 (fun H locs f33 hM34 hX35 hw => ?_)
        replace hM34 : Mw G mo ar sc (va_up (va_up (va_up (va_up av 3 (upd (av 3) md w0)) 4 (upd (av 4) md (nI i))) 5 (upd (av 5) md (nI j))) 6 (upd (av 6) md (nI b))) f33 := hM34
        refine lv_aload_n hx hb d_SM_make_143 rfl (lv_at hl 2 rfl) ?_
        refine m_mget (v := .ref (ar 7)) hc hE hw hM34 l_SM_31_SM rfl d_SM_make_144 ?_
        refine lv_aload_n hx hb d_SM_make_147 rfl (lv_at hl 2 rfl) ?_
        refine m_mget (v := .int (sc 4)) hc hE hw hM34 l_SM_137_SM rfl d_SM_make_148 ?_
        refine m_top (y := nI md) h4 ?_
        refine lv_aload_n hx hb d_SM_make_151 rfl (lv_at hl 2 rfl) ?_
        refine m_mget (v := .int (sc 0)) hc hE hw hM34 l_SM_59_SM rfl d_SM_make_152 ?_
        refine m_top (y := nI (b + pn)) h0 ?_
        refine lv_aload_n hx hb d_SM_make_155 rfl (lv_at hl 2 rfl) ?_
        refine m_mget (v := .int (sc 1)) hc hE hw hM34 l_SM_62_SM rfl d_SM_make_156 ?_
        refine m_top (y := nI b) h1 ?_
        refine lv_isub hx hb d_SM_make_159 ?_
        refine m_top (y := (nI pn)) (by rw [pk_sub (by omega)]; congr 1; omega) ?_
        refine m_mast (k := 7) (j := md) hc hE hw hM34 hX35 (by decide) (nI_clamp (n := md) (by omega)) (vp_in_nI (N := 520) (by omega) (by decide)) d_SM_make_160 (fun H locs f36 hM37 hX38 hw => ?_)
        replace hM37 : Mw G mo ar sc (va_up (va_up (va_up (va_up (va_up av 3 (upd (av 3) md w0)) 4 (upd (av 4) md (nI i))) 5 (upd (av 5) md (nI j))) 6 (upd (av 6) md (nI b))) 7 (upd (av 7) md (nI pn))) f36 := hM37
        refine lv_aload_n hx hb d_SM_make_161 rfl (lv_at hl 2 rfl) ?_
        refine m_mget (v := .ref (ar 8)) hc hE hw hM37 l_SM_34_SM rfl d_SM_make_162 ?_
        refine lv_aload_n hx hb d_SM_make_165 rfl (lv_at hl 2 rfl) ?_
        refine m_mget (v := .int (sc 4)) hc hE hw hM37 l_SM_137_SM rfl d_SM_make_166 ?_
        refine m_top (y := nI md) h4 ?_
        refine lv_iload hx hb d_SM_make_169 (lv_at hl 7 rfl) ?_
        refine m_mast (k := 8) (j := md) hc hE hw hM37 hX38 (by decide) (nI_clamp (n := md) (by omega)) (vp_in_nI (N := 520) (by omega) (by decide)) d_SM_make_171 (fun H locs f39 hM40 hX41 hw => ?_)
        replace hM40 : Mw G mo ar sc (va_up (va_up (va_up (va_up (va_up (va_up av 3 (upd (av 3) md w0)) 4 (upd (av 4) md (nI i))) 5 (upd (av 5) md (nI j))) 6 (upd (av 6) md (nI b))) 7 (upd (av 7) md (nI pn))) 8 (upd (av 8) md num)) f39 := hM40
        refine lv_aload_n hx hb d_SM_make_172 rfl (lv_at hl 2 rfl) ?_
        refine m_mget (v := .ref (ar 9)) hc hE hw hM40 l_SM_37_SM rfl d_SM_make_173 ?_
        refine lv_aload_n hx hb d_SM_make_176 rfl (lv_at hl 2 rfl) ?_
        refine m_mget (v := .int (sc 4)) hc hE hw hM40 l_SM_137_SM rfl d_SM_make_177 ?_
        refine m_top (y := nI md) h4 ?_
        refine lv_iload hx hb d_SM_make_180 (lv_at hl 1 rfl) ?_
        refine m_mast (k := 9) (j := md) hc hE hw hM40 hX41 (by decide) (nI_clamp (n := md) (by omega)) (vp_in_nI (N := 520) (by omega) (by decide)) d_SM_make_182 (fun H locs f42 hM43 hX44 hw => ?_)
        replace hM43 : Mw G mo ar sc (va_up (va_up (va_up (va_up (va_up (va_up (va_up av 3 (upd (av 3) md w0)) 4 (upd (av 4) md (nI i))) 5 (upd (av 5) md (nI j))) 6 (upd (av 6) md (nI b))) 7 (upd (av 7) md (nI pn))) 8 (upd (av 8) md num)) 9 (upd (av 9) md (nI (l0 + l1)))) f42 := hM43
        refine lv_aload_n hx hb d_SM_make_183 rfl (lv_at hl 2 rfl) ?_
        refine m_mget (v := .ref (ar 10)) hc hE hw hM43 l_SM_40_SM rfl d_SM_make_184 ?_
        refine lv_aload_n hx hb d_SM_make_187 rfl (lv_at hl 2 rfl) ?_
        refine m_mget (v := .int (sc 4)) hc hE hw hM43 l_SM_137_SM rfl d_SM_make_188 ?_
        refine m_top (y := nI md) h4 ?_
        refine lv_iload hx hb d_SM_make_191 (lv_at hl 0 rfl) ?_
        refine m_mast (k := 10) (j := md) hc hE hw hM43 hX44 (by decide) (nI_clamp (n := md) (by omega)) (vp_in_nI (N := 520) (by omega) (by decide)) d_SM_make_193 (fun H locs f45 hM46 hX47 hw => ?_)
        replace hM46 : Mw G mo ar sc (va_up (va_up (va_up (va_up (va_up (va_up (va_up (va_up av 3 (upd (av 3) md w0)) 4 (upd (av 4) md (nI i))) 5 (upd (av 5) md (nI j))) 6 (upd (av 6) md (nI b))) 7 (upd (av 7) md (nI pn))) 8 (upd (av 8) md num)) 9 (upd (av 9) md (nI (l0 + l1)))) 10 (upd (av 10) md (nI (1 + g0)))) f45 := hM46
        refine lv_aload_n hx hb d_SM_make_194 rfl (lv_at hl 2 rfl) ?_
        refine m_mget (v := .ref (ar 11)) hc hE hw hM46 l_SM_43_SM rfl d_SM_make_195 ?_
        refine lv_iload_n hx hb d_SM_make_198 rfl (lv_at hl 3 rfl) ?_
        refine lv_aload_n hx hb d_SM_make_199 rfl (lv_at hl 2 rfl) ?_
        refine m_mget (v := .int (sc 4)) hc hE hw hM46 l_SM_137_SM rfl d_SM_make_200 ?_
        refine m_top (y := nI md) h4 ?_
        refine m_mast (k := 11) (j := kt) hc hE hw hM46 hX47 (by decide) (by rw [hxt]; exact nI_clamp (by omega)) (by rw [hxt]; exact vp_in_nI hkt (by decide)) d_SM_make_203 (fun H locs f48 hM49 hX50 hw => ?_)
        replace hM49 : Mw G mo ar sc (va_up (va_up (va_up (va_up (va_up (va_up (va_up (va_up (va_up av 3 (upd (av 3) md w0)) 4 (upd (av 4) md (nI i))) 5 (upd (av 5) md (nI j))) 6 (upd (av 6) md (nI b))) 7 (upd (av 7) md (nI pn))) 8 (upd (av 8) md num)) 9 (upd (av 9) md (nI (l0 + l1)))) 10 (upd (av 10) md (nI (1 + g0)))) 11 (upd (av 11) kt (nI md))) f48 := hM49
        refine lv_aload_n hx hb d_SM_make_204 rfl (lv_at hl 2 rfl) ?_
        refine lv_dup hx hb d_SM_make_205 rfl ?_
        refine m_mget (v := .int (sc 4)) hc hE hw hM49 l_SM_137_SM rfl d_SM_make_206 ?_
        refine m_top (y := nI md) h4 ?_
        refine lv_iconst (v := 1) hx hb d_SM_make_209 (by decide) ?_
        refine lv_iadd hx hb d_SM_make_210 ?_
        refine m_top (y := (nI (md + 1))) (nI_add md 1) ?_
        refine m_mput (sc' := (upd sc 4 (nI (md + 1)))) hc hE hw hM49 hX50 l_SM_137_SM rfl ds_SM_15 rfl rfl rfl d_SM_make_211 (fun H locs f51 hM52 hX53 hw => ?_)
        refine lv_iconst (v := 0) hx hb d_SM_make_214 (by decide) ?_
        have hmx : max g0 g1 = g0 := by omega
        exact m_iret hc hr hlk hw ⟨by first | decide | (dsimp only; omega), by first | decide | (dsimp only; omega)⟩ d_SM_make_215 ⟨⟨fun _ => ⟨rfl, by rw [hmx]; exact hM52⟩, fun z => absurd (show (l0 + l1 ≤ 24 ∧ 1 + max g0 g1 ≤ 8) by omega) z⟩, hX53⟩
      · have c23n : ¬ ((1 + g0) ≤ 8) := fun z => c23 ((nI_leI (a := (1 + g0)) (b := 8) (by omega) (by omega)).mpr z)
        refine lv_bipush (v := (-3)) hx hb d_SM_make_96 (by decide) ?_
        exact m_iret hc hr hlk hw ⟨by first | decide | (dsimp only; omega), by first | decide | (dsimp only; omega)⟩ d_SM_make_98 ⟨⟨fun z => absurd z (by omega), fun _ => ⟨rfl, hM⟩⟩, hX⟩
  · have c21n : ¬ (g1 ≤ g0) := fun z => c21 ((nI_leI (a := g1) (b := g0) (by omega) (by omega)).mpr z)
    refine lv_aload_n hx hb d_SM_make_63 rfl (lv_at hl 1 rfl) ?_
    refine m_mget (v := .ref (ar 10)) hc hE hw hM l_SM_40_SM rfl d_SM_make_64 ?_
    refine lv_iload hx hb d_SM_make_67 (lv_at hl 5 rfl) ?_
    refine m_mald (v := (nI g1)) hc hE hw hM (k := 10) (by decide) (vp_in_nI (N := 520) (by omega) (by decide)) ((congrArg (av 10) (nI_clamp (n := j) (by omega))).trans hg1) d_SM_make_69 ?_
    refine lv_goto (tgt := 79) hx hb d_SM_make_70 (by decide) ?_
    refine lv_iadd hx hb d_SM_make_79 ?_
    refine m_top (y := (nI (1 + g1))) (nI_add 1 g1) ?_
    refine lv_istore (lv' := [(7, .int (nI (1 + g1))), (6, .int (nI (l0 + l1))), (0, .ref mo), (1, .int xt), (2, .int w0), (3, .int (nI i)), (4, .int (nI j)), (5, .int num)]) hx hb d_SM_make_80 hl (by decide) rfl (fun ls hl => ?_)
    refine lv_iload hx hb d_SM_make_82 (lv_at hl 1 rfl) ?_
    refine lv_bipush (v := 24) hx hb d_SM_make_84 (by decide) ?_
    refine lv_icmp_gt (tgt := 96) hx hb d_SM_make_86 (by decide) (fun c54 => ?_) (fun c54 => ?_)
    · have c54n : 24 < (l0 + l1) := (nI_ltI (a := 24) (b := (l0 + l1)) (by omega) (by omega)).mp c54
      refine lv_bipush (v := (-3)) hx hb d_SM_make_96 (by decide) ?_
      exact m_iret hc hr hlk hw ⟨by first | decide | (dsimp only; omega), by first | decide | (dsimp only; omega)⟩ d_SM_make_98 ⟨⟨fun z => absurd z (by omega), fun _ => ⟨rfl, hM⟩⟩, hX⟩
    · have c54n : ¬ (24 < (l0 + l1)) := fun z => c54 ((nI_ltI (a := 24) (b := (l0 + l1)) (by omega) (by omega)).mpr z)
      refine lv_iload hx hb d_SM_make_89 (lv_at hl 0 rfl) ?_
      refine lv_bipush (v := 8) hx hb d_SM_make_91 (by decide) ?_
      refine lv_icmp_le (tgt := 99) hx hb d_SM_make_93 (by decide) (fun c55 => ?_) (fun c55 => ?_)
      · have c55n : (1 + g1) ≤ 8 := (nI_leI (a := (1 + g1)) (b := 8) (by omega) (by omega)).mp c55
        refine lv_aload_n hx hb d_SM_make_99 rfl (lv_at hl 2 rfl) ?_
        refine m_mget (v := .ref (ar 3)) hc hE hw hM l_SM_19_SM rfl d_SM_make_100 ?_
        refine lv_aload_n hx hb d_SM_make_103 rfl (lv_at hl 2 rfl) ?_
        refine m_mget (v := .int (sc 4)) hc hE hw hM l_SM_137_SM rfl d_SM_make_104 ?_
        refine m_top (y := nI md) h4 ?_
        refine lv_iload_n hx hb d_SM_make_107 rfl (lv_at hl 4 rfl) ?_
        refine m_mast (k := 3) (j := md) hc hE hw hM hX (by decide) (nI_clamp (n := md) (by omega)) (vp_in_nI (N := 520) (by omega) (by decide)) d_SM_make_108 (fun H locs f56 hM57 hX58 hw => ?_)
        replace hM57 : Mw G mo ar sc (va_up av 3 (upd (av 3) md w0)) f56 := hM57
        refine lv_aload_n hx hb d_SM_make_109 rfl (lv_at hl 2 rfl) ?_
        refine m_mget (v := .ref (ar 4)) hc hE hw hM57 l_SM_22_SM rfl d_SM_make_110 ?_
        refine lv_aload_n hx hb d_SM_make_113 rfl (lv_at hl 2 rfl) ?_
        refine m_mget (v := .int (sc 4)) hc hE hw hM57 l_SM_137_SM rfl d_SM_make_114 ?_
        refine m_top (y := nI md) h4 ?_
        refine lv_iload_n hx hb d_SM_make_117 rfl (lv_at hl 5 rfl) ?_
        refine m_mast (k := 4) (j := md) hc hE hw hM57 hX58 (by decide) (nI_clamp (n := md) (by omega)) (vp_in_nI (N := 520) (by omega) (by decide)) d_SM_make_118 (fun H locs f59 hM60 hX61 hw => ?_)
        replace hM60 : Mw G mo ar sc (va_up (va_up av 3 (upd (av 3) md w0)) 4 (upd (av 4) md (nI i))) f59 := hM60
        refine lv_aload_n hx hb d_SM_make_119 rfl (lv_at hl 2 rfl) ?_
        refine m_mget (v := .ref (ar 5)) hc hE hw hM60 l_SM_25_SM rfl d_SM_make_120 ?_
        refine lv_aload_n hx hb d_SM_make_123 rfl (lv_at hl 2 rfl) ?_
        refine m_mget (v := .int (sc 4)) hc hE hw hM60 l_SM_137_SM rfl d_SM_make_124 ?_
        refine m_top (y := nI md) h4 ?_
        refine lv_iload hx hb d_SM_make_127 (lv_at hl 6 rfl) ?_
        refine m_mast (k := 5) (j := md) hc hE hw hM60 hX61 (by decide) (nI_clamp (n := md) (by omega)) (vp_in_nI (N := 520) (by omega) (by decide)) d_SM_make_129 (fun H locs f62 hM63 hX64 hw => ?_)
        replace hM63 : Mw G mo ar sc (va_up (va_up (va_up av 3 (upd (av 3) md w0)) 4 (upd (av 4) md (nI i))) 5 (upd (av 5) md (nI j))) f62 := hM63
        refine lv_aload_n hx hb d_SM_make_130 rfl (lv_at hl 2 rfl) ?_
        refine m_mget (v := .ref (ar 6)) hc hE hw hM63 l_SM_28_SM rfl d_SM_make_131 ?_
        refine lv_aload_n hx hb d_SM_make_134 rfl (lv_at hl 2 rfl) ?_
        refine m_mget (v := .int (sc 4)) hc hE hw hM63 l_SM_137_SM rfl d_SM_make_135 ?_
        refine m_top (y := nI md) h4 ?_
        refine lv_aload_n hx hb d_SM_make_138 rfl (lv_at hl 2 rfl) ?_
        refine m_mget (v := .int (sc 1)) hc hE hw hM63 l_SM_62_SM rfl d_SM_make_139 ?_
        refine m_top (y := nI b) h1 ?_
        refine m_mast (k := 6) (j := md) hc hE hw hM63 hX64 (by decide) (nI_clamp (n := md) (by omega)) (vp_in_nI (N := 520) (by omega) (by decide)) d_SM_make_142 (fun H locs f65 hM66 hX67 hw => ?_)
        replace hM66 : Mw G mo ar sc (va_up (va_up (va_up (va_up av 3 (upd (av 3) md w0)) 4 (upd (av 4) md (nI i))) 5 (upd (av 5) md (nI j))) 6 (upd (av 6) md (nI b))) f65 := hM66
        refine lv_aload_n hx hb d_SM_make_143 rfl (lv_at hl 2 rfl) ?_
        refine m_mget (v := .ref (ar 7)) hc hE hw hM66 l_SM_31_SM rfl d_SM_make_144 ?_
        refine lv_aload_n hx hb d_SM_make_147 rfl (lv_at hl 2 rfl) ?_
        refine m_mget (v := .int (sc 4)) hc hE hw hM66 l_SM_137_SM rfl d_SM_make_148 ?_
        refine m_top (y := nI md) h4 ?_
        refine lv_aload_n hx hb d_SM_make_151 rfl (lv_at hl 2 rfl) ?_
        refine m_mget (v := .int (sc 0)) hc hE hw hM66 l_SM_59_SM rfl d_SM_make_152 ?_
        refine m_top (y := nI (b + pn)) h0 ?_
        refine lv_aload_n hx hb d_SM_make_155 rfl (lv_at hl 2 rfl) ?_
        refine m_mget (v := .int (sc 1)) hc hE hw hM66 l_SM_62_SM rfl d_SM_make_156 ?_
        refine m_top (y := nI b) h1 ?_
        refine lv_isub hx hb d_SM_make_159 ?_
        refine m_top (y := (nI pn)) (by rw [pk_sub (by omega)]; congr 1; omega) ?_
        refine m_mast (k := 7) (j := md) hc hE hw hM66 hX67 (by decide) (nI_clamp (n := md) (by omega)) (vp_in_nI (N := 520) (by omega) (by decide)) d_SM_make_160 (fun H locs f68 hM69 hX70 hw => ?_)
        replace hM69 : Mw G mo ar sc (va_up (va_up (va_up (va_up (va_up av 3 (upd (av 3) md w0)) 4 (upd (av 4) md (nI i))) 5 (upd (av 5) md (nI j))) 6 (upd (av 6) md (nI b))) 7 (upd (av 7) md (nI pn))) f68 := hM69
        refine lv_aload_n hx hb d_SM_make_161 rfl (lv_at hl 2 rfl) ?_
        refine m_mget (v := .ref (ar 8)) hc hE hw hM69 l_SM_34_SM rfl d_SM_make_162 ?_
        refine lv_aload_n hx hb d_SM_make_165 rfl (lv_at hl 2 rfl) ?_
        refine m_mget (v := .int (sc 4)) hc hE hw hM69 l_SM_137_SM rfl d_SM_make_166 ?_
        refine m_top (y := nI md) h4 ?_
        refine lv_iload hx hb d_SM_make_169 (lv_at hl 7 rfl) ?_
        refine m_mast (k := 8) (j := md) hc hE hw hM69 hX70 (by decide) (nI_clamp (n := md) (by omega)) (vp_in_nI (N := 520) (by omega) (by decide)) d_SM_make_171 (fun H locs f71 hM72 hX73 hw => ?_)
        replace hM72 : Mw G mo ar sc (va_up (va_up (va_up (va_up (va_up (va_up av 3 (upd (av 3) md w0)) 4 (upd (av 4) md (nI i))) 5 (upd (av 5) md (nI j))) 6 (upd (av 6) md (nI b))) 7 (upd (av 7) md (nI pn))) 8 (upd (av 8) md num)) f71 := hM72
        refine lv_aload_n hx hb d_SM_make_172 rfl (lv_at hl 2 rfl) ?_
        refine m_mget (v := .ref (ar 9)) hc hE hw hM72 l_SM_37_SM rfl d_SM_make_173 ?_
        refine lv_aload_n hx hb d_SM_make_176 rfl (lv_at hl 2 rfl) ?_
        refine m_mget (v := .int (sc 4)) hc hE hw hM72 l_SM_137_SM rfl d_SM_make_177 ?_
        refine m_top (y := nI md) h4 ?_
        refine lv_iload hx hb d_SM_make_180 (lv_at hl 1 rfl) ?_
        refine m_mast (k := 9) (j := md) hc hE hw hM72 hX73 (by decide) (nI_clamp (n := md) (by omega)) (vp_in_nI (N := 520) (by omega) (by decide)) d_SM_make_182 (fun H locs f74 hM75 hX76 hw => ?_)
        replace hM75 : Mw G mo ar sc (va_up (va_up (va_up (va_up (va_up (va_up (va_up av 3 (upd (av 3) md w0)) 4 (upd (av 4) md (nI i))) 5 (upd (av 5) md (nI j))) 6 (upd (av 6) md (nI b))) 7 (upd (av 7) md (nI pn))) 8 (upd (av 8) md num)) 9 (upd (av 9) md (nI (l0 + l1)))) f74 := hM75
        refine lv_aload_n hx hb d_SM_make_183 rfl (lv_at hl 2 rfl) ?_
        refine m_mget (v := .ref (ar 10)) hc hE hw hM75 l_SM_40_SM rfl d_SM_make_184 ?_
        refine lv_aload_n hx hb d_SM_make_187 rfl (lv_at hl 2 rfl) ?_
        refine m_mget (v := .int (sc 4)) hc hE hw hM75 l_SM_137_SM rfl d_SM_make_188 ?_
        refine m_top (y := nI md) h4 ?_
        refine lv_iload hx hb d_SM_make_191 (lv_at hl 0 rfl) ?_
        refine m_mast (k := 10) (j := md) hc hE hw hM75 hX76 (by decide) (nI_clamp (n := md) (by omega)) (vp_in_nI (N := 520) (by omega) (by decide)) d_SM_make_193 (fun H locs f77 hM78 hX79 hw => ?_)
        replace hM78 : Mw G mo ar sc (va_up (va_up (va_up (va_up (va_up (va_up (va_up (va_up av 3 (upd (av 3) md w0)) 4 (upd (av 4) md (nI i))) 5 (upd (av 5) md (nI j))) 6 (upd (av 6) md (nI b))) 7 (upd (av 7) md (nI pn))) 8 (upd (av 8) md num)) 9 (upd (av 9) md (nI (l0 + l1)))) 10 (upd (av 10) md (nI (1 + g1)))) f77 := hM78
        refine lv_aload_n hx hb d_SM_make_194 rfl (lv_at hl 2 rfl) ?_
        refine m_mget (v := .ref (ar 11)) hc hE hw hM78 l_SM_43_SM rfl d_SM_make_195 ?_
        refine lv_iload_n hx hb d_SM_make_198 rfl (lv_at hl 3 rfl) ?_
        refine lv_aload_n hx hb d_SM_make_199 rfl (lv_at hl 2 rfl) ?_
        refine m_mget (v := .int (sc 4)) hc hE hw hM78 l_SM_137_SM rfl d_SM_make_200 ?_
        refine m_top (y := nI md) h4 ?_
        refine m_mast (k := 11) (j := kt) hc hE hw hM78 hX79 (by decide) (by rw [hxt]; exact nI_clamp (by omega)) (by rw [hxt]; exact vp_in_nI hkt (by decide)) d_SM_make_203 (fun H locs f80 hM81 hX82 hw => ?_)
        replace hM81 : Mw G mo ar sc (va_up (va_up (va_up (va_up (va_up (va_up (va_up (va_up (va_up av 3 (upd (av 3) md w0)) 4 (upd (av 4) md (nI i))) 5 (upd (av 5) md (nI j))) 6 (upd (av 6) md (nI b))) 7 (upd (av 7) md (nI pn))) 8 (upd (av 8) md num)) 9 (upd (av 9) md (nI (l0 + l1)))) 10 (upd (av 10) md (nI (1 + g1)))) 11 (upd (av 11) kt (nI md))) f80 := hM81
        refine lv_aload_n hx hb d_SM_make_204 rfl (lv_at hl 2 rfl) ?_
        refine lv_dup hx hb d_SM_make_205 rfl ?_
        refine m_mget (v := .int (sc 4)) hc hE hw hM81 l_SM_137_SM rfl d_SM_make_206 ?_
        refine m_top (y := nI md) h4 ?_
        refine lv_iconst (v := 1) hx hb d_SM_make_209 (by decide) ?_
        refine lv_iadd hx hb d_SM_make_210 ?_
        refine m_top (y := (nI (md + 1))) (nI_add md 1) ?_
        refine m_mput (sc' := (upd sc 4 (nI (md + 1)))) hc hE hw hM81 hX82 l_SM_137_SM rfl ds_SM_15 rfl rfl rfl d_SM_make_211 (fun H locs f83 hM84 hX85 hw => ?_)
        refine lv_iconst (v := 0) hx hb d_SM_make_214 (by decide) ?_
        have hmx : max g0 g1 = g1 := by omega
        exact m_iret hc hr hlk hw ⟨by first | decide | (dsimp only; omega), by first | decide | (dsimp only; omega)⟩ d_SM_make_215 ⟨⟨fun _ => ⟨rfl, by rw [hmx]; exact hM84⟩, fun z => absurd (show (l0 + l1 ≤ 24 ∧ 1 + max g0 g1 ≤ 8) by omega) z⟩, hX85⟩
      · have c55n : ¬ ((1 + g1) ≤ 8) := fun z => c55 ((nI_leI (a := (1 + g1)) (b := 8) (by omega) (by omega)).mpr z)
        refine lv_bipush (v := (-3)) hx hb d_SM_make_96 (by decide) ?_
        exact m_iret hc hr hlk hw ⟨by first | decide | (dsimp only; omega), by first | decide | (dsimp only; omega)⟩ d_SM_make_98 ⟨⟨fun z => absurd z (by omega), fun _ => ⟨rfl, hM⟩⟩, hX⟩
