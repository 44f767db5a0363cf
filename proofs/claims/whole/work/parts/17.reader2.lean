/-! links of the pools, as the walks ask for them -/
theorem l_PieceReader_104_PieceReader : lnk "StreamFilters$PieceReader" 104 F_PieceReader 12 10 := ⟨by decide, "StreamFilters$PieceReader", Or.inl rfl, Or.inl (tb 122 (by decide +kernel) rfl)⟩
theorem l_PieceReader_118_PieceReader : lnk "StreamFilters$PieceReader" 118 F_PieceReader 12 7 := ⟨by decide, "StreamFilters$PieceReader", Or.inl rfl, Or.inl (tb 116 (by decide +kernel) rfl)⟩
theorem l_PieceReader_121_PieceReader : lnk "StreamFilters$PieceReader" 121 F_PieceReader 12 11 := ⟨by decide, "StreamFilters$PieceReader", Or.inl rfl, Or.inl (tb 124 (by decide +kernel) rfl)⟩
theorem l_PieceReader_37_PieceReader : lnk "StreamFilters$PieceReader" 37 F_PieceReader 12 4 := ⟨by decide, "StreamFilters$PieceReader", Or.inl rfl, Or.inl (tb 111 (by decide +kernel) rfl)⟩
theorem cw_PieceReader_76 : cwk "StreamFilters$PieceReader" 76 y_PieceReader_limitNamed b_PieceReader_limitNamed 2 (some .int) 1 := ⟨Or.inl (tb 232 (by decide +kernel) rfl), (tb 235 (by decide +kernel) rfl), (tb 4 (by decide +kernel) rfl), by decide, by decide, by decide +kernel⟩
theorem cw_PieceReader_79 : cwk "StreamFilters$PieceReader" 79 y_PieceReader_readNumber b_PieceReader_readNumber 5 (some .boolean) 1 := ⟨Or.inl (tb 292 (by decide +kernel) rfl), (tb 295 (by decide +kernel) rfl), (tb 4 (by decide +kernel) rfl), by decide, by decide, by decide +kernel⟩
theorem se_PieceReader_limitNamed : Cond.instanceMethod y_PieceReader_limitNamed ∈ TB ∧ Cond.selects "StreamFilters$PieceReader" y_PieceReader_limitNamed y_PieceReader_limitNamed ∈ TB := ⟨(tb 234 (by decide +kernel) rfl), (tbs 4 (by decide +kernel) rfl)⟩
theorem se_PieceReader_readNumber : Cond.instanceMethod y_PieceReader_readNumber ∈ TB ∧ Cond.selects "StreamFilters$PieceReader" y_PieceReader_readNumber y_PieceReader_readNumber ∈ TB := ⟨(tb 294 (by decide +kernel) rfl), (tbs 5 (by decide +kernel) rfl)⟩
theorem mm_PieceReader_112 : Cond.methodLink "StreamFilters$PieceReader" 112 Lib.Math.max.name ∈ TB := (tb 305 (by decide +kernel) rfl)
/-! decode rows -/
theorem d_PieceReader_readLimit_0 : decode b_PieceReader_readLimit 0 = .ok (.aload_n 0, 1) := by decide +kernel
theorem d_PieceReader_readLimit_1 : decode b_PieceReader_readLimit 1 = .ok (.aload_n 0, 1) := by decide +kernel
theorem d_PieceReader_readLimit_2 : decode b_PieceReader_readLimit 2 = .ok (.iload_n 1, 1) := by decide +kernel
theorem d_PieceReader_readLimit_3 : decode b_PieceReader_readLimit 3 = .ok (.invokevirtual 76, 3) := by decide +kernel
theorem d_PieceReader_readLimit_6 : decode b_PieceReader_readLimit 6 = .ok (.putfield 37, 3) := by decide +kernel
theorem d_PieceReader_readLimit_9 : decode b_PieceReader_readLimit 9 = .ok (.aload_n 0, 1) := by decide +kernel
theorem d_PieceReader_readLimit_10 : decode b_PieceReader_readLimit 10 = .ok (.getfield 37, 3) := by decide +kernel
theorem d_PieceReader_readLimit_13 : decode b_PieceReader_readLimit 13 = .ok (.bipush (-2), 2) := by decide +kernel
theorem d_PieceReader_readLimit_15 : decode b_PieceReader_readLimit 15 = .ok (.if_icmp .eq 17, 3) := by decide +kernel
theorem d_PieceReader_readLimit_18 : decode b_PieceReader_readLimit 18 = .ok (.aload_n 0, 1) := by decide +kernel
theorem d_PieceReader_readLimit_19 : decode b_PieceReader_readLimit 19 = .ok (.iload_n 1, 1) := by decide +kernel
theorem d_PieceReader_readLimit_20 : decode b_PieceReader_readLimit 20 = .ok (.iconst 1, 1) := by decide +kernel
theorem d_PieceReader_readLimit_21 : decode b_PieceReader_readLimit 21 = .ok (.iadd, 1) := by decide +kernel
theorem d_PieceReader_readLimit_22 : decode b_PieceReader_readLimit 22 = .ok (.invokevirtual 79, 3) := by decide +kernel
theorem d_PieceReader_readLimit_25 : decode b_PieceReader_readLimit 25 = .ok (.ifCond .eq 7, 3) := by decide +kernel
theorem d_PieceReader_readLimit_28 : decode b_PieceReader_readLimit 28 = .ok (.iconst 1, 1) := by decide +kernel
theorem d_PieceReader_readLimit_29 : decode b_PieceReader_readLimit 29 = .ok (.goto 4, 3) := by decide +kernel
theorem d_PieceReader_readLimit_32 : decode b_PieceReader_readLimit 32 = .ok (.iconst 0, 1) := by decide +kernel
theorem d_PieceReader_readLimit_33 : decode b_PieceReader_readLimit 33 = .ok (.ireturn, 1) := by decide +kernel
theorem d_PieceReader_readName_0 : decode b_PieceReader_readName 0 = .ok (.aload_n 0, 1) := by decide +kernel
theorem d_PieceReader_readName_1 : decode b_PieceReader_readName 1 = .ok (.getfield 9, 3) := by decide +kernel
theorem d_PieceReader_readName_4 : decode b_PieceReader_readName 4 = .ok (.ldc 110, 2) := by decide +kernel
theorem d_PieceReader_readName_6 : decode b_PieceReader_readName 6 = .ok (.aload_n 0, 1) := by decide +kernel
theorem d_PieceReader_readName_7 : decode b_PieceReader_readName 7 = .ok (.getfield 104, 3) := by decide +kernel
theorem d_PieceReader_readName_10 : decode b_PieceReader_readName 10 = .ok (.aload_n 0, 1) := by decide +kernel
theorem d_PieceReader_readName_11 : decode b_PieceReader_readName 11 = .ok (.getfield 51, 3) := by decide +kernel
theorem d_PieceReader_readName_14 : decode b_PieceReader_readName 14 = .ok (.iconst 3, 1) := by decide +kernel
theorem d_PieceReader_readName_15 : decode b_PieceReader_readName 15 = .ok (.isub, 1) := by decide +kernel
theorem d_PieceReader_readName_16 : decode b_PieceReader_readName 16 = .ok (.invokestatic 112, 3) := by decide +kernel
theorem d_PieceReader_readName_19 : decode b_PieceReader_readName 19 = .ok (.aload_n 0, 1) := by decide +kernel
theorem d_PieceReader_readName_20 : decode b_PieceReader_readName 20 = .ok (.getfield 51, 3) := by decide +kernel
theorem d_PieceReader_readName_23 : decode b_PieceReader_readName 23 = .ok (.invokevirtual 84, 3) := by decide +kernel
theorem d_PieceReader_readName_26 : decode b_PieceReader_readName 26 = .ok (.ifCond .eq 37, 3) := by decide +kernel
theorem d_PieceReader_readName_29 : decode b_PieceReader_readName 29 = .ok (.aload_n 0, 1) := by decide +kernel
theorem d_PieceReader_readName_30 : decode b_PieceReader_readName 30 = .ok (.iconst 2, 1) := by decide +kernel
theorem d_PieceReader_readName_31 : decode b_PieceReader_readName 31 = .ok (.putfield 118, 3) := by decide +kernel
theorem d_PieceReader_readName_34 : decode b_PieceReader_readName 34 = .ok (.aload_n 0, 1) := by decide +kernel
theorem d_PieceReader_readName_35 : decode b_PieceReader_readName 35 = .ok (.aload_n 0, 1) := by decide +kernel
theorem d_PieceReader_readName_36 : decode b_PieceReader_readName 36 = .ok (.getfield 51, 3) := by decide +kernel
theorem d_PieceReader_readName_39 : decode b_PieceReader_readName 39 = .ok (.iconst 2, 1) := by decide +kernel
theorem d_PieceReader_readName_40 : decode b_PieceReader_readName 40 = .ok (.isub, 1) := by decide +kernel
theorem d_PieceReader_readName_41 : decode b_PieceReader_readName 41 = .ok (.putfield 121, 3) := by decide +kernel
theorem d_PieceReader_readName_44 : decode b_PieceReader_readName 44 = .ok (.aload_n 0, 1) := by decide +kernel
theorem d_PieceReader_readName_45 : decode b_PieceReader_readName 45 = .ok (.getfield 121, 3) := by decide +kernel
theorem d_PieceReader_readName_48 : decode b_PieceReader_readName 48 = .ok (.aload_n 0, 1) := by decide +kernel
theorem d_PieceReader_readName_49 : decode b_PieceReader_readName 49 = .ok (.getfield 104, 3) := by decide +kernel
theorem d_PieceReader_readName_52 : decode b_PieceReader_readName 52 = .ok (.isub, 1) := by decide +kernel
theorem d_PieceReader_readName_53 : decode b_PieceReader_readName 53 = .ok (.iconst 2, 1) := by decide +kernel
theorem d_PieceReader_readName_54 : decode b_PieceReader_readName 54 = .ok (.if_icmp .lt 7, 3) := by decide +kernel
theorem d_PieceReader_readName_57 : decode b_PieceReader_readName 57 = .ok (.iconst 1, 1) := by decide +kernel
theorem d_PieceReader_readName_58 : decode b_PieceReader_readName 58 = .ok (.goto 4, 3) := by decide +kernel
theorem d_PieceReader_readName_61 : decode b_PieceReader_readName 61 = .ok (.iconst 0, 1) := by decide +kernel
theorem d_PieceReader_readName_62 : decode b_PieceReader_readName 62 = .ok (.ireturn, 1) := by decide +kernel
theorem d_PieceReader_readName_63 : decode b_PieceReader_readName 63 = .ok (.aload_n 0, 1) := by decide +kernel
theorem d_PieceReader_readName_64 : decode b_PieceReader_readName 64 = .ok (.getfield 9, 3) := by decide +kernel
theorem d_PieceReader_readName_67 : decode b_PieceReader_readName 67 = .ok (.ldc 124, 2) := by decide +kernel
theorem d_PieceReader_readName_69 : decode b_PieceReader_readName 69 = .ok (.aload_n 0, 1) := by decide +kernel
theorem d_PieceReader_readName_70 : decode b_PieceReader_readName 70 = .ok (.getfield 104, 3) := by decide +kernel
theorem d_PieceReader_readName_73 : decode b_PieceReader_readName 73 = .ok (.aload_n 0, 1) := by decide +kernel
theorem d_PieceReader_readName_74 : decode b_PieceReader_readName 74 = .ok (.getfield 51, 3) := by decide +kernel
theorem d_PieceReader_readName_77 : decode b_PieceReader_readName 77 = .ok (.iconst 2, 1) := by decide +kernel
theorem d_PieceReader_readName_78 : decode b_PieceReader_readName 78 = .ok (.isub, 1) := by decide +kernel
theorem d_PieceReader_readName_79 : decode b_PieceReader_readName 79 = .ok (.invokestatic 112, 3) := by decide +kernel
theorem d_PieceReader_readName_82 : decode b_PieceReader_readName 82 = .ok (.aload_n 0, 1) := by decide +kernel
theorem d_PieceReader_readName_83 : decode b_PieceReader_readName 83 = .ok (.getfield 51, 3) := by decide +kernel
theorem d_PieceReader_readName_86 : decode b_PieceReader_readName 86 = .ok (.invokevirtual 84, 3) := by decide +kernel
theorem d_PieceReader_readName_89 : decode b_PieceReader_readName 89 = .ok (.ifCond .eq 37, 3) := by decide +kernel
theorem d_PieceReader_readName_92 : decode b_PieceReader_readName 92 = .ok (.aload_n 0, 1) := by decide +kernel
theorem d_PieceReader_readName_93 : decode b_PieceReader_readName 93 = .ok (.iconst 1, 1) := by decide +kernel
theorem d_PieceReader_readName_94 : decode b_PieceReader_readName 94 = .ok (.putfield 118, 3) := by decide +kernel
theorem d_PieceReader_readName_97 : decode b_PieceReader_readName 97 = .ok (.aload_n 0, 1) := by decide +kernel
theorem d_PieceReader_readName_98 : decode b_PieceReader_readName 98 = .ok (.aload_n 0, 1) := by decide +kernel
theorem d_PieceReader_readName_99 : decode b_PieceReader_readName 99 = .ok (.getfield 51, 3) := by decide +kernel
theorem d_PieceReader_readName_102 : decode b_PieceReader_readName 102 = .ok (.iconst 1, 1) := by decide +kernel
theorem d_PieceReader_readName_103 : decode b_PieceReader_readName 103 = .ok (.isub, 1) := by decide +kernel
theorem d_PieceReader_readName_104 : decode b_PieceReader_readName 104 = .ok (.putfield 121, 3) := by decide +kernel
theorem d_PieceReader_readName_107 : decode b_PieceReader_readName 107 = .ok (.aload_n 0, 1) := by decide +kernel
theorem d_PieceReader_readName_108 : decode b_PieceReader_readName 108 = .ok (.getfield 121, 3) := by decide +kernel
theorem d_PieceReader_readName_111 : decode b_PieceReader_readName 111 = .ok (.aload_n 0, 1) := by decide +kernel
theorem d_PieceReader_readName_112 : decode b_PieceReader_readName 112 = .ok (.getfield 104, 3) := by decide +kernel
theorem d_PieceReader_readName_115 : decode b_PieceReader_readName 115 = .ok (.isub, 1) := by decide +kernel
theorem d_PieceReader_readName_116 : decode b_PieceReader_readName 116 = .ok (.iconst 2, 1) := by decide +kernel
theorem d_PieceReader_readName_117 : decode b_PieceReader_readName 117 = .ok (.if_icmp .lt 7, 3) := by decide +kernel
theorem d_PieceReader_readName_120 : decode b_PieceReader_readName 120 = .ok (.iconst 1, 1) := by decide +kernel
theorem d_PieceReader_readName_121 : decode b_PieceReader_readName 121 = .ok (.goto 4, 3) := by decide +kernel
theorem d_PieceReader_readName_124 : decode b_PieceReader_readName 124 = .ok (.iconst 0, 1) := by decide +kernel
theorem d_PieceReader_readName_125 : decode b_PieceReader_readName 125 = .ok (.ireturn, 1) := by decide +kernel
theorem d_PieceReader_readName_126 : decode b_PieceReader_readName 126 = .ok (.aload_n 0, 1) := by decide +kernel
theorem d_PieceReader_readName_127 : decode b_PieceReader_readName 127 = .ok (.getfield 9, 3) := by decide +kernel
theorem d_PieceReader_readName_130 : decode b_PieceReader_readName 130 = .ok (.ldc 126, 2) := by decide +kernel
theorem d_PieceReader_readName_132 : decode b_PieceReader_readName 132 = .ok (.aload_n 0, 1) := by decide +kernel
theorem d_PieceReader_readName_133 : decode b_PieceReader_readName 133 = .ok (.getfield 104, 3) := by decide +kernel
theorem d_PieceReader_readName_136 : decode b_PieceReader_readName 136 = .ok (.aload_n 0, 1) := by decide +kernel
theorem d_PieceReader_readName_137 : decode b_PieceReader_readName 137 = .ok (.getfield 51, 3) := by decide +kernel
theorem d_PieceReader_readName_140 : decode b_PieceReader_readName 140 = .ok (.iconst 1, 1) := by decide +kernel
theorem d_PieceReader_readName_141 : decode b_PieceReader_readName 141 = .ok (.isub, 1) := by decide +kernel
theorem d_PieceReader_readName_142 : decode b_PieceReader_readName 142 = .ok (.invokestatic 112, 3) := by decide +kernel
theorem d_PieceReader_readName_145 : decode b_PieceReader_readName 145 = .ok (.aload_n 0, 1) := by decide +kernel
theorem d_PieceReader_readName_146 : decode b_PieceReader_readName 146 = .ok (.getfield 51, 3) := by decide +kernel
theorem d_PieceReader_readName_149 : decode b_PieceReader_readName 149 = .ok (.invokevirtual 84, 3) := by decide +kernel
theorem d_PieceReader_readName_152 : decode b_PieceReader_readName 152 = .ok (.ifCond .eq 20, 3) := by decide +kernel
theorem d_PieceReader_readName_155 : decode b_PieceReader_readName 155 = .ok (.aload_n 0, 1) := by decide +kernel
theorem d_PieceReader_readName_156 : decode b_PieceReader_readName 156 = .ok (.iconst 3, 1) := by decide +kernel
theorem d_PieceReader_readName_157 : decode b_PieceReader_readName 157 = .ok (.putfield 118, 3) := by decide +kernel
theorem d_PieceReader_readName_160 : decode b_PieceReader_readName 160 = .ok (.aload_n 0, 1) := by decide +kernel
theorem d_PieceReader_readName_161 : decode b_PieceReader_readName 161 = .ok (.aload_n 0, 1) := by decide +kernel
theorem d_PieceReader_readName_162 : decode b_PieceReader_readName 162 = .ok (.getfield 51, 3) := by decide +kernel
theorem d_PieceReader_readName_165 : decode b_PieceReader_readName 165 = .ok (.iconst 1, 1) := by decide +kernel
theorem d_PieceReader_readName_166 : decode b_PieceReader_readName 166 = .ok (.isub, 1) := by decide +kernel
theorem d_PieceReader_readName_167 : decode b_PieceReader_readName 167 = .ok (.putfield 121, 3) := by decide +kernel
theorem d_PieceReader_readName_170 : decode b_PieceReader_readName 170 = .ok (.iconst 1, 1) := by decide +kernel
theorem d_PieceReader_readName_171 : decode b_PieceReader_readName 171 = .ok (.ireturn, 1) := by decide +kernel
theorem d_PieceReader_readName_172 : decode b_PieceReader_readName 172 = .ok (.aload_n 0, 1) := by decide +kernel
theorem d_PieceReader_readName_173 : decode b_PieceReader_readName 173 = .ok (.iconst 0, 1) := by decide +kernel
theorem d_PieceReader_readName_174 : decode b_PieceReader_readName 174 = .ok (.putfield 118, 3) := by decide +kernel
theorem d_PieceReader_readName_177 : decode b_PieceReader_readName 177 = .ok (.aload_n 0, 1) := by decide +kernel
theorem d_PieceReader_readName_178 : decode b_PieceReader_readName 178 = .ok (.aload_n 0, 1) := by decide +kernel
theorem d_PieceReader_readName_179 : decode b_PieceReader_readName 179 = .ok (.getfield 51, 3) := by decide +kernel
theorem d_PieceReader_readName_182 : decode b_PieceReader_readName 182 = .ok (.putfield 121, 3) := by decide +kernel
theorem d_PieceReader_readName_185 : decode b_PieceReader_readName 185 = .ok (.aload_n 0, 1) := by decide +kernel
theorem d_PieceReader_readName_186 : decode b_PieceReader_readName 186 = .ok (.getfield 121, 3) := by decide +kernel
theorem d_PieceReader_readName_189 : decode b_PieceReader_readName 189 = .ok (.aload_n 0, 1) := by decide +kernel
theorem d_PieceReader_readName_190 : decode b_PieceReader_readName 190 = .ok (.getfield 104, 3) := by decide +kernel
theorem d_PieceReader_readName_193 : decode b_PieceReader_readName 193 = .ok (.if_icmp .le 7, 3) := by decide +kernel
theorem d_PieceReader_readName_196 : decode b_PieceReader_readName 196 = .ok (.iconst 1, 1) := by decide +kernel
theorem d_PieceReader_readName_197 : decode b_PieceReader_readName 197 = .ok (.goto 4, 3) := by decide +kernel
theorem d_PieceReader_readName_200 : decode b_PieceReader_readName 200 = .ok (.iconst 0, 1) := by decide +kernel
theorem d_PieceReader_readName_201 : decode b_PieceReader_readName 201 = .ok (.ireturn, 1) := by decide +kernel
set_option maxHeartbeats 4000000 in
set_option maxRecDepth 100000 in
/-- readLimit(q) -/
theorem c_PieceReader_readLimit (G : GG) (l : Launch) (sz : Nat) (f : Wd) {ra ta tr cap n : Nat} {t : Nat → Int32} {vpi vli vnu vrj vsh vmf vme vnf vne : Int32} {a q e0 : Nat} (hR : f ra = some (.inr (3, [.ref ta, .int (nI a), .int (nI e0), .int vpi, .int vli, .int vnu, .int vrj, .int vsh, .int vmf, .int vme, .int vnf, .int vne]))) (hT : sg G f ta tr cap n t) (h1 : a ≤ q) (h2 : q < e0) (h3 : e0 ≤ n) : Ci G l y_PieceReader_readLimit b_PieceReader_readLimit 2 (some .boolean) ({ frames := 6, cells := 0, slots := 0, locals := 132 }) sz f [.ref ra, .int (nI q)] (fun v f' => ∃ li nu : Int32, f' = va_up f ra (some (.inr (3, [.ref ta, .int (nI a), .int (nI e0), .int vpi, .int li, .int nu, .int vrj, .int vsh, .int vmf, .int vme, .int vnf, .int vne]))) ∧ v = bI (lok t a q e0) ∧ (lok t a q e0 → li = lmV t a q ∧ nu = nmb t (q + 1) (e0 - (q + 1)))) := by
  refine ct_of (by decide) (Nat.le_of_ble_eq_true rfl) ?_
  intro p e s m below meth c ls H locs hEn
  obtain ⟨hc, hr, hlk, hin, hE, hw, hsz, hl⟩ := hEn
  have hx := hc.1
  have hb := hc.2.1
  have hl : lv_has ls 2 [(0, .ref ra), (1, .int (nI q))] := hl
  have hn9 : n ≤ 90 := by have := hT.2.2.1; have := hT.2.2.2.1; omega
  refine lv_aload_n hx hb d_PieceReader_readLimit_0 rfl (lv_at hl 0 rfl) ?_
  refine lv_aload_n hx hb d_PieceReader_readLimit_1 rfl (lv_at hl 0 rfl) ?_
  refine lv_iload_n hx hb d_PieceReader_readLimit_2 rfl (lv_at hl 1 rfl) ?_
  refine m_calli hw (m_runV (As := [.int (nI q)]) (rest := [.ref ra]) hc hE hw (c_PieceReader_limitNamed G l H.size f hR hT h1 (by omega)) hR rfl cw_PieceReader_76 se_PieceReader_limitNamed rfl hl.1 rfl (Nat.le_of_ble_eq_true rfl) d_PieceReader_readLimit_3 ⟨rfl, rfl, by decide, by decide⟩ ⟨by first | decide | (dsimp only; omega), by first | decide | (dsimp only; omega)⟩) (fun r3 g2 H locs p1 hw => ?_)
  obtain ⟨rfl, p1⟩ := p1
  subst p1
  refine m_put hc hE hw hR kc_PieceReader l_PieceReader_37_PieceReader rfl ds_PieceReader_4 rfl rfl (Nat.le_of_ble_eq_true rfl) d_PieceReader_readLimit_6 (fun H locs hw => ?_)
  obtain ⟨f4, ef4⟩ : ∃ z : Wd, z = va_up f ra (some (.inr (3, [.ref ta, .int (nI a), .int (nI e0), .int vpi, .int (lmV t a q), .int vnu, .int vrj, .int vsh, .int vmf, .int vme, .int vnf, .int vne]))) := ⟨_, rfl⟩
  replace hw : ms G.1 (Af f sz) f4 s H locs := by rw [ef4]; exact hw
  have h5 : f4 ta = some (.inr (1, [.ref tr, .int (nI n)])) := by rw [ef4, va_up_ne _ _ (wne hT.1 hR (wd_oo (by decide)))]; exact hT.1
  have h6 : f4 ra = some (.inr (3, [.ref ta, .int (nI a), .int (nI e0), .int vpi, .int (lmV t a q), .int vnu, .int vrj, .int vsh, .int vmf, .int vme, .int vnf, .int vne])) := by rw [ef4, va_up_self]
  have hT7 : sg G f4 ta tr cap n t := by rw [ef4]; exact sg_up hT hR wd_x
  refine lv_aload_n hx hb d_PieceReader_readLimit_9 rfl (lv_at hl 0 rfl) ?_
  refine m_get hc hE hw h6 kc_PieceReader l_PieceReader_37_PieceReader rfl d_PieceReader_readLimit_10 ?_
  refine lv_bipush (v := (-2)) hx hb d_PieceReader_readLimit_13 (by decide) ?_
  refine lv_icmp_eq (tgt := 32) hx hb d_PieceReader_readLimit_15 (by decide) (fun c8 => ?_) (fun c8 => ?_)
  · refine lv_iconst (v := 0) hx hb d_PieceReader_readLimit_32 (by decide) ?_
    have hno : ¬ lok t a q e0 := fun z => z.1 c8
    exact m_zret hc hr hlk hw ⟨by first | decide | (dsimp only; omega), by first | decide | (dsimp only; omega)⟩ d_PieceReader_readLimit_33 (by decide) ⟨lmV t a q, vnu, ef4, (bI_f hno).symm, fun z => absurd z hno⟩
  · refine lv_aload_n hx hb d_PieceReader_readLimit_18 rfl (lv_at hl 0 rfl) ?_
    refine lv_iload_n hx hb d_PieceReader_readLimit_19 rfl (lv_at hl 1 rfl) ?_
    refine lv_iconst (v := 1) hx hb d_PieceReader_readLimit_20 (by decide) ?_
    refine lv_iadd hx hb d_PieceReader_readLimit_21 ?_
    refine m_top (y := (nI (q + 1))) (nI_1 q) ?_
    refine m_calli hw (m_runV (As := [.int (nI (q + 1))]) (rest := []) hc hE hw (c_PieceReader_readNumber G l H.size f4 h6 hT7 (d := q + 1) (by omega) h3) h6 rfl cw_PieceReader_79 se_PieceReader_readNumber rfl hl.1 rfl (Nat.le_of_ble_eq_true rfl) d_PieceReader_readLimit_22 ⟨rfl, rfl, by decide, by decide⟩ ⟨by first | decide | (dsimp only; omega), by first | decide | (dsimp only; omega)⟩) (fun r11 g10 H locs p9 hw => ?_)
    obtain ⟨nu, hfe, hrv, hnu⟩ := p9
    have g10_r : g10 ra = some (.inr (3, [.ref ta, .int (nI a), .int (nI e0), .int vpi, .int (lmV t a q), .int nu, .int vrj, .int vsh, .int vmf, .int vme, .int vnf, .int vne])) := by rw [hfe, va_up_self]
    have hT12 : sg G g10 ta tr cap n t := by rw [hfe]; exact sg_up hT7 h6 wd_x
    refine lv_if_eq (tgt := 32) hx hb d_PieceReader_readLimit_25 (by decide) (fun c13 => ?_) (fun c13 => ?_)
    · refine lv_iconst (v := 0) hx hb d_PieceReader_readLimit_32 (by decide) ?_
      have hno : ¬ lok t a q e0 := fun z => (bI_0.mp (hrv.symm.trans c13)) z.2
      exact m_zret hc hr hlk hw ⟨by first | decide | (dsimp only; omega), by first | decide | (dsimp only; omega)⟩ d_PieceReader_readLimit_33 (by decide) ⟨lmV t a q, nu, by rw [hfe, ef4, up_uu], (bI_f hno).symm, fun z => absurd z hno⟩
    · refine lv_iconst (v := 1) hx hb d_PieceReader_readLimit_28 (by decide) ?_
      refine lv_goto (tgt := 33) hx hb d_PieceReader_readLimit_29 (by decide) ?_
      have hok : lok t a q e0 := ⟨c8, bI_n.mp (fun z => c13 (hrv.trans z))⟩
      exact m_zret hc hr hlk hw ⟨by first | decide | (dsimp only; omega), by first | decide | (dsimp only; omega)⟩ d_PieceReader_readLimit_33 (by decide) ⟨lmV t a q, nu, by rw [hfe, ef4, up_uu], (bI_t hok).symm, fun z => ⟨rfl, hnu z.2⟩⟩

set_option maxHeartbeats 4000000 in
set_option maxRecDepth 100000 in
/-- readName() -/
theorem c_PieceReader_readName (G : GG) (l : Launch) (sz : Nat) (f : Wd) {ra ta tr cap n : Nat} {t : Nat → Int32} {vfr vpi vli vnu vrj vsh vmf vme vne : Int32} {b e0 : Nat} (hR : f ra = some (.inr (3, [.ref ta, .int vfr, .int (nI e0), .int vpi, .int vli, .int vnu, .int vrj, .int vsh, .int vmf, .int vme, .int (nI b), .int vne]))) (hT : sg G f ta tr cap n t) (h1 : b ≤ e0) (h3 : e0 ≤ n) : Ci G l y_PieceReader_readName b_PieceReader_readName 1 (some .boolean) ({ frames := 5, cells := 0, slots := 0, locals := 111 }) sz f [.ref ra] (fun v f' => f' = va_up f ra (some (.inr (3, [.ref ta, .int vfr, .int (nI e0), .int vpi, .int vli, .int vnu, .int vrj, .int (nI (shp t b e0)), .int vmf, .int vme, .int (nI b), .int (nI (nmE t b e0))]))) ∧ v = bI (okN t b e0)) := by
  refine ct_of (by decide) (Nat.le_of_ble_eq_true rfl) ?_
  intro p e s m below meth c ls H locs hEn
  obtain ⟨hc, hr, hlk, hin, hE, hw, hsz, hl⟩ := hEn
  have hx := hc.1
  have hb := hc.2.1
  have hl : lv_has ls 1 [(0, .ref ra)] := hl
  have hn9 : n ≤ 90 := by have := hT.2.2.1; have := hT.2.2.2.1; omega
  obtain ⟨hi2, hi1, hi3⟩ := isw_e (t := t) h1
  refine lv_aload_n hx hb d_PieceReader_readName_0 rfl (lv_at hl 0 rfl) ?_
  refine m_get hc hE hw hR kc_PieceReader l_PieceReader_9_PieceReader rfl d_PieceReader_readName_1 ?_
  refine m_ldc hc hE (k := 4) (tx := ".**") (by decide) d_PieceReader_readName_4 ?_
  refine lv_aload_n hx hb d_PieceReader_readName_6 rfl (lv_at hl 0 rfl) ?_
  refine m_get hc hE hw hR kc_PieceReader l_PieceReader_104_PieceReader rfl d_PieceReader_readName_7 ?_
  refine lv_aload_n hx hb d_PieceReader_readName_10 rfl (lv_at hl 0 rfl) ?_
  refine m_get hc hE hw hR kc_PieceReader l_PieceReader_51_PieceReader rfl d_PieceReader_readName_11 ?_
  refine lv_iconst (v := 3) hx hb d_PieceReader_readName_14 (by decide) ?_
  refine lv_isub hx hb d_PieceReader_readName_15 ?_
  refine m_mmax hc mm_PieceReader_112 mm_w hl.1 (Nat.le_of_ble_eq_true rfl) (Nat.le_of_ble_eq_true rfl) ⟨by first | decide | (dsimp only; omega), by first | decide | (dsimp only; omega)⟩ d_PieceReader_readName_16 ?_
  refine m_top (y := (nI (max b (e0 - 3)))) (mxk (k := 3) (by omega) (by omega) (by omega)) ?_
  refine lv_aload_n hx hb d_PieceReader_readName_19 rfl (lv_at hl 0 rfl) ?_
  refine m_get hc hE hw hR kc_PieceReader l_PieceReader_51_PieceReader rfl d_PieceReader_readName_20 ?_
  refine m_calli hw (m_runV (As := [.ref (G.2.2.1 4), .int (nI (max b (e0 - 3))), .int (nI e0)]) (rest := []) hc hE hw (c_Signs_hasWord G l H.size f hT (k := 4) (by decide) (by omega) h3) hT.1 rfl cw_PieceReader_84 se_Signs_hasWord rfl hl.1 rfl (Nat.le_of_ble_eq_true rfl) d_PieceReader_readName_23 ⟨rfl, rfl, by decide, by decide⟩ ⟨by first | decide | (dsimp only; omega), by first | decide | (dsimp only; omega)⟩) (fun r3 g2 H locs p1 hw => ?_)
  obtain ⟨rfl, p1⟩ := p1
  refine lv_if_eq (tgt := 63) hx hb d_PieceReader_readName_26 (by decide) (fun c4 => ?_) (fun c4 => ?_)
  · refine lv_aload_n hx hb d_PieceReader_readName_63 rfl (lv_at hl 0 rfl) ?_
    refine m_get hc hE hw hR kc_PieceReader l_PieceReader_9_PieceReader rfl d_PieceReader_readName_64 ?_
    refine m_ldc hc hE (k := 5) (tx := ".*") (by decide) d_PieceReader_readName_67 ?_
    refine lv_aload_n hx hb d_PieceReader_readName_69 rfl (lv_at hl 0 rfl) ?_
    refine m_get hc hE hw hR kc_PieceReader l_PieceReader_104_PieceReader rfl d_PieceReader_readName_70 ?_
    refine lv_aload_n hx hb d_PieceReader_readName_73 rfl (lv_at hl 0 rfl) ?_
    refine m_get hc hE hw hR kc_PieceReader l_PieceReader_51_PieceReader rfl d_PieceReader_readName_74 ?_
    refine lv_iconst (v := 2) hx hb d_PieceReader_readName_77 (by decide) ?_
    refine lv_isub hx hb d_PieceReader_readName_78 ?_
    refine m_mmax hc mm_PieceReader_112 mm_w hl.1 (Nat.le_of_ble_eq_true rfl) (Nat.le_of_ble_eq_true rfl) ⟨by first | decide | (dsimp only; omega), by first | decide | (dsimp only; omega)⟩ d_PieceReader_readName_79 ?_
    refine m_top (y := (nI (max b (e0 - 2)))) (mxk (k := 2) (by omega) (by omega) (by omega)) ?_
    refine lv_aload_n hx hb d_PieceReader_readName_82 rfl (lv_at hl 0 rfl) ?_
    refine m_get hc hE hw hR kc_PieceReader l_PieceReader_51_PieceReader rfl d_PieceReader_readName_83 ?_
    refine m_calli hw (m_runV (As := [.ref (G.2.2.1 5), .int (nI (max b (e0 - 2))), .int (nI e0)]) (rest := []) hc hE hw (c_Signs_hasWord G l H.size f hT (k := 5) (by decide) (by omega) h3) hT.1 rfl cw_PieceReader_84 se_Signs_hasWord rfl hl.1 rfl (Nat.le_of_ble_eq_true rfl) d_PieceReader_readName_86 ⟨rfl, rfl, by decide, by decide⟩ ⟨by first | decide | (dsimp only; omega), by first | decide | (dsimp only; omega)⟩) (fun r7 g6 H locs p5 hw => ?_)
    obtain ⟨rfl, p5⟩ := p5
    refine lv_if_eq (tgt := 126) hx hb d_PieceReader_readName_89 (by decide) (fun c8 => ?_) (fun c8 => ?_)
    · refine lv_aload_n hx hb d_PieceReader_readName_126 rfl (lv_at hl 0 rfl) ?_
      refine m_get hc hE hw hR kc_PieceReader l_PieceReader_9_PieceReader rfl d_PieceReader_readName_127 ?_
      refine m_ldc hc hE (k := 6) (tx := "*") (by decide) d_PieceReader_readName_130 ?_
      refine lv_aload_n hx hb d_PieceReader_readName_132 rfl (lv_at hl 0 rfl) ?_
      refine m_get hc hE hw hR kc_PieceReader l_PieceReader_104_PieceReader rfl d_PieceReader_readName_133 ?_
      refine lv_aload_n hx hb d_PieceReader_readName_136 rfl (lv_at hl 0 rfl) ?_
      refine m_get hc hE hw hR kc_PieceReader l_PieceReader_51_PieceReader rfl d_PieceReader_readName_137 ?_
      refine lv_iconst (v := 1) hx hb d_PieceReader_readName_140 (by decide) ?_
      refine lv_isub hx hb d_PieceReader_readName_141 ?_
      refine m_mmax hc mm_PieceReader_112 mm_w hl.1 (Nat.le_of_ble_eq_true rfl) (Nat.le_of_ble_eq_true rfl) ⟨by first | decide | (dsimp only; omega), by first | decide | (dsimp only; omega)⟩ d_PieceReader_readName_142 ?_
      refine m_top (y := (nI (max b (e0 - 1)))) (mxk (k := 1) (by omega) (by omega) (by omega)) ?_
      refine lv_aload_n hx hb d_PieceReader_readName_145 rfl (lv_at hl 0 rfl) ?_
      refine m_get hc hE hw hR kc_PieceReader l_PieceReader_51_PieceReader rfl d_PieceReader_readName_146 ?_
      refine m_calli hw (m_runV (As := [.ref (G.2.2.1 6), .int (nI (max b (e0 - 1))), .int (nI e0)]) (rest := []) hc hE hw (c_Signs_hasWord G l H.size f hT (k := 6) (by decide) (by omega) h3) hT.1 rfl cw_PieceReader_84 se_Signs_hasWord rfl hl.1 rfl (Nat.le_of_ble_eq_true rfl) d_PieceReader_readName_149 ⟨rfl, rfl, by decide, by decide⟩ ⟨by first | decide | (dsimp only; omega), by first | decide | (dsimp only; omega)⟩) (fun r11 g10 H locs p9 hw => ?_)
      obtain ⟨rfl, p9⟩ := p9
      refine lv_if_eq (tgt := 172) hx hb d_PieceReader_readName_152 (by decide) (fun c12 => ?_) (fun c12 => ?_)
      · have hs2 : ¬ s2 t b e0 := fun z => (bI_0.mp (p1.symm.trans c4)) (hi2.mpr z)
        have hs1 : ¬ s1 t b e0 := fun z => (bI_0.mp (p5.symm.trans c8)) (hi1.mpr z)
        have hs3 : ¬ s3 t b e0 := fun z => (bI_0.mp (p9.symm.trans c12)) (hi3.mpr z)
        refine lv_aload_n hx hb d_PieceReader_readName_172 rfl (lv_at hl 0 rfl) ?_
        refine lv_iconst (v := 0) hx hb d_PieceReader_readName_173 (by decide) ?_
        refine m_put hc hE hw hR kc_PieceReader l_PieceReader_118_PieceReader rfl ds_PieceReader_7 rfl rfl (Nat.le_of_ble_eq_true rfl) d_PieceReader_readName_174 (fun H locs hw => ?_)
        obtain ⟨f13, ef13⟩ : ∃ z : Wd, z = va_up f ra (some (.inr (3, [.ref ta, .int vfr, .int (nI e0), .int vpi, .int vli, .int vnu, .int vrj, .int 0, .int vmf, .int vme, .int (nI b), .int vne]))) := ⟨_, rfl⟩
        replace hw : ms G.1 (Af f sz) f13 s H locs := by rw [ef13]; exact hw
        have h14 : f13 ta = some (.inr (1, [.ref tr, .int (nI n)])) := by rw [ef13, va_up_ne _ _ (wne hT.1 hR (wd_oo (by decide)))]; exact hT.1
        have h15 : f13 ra = some (.inr (3, [.ref ta, .int vfr, .int (nI e0), .int vpi, .int vli, .int vnu, .int vrj, .int 0, .int vmf, .int vme, .int (nI b), .int vne])) := by rw [ef13, va_up_self]
        have hT16 : sg G f13 ta tr cap n t := by rw [ef13]; exact sg_up hT hR wd_x
        refine lv_aload_n hx hb d_PieceReader_readName_177 rfl (lv_at hl 0 rfl) ?_
        refine lv_aload_n hx hb d_PieceReader_readName_178 rfl (lv_at hl 0 rfl) ?_
        refine m_get hc hE hw h15 kc_PieceReader l_PieceReader_51_PieceReader rfl d_PieceReader_readName_179 ?_
        refine m_put hc hE hw h15 kc_PieceReader l_PieceReader_121_PieceReader rfl ds_PieceReader_11 rfl rfl (Nat.le_of_ble_eq_true rfl) d_PieceReader_readName_182 (fun H locs hw => ?_)
        obtain ⟨f17, ef17⟩ : ∃ z : Wd, z = va_up f13 ra (some (.inr (3, [.ref ta, .int vfr, .int (nI e0), .int vpi, .int vli, .int vnu, .int vrj, .int 0, .int vmf, .int vme, .int (nI b), .int (nI e0)]))) := ⟨_, rfl⟩
        replace hw : ms G.1 (Af f sz) f17 s H locs := by rw [ef17]; exact hw
        have h18 : f17 ta = some (.inr (1, [.ref tr, .int (nI n)])) := by rw [ef17, va_up_ne _ _ (wne hT16.1 h15 (wd_oo (by decide)))]; exact hT16.1
        have h19 : f17 ra = some (.inr (3, [.ref ta, .int vfr, .int (nI e0), .int vpi, .int vli, .int vnu, .int vrj, .int 0, .int vmf, .int vme, .int (nI b), .int (nI e0)])) := by rw [ef17, va_up_self]
        have hT20 : sg G f17 ta tr cap n t := by rw [ef17]; exact sg_up hT16 h15 wd_x
        refine lv_aload_n hx hb d_PieceReader_readName_185 rfl (lv_at hl 0 rfl) ?_
        refine m_get hc hE hw h19 kc_PieceReader l_PieceReader_121_PieceReader rfl d_PieceReader_readName_186 ?_
        refine lv_aload_n hx hb d_PieceReader_readName_189 rfl (lv_at hl 0 rfl) ?_
        refine m_get hc hE hw h19 kc_PieceReader l_PieceReader_104_PieceReader rfl d_PieceReader_readName_190 ?_
        refine lv_icmp_le (tgt := 200) hx hb d_PieceReader_readName_193 (by decide) (fun c21 => ?_) (fun c21 => ?_)
        · refine lv_iconst (v := 0) hx hb d_PieceReader_readName_200 (by decide) ?_
          have hsp : shp t b e0 = 0 := by unfold shp; rw [pif_f hs2, pif_f hs1, pif_f hs3]
          have hnm : nmE t b e0 = e0 := by unfold nmE; rw [pif_f hs2, pif_f hs1, pif_f hs3]
          exact m_zret hc hr hlk hw ⟨by first | decide | (dsimp only; omega), by first | decide | (dsimp only; omega)⟩ d_PieceReader_readName_201 (by decide) ⟨by rw [ef17, ef13, up_uu, hsp, hnm]; rfl, (bI_f (fun z => absurd ((nI_leI (by omega) (by omega)).mp c21) (by have := z.2.2 hs2 hs1 hs3; omega))).symm⟩
        · refine lv_iconst (v := 1) hx hb d_PieceReader_readName_196 (by decide) ?_
          refine lv_goto (tgt := 201) hx hb d_PieceReader_readName_197 (by decide) ?_
          have hsp : shp t b e0 = 0 := by unfold shp; rw [pif_f hs2, pif_f hs1, pif_f hs3]
          have hnm : nmE t b e0 = e0 := by unfold nmE; rw [pif_f hs2, pif_f hs1, pif_f hs3]
          exact m_zret hc hr hlk hw ⟨by first | decide | (dsimp only; omega), by first | decide | (dsimp only; omega)⟩ d_PieceReader_readName_201 (by decide) ⟨by rw [ef17, ef13, up_uu, hsp, hnm]; rfl, (bI_t ⟨fun z => absurd z hs2, fun _ z => absurd z hs1, fun _ _ _ => Nat.not_le.mp (fun z => c21 (nI_le z (by omega)))⟩).symm⟩
      · have hs2 : ¬ s2 t b e0 := fun z => (bI_0.mp (p1.symm.trans c4)) (hi2.mpr z)
        have hs1 : ¬ s1 t b e0 := fun z => (bI_0.mp (p5.symm.trans c8)) (hi1.mpr z)
        have hs3 : s3 t b e0 := hi3.mp (bI_n.mp (fun z => c12 (p9.trans z)))
        refine lv_aload_n hx hb d_PieceReader_readName_155 rfl (lv_at hl 0 rfl) ?_
        refine lv_iconst (v := 3) hx hb d_PieceReader_readName_156 (by decide) ?_
        refine m_put hc hE hw hR kc_PieceReader l_PieceReader_118_PieceReader rfl ds_PieceReader_7 rfl rfl (Nat.le_of_ble_eq_true rfl) d_PieceReader_readName_157 (fun H locs hw => ?_)
        obtain ⟨f22, ef22⟩ : ∃ z : Wd, z = va_up f ra (some (.inr (3, [.ref ta, .int vfr, .int (nI e0), .int vpi, .int vli, .int vnu, .int vrj, .int 3, .int vmf, .int vme, .int (nI b), .int vne]))) := ⟨_, rfl⟩
        replace hw : ms G.1 (Af f sz) f22 s H locs := by rw [ef22]; exact hw
        have h23 : f22 ta = some (.inr (1, [.ref tr, .int (nI n)])) := by rw [ef22, va_up_ne _ _ (wne hT.1 hR (wd_oo (by decide)))]; exact hT.1
        have h24 : f22 ra = some (.inr (3, [.ref ta, .int vfr, .int (nI e0), .int vpi, .int vli, .int vnu, .int vrj, .int 3, .int vmf, .int vme, .int (nI b), .int vne])) := by rw [ef22, va_up_self]
        have hT25 : sg G f22 ta tr cap n t := by rw [ef22]; exact sg_up hT hR wd_x
        refine lv_aload_n hx hb d_PieceReader_readName_160 rfl (lv_at hl 0 rfl) ?_
        refine lv_aload_n hx hb d_PieceReader_readName_161 rfl (lv_at hl 0 rfl) ?_
        refine m_get hc hE hw h24 kc_PieceReader l_PieceReader_51_PieceReader rfl d_PieceReader_readName_162 ?_
        refine lv_iconst (v := 1) hx hb d_PieceReader_readName_165 (by decide) ?_
        refine lv_isub hx hb d_PieceReader_readName_166 ?_
        have hs31 := hs3.1
        refine m_top (y := (nI (e0 - 1))) (sbk (k := 1) (by omega)) ?_
        refine m_put hc hE hw h24 kc_PieceReader l_PieceReader_121_PieceReader rfl ds_PieceReader_11 rfl rfl (Nat.le_of_ble_eq_true rfl) d_PieceReader_readName_167 (fun H locs hw => ?_)
        obtain ⟨f26, ef26⟩ : ∃ z : Wd, z = va_up f22 ra (some (.inr (3, [.ref ta, .int vfr, .int (nI e0), .int vpi, .int vli, .int vnu, .int vrj, .int 3, .int vmf, .int vme, .int (nI b), .int (nI (e0 - 1))]))) := ⟨_, rfl⟩
        replace hw : ms G.1 (Af f sz) f26 s H locs := by rw [ef26]; exact hw
        have h27 : f26 ta = some (.inr (1, [.ref tr, .int (nI n)])) := by rw [ef26, va_up_ne _ _ (wne hT25.1 h24 (wd_oo (by decide)))]; exact hT25.1
        have h28 : f26 ra = some (.inr (3, [.ref ta, .int vfr, .int (nI e0), .int vpi, .int vli, .int vnu, .int vrj, .int 3, .int vmf, .int vme, .int (nI b), .int (nI (e0 - 1))])) := by rw [ef26, va_up_self]
        have hT29 : sg G f26 ta tr cap n t := by rw [ef26]; exact sg_up hT25 h24 wd_x
        refine lv_iconst (v := 1) hx hb d_PieceReader_readName_170 (by decide) ?_
        have hsp : shp t b e0 = 3 := by unfold shp; rw [pif_f hs2, pif_f hs1, pif_t hs3]
        have hnm : nmE t b e0 = e0 - 1 := by unfold nmE; rw [pif_f hs2, pif_f hs1, pif_t hs3]
        exact m_zret hc hr hlk hw ⟨by first | decide | (dsimp only; omega), by first | decide | (dsimp only; omega)⟩ d_PieceReader_readName_171 (by decide) ⟨by rw [ef26, ef22, up_uu, hsp, hnm]; rfl, (bI_t ⟨fun z => absurd z hs2, fun _ z => absurd z hs1, fun _ _ z => absurd hs3 z⟩).symm⟩
    · have hs2 : ¬ s2 t b e0 := fun z => (bI_0.mp (p1.symm.trans c4)) (hi2.mpr z)
      have hs1 : s1 t b e0 := hi1.mp (bI_n.mp (fun z => c8 (p5.trans z)))
      refine lv_aload_n hx hb d_PieceReader_readName_92 rfl (lv_at hl 0 rfl) ?_
      refine lv_iconst (v := 1) hx hb d_PieceReader_readName_93 (by decide) ?_
      refine m_put hc hE hw hR kc_PieceReader l_PieceReader_118_PieceReader rfl ds_PieceReader_7 rfl rfl (Nat.le_of_ble_eq_true rfl) d_PieceReader_readName_94 (fun H locs hw => ?_)
      obtain ⟨f30, ef30⟩ : ∃ z : Wd, z = va_up f ra (some (.inr (3, [.ref ta, .int vfr, .int (nI e0), .int vpi, .int vli, .int vnu, .int vrj, .int 1, .int vmf, .int vme, .int (nI b), .int vne]))) := ⟨_, rfl⟩
      replace hw : ms G.1 (Af f sz) f30 s H locs := by rw [ef30]; exact hw
      have h31 : f30 ta = some (.inr (1, [.ref tr, .int (nI n)])) := by rw [ef30, va_up_ne _ _ (wne hT.1 hR (wd_oo (by decide)))]; exact hT.1
      have h32 : f30 ra = some (.inr (3, [.ref ta, .int vfr, .int (nI e0), .int vpi, .int vli, .int vnu, .int vrj, .int 1, .int vmf, .int vme, .int (nI b), .int vne])) := by rw [ef30, va_up_self]
      have hT33 : sg G f30 ta tr cap n t := by rw [ef30]; exact sg_up hT hR wd_x
      refine lv_aload_n hx hb d_PieceReader_readName_97 rfl (lv_at hl 0 rfl) ?_
      refine lv_aload_n hx hb d_PieceReader_readName_98 rfl (lv_at hl 0 rfl) ?_
      refine m_get hc hE hw h32 kc_PieceReader l_PieceReader_51_PieceReader rfl d_PieceReader_readName_99 ?_
      refine lv_iconst (v := 1) hx hb d_PieceReader_readName_102 (by decide) ?_
      refine lv_isub hx hb d_PieceReader_readName_103 ?_
      have hs11 := hs1.1
      refine m_top (y := (nI (e0 - 1))) (sbk (k := 1) (by omega)) ?_
      refine m_put hc hE hw h32 kc_PieceReader l_PieceReader_121_PieceReader rfl ds_PieceReader_11 rfl rfl (Nat.le_of_ble_eq_true rfl) d_PieceReader_readName_104 (fun H locs hw => ?_)
      obtain ⟨f34, ef34⟩ : ∃ z : Wd, z = va_up f30 ra (some (.inr (3, [.ref ta, .int vfr, .int (nI e0), .int vpi, .int vli, .int vnu, .int vrj, .int 1, .int vmf, .int vme, .int (nI b), .int (nI (e0 - 1))]))) := ⟨_, rfl⟩
      replace hw : ms G.1 (Af f sz) f34 s H locs := by rw [ef34]; exact hw
      have h35 : f34 ta = some (.inr (1, [.ref tr, .int (nI n)])) := by rw [ef34, va_up_ne _ _ (wne hT33.1 h32 (wd_oo (by decide)))]; exact hT33.1
      have h36 : f34 ra = some (.inr (3, [.ref ta, .int vfr, .int (nI e0), .int vpi, .int vli, .int vnu, .int vrj, .int 1, .int vmf, .int vme, .int (nI b), .int (nI (e0 - 1))])) := by rw [ef34, va_up_self]
      have hT37 : sg G f34 ta tr cap n t := by rw [ef34]; exact sg_up hT33 h32 wd_x
      refine lv_aload_n hx hb d_PieceReader_readName_107 rfl (lv_at hl 0 rfl) ?_
      refine m_get hc hE hw h36 kc_PieceReader l_PieceReader_121_PieceReader rfl d_PieceReader_readName_108 ?_
      refine lv_aload_n hx hb d_PieceReader_readName_111 rfl (lv_at hl 0 rfl) ?_
      refine m_get hc hE hw h36 kc_PieceReader l_PieceReader_104_PieceReader rfl d_PieceReader_readName_112 ?_
      refine lv_isub hx hb d_PieceReader_readName_115 ?_
      refine m_top (y := (nI (e0 - 1 - b))) (pk_sub (by omega)) ?_
      refine lv_iconst (v := 2) hx hb d_PieceReader_readName_116 (by decide) ?_
      refine lv_icmp_lt (tgt := 124) hx hb d_PieceReader_readName_117 (by decide) (fun c38 => ?_) (fun c38 => ?_)
      · refine lv_iconst (v := 0) hx hb d_PieceReader_readName_124 (by decide) ?_
        have hsp : shp t b e0 = 1 := by unfold shp; rw [pif_f hs2, pif_t hs1]
        have hnm : nmE t b e0 = e0 - 1 := by unfold nmE; rw [pif_f hs2, pif_t hs1]
        exact m_zret hc hr hlk hw ⟨by first | decide | (dsimp only; omega), by first | decide | (dsimp only; omega)⟩ d_PieceReader_readName_125 (by decide) ⟨by rw [ef34, ef30, up_uu, hsp, hnm]; rfl, (bI_f (fun z => absurd ((nI_ltI (a := e0 - 1 - b) (b := 2) (by omega) (by decide)).mp c38) (by have := z.2.1 hs2 hs1; omega))).symm⟩
      · refine lv_iconst (v := 1) hx hb d_PieceReader_readName_120 (by decide) ?_
        refine lv_goto (tgt := 125) hx hb d_PieceReader_readName_121 (by decide) ?_
        have hsp : shp t b e0 = 1 := by unfold shp; rw [pif_f hs2, pif_t hs1]
        have hnm : nmE t b e0 = e0 - 1 := by unfold nmE; rw [pif_f hs2, pif_t hs1]
        exact m_zret hc hr hlk hw ⟨by first | decide | (dsimp only; omega), by first | decide | (dsimp only; omega)⟩ d_PieceReader_readName_125 (by decide) ⟨by rw [ef34, ef30, up_uu, hsp, hnm]; rfl, (bI_t ⟨fun z => absurd z hs2, fun _ _ => Nat.not_lt.mp (fun z => c38 (nI_lt (a := e0 - 1 - b) (b := 2) z (by decide))), fun _ z => absurd hs1 z⟩).symm⟩
  · have hs2 : s2 t b e0 := hi2.mp (bI_n.mp (fun z => c4 (p1.trans z)))
    refine lv_aload_n hx hb d_PieceReader_readName_29 rfl (lv_at hl 0 rfl) ?_
    refine lv_iconst (v := 2) hx hb d_PieceReader_readName_30 (by decide) ?_
    refine m_put hc hE hw hR kc_PieceReader l_PieceReader_118_PieceReader rfl ds_PieceReader_7 rfl rfl (Nat.le_of_ble_eq_true rfl) d_PieceReader_readName_31 (fun H locs hw => ?_)
    obtain ⟨f39, ef39⟩ : ∃ z : Wd, z = va_up f ra (some (.inr (3, [.ref ta, .int vfr, .int (nI e0), .int vpi, .int vli, .int vnu, .int vrj, .int 2, .int vmf, .int vme, .int (nI b), .int vne]))) := ⟨_, rfl⟩
    replace hw : ms G.1 (Af f sz) f39 s H locs := by rw [ef39]; exact hw
    have h40 : f39 ta = some (.inr (1, [.ref tr, .int (nI n)])) := by rw [ef39, va_up_ne _ _ (wne hT.1 hR (wd_oo (by decide)))]; exact hT.1
    have h41 : f39 ra = some (.inr (3, [.ref ta, .int vfr, .int (nI e0), .int vpi, .int vli, .int vnu, .int vrj, .int 2, .int vmf, .int vme, .int (nI b), .int vne])) := by rw [ef39, va_up_self]
    have hT42 : sg G f39 ta tr cap n t := by rw [ef39]; exact sg_up hT hR wd_x
    refine lv_aload_n hx hb d_PieceReader_readName_34 rfl (lv_at hl 0 rfl) ?_
    refine lv_aload_n hx hb d_PieceReader_readName_35 rfl (lv_at hl 0 rfl) ?_
    refine m_get hc hE hw h41 kc_PieceReader l_PieceReader_51_PieceReader rfl d_PieceReader_readName_36 ?_
    refine lv_iconst (v := 2) hx hb d_PieceReader_readName_39 (by decide) ?_
    refine lv_isub hx hb d_PieceReader_readName_40 ?_
    have hs21 := hs2.1
    refine m_top (y := (nI (e0 - 2))) (sbk (k := 2) (by omega)) ?_
    refine m_put hc hE hw h41 kc_PieceReader l_PieceReader_121_PieceReader rfl ds_PieceReader_11 rfl rfl (Nat.le_of_ble_eq_true rfl) d_PieceReader_readName_41 (fun H locs hw => ?_)
    obtain ⟨f43, ef43⟩ : ∃ z : Wd, z = va_up f39 ra (some (.inr (3, [.ref ta, .int vfr, .int (nI e0), .int vpi, .int vli, .int vnu, .int vrj, .int 2, .int vmf, .int vme, .int (nI b), .int (nI (e0 - 2))]))) := ⟨_, rfl⟩
    replace hw : ms G.1 (Af f sz) f43 s H locs := by rw [ef43]; exact hw
    have h44 : f43 ta = some (.inr (1, [.ref tr, .int (nI n)])) := by rw [ef43, va_up_ne _ _ (wne hT42.1 h41 (wd_oo (by decide)))]; exact hT42.1
    have h45 : f43 ra = some (.inr (3, [.ref ta, .int vfr, .int (nI e0), .int vpi, .int vli, .int vnu, .int vrj, .int 2, .int vmf, .int vme, .int (nI b), .int (nI (e0 - 2))])) := by rw [ef43, va_up_self]
    have hT46 : sg G f43 ta tr cap n t := by rw [ef43]; exact sg_up hT42 h41 wd_x
    refine lv_aload_n hx hb d_PieceReader_readName_44 rfl (lv_at hl 0 rfl) ?_
    refine m_get hc hE hw h45 kc_PieceReader l_PieceReader_121_PieceReader rfl d_PieceReader_readName_45 ?_
    refine lv_aload_n hx hb d_PieceReader_readName_48 rfl (lv_at hl 0 rfl) ?_
    refine m_get hc hE hw h45 kc_PieceReader l_PieceReader_104_PieceReader rfl d_PieceReader_readName_49 ?_
    refine lv_isub hx hb d_PieceReader_readName_52 ?_
    refine m_top (y := (nI (e0 - 2 - b))) (pk_sub (by omega)) ?_
    refine lv_iconst (v := 2) hx hb d_PieceReader_readName_53 (by decide) ?_
    refine lv_icmp_lt (tgt := 61) hx hb d_PieceReader_readName_54 (by decide) (fun c47 => ?_) (fun c47 => ?_)
    · refine lv_iconst (v := 0) hx hb d_PieceReader_readName_61 (by decide) ?_
      have hsp : shp t b e0 = 2 := by unfold shp; rw [pif_t hs2]
      have hnm : nmE t b e0 = e0 - 2 := by unfold nmE; rw [pif_t hs2]
      exact m_zret hc hr hlk hw ⟨by first | decide | (dsimp only; omega), by first | decide | (dsimp only; omega)⟩ d_PieceReader_readName_62 (by decide) ⟨by rw [ef43, ef39, up_uu, hsp, hnm]; rfl, (bI_f (fun z => absurd ((nI_ltI (a := e0 - 2 - b) (b := 2) (by omega) (by decide)).mp c47) (by have := z.1 hs2; omega))).symm⟩
    · refine lv_iconst (v := 1) hx hb d_PieceReader_readName_57 (by decide) ?_
      refine lv_goto (tgt := 62) hx hb d_PieceReader_readName_58 (by decide) ?_
      have hsp : shp t b e0 = 2 := by unfold shp; rw [pif_t hs2]
      have hnm : nmE t b e0 = e0 - 2 := by unfold nmE; rw [pif_t hs2]
      exact m_zret hc hr hlk hw ⟨by first | decide | (dsimp only; omega), by first | decide | (dsimp only; omega)⟩ d_PieceReader_readName_62 (by decide) ⟨by rw [ef43, ef39, up_uu, hsp, hnm]; rfl, (bI_t ⟨fun _ => Nat.not_lt.mp (fun z => c47 (nI_lt (a := e0 - 2 - b) (b := 2) z (by decide))), fun z => absurd hs2 z, fun z => absurd hs2 z⟩).symm⟩
