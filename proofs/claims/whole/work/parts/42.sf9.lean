/-! links of the pools, as the walks ask for them -/
theorem nw_SF_99 : nwk "StreamFilters" 99 R_JoinedFilter 5 := ⟨(tb 413 (by decide +kernel) rfl), (tb 414 (by decide +kernel) rfl), (tb 14 (by decide +kernel) rfl)⟩
theorem cw_SF_101 : cwk "StreamFilters" 101 y_JoinedFilter_init b_JoinedFilter_init 3 none 2 := ⟨Or.inl (tb 415 (by decide +kernel) rfl), (tb 417 (by decide +kernel) rfl), (tb 14 (by decide +kernel) rfl), by decide, by decide, by decide +kernel⟩
theorem si_JoinedFilter_init : Cond.instanceMethod y_JoinedFilter_init ∈ TB := (tb 416 (by decide +kernel) rfl)
theorem ca_JoinedFilter_Filter : Cond.castable R_JoinedFilter "StreamFilters$Filter" ∈ EB := (eb 868 (by decide +kernel) rfl)
theorem l5_SF_86 : lnk "StreamFilters" 86 F_TextFilter 6 1 ∧ lnk "StreamFilters" 86 F_JoinedFilter 5 1 ∧ lnk "StreamFilters" 86 F_StrictFilter 5 1 ∧ lnk "StreamFilters" 86 F_DefaultFilter 5 1 ∧ lnk "StreamFilters" 86 F_OnlyFilter 5 1 := ⟨⟨by decide, "StreamFilters$Filter", Or.inl rfl, Or.inl (tb 376 (by decide +kernel) rfl)⟩, ⟨by decide, "StreamFilters$Filter", Or.inl rfl, Or.inl (tb 376 (by decide +kernel) rfl)⟩, ⟨by decide, "StreamFilters$Filter", Or.inl rfl, Or.inl (tb 376 (by decide +kernel) rfl)⟩, ⟨by decide, "StreamFilters$Filter", Or.inl rfl, Or.inl (tb 376 (by decide +kernel) rfl)⟩, ⟨by decide, "StreamFilters$Filter", Or.inl rfl, Or.inl (tb 376 (by decide +kernel) rfl)⟩⟩
theorem mm_SF_93 : Cond.methodLink "StreamFilters" 93 Lib.Math.max.name ∈ TB := (tb 412 (by decide +kernel) rfl)
/-! decode rows -/
theorem d_SF_join_0 : decode b_SF_join 0 = .ok (.aload_n 0, 1) := by decide +kernel
theorem d_SF_join_1 : decode b_SF_join 1 = .ok (.iload_n 2, 1) := by decide +kernel
theorem d_SF_join_2 : decode b_SF_join 2 = .ok (.invokevirtual 82, 3) := by decide +kernel
theorem d_SF_join_5 : decode b_SF_join 5 = .ok (.astore 4, 2) := by decide +kernel
theorem d_SF_join_7 : decode b_SF_join 7 = .ok (.aload_n 0, 1) := by decide +kernel
theorem d_SF_join_8 : decode b_SF_join 8 = .ok (.iload_n 3, 1) := by decide +kernel
theorem d_SF_join_9 : decode b_SF_join 9 = .ok (.invokevirtual 82, 3) := by decide +kernel
theorem d_SF_join_12 : decode b_SF_join 12 = .ok (.astore 5, 2) := by decide +kernel
theorem d_SF_join_14 : decode b_SF_join 14 = .ok (.iload_n 1, 1) := by decide +kernel
theorem d_SF_join_15 : decode b_SF_join 15 = .ok (.invokestatic 67, 3) := by decide +kernel
theorem d_SF_join_18 : decode b_SF_join 18 = .ok (.ifCond .eq 13, 3) := by decide +kernel
theorem d_SF_join_21 : decode b_SF_join 21 = .ok (.aload 4, 2) := by decide +kernel
theorem d_SF_join_23 : decode b_SF_join 23 = .ok (.ifnull 8, 3) := by decide +kernel
theorem d_SF_join_26 : decode b_SF_join 26 = .ok (.aload 5, 2) := by decide +kernel
theorem d_SF_join_28 : decode b_SF_join 28 = .ok (.ifnonnull 5, 3) := by decide +kernel
theorem d_SF_join_31 : decode b_SF_join 31 = .ok (.iconst (-1), 1) := by decide +kernel
theorem d_SF_join_32 : decode b_SF_join 32 = .ok (.ireturn, 1) := by decide +kernel
theorem d_SF_join_33 : decode b_SF_join 33 = .ok (.aload 4, 2) := by decide +kernel
theorem d_SF_join_35 : decode b_SF_join 35 = .ok (.getfield 86, 3) := by decide +kernel
theorem d_SF_join_38 : decode b_SF_join 38 = .ok (.aload 5, 2) := by decide +kernel
theorem d_SF_join_40 : decode b_SF_join 40 = .ok (.getfield 86, 3) := by decide +kernel
theorem d_SF_join_43 : decode b_SF_join 43 = .ok (.iadd, 1) := by decide +kernel
theorem d_SF_join_44 : decode b_SF_join 44 = .ok (.bipush 24, 2) := by decide +kernel
theorem d_SF_join_46 : decode b_SF_join 46 = .ok (.if_icmp .le 6, 3) := by decide +kernel
theorem d_SF_join_49 : decode b_SF_join 49 = .ok (.bipush (-3), 2) := by decide +kernel
theorem d_SF_join_51 : decode b_SF_join 51 = .ok (.ireturn, 1) := by decide +kernel
theorem d_SF_join_52 : decode b_SF_join 52 = .ok (.aload 4, 2) := by decide +kernel
theorem d_SF_join_54 : decode b_SF_join 54 = .ok (.getfield 90, 3) := by decide +kernel
theorem d_SF_join_57 : decode b_SF_join 57 = .ok (.aload 5, 2) := by decide +kernel
theorem d_SF_join_59 : decode b_SF_join 59 = .ok (.getfield 90, 3) := by decide +kernel
theorem d_SF_join_62 : decode b_SF_join 62 = .ok (.invokestatic 93, 3) := by decide +kernel
theorem d_SF_join_65 : decode b_SF_join 65 = .ok (.bipush 8, 2) := by decide +kernel
theorem d_SF_join_67 : decode b_SF_join 67 = .ok (.if_icmp .lt 6, 3) := by decide +kernel
theorem d_SF_join_70 : decode b_SF_join 70 = .ok (.bipush (-3), 2) := by decide +kernel
theorem d_SF_join_72 : decode b_SF_join 72 = .ok (.ireturn, 1) := by decide +kernel
theorem d_SF_join_73 : decode b_SF_join 73 = .ok (.aload_n 0, 1) := by decide +kernel
theorem d_SF_join_74 : decode b_SF_join 74 = .ok (.getfield 36, 3) := by decide +kernel
theorem d_SF_join_77 : decode b_SF_join 77 = .ok (.iload_n 1, 1) := by decide +kernel
theorem d_SF_join_78 : decode b_SF_join 78 = .ok (.new 99, 3) := by decide +kernel
theorem d_SF_join_81 : decode b_SF_join 81 = .ok (.dup, 1) := by decide +kernel
theorem d_SF_join_82 : decode b_SF_join 82 = .ok (.aload 4, 2) := by decide +kernel
theorem d_SF_join_84 : decode b_SF_join 84 = .ok (.aload 5, 2) := by decide +kernel
theorem d_SF_join_86 : decode b_SF_join 86 = .ok (.invokespecial 101, 3) := by decide +kernel
theorem d_SF_join_89 : decode b_SF_join 89 = .ok (.aastore, 1) := by decide +kernel
theorem d_SF_join_90 : decode b_SF_join 90 = .ok (.iconst 0, 1) := by decide +kernel
theorem d_SF_join_91 : decode b_SF_join 91 = .ok (.ireturn, 1) := by decide +kernel
theorem RF.le {G : GG} {g : Wd} {d a : Nat} {v : FV} (h : RF G g d a v) : ∀ k, RF G g (d + k) a v := by
  intro k
  induction k with
  | zero => exact h
  | succ k ih => exact RF.up _ _ _ ih
def mxh (x y : Int32) : Int32 := if x < y then y else x
theorem mxh_n {a b : Nat} (ha : a ≤ 8) (hb : b ≤ 8) : mxh (nI a) (nI b) = nI (max a b) := by
  unfold mxh
  by_cases h : a < b
  · rw [if_pos (nI_lt h (by omega)), show max a b = b by omega]
  · rw [if_neg (nI_nlt (by omega) (by omega)), show max a b = a by omega]
set_option maxHeartbeats 4000000 in
set_option maxRecDepth 100000 in
/-- join(xt, x, y) -/
theorem c_SF_join (G : GG) (l : Launch) (sz : Nat) (f : Wd) {N root pn nn mn : Nat} {ad : Nat → Nat} {E : Nat → va_E} {g : Wd} {pt nt mt : Nat → Int32} {dp rf by_ co tx lx : Int32} {fl : Nat → Option FV} (hN : 9 ≤ N) (hRg : Rg N ad E g f) (hS : SC G ad E g root pn pt nn nt mn mt dp rf by_ co tx lx fl) (xt x y : Int32) : Ci G l y_SF_join b_SF_join 6 (some .int) ({ frames := 3, cells := 1, slots := 5, locals := 57 }) sz f [.ref root, .int xt, .int x, .int y] (fun v f' => ((¬ (¬ xt < 0 ∧ ¬ 10 ≤ xt) ∨ noF fl x ∨ noF fl y) → v = -1 ∧ SCR G N ad E g root f' pn pt nn nt mn mt dp rf by_ co tx lx fl) ∧ ∀ (kt k j : Nat) (vv vw : FV), kt < 10 → xt = nI kt → k < 10 → x = nI k → j < 10 → y = nI j → fl k = some vv → fl j = some vw → ((¬ vv.2.1 + vw.2.1 ≤ 24 ∨ ¬ mxh vv.2.2.1 vw.2.2.1 < 8) → v = -3 ∧ SCR G N ad E g root f' pn pt nn nt mn mt dp rf by_ co tx lx fl) ∧ (¬ (¬ vv.2.1 + vw.2.1 ≤ 24 ∨ ¬ mxh vv.2.2.1 vw.2.2.1 < 8) → v = 0 ∧ SCR G N ad E g root f' pn pt nn nt mn mt dp rf by_ co tx lx (va_up fl kt (some ((2, vv.2.1 + vw.2.1, 1 + mxh vv.2.2.1 vw.2.2.1, anJ vv.2.2.2.1 vw.2.2.2.1, TI0) : FV))))) := by
  refine ct_of (by decide) (Nat.le_of_ble_eq_true rfl) ?_
  intro p e s m below meth c ls H locs hEn
  obtain ⟨hc, hr, hlk, hin, hE, hw, hsz, hl⟩ := hEn
  have hx := hc.1
  have hb := hc.2.1
  have hl : lv_has ls 6 [(0, .ref root), (1, .int xt), (2, .int x), (3, .int y)] := hl
  have hS0 := hS
  obtain ⟨hroot, hPB, hNB, hMB, ⟨so, di, le, hQ⟩, ⟨fr, en, pi, li, nu, rj, sh, mf, me, nf, ne, hRd⟩, fa, hF8, hFL⟩ := hS
  obtain ⟨A0, eA0⟩ : ∃ z, z = ad 0 := ⟨_, rfl⟩
  obtain ⟨A1, eA1⟩ : ∃ z, z = ad 1 := ⟨_, rfl⟩
  obtain ⟨A2, eA2⟩ : ∃ z, z = ad 2 := ⟨_, rfl⟩
  obtain ⟨A3, eA3⟩ : ∃ z, z = ad 3 := ⟨_, rfl⟩
  obtain ⟨A4, eA4⟩ : ∃ z, z = ad 4 := ⟨_, rfl⟩
  obtain ⟨A5, eA5⟩ : ∃ z, z = ad 5 := ⟨_, rfl⟩
  obtain ⟨A6, eA6⟩ : ∃ z, z = ad 6 := ⟨_, rfl⟩
  obtain ⟨A7, eA7⟩ : ∃ z, z = ad 7 := ⟨_, rfl⟩
  obtain ⟨A8, eA8⟩ : ∃ z, z = ad 8 := ⟨_, rfl⟩
  have hgf := hRg.2.2.1
  have h0 : f root = some (.inr (0, [.ref A0, .ref A2, .ref A7, .ref A8])) := by rw [eA0, eA2, eA7, eA8]; exact hgf _ _ hroot
  have h2 : f A2 = some (.inr (2, [.ref A3, .ref A5, .int dp, .int rf, .int by_, .int so, .int di, .int le, .int co, .int tx, .int lx])) := by rw [eA2, eA3, eA5]; exact hRg.get 2 (by omega) hQ
  have h8 : f A8 = some (.inl (G.2.1 2, 10, .inr (.inr (.inr (.inr fa))))) := by rw [eA8]; exact hRg.get 8 (by omega) hF8
  have hsP : sg G f A0 A1 90 pn pt := by rw [eA0, eA1]; exact hPB.sg hRg (by omega) (by omega)
  have hsN : sg G f A3 A4 40 nn nt := by rw [eA3, eA4]; exact hNB.sg hRg (by omega) (by omega)
  have hsM : sg G f A5 A6 12 mn mt := by rw [eA5, eA6]; exact hMB.sg hRg (by omega) (by omega)
  refine lv_aload_n hx hb d_SF_join_0 rfl (lv_at hl 0 rfl) ?_
  refine lv_iload_n hx hb d_SF_join_1 rfl (lv_at hl 2 rfl) ?_
  refine m_callq hw (m_runV (As := [.int x]) (rest := []) hc hE hw (c_SF_filterAt G l H.size f hN hRg hS0 x) h0 rfl cw_SF_82 se_SF_filterAt rfl hl.1 rfl (Nat.le_of_ble_eq_true rfl) d_SF_join_2 ⟨rfl, rfl, by decide, by decide⟩ ⟨by first | decide | (dsimp only; omega), by first | decide | (dsimp only; omega)⟩) (fun r3 g2 H locs p1 hw => ?_)
  obtain ⟨rfl, hfla⟩ := p1
  rcases hfla with ⟨hnoa, hva⟩ | ⟨ka, hka, hxka, ⟨hva, hnna⟩ | ⟨Fa, vva, hva, hsma, hrha⟩⟩
  · subst hva
    have hnfa : noF fl x := noF_out hnoa
    refine lv_astoreN (lv' := [(4, .null), (0, .ref root), (1, .int xt), (2, .int x), (3, .int y)]) hx hb d_SF_join_5 hl (by decide) rfl (fun ls hl => ?_)
    refine lv_aload_n hx hb d_SF_join_7 rfl (lv_at hl 1 rfl) ?_
    refine lv_iload_n hx hb d_SF_join_8 rfl (lv_at hl 4 rfl) ?_
    refine m_callq hw (m_runV (As := [.int y]) (rest := []) hc hE hw (c_SF_filterAt G l H.size f hN hRg hS0 y) h0 rfl cw_SF_82 se_SF_filterAt rfl hl.1 rfl (Nat.le_of_ble_eq_true rfl) d_SF_join_9 ⟨rfl, rfl, by decide, by decide⟩ ⟨by first | decide | (dsimp only; omega), by first | decide | (dsimp only; omega)⟩) (fun r6 g5 H locs p4 hw => ?_)
    obtain ⟨rfl, hflb⟩ := p4
    rcases hflb with ⟨hnob, hvb⟩ | ⟨kb, hkb, hxkb, ⟨hvb, hnnb⟩ | ⟨Fb, vvb, hvb, hsmb, hrhb⟩⟩
    · subst hvb
      have hnfb : noF fl y := noF_out hnob
      refine lv_astoreN (lv' := [(5, .null), (4, .null), (0, .ref root), (1, .int xt), (2, .int x), (3, .int y)]) hx hb d_SF_join_12 hl (by decide) rfl (fun ls hl => ?_)
      refine lv_iload_n hx hb d_SF_join_14 rfl (lv_at hl 3 rfl) ?_
      refine m_calli hw (m_runS (As := [.int xt]) (rest := []) hc hE hw (c_SF_isPlace G l H.size f xt) cw_SF_67 ss_SF_isPlace rfl hl.1 rfl (Nat.le_of_ble_eq_true rfl) d_SF_join_15 ⟨rfl, rfl, by decide, by decide⟩ ⟨by first | decide | (dsimp only; omega), by first | decide | (dsimp only; omega)⟩) (fun r9 g8 H locs p7 hw => ?_)
      obtain ⟨rfl, p7⟩ := p7
      refine lv_if_eq (tgt := 31) hx hb d_SF_join_18 (by decide) (fun c10 => ?_) (fun c10 => ?_)
      · refine lv_iconst (v := (-1)) hx hb d_SF_join_31 (by decide) ?_
        exact m_iret hc hr hlk hw ⟨by first | decide | (dsimp only; omega), by first | decide | (dsimp only; omega)⟩ d_SF_join_32 ⟨fun _ => ⟨rfl, ⟨E, g, hRg, gle.rf, fun _ _ => rfl, hS0⟩⟩, fun kt k j vv vw h1 h2 h3 h4 h5 h6 h7 h8 => absurd (by rw [h2]; exact plc h1) (bI_0.mp (p7.symm.trans c10))⟩
      · have hpl := bI_n.mp (fun z => c10 (p7.trans z))
        obtain ⟨kt, hkt, hxt⟩ : ∃ k : Nat, k < 10 ∧ xt = nI k := vp_in_of (vin (n := 10) hpl.1 hpl.2 (Nat.le_refl 10) (by decide)) (by decide)
        refine lv_aloadN hx hb d_SF_join_21 (lv_at hl 1 rfl) ?_
        refine lv_ifnullN (tgt := 31) hx hb d_SF_join_23 (by decide) ?_
        refine lv_iconst (v := (-1)) hx hb d_SF_join_31 (by decide) ?_
        exact m_iret hc hr hlk hw ⟨by first | decide | (dsimp only; omega), by first | decide | (dsimp only; omega)⟩ d_SF_join_32 ⟨fun _ => ⟨rfl, ⟨E, g, hRg, gle.rf, fun _ _ => rfl, hS0⟩⟩, fun kt k j vv vw h1 h2 h3 h4 h5 h6 h7 h8 => absurd ((hnfa k h3 h4).symm.trans h7) (by intro z; cases z)⟩
    · subst hvb
      have hnfb : noF fl y := noF_in hkb hxkb hnnb
      refine lv_astoreN (lv' := [(5, .null), (4, .null), (0, .ref root), (1, .int xt), (2, .int x), (3, .int y)]) hx hb d_SF_join_12 hl (by decide) rfl (fun ls hl => ?_)
      refine lv_iload_n hx hb d_SF_join_14 rfl (lv_at hl 3 rfl) ?_
      refine m_calli hw (m_runS (As := [.int xt]) (rest := []) hc hE hw (c_SF_isPlace G l H.size f xt) cw_SF_67 ss_SF_isPlace rfl hl.1 rfl (Nat.le_of_ble_eq_true rfl) d_SF_join_15 ⟨rfl, rfl, by decide, by decide⟩ ⟨by first | decide | (dsimp only; omega), by first | decide | (dsimp only; omega)⟩) (fun r13 g12 H locs p11 hw => ?_)
      obtain ⟨rfl, p11⟩ := p11
      refine lv_if_eq (tgt := 31) hx hb d_SF_join_18 (by decide) (fun c14 => ?_) (fun c14 => ?_)
      · refine lv_iconst (v := (-1)) hx hb d_SF_join_31 (by decide) ?_
        exact m_iret hc hr hlk hw ⟨by first | decide | (dsimp only; omega), by first | decide | (dsimp only; omega)⟩ d_SF_join_32 ⟨fun _ => ⟨rfl, ⟨E, g, hRg, gle.rf, fun _ _ => rfl, hS0⟩⟩, fun kt k j vv vw h1 h2 h3 h4 h5 h6 h7 h8 => absurd (by rw [h2]; exact plc h1) (bI_0.mp (p11.symm.trans c14))⟩
      · have hpl := bI_n.mp (fun z => c14 (p11.trans z))
        obtain ⟨kt, hkt, hxt⟩ : ∃ k : Nat, k < 10 ∧ xt = nI k := vp_in_of (vin (n := 10) hpl.1 hpl.2 (Nat.le_refl 10) (by decide)) (by decide)
        refine lv_aloadN hx hb d_SF_join_21 (lv_at hl 1 rfl) ?_
        refine lv_ifnullN (tgt := 31) hx hb d_SF_join_23 (by decide) ?_
        refine lv_iconst (v := (-1)) hx hb d_SF_join_31 (by decide) ?_
        exact m_iret hc hr hlk hw ⟨by first | decide | (dsimp only; omega), by first | decide | (dsimp only; omega)⟩ d_SF_join_32 ⟨fun _ => ⟨rfl, ⟨E, g, hRg, gle.rf, fun _ _ => rfl, hS0⟩⟩, fun kt k j vv vw h1 h2 h3 h4 h5 h6 h7 h8 => absurd ((hnfa k h3 h4).symm.trans h7) (by intro z; cases z)⟩
    · subst hvb
      have hrhbb := hrhb
      obtain ⟨l0b, h0b, hl0b, hh0b, hl1b, hl2b, hh1b, hh2b, hrfb⟩ := hrhb
      obtain ⟨cFb, rFb, fcFb, hcFb⟩ := RF.head hrfb
      obtain ⟨kFb, ekFb⟩ : ∃ z, z = vvb.1 := ⟨_, rfl⟩
      obtain ⟨lFb, elFb⟩ : ∃ z, z = vvb.2.1 := ⟨_, rfl⟩
      obtain ⟨gFb, egFb⟩ : ∃ z, z = vvb.2.2.1 := ⟨_, rfl⟩
      have hcellb : f Fb = some (.inr (cFb, .int kFb :: .int lFb :: .int gFb :: rFb)) := by rw [ekFb, elFb, egFb]; exact hgf _ _ hcFb
      refine lv_astore (lv' := [(5, .ref Fb), (4, .null), (0, .ref root), (1, .int xt), (2, .int x), (3, .int y)]) hx hb d_SF_join_12 hl (by decide) rfl (fun ls hl => ?_)
      refine lv_iload_n hx hb d_SF_join_14 rfl (lv_at hl 3 rfl) ?_
      refine m_calli hw (m_runS (As := [.int xt]) (rest := []) hc hE hw (c_SF_isPlace G l H.size f xt) cw_SF_67 ss_SF_isPlace rfl hl.1 rfl (Nat.le_of_ble_eq_true rfl) d_SF_join_15 ⟨rfl, rfl, by decide, by decide⟩ ⟨by first | decide | (dsimp only; omega), by first | decide | (dsimp only; omega)⟩) (fun r17 g16 H locs p15 hw => ?_)
      obtain ⟨rfl, p15⟩ := p15
      refine lv_if_eq (tgt := 31) hx hb d_SF_join_18 (by decide) (fun c18 => ?_) (fun c18 => ?_)
      · refine lv_iconst (v := (-1)) hx hb d_SF_join_31 (by decide) ?_
        exact m_iret hc hr hlk hw ⟨by first | decide | (dsimp only; omega), by first | decide | (dsimp only; omega)⟩ d_SF_join_32 ⟨fun _ => ⟨rfl, ⟨E, g, hRg, gle.rf, fun _ _ => rfl, hS0⟩⟩, fun kt k j vv vw h1 h2 h3 h4 h5 h6 h7 h8 => absurd (by rw [h2]; exact plc h1) (bI_0.mp (p15.symm.trans c18))⟩
      · have hpl := bI_n.mp (fun z => c18 (p15.trans z))
        obtain ⟨kt, hkt, hxt⟩ : ∃ k : Nat, k < 10 ∧ xt = nI k := vp_in_of (vin (n := 10) hpl.1 hpl.2 (Nat.le_refl 10) (by decide)) (by decide)
        refine lv_aloadN hx hb d_SF_join_21 (lv_at hl 1 rfl) ?_
        refine lv_ifnullN (tgt := 31) hx hb d_SF_join_23 (by decide) ?_
        refine lv_iconst (v := (-1)) hx hb d_SF_join_31 (by decide) ?_
        exact m_iret hc hr hlk hw ⟨by first | decide | (dsimp only; omega), by first | decide | (dsimp only; omega)⟩ d_SF_join_32 ⟨fun _ => ⟨rfl, ⟨E, g, hRg, gle.rf, fun _ _ => rfl, hS0⟩⟩, fun kt k j vv vw h1 h2 h3 h4 h5 h6 h7 h8 => absurd ((hnfa k h3 h4).symm.trans h7) (by intro z; cases z)⟩
  · subst hva
    have hnfa : noF fl x := noF_in hka hxka hnna
    refine lv_astoreN (lv' := [(4, .null), (0, .ref root), (1, .int xt), (2, .int x), (3, .int y)]) hx hb d_SF_join_5 hl (by decide) rfl (fun ls hl => ?_)
    refine lv_aload_n hx hb d_SF_join_7 rfl (lv_at hl 1 rfl) ?_
    refine lv_iload_n hx hb d_SF_join_8 rfl (lv_at hl 4 rfl) ?_
    refine m_callq hw (m_runV (As := [.int y]) (rest := []) hc hE hw (c_SF_filterAt G l H.size f hN hRg hS0 y) h0 rfl cw_SF_82 se_SF_filterAt rfl hl.1 rfl (Nat.le_of_ble_eq_true rfl) d_SF_join_9 ⟨rfl, rfl, by decide, by decide⟩ ⟨by first | decide | (dsimp only; omega), by first | decide | (dsimp only; omega)⟩) (fun r21 g20 H locs p19 hw => ?_)
    obtain ⟨rfl, hflb⟩ := p19
    rcases hflb with ⟨hnob, hvb⟩ | ⟨kb, hkb, hxkb, ⟨hvb, hnnb⟩ | ⟨Fb, vvb, hvb, hsmb, hrhb⟩⟩
    · subst hvb
      have hnfb : noF fl y := noF_out hnob
      refine lv_astoreN (lv' := [(5, .null), (4, .null), (0, .ref root), (1, .int xt), (2, .int x), (3, .int y)]) hx hb d_SF_join_12 hl (by decide) rfl (fun ls hl => ?_)
      refine lv_iload_n hx hb d_SF_join_14 rfl (lv_at hl 3 rfl) ?_
      refine m_calli hw (m_runS (As := [.int xt]) (rest := []) hc hE hw (c_SF_isPlace G l H.size f xt) cw_SF_67 ss_SF_isPlace rfl hl.1 rfl (Nat.le_of_ble_eq_true rfl) d_SF_join_15 ⟨rfl, rfl, by decide, by decide⟩ ⟨by first | decide | (dsimp only; omega), by first | decide | (dsimp only; omega)⟩) (fun r24 g23 H locs p22 hw => ?_)
      obtain ⟨rfl, p22⟩ := p22
      refine lv_if_eq (tgt := 31) hx hb d_SF_join_18 (by decide) (fun c25 => ?_) (fun c25 => ?_)
      · refine lv_iconst (v := (-1)) hx hb d_SF_join_31 (by decide) ?_
        exact m_iret hc hr hlk hw ⟨by first | decide | (dsimp only; omega), by first | decide | (dsimp only; omega)⟩ d_SF_join_32 ⟨fun _ => ⟨rfl, ⟨E, g, hRg, gle.rf, fun _ _ => rfl, hS0⟩⟩, fun kt k j vv vw h1 h2 h3 h4 h5 h6 h7 h8 => absurd (by rw [h2]; exact plc h1) (bI_0.mp (p22.symm.trans c25))⟩
      · have hpl := bI_n.mp (fun z => c25 (p22.trans z))
        obtain ⟨kt, hkt, hxt⟩ : ∃ k : Nat, k < 10 ∧ xt = nI k := vp_in_of (vin (n := 10) hpl.1 hpl.2 (Nat.le_refl 10) (by decide)) (by decide)
        refine lv_aloadN hx hb d_SF_join_21 (lv_at hl 1 rfl) ?_
        refine lv_ifnullN (tgt := 31) hx hb d_SF_join_23 (by decide) ?_
        refine lv_iconst (v := (-1)) hx hb d_SF_join_31 (by decide) ?_
        exact m_iret hc hr hlk hw ⟨by first | decide | (dsimp only; omega), by first | decide | (dsimp only; omega)⟩ d_SF_join_32 ⟨fun _ => ⟨rfl, ⟨E, g, hRg, gle.rf, fun _ _ => rfl, hS0⟩⟩, fun kt k j vv vw h1 h2 h3 h4 h5 h6 h7 h8 => absurd ((hnfa k h3 h4).symm.trans h7) (by intro z; cases z)⟩
    · subst hvb
      have hnfb : noF fl y := noF_in hkb hxkb hnnb
      refine lv_astoreN (lv' := [(5, .null), (4, .null), (0, .ref root), (1, .int xt), (2, .int x), (3, .int y)]) hx hb d_SF_join_12 hl (by decide) rfl (fun ls hl => ?_)
      refine lv_iload_n hx hb d_SF_join_14 rfl (lv_at hl 3 rfl) ?_
      refine m_calli hw (m_runS (As := [.int xt]) (rest := []) hc hE hw (c_SF_isPlace G l H.size f xt) cw_SF_67 ss_SF_isPlace rfl hl.1 rfl (Nat.le_of_ble_eq_true rfl) d_SF_join_15 ⟨rfl, rfl, by decide, by decide⟩ ⟨by first | decide | (dsimp only; omega), by first | decide | (dsimp only; omega)⟩) (fun r28 g27 H locs p26 hw => ?_)
      obtain ⟨rfl, p26⟩ := p26
      refine lv_if_eq (tgt := 31) hx hb d_SF_join_18 (by decide) (fun c29 => ?_) (fun c29 => ?_)
      · refine lv_iconst (v := (-1)) hx hb d_SF_join_31 (by decide) ?_
        exact m_iret hc hr hlk hw ⟨by first | decide | (dsimp only; omega), by first | decide | (dsimp only; omega)⟩ d_SF_join_32 ⟨fun _ => ⟨rfl, ⟨E, g, hRg, gle.rf, fun _ _ => rfl, hS0⟩⟩, fun kt k j vv vw h1 h2 h3 h4 h5 h6 h7 h8 => absurd (by rw [h2]; exact plc h1) (bI_0.mp (p26.symm.trans c29))⟩
      · have hpl := bI_n.mp (fun z => c29 (p26.trans z))
        obtain ⟨kt, hkt, hxt⟩ : ∃ k : Nat, k < 10 ∧ xt = nI k := vp_in_of (vin (n := 10) hpl.1 hpl.2 (Nat.le_refl 10) (by decide)) (by decide)
        refine lv_aloadN hx hb d_SF_join_21 (lv_at hl 1 rfl) ?_
        refine lv_ifnullN (tgt := 31) hx hb d_SF_join_23 (by decide) ?_
        refine lv_iconst (v := (-1)) hx hb d_SF_join_31 (by decide) ?_
        exact m_iret hc hr hlk hw ⟨by first | decide | (dsimp only; omega), by first | decide | (dsimp only; omega)⟩ d_SF_join_32 ⟨fun _ => ⟨rfl, ⟨E, g, hRg, gle.rf, fun _ _ => rfl, hS0⟩⟩, fun kt k j vv vw h1 h2 h3 h4 h5 h6 h7 h8 => absurd ((hnfa k h3 h4).symm.trans h7) (by intro z; cases z)⟩
    · subst hvb
      have hrhbb := hrhb
      obtain ⟨l0b, h0b, hl0b, hh0b, hl1b, hl2b, hh1b, hh2b, hrfb⟩ := hrhb
      obtain ⟨cFb, rFb, fcFb, hcFb⟩ := RF.head hrfb
      obtain ⟨kFb, ekFb⟩ : ∃ z, z = vvb.1 := ⟨_, rfl⟩
      obtain ⟨lFb, elFb⟩ : ∃ z, z = vvb.2.1 := ⟨_, rfl⟩
      obtain ⟨gFb, egFb⟩ : ∃ z, z = vvb.2.2.1 := ⟨_, rfl⟩
      have hcellb : f Fb = some (.inr (cFb, .int kFb :: .int lFb :: .int gFb :: rFb)) := by rw [ekFb, elFb, egFb]; exact hgf _ _ hcFb
      refine lv_astore (lv' := [(5, .ref Fb), (4, .null), (0, .ref root), (1, .int xt), (2, .int x), (3, .int y)]) hx hb d_SF_join_12 hl (by decide) rfl (fun ls hl => ?_)
      refine lv_iload_n hx hb d_SF_join_14 rfl (lv_at hl 3 rfl) ?_
      refine m_calli hw (m_runS (As := [.int xt]) (rest := []) hc hE hw (c_SF_isPlace G l H.size f xt) cw_SF_67 ss_SF_isPlace rfl hl.1 rfl (Nat.le_of_ble_eq_true rfl) d_SF_join_15 ⟨rfl, rfl, by decide, by decide⟩ ⟨by first | decide | (dsimp only; omega), by first | decide | (dsimp only; omega)⟩) (fun r32 g31 H locs p30 hw => ?_)
      obtain ⟨rfl, p30⟩ := p30
      refine lv_if_eq (tgt := 31) hx hb d_SF_join_18 (by decide) (fun c33 => ?_) (fun c33 => ?_)
      · refine lv_iconst (v := (-1)) hx hb d_SF_join_31 (by decide) ?_
        exact m_iret hc hr hlk hw ⟨by first | decide | (dsimp only; omega), by first | decide | (dsimp only; omega)⟩ d_SF_join_32 ⟨fun _ => ⟨rfl, ⟨E, g, hRg, gle.rf, fun _ _ => rfl, hS0⟩⟩, fun kt k j vv vw h1 h2 h3 h4 h5 h6 h7 h8 => absurd (by rw [h2]; exact plc h1) (bI_0.mp (p30.symm.trans c33))⟩
      · have hpl := bI_n.mp (fun z => c33 (p30.trans z))
        obtain ⟨kt, hkt, hxt⟩ : ∃ k : Nat, k < 10 ∧ xt = nI k := vp_in_of (vin (n := 10) hpl.1 hpl.2 (Nat.le_refl 10) (by decide)) (by decide)
        refine lv_aloadN hx hb d_SF_join_21 (lv_at hl 1 rfl) ?_
        refine lv_ifnullN (tgt := 31) hx hb d_SF_join_23 (by decide) ?_
        refine lv_iconst (v := (-1)) hx hb d_SF_join_31 (by decide) ?_
        exact m_iret hc hr hlk hw ⟨by first | decide | (dsimp only; omega), by first | decide | (dsimp only; omega)⟩ d_SF_join_32 ⟨fun _ => ⟨rfl, ⟨E, g, hRg, gle.rf, fun _ _ => rfl, hS0⟩⟩, fun kt k j vv vw h1 h2 h3 h4 h5 h6 h7 h8 => absurd ((hnfa k h3 h4).symm.trans h7) (by intro z; cases z)⟩
  · subst hva
    have hrhab := hrha
    obtain ⟨l0a, h0a, hl0a, hh0a, hl1a, hl2a, hh1a, hh2a, hrfa⟩ := hrha
    obtain ⟨cFa, rFa, fcFa, hcFa⟩ := RF.head hrfa
    obtain ⟨kFa, ekFa⟩ : ∃ z, z = vva.1 := ⟨_, rfl⟩
    obtain ⟨lFa, elFa⟩ : ∃ z, z = vva.2.1 := ⟨_, rfl⟩
    obtain ⟨gFa, egFa⟩ : ∃ z, z = vva.2.2.1 := ⟨_, rfl⟩
    have hcella : f Fa = some (.inr (cFa, .int kFa :: .int lFa :: .int gFa :: rFa)) := by rw [ekFa, elFa, egFa]; exact hgf _ _ hcFa
    refine lv_astore (lv' := [(4, .ref Fa), (0, .ref root), (1, .int xt), (2, .int x), (3, .int y)]) hx hb d_SF_join_5 hl (by decide) rfl (fun ls hl => ?_)
    refine lv_aload_n hx hb d_SF_join_7 rfl (lv_at hl 1 rfl) ?_
    refine lv_iload_n hx hb d_SF_join_8 rfl (lv_at hl 4 rfl) ?_
    refine m_callq hw (m_runV (As := [.int y]) (rest := []) hc hE hw (c_SF_filterAt G l H.size f hN hRg hS0 y) h0 rfl cw_SF_82 se_SF_filterAt rfl hl.1 rfl (Nat.le_of_ble_eq_true rfl) d_SF_join_9 ⟨rfl, rfl, by decide, by decide⟩ ⟨by first | decide | (dsimp only; omega), by first | decide | (dsimp only; omega)⟩) (fun r36 g35 H locs p34 hw => ?_)
    obtain ⟨rfl, hflb⟩ := p34
    rcases hflb with ⟨hnob, hvb⟩ | ⟨kb, hkb, hxkb, ⟨hvb, hnnb⟩ | ⟨Fb, vvb, hvb, hsmb, hrhb⟩⟩
    · subst hvb
      have hnfb : noF fl y := noF_out hnob
      refine lv_astoreN (lv' := [(5, .null), (4, .ref Fa), (0, .ref root), (1, .int xt), (2, .int x), (3, .int y)]) hx hb d_SF_join_12 hl (by decide) rfl (fun ls hl => ?_)
      refine lv_iload_n hx hb d_SF_join_14 rfl (lv_at hl 3 rfl) ?_
      refine m_calli hw (m_runS (As := [.int xt]) (rest := []) hc hE hw (c_SF_isPlace G l H.size f xt) cw_SF_67 ss_SF_isPlace rfl hl.1 rfl (Nat.le_of_ble_eq_true rfl) d_SF_join_15 ⟨rfl, rfl, by decide, by decide⟩ ⟨by first | decide | (dsimp only; omega), by first | decide | (dsimp only; omega)⟩) (fun r39 g38 H locs p37 hw => ?_)
      obtain ⟨rfl, p37⟩ := p37
      refine lv_if_eq (tgt := 31) hx hb d_SF_join_18 (by decide) (fun c40 => ?_) (fun c40 => ?_)
      · refine lv_iconst (v := (-1)) hx hb d_SF_join_31 (by decide) ?_
        exact m_iret hc hr hlk hw ⟨by first | decide | (dsimp only; omega), by first | decide | (dsimp only; omega)⟩ d_SF_join_32 ⟨fun _ => ⟨rfl, ⟨E, g, hRg, gle.rf, fun _ _ => rfl, hS0⟩⟩, fun kt k j vv vw h1 h2 h3 h4 h5 h6 h7 h8 => absurd (by rw [h2]; exact plc h1) (bI_0.mp (p37.symm.trans c40))⟩
      · have hpl := bI_n.mp (fun z => c40 (p37.trans z))
        obtain ⟨kt, hkt, hxt⟩ : ∃ k : Nat, k < 10 ∧ xt = nI k := vp_in_of (vin (n := 10) hpl.1 hpl.2 (Nat.le_refl 10) (by decide)) (by decide)
        refine lv_aload hx hb d_SF_join_21 (lv_at hl 1 rfl) ?_
        refine lv_ifnull hx hb d_SF_join_23 ?_
        refine lv_aloadN hx hb d_SF_join_26 (lv_at hl 0 rfl) ?_
        refine lv_ifnonnullN hx hb d_SF_join_28 ?_
        refine lv_iconst (v := (-1)) hx hb d_SF_join_31 (by decide) ?_
        exact m_iret hc hr hlk hw ⟨by first | decide | (dsimp only; omega), by first | decide | (dsimp only; omega)⟩ d_SF_join_32 ⟨fun _ => ⟨rfl, ⟨E, g, hRg, gle.rf, fun _ _ => rfl, hS0⟩⟩, fun kt k j vv vw h1 h2 h3 h4 h5 h6 h7 h8 => absurd ((hnfb j h5 h6).symm.trans h8) (by intro z; cases z)⟩
    · subst hvb
      have hnfb : noF fl y := noF_in hkb hxkb hnnb
      refine lv_astoreN (lv' := [(5, .null), (4, .ref Fa), (0, .ref root), (1, .int xt), (2, .int x), (3, .int y)]) hx hb d_SF_join_12 hl (by decide) rfl (fun ls hl => ?_)
      refine lv_iload_n hx hb d_SF_join_14 rfl (lv_at hl 3 rfl) ?_
      refine m_calli hw (m_runS (As := [.int xt]) (rest := []) hc hE hw (c_SF_isPlace G l H.size f xt) cw_SF_67 ss_SF_isPlace rfl hl.1 rfl (Nat.le_of_ble_eq_true rfl) d_SF_join_15 ⟨rfl, rfl, by decide, by decide⟩ ⟨by first | decide | (dsimp only; omega), by first | decide | (dsimp only; omega)⟩) (fun r43 g42 H locs p41 hw => ?_)
      obtain ⟨rfl, p41⟩ := p41
      refine lv_if_eq (tgt := 31) hx hb d_SF_join_18 (by decide) (fun c44 => ?_) (fun c44 => ?_)
      · refine lv_iconst (v := (-1)) hx hb d_SF_join_31 (by decide) ?_
        exact m_iret hc hr hlk hw ⟨by first | decide | (dsimp only; omega), by first | decide | (dsimp only; omega)⟩ d_SF_join_32 ⟨fun _ => ⟨rfl, ⟨E, g, hRg, gle.rf, fun _ _ => rfl, hS0⟩⟩, fun kt k j vv vw h1 h2 h3 h4 h5 h6 h7 h8 => absurd (by rw [h2]; exact plc h1) (bI_0.mp (p41.symm.trans c44))⟩
      · have hpl := bI_n.mp (fun z => c44 (p41.trans z))
        obtain ⟨kt, hkt, hxt⟩ : ∃ k : Nat, k < 10 ∧ xt = nI k := vp_in_of (vin (n := 10) hpl.1 hpl.2 (Nat.le_refl 10) (by decide)) (by decide)
        refine lv_aload hx hb d_SF_join_21 (lv_at hl 1 rfl) ?_
        refine lv_ifnull hx hb d_SF_join_23 ?_
        refine lv_aloadN hx hb d_SF_join_26 (lv_at hl 0 rfl) ?_
        refine lv_ifnonnullN hx hb d_SF_join_28 ?_
        refine lv_iconst (v := (-1)) hx hb d_SF_join_31 (by decide) ?_
        exact m_iret hc hr hlk hw ⟨by first | decide | (dsimp only; omega), by first | decide | (dsimp only; omega)⟩ d_SF_join_32 ⟨fun _ => ⟨rfl, ⟨E, g, hRg, gle.rf, fun _ _ => rfl, hS0⟩⟩, fun kt k j vv vw h1 h2 h3 h4 h5 h6 h7 h8 => absurd ((hnfb j h5 h6).symm.trans h8) (by intro z; cases z)⟩
    · subst hvb
      have hrhbb := hrhb
      obtain ⟨l0b, h0b, hl0b, hh0b, hl1b, hl2b, hh1b, hh2b, hrfb⟩ := hrhb
      obtain ⟨cFb, rFb, fcFb, hcFb⟩ := RF.head hrfb
      obtain ⟨kFb, ekFb⟩ : ∃ z, z = vvb.1 := ⟨_, rfl⟩
      obtain ⟨lFb, elFb⟩ : ∃ z, z = vvb.2.1 := ⟨_, rfl⟩
      obtain ⟨gFb, egFb⟩ : ∃ z, z = vvb.2.2.1 := ⟨_, rfl⟩
      have hcellb : f Fb = some (.inr (cFb, .int kFb :: .int lFb :: .int gFb :: rFb)) := by rw [ekFb, elFb, egFb]; exact hgf _ _ hcFb
      refine lv_astore (lv' := [(5, .ref Fb), (4, .ref Fa), (0, .ref root), (1, .int xt), (2, .int x), (3, .int y)]) hx hb d_SF_join_12 hl (by decide) rfl (fun ls hl => ?_)
      refine lv_iload_n hx hb d_SF_join_14 rfl (lv_at hl 3 rfl) ?_
      refine m_calli hw (m_runS (As := [.int xt]) (rest := []) hc hE hw (c_SF_isPlace G l H.size f xt) cw_SF_67 ss_SF_isPlace rfl hl.1 rfl (Nat.le_of_ble_eq_true rfl) d_SF_join_15 ⟨rfl, rfl, by decide, by decide⟩ ⟨by first | decide | (dsimp only; omega), by first | decide | (dsimp only; omega)⟩) (fun r47 g46 H locs p45 hw => ?_)
      obtain ⟨rfl, p45⟩ := p45
      refine lv_if_eq (tgt := 31) hx hb d_SF_join_18 (by decide) (fun c48 => ?_) (fun c48 => ?_)
      · refine lv_iconst (v := (-1)) hx hb d_SF_join_31 (by decide) ?_
        exact m_iret hc hr hlk hw ⟨by first | decide | (dsimp only; omega), by first | decide | (dsimp only; omega)⟩ d_SF_join_32 ⟨fun _ => ⟨rfl, ⟨E, g, hRg, gle.rf, fun _ _ => rfl, hS0⟩⟩, fun kt k j vv vw h1 h2 h3 h4 h5 h6 h7 h8 => absurd (by rw [h2]; exact plc h1) (bI_0.mp (p45.symm.trans c48))⟩
      · have hpl := bI_n.mp (fun z => c48 (p45.trans z))
        obtain ⟨kt, hkt, hxt⟩ : ∃ k : Nat, k < 10 ∧ xt = nI k := vp_in_of (vin (n := 10) hpl.1 hpl.2 (Nat.le_refl 10) (by decide)) (by decide)
        refine lv_aload hx hb d_SF_join_21 (lv_at hl 1 rfl) ?_
        refine lv_ifnull hx hb d_SF_join_23 ?_
        refine lv_aload hx hb d_SF_join_26 (lv_at hl 0 rfl) ?_
        refine lv_ifnonnull (tgt := 33) hx hb d_SF_join_28 (by decide) ?_
        refine lv_aload hx hb d_SF_join_33 (lv_at hl 1 rfl) ?_
        refine m_getF hc hE hw hcella fcFa l5_SF_86 rfl d_SF_join_35 ?_
        refine lv_aload hx hb d_SF_join_38 (lv_at hl 0 rfl) ?_
        refine m_getF hc hE hw hcellb fcFb l5_SF_86 rfl d_SF_join_40 ?_
        refine lv_iadd hx hb d_SF_join_43 ?_
        refine lv_bipush (v := 24) hx hb d_SF_join_44 (by decide) ?_
        refine lv_icmp_le (tgt := 52) hx hb d_SF_join_46 (by decide) (fun c49 => ?_) (fun c49 => ?_)
        · refine lv_aload hx hb d_SF_join_52 (lv_at hl 1 rfl) ?_
          refine m_getF hc hE hw hcella fcFa l5_SF_90 rfl d_SF_join_54 ?_
          refine lv_aload hx hb d_SF_join_57 (lv_at hl 0 rfl) ?_
          refine m_getF hc hE hw hcellb fcFb l5_SF_90 rfl d_SF_join_59 ?_
          refine m_mmax hc mm_SF_93 mm_w hl.1 (Nat.le_of_ble_eq_true rfl) (Nat.le_of_ble_eq_true rfl) ⟨by first | decide | (dsimp only; omega), by first | decide | (dsimp only; omega)⟩ d_SF_join_62 ?_
          refine m_top (y := (mxh gFa gFb)) rfl ?_
          refine lv_bipush (v := 8) hx hb d_SF_join_65 (by decide) ?_
          refine lv_icmp_lt (tgt := 73) hx hb d_SF_join_67 (by decide) (fun c50 => ?_) (fun c50 => ?_)
          · refine lv_aload_n hx hb d_SF_join_73 rfl (lv_at hl 2 rfl) ?_
            refine m_get hc hE hw h0 kc_SF l_SF_36_SF rfl d_SF_join_74 ?_
            refine lv_iload_n hx hb d_SF_join_77 rfl (lv_at hl 3 rfl) ?_
            refine m_new hc hE hw (fs := [.int 0, .int 0, .int 0, .null, .null]) kc_JoinedFilter nw_SF_99 bl_JoinedFilter (by first | decide | (dsimp only; omega)) (by first | decide | (dsimp only; omega)) d_SF_join_78 (fun q51 H u52 hw => ?_)
            obtain ⟨f53, ef53⟩ : ∃ z : Wd, z = va_up f q51 (some (.inr (6, [.int 0, .int 0, .int 0, .null, .null]))) := ⟨_, rfl⟩
            replace hw : ms G.1 (Af f sz) f53 s H locs := by rw [ef53]; exact hw
            have n_root_q51 : root ≠ q51 := wnf h0 u52
            have h54 : f53 root = some (.inr (0, [.ref A0, .ref A2, .ref A7, .ref A8])) := by rw [ef53, va_up_ne _ _ n_root_q51]; exact h0
            have n_A8_q51 : A8 ≠ q51 := wnf h8 u52
            have h55 : f53 A8 = some (.inl (G.2.1 2, 10, .inr (.inr (.inr (.inr fa))))) := by rw [ef53, va_up_ne _ _ n_A8_q51]; exact h8
            have n_Fa_q51 : Fa ≠ q51 := wnf hcella u52
            have h56 : f53 Fa = some (.inr (cFa, .int kFa :: .int lFa :: .int gFa :: rFa)) := by rw [ef53, va_up_ne _ _ n_Fa_q51]; exact hcella
            have n_Fb_q51 : Fb ≠ q51 := wnf hcellb u52
            have h57 : f53 Fb = some (.inr (cFb, .int kFb :: .int lFb :: .int gFb :: rFb)) := by rw [ef53, va_up_ne _ _ n_Fb_q51]; exact hcellb
            have h58 : f53 q51 = some (.inr (6, [.int 0, .int 0, .int 0, .null, .null])) := by rw [ef53, va_up_self]
            refine lv_dup hx hb d_SF_join_81 rfl ?_
            refine lv_aload hx hb d_SF_join_82 (lv_at hl 1 rfl) ?_
            refine lv_aload hx hb d_SF_join_84 (lv_at hl 0 rfl) ?_
            refine m_callv hw (m_runI (As := [.ref Fa, .ref Fb]) (rest := [.ref q51, .int xt, .ref A8]) hc hE hw (c_JoinedFilter_init G l H.size f53 h58 h56 fcFa h57 fcFb) cw_SF_101 ⟨rfl, si_JoinedFilter_init⟩ rfl hl.1 rfl (Nat.le_of_ble_eq_true rfl) d_SF_join_86 ⟨rfl, rfl, by decide, by decide⟩ ⟨by first | decide | (dsimp only; omega), by first | decide | (dsimp only; omega)⟩) (fun g60 H locs p59 hw => ?_)
            have h61 : g60 root = some (.inr (0, [.ref A0, .ref A2, .ref A7, .ref A8])) := by rw [p59, va_up_ne _ _ n_root_q51]; exact h54
            have h62 : g60 A8 = some (.inl (G.2.1 2, 10, .inr (.inr (.inr (.inr fa))))) := by rw [p59, va_up_ne _ _ n_A8_q51]; exact h55
            have h63 : g60 Fa = some (.inr (cFa, .int kFa :: .int lFa :: .int gFa :: rFa)) := by rw [p59, va_up_ne _ _ n_Fa_q51]; exact h56
            have h64 : g60 Fb = some (.inr (cFb, .int kFb :: .int lFb :: .int gFb :: rFb)) := by rw [p59, va_up_ne _ _ n_Fb_q51]; exact h57
            have h65 : g60 q51 = some (.inr (6, [.int 2, .int (lFa + lFb), .int (1 + (if gFa < gFb then gFb else gFa)), .ref Fa, .ref Fb])) := by rw [p59, va_up_self]
            refine m_aast hc hE hw 2 h62 rfl h65 rfl (Or.inr ca_JoinedFilter_Filter) (by rw [hxt]; exact vp_in_nI hkt (by decide)) d_SF_join_89 (fun H locs hw => ?_)
            obtain ⟨f66, ef66⟩ : ∃ z : Wd, z = va_up g60 A8 (some (.inl (G.2.1 2, 10, .inr (.inr (.inr (.inr (va_up fa xt.toNatClampNeg (some q51)))))))) := ⟨_, rfl⟩
            replace hw : ms G.1 (Af f sz) f66 s H locs := by rw [ef66]; exact hw
            have h67 : f66 root = some (.inr (0, [.ref A0, .ref A2, .ref A7, .ref A8])) := by rw [ef66, va_up_ne _ _ (wne h61 h62 wd_oa)]; exact h61
            have h68 : f66 Fa = some (.inr (cFa, .int kFa :: .int lFa :: .int gFa :: rFa)) := by rw [ef66, va_up_ne _ _ (wne h63 h62 wd_oa)]; exact h63
            have h69 : f66 Fb = some (.inr (cFb, .int kFb :: .int lFb :: .int gFb :: rFb)) := by rw [ef66, va_up_ne _ _ (wne h64 h62 wd_oa)]; exact h64
            have h70 : f66 q51 = some (.inr (6, [.int 2, .int (lFa + lFb), .int (1 + (if gFa < gFb then gFb else gFa)), .ref Fa, .ref Fb])) := by rw [ef66, va_up_ne _ _ (Ne.symm n_A8_q51)]; exact h65
            have h71 : f66 A8 = some (.inl (G.2.1 2, 10, .inr (.inr (.inr (.inr (va_up fa xt.toNatClampNeg (some q51))))))) := by rw [ef66, va_up_self]
            refine lv_iconst (v := 0) hx hb d_SF_join_90 (by decide) ?_
            have hbad : ¬ (¬ (¬ xt < 0 ∧ ¬ 10 ≤ xt) ∨ noF fl x ∨ noF fl y) := fun z => z.elim (fun z => z hpl) (fun z => z.elim (fun z => absurd ((z ka hka hxka).symm.trans hsma) (by intro z; cases z)) (fun z => absurd ((z kb hkb hxkb).symm.trans hsmb) (by intro z; cases z)))
            have hcl : xt.toNatClampNeg = kt := by rw [hxt]; exact nI_clamp (by omega)
            have hfx : f66 = va_up (va_up f q51 (some (.inr (6, [.int 2, .int (lFa + lFb), .int (1 + (if gFa < gFb then gFb else gFa)), .ref Fa, .ref Fb])))) (ad 8) (some (.inl (G.2.1 2, 10, .inr (.inr (.inr (.inr (va_up fa kt (some q51)))))))) := by rw [ef66, p59, ef53, up_uu, eA8, hcl]
            have hgl : gle g (va_up g q51 (some (.inr (6, [.int 2, .int (lFa + lFb), .int (1 + (if gFa < gFb then gFb else gFa)), .ref Fa, .ref Fb])))) := gle.up (hRg.non u52)
            have hfull : ¬ (¬ vva.2.1 + vvb.2.1 ≤ 24 ∨ ¬ mxh vva.2.2.1 vvb.2.2.1 < 8) := fun z => z.elim (fun z => z (by rw [← elFa, ← elFb]; exact c49)) (fun z => z (by rw [← egFa, ← egFb]; exact c50))
            have hmx : mxh vva.2.2.1 vvb.2.2.1 = nI (max h0a h0b) := by rw [hh0a, hh0b]; exact mxh_n hh2a hh2b
            have hm8 : max h0a h0b < 8 := by rcases Nat.lt_or_ge (max h0a h0b) 8 with z | z; exact z; exact absurd (Or.inr (by rw [hmx]; exact nI_nlt (b := 8) z (by omega))) hfull
            have hsm : vva.2.1 + vvb.2.1 = nI (l0a + l0b) := by rw [hl0a, hl0b]; exact nI_add _ _
            have hs24 : l0a + l0b ≤ 24 := by rcases Nat.lt_or_ge 24 (l0a + l0b) with z | z; exact absurd (Or.inl (by rw [hsm]; exact nI_ge (a := 24) z (by omega))) hfull; exact z
            have hrh9 : RH G (va_up g q51 (some (.inr (6, [.int 2, .int (lFa + lFb), .int (1 + (if gFa < gFb then gFb else gFa)), .ref Fa, .ref Fb])))) q51 ((2, vva.2.1 + vvb.2.1, 1 + mxh vva.2.2.1 vvb.2.2.1, anJ vva.2.2.2.1 vvb.2.2.2.1, TI0) : FV) := ⟨l0a + l0b, max h0a h0b + 1, hsm, by show 1 + mxh vva.2.2.1 vvb.2.2.1 = _; rw [hmx, Int32.add_comm]; exact nI_1 _, by omega, hs24, by omega, by omega, Or.inr (Or.inl ⟨Fa, Fb, vva, vvb, by rw [va_up_self, elFa, elFb, egFa, egFb], by rw [show max h0a h0b = h0a + (max h0a h0b - h0a) by omega]; exact (RF.mono hgl _ _ _ hrfa).le _, by rw [show max h0a h0b = h0b + (max h0a h0b - h0b) by omega]; exact (RF.mono hgl _ _ _ hrfb).le _, rfl⟩)⟩
            exact m_iret hc hr hlk hw ⟨by first | decide | (dsimp only; omega), by first | decide | (dsimp only; omega)⟩ d_SF_join_91 ⟨fun z => absurd z hbad, fun kt2 k j vv vw h1 h2 h3 h4 h5 h6 h7 h8 => by have ek : ka = k := (nI_eq (by omega) (by omega)).mp (hxka.symm.trans h4); subst ek; have ev2 : vva = vv := Option.some.inj (hsma.symm.trans h7); subst ev2; have ek2 : kb = j := (nI_eq (by omega) (by omega)).mp (hxkb.symm.trans h6); subst ek2; have ev3 : vvb = vw := Option.some.inj (hsmb.symm.trans h8); subst ev3; have et : kt = kt2 := (nI_eq (by omega) (by omega)).mp (hxt.symm.trans h2); subst et; exact ⟨fun z => absurd z hfull, fun _ => ⟨rfl, _, _, by rw [hfx]; exact (hRg.new _ u52).up 8 (by omega) _, hgl, fun k hk => va_up_ne _ _ (by omega), hS0.f hgl _ _ ((hFL.mono hgl).put hrh9)⟩⟩⟩
          · refine lv_bipush (v := (-3)) hx hb d_SF_join_70 (by decide) ?_
            have hbad : ¬ (¬ (¬ xt < 0 ∧ ¬ 10 ≤ xt) ∨ noF fl x ∨ noF fl y) := fun z => z.elim (fun z => z hpl) (fun z => z.elim (fun z => absurd ((z ka hka hxka).symm.trans hsma) (by intro z; cases z)) (fun z => absurd ((z kb hkb hxkb).symm.trans hsmb) (by intro z; cases z)))
            exact m_iret hc hr hlk hw ⟨by first | decide | (dsimp only; omega), by first | decide | (dsimp only; omega)⟩ d_SF_join_72 ⟨fun z => absurd z hbad, fun kt2 k j vv vw h1 h2 h3 h4 h5 h6 h7 h8 => by have ek : ka = k := (nI_eq (by omega) (by omega)).mp (hxka.symm.trans h4); subst ek; have ev2 : vva = vv := Option.some.inj (hsma.symm.trans h7); subst ev2; have ek2 : kb = j := (nI_eq (by omega) (by omega)).mp (hxkb.symm.trans h6); subst ek2; have ev3 : vvb = vw := Option.some.inj (hsmb.symm.trans h8); subst ev3; exact ⟨fun _ => ⟨rfl, ⟨E, g, hRg, gle.rf, fun _ _ => rfl, hS0⟩⟩, fun z => absurd (Or.inr (by rw [← egFa, ← egFb]; exact c50)) z⟩⟩
        · refine lv_bipush (v := (-3)) hx hb d_SF_join_49 (by decide) ?_
          have hbad : ¬ (¬ (¬ xt < 0 ∧ ¬ 10 ≤ xt) ∨ noF fl x ∨ noF fl y) := fun z => z.elim (fun z => z hpl) (fun z => z.elim (fun z => absurd ((z ka hka hxka).symm.trans hsma) (by intro z; cases z)) (fun z => absurd ((z kb hkb hxkb).symm.trans hsmb) (by intro z; cases z)))
          exact m_iret hc hr hlk hw ⟨by first | decide | (dsimp only; omega), by first | decide | (dsimp only; omega)⟩ d_SF_join_51 ⟨fun z => absurd z hbad, fun kt2 k j vv vw h1 h2 h3 h4 h5 h6 h7 h8 => by have ek : ka = k := (nI_eq (by omega) (by omega)).mp (hxka.symm.trans h4); subst ek; have ev2 : vva = vv := Option.some.inj (hsma.symm.trans h7); subst ev2; have ek2 : kb = j := (nI_eq (by omega) (by omega)).mp (hxkb.symm.trans h6); subst ek2; have ev3 : vvb = vw := Option.some.inj (hsmb.symm.trans h8); subst ev3; exact ⟨fun _ => ⟨rfl, ⟨E, g, hRg, gle.rf, fun _ _ => rfl, hS0⟩⟩, fun z => absurd (Or.inl (by rw [← elFa, ← elFb]; exact c49)) z⟩⟩
