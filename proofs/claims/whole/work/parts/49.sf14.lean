/-! links of the pools, as the walks ask for them -/
theorem cw_SF_73 : cwk "StreamFilters" 73 y_PieceReader_makeFilter b_PieceReader_makeFilter 8 (some (.object "StreamFilters$TextFilter")) 1 := ⟨Or.inl (tb 310 (by decide +kernel) rfl), (tb 313 (by decide +kernel) rfl), (tb 4 (by decide +kernel) rfl), by decide, by decide, by decide +kernel⟩
theorem se_PieceReader_makeFilter : Cond.instanceMethod y_PieceReader_makeFilter ∈ TB ∧ Cond.selects "StreamFilters$PieceReader" y_PieceReader_makeFilter y_PieceReader_makeFilter ∈ TB := ⟨(tb 311 (by decide +kernel) rfl), (tb 312 (by decide +kernel) rfl)⟩
theorem ca_TextFilter_Filter : Cond.castable R_TextFilter "StreamFilters$Filter" ∈ EB := (eb 871 (by decide +kernel) rfl)
/-! decode rows -/
theorem d_SF_read_0 : decode b_SF_read 0 = .ok (.iload_n 1, 1) := by decide +kernel
theorem d_SF_read_1 : decode b_SF_read 1 = .ok (.invokestatic 67, 3) := by decide +kernel
theorem d_SF_read_4 : decode b_SF_read 4 = .ok (.ifCond .ne 5, 3) := by decide +kernel
theorem d_SF_read_7 : decode b_SF_read 7 = .ok (.iconst (-1), 1) := by decide +kernel
theorem d_SF_read_8 : decode b_SF_read 8 = .ok (.ireturn, 1) := by decide +kernel
theorem d_SF_read_9 : decode b_SF_read 9 = .ok (.aload_n 0, 1) := by decide +kernel
theorem d_SF_read_10 : decode b_SF_read 10 = .ok (.getfield 30, 3) := by decide +kernel
theorem d_SF_read_13 : decode b_SF_read 13 = .ok (.invokevirtual 70, 3) := by decide +kernel
theorem d_SF_read_16 : decode b_SF_read 16 = .ok (.bipush (-2), 2) := by decide +kernel
theorem d_SF_read_18 : decode b_SF_read 18 = .ok (.if_icmp .eq 6, 3) := by decide +kernel
theorem d_SF_read_21 : decode b_SF_read 21 = .ok (.bipush (-2), 2) := by decide +kernel
theorem d_SF_read_23 : decode b_SF_read 23 = .ok (.ireturn, 1) := by decide +kernel
theorem d_SF_read_24 : decode b_SF_read 24 = .ok (.aload_n 0, 1) := by decide +kernel
theorem d_SF_read_25 : decode b_SF_read 25 = .ok (.getfield 30, 3) := by decide +kernel
theorem d_SF_read_28 : decode b_SF_read 28 = .ok (.iload_n 2, 1) := by decide +kernel
theorem d_SF_read_29 : decode b_SF_read 29 = .ok (.invokevirtual 73, 3) := by decide +kernel
theorem d_SF_read_32 : decode b_SF_read 32 = .ok (.astore_n 3, 1) := by decide +kernel
theorem d_SF_read_33 : decode b_SF_read 33 = .ok (.aload_n 0, 1) := by decide +kernel
theorem d_SF_read_34 : decode b_SF_read 34 = .ok (.getfield 36, 3) := by decide +kernel
theorem d_SF_read_37 : decode b_SF_read 37 = .ok (.iload_n 1, 1) := by decide +kernel
theorem d_SF_read_38 : decode b_SF_read 38 = .ok (.aload_n 3, 1) := by decide +kernel
theorem d_SF_read_39 : decode b_SF_read 39 = .ok (.aastore, 1) := by decide +kernel
theorem d_SF_read_40 : decode b_SF_read 40 = .ok (.aload_n 3, 1) := by decide +kernel
theorem d_SF_read_41 : decode b_SF_read 41 = .ok (.invokevirtual 77, 3) := by decide +kernel
theorem d_SF_read_44 : decode b_SF_read 44 = .ok (.ireturn, 1) := by decide +kernel
set_option maxHeartbeats 4000000 in
set_option maxRecDepth 100000 in
/-- read(xt, bs) -/
theorem c_SF_read (G : GG) (l : Launch) (sz : Nat) (f : Wd) {N root pn nn mn : Nat} {ad : Nat → Nat} {E : Nat → va_E} {g : Wd} {pt nt mt : Nat → Int32} {dp rf by_ co tx lx : Int32} {fl : Nat → Option FV} (hN : 9 ≤ N) (hRg : Rg N ad E g f) (hS : SC G ad E g root pn pt nn nt mn mt dp rf by_ co tx lx fl) (xt : Int32) {bs : Int32} (h_bs : bs = 0 ∨ bs = 1) : Ci G l y_SF_read b_SF_read 4 (some .int) ({ frames := 10, cells := 96, slots := 830, locals := 230 }) sz f [.ref root, .int xt, .int bs] (fun v f' => (¬ (¬ xt < 0 ∧ ¬ 10 ≤ xt) → v = -1 ∧ SCR G N ad E g root f' pn pt nn nt mn mt dp rf by_ co tx lx fl) ∧ ((¬ xt < 0 ∧ ¬ 10 ≤ xt) → ¬ fbk pt pn (npc pt pn) 0 = -2 → v = -2 ∧ SCR G N ad E g root f' pn pt nn nt mn mt dp rf by_ co tx lx fl) ∧ (∀ kt : Nat, kt < 10 → xt = nI kt → fbk pt pn (npc pt pn) 0 = -2 → ∃ lm : Nat → Int32, (∀ k, k < 4 → lm k = lmU pt pn (npc pt pn) k) ∧ v = nI (clsU pt pn (npc pt pn)).length ∧ SCR G N ad E g root f' pn pt nn nt mn mt dp rf by_ co tx lx (va_up fl kt (some ((1, 1, 1, anT bs lm (clsU pt pn (npc pt pn)).length (Mt pt pn) (Vt pt pn), (clsU pt pn (npc pt pn)).length, lm, bs, Vt pt pn, Sht pt pn) : FV))))) := by
  refine ct_of (by decide) (Nat.le_of_ble_eq_true rfl) ?_
  intro p e s m below meth c ls H locs hEn
  obtain ⟨hc, hr, hlk, hin, hE, hw, hsz, hl⟩ := hEn
  have hx := hc.1
  have hb := hc.2.1
  have hl : lv_has ls 4 [(0, .ref root), (1, .int xt), (2, .int bs)] := hl
  have hS0 := hS
  obtain ⟨hroot, hPB, hNB, hMB, ⟨so, di, le, hQ⟩, ⟨fr, en, pi, li, nu, rj, sh, mf, me, nf, ne, hRd⟩, fa, hF8, hFL⟩ := hS
  obtain ⟨A0, eA0⟩ : ∃ z, z = ad 0 := ⟨_, rfl⟩
  obtain ⟨A1, eA1⟩ : ∃ z, z = ad 1 := ⟨_, rfl⟩
  obtain ⟨A2, eA2⟩ : ∃ z, z = ad 2 := ⟨_, rfl⟩
  obtain ⟨A3, eA3⟩ : ∃ z, z = ad 3 := ⟨_, rfl⟩
  obtain ⟨A4, eA4⟩ : ∃ z, z = ad 4 := ⟨_, rfl⟩
  obtain ⟨A5, eA5⟩ : ∃ z, z = ad 5 := ⟨_, rfl⟩
  obtain ⟨A6, eA6⟩ : ∃ z, z = ad 6 := ⟨_, rfl⟩
  obtain ⟨A7, eA7⟩ : ∃ z, z = ad 7 := ⟨_, rfl⟩
  obtain ⟨A8, eA8⟩ : ∃ z, z = ad 8 := ⟨_, rfl⟩
  have hgf := hRg.2.2.1
  have h0 : f root = some (.inr (0, [.ref A0, .ref A2, .ref A7, .ref A8])) := by rw [eA0, eA2, eA7, eA8]; exact hgf _ _ hroot
  have h2 : f A2 = some (.inr (2, [.ref A3, .ref A5, .int dp, .int rf, .int by_, .int so, .int di, .int le, .int co, .int tx, .int lx])) := by rw [eA2, eA3, eA5]; exact hRg.get 2 (by omega) hQ
  have h8 : f A8 = some (.inl (G.2.1 2, 10, .inr (.inr (.inr (.inr fa))))) := by rw [eA8]; exact hRg.get 8 (by omega) hF8
  have hsP : sg G f A0 A1 90 pn pt := by rw [eA0, eA1]; exact hPB.sg hRg (by omega) (by omega)
  have hsN : sg G f A3 A4 40 nn nt := by rw [eA3, eA4]; exact hNB.sg hRg (by omega) (by omega)
  have hsM : sg G f A5 A6 12 mn mt := by rw [eA5, eA6]; exact hMB.sg hRg (by omega) (by omega)
  have h7 : f A7 = some (.inr (3, [.ref A0, .int fr, .int en, .int pi, .int li, .int nu, .int rj, .int sh, .int mf, .int me, .int nf, .int ne])) := by rw [eA7, eA0]; exact hRg.get 7 (by omega) hRd
  refine lv_iload_n hx hb d_SF_read_0 rfl (lv_at hl 1 rfl) ?_
  refine m_calli hw (m_runS (As := [.int xt]) (rest := []) hc hE hw (c_SF_isPlace G l H.size f xt) cw_SF_67 ss_SF_isPlace rfl hl.1 rfl (Nat.le_of_ble_eq_true rfl) d_SF_read_1 ⟨rfl, rfl, by decide, by decide⟩ ⟨by first | decide | (dsimp only; omega), by first | decide | (dsimp only; omega)⟩) (fun r23 g22 H locs p21 hw => ?_)
  obtain ⟨rfl, p21⟩ := p21
  refine lv_if_ne (tgt := 9) hx hb d_SF_read_4 (by decide) (fun c24 => ?_) (fun c24 => ?_)
  · have hpl := bI_n.mp (fun z => c24 (p21.trans z))
    obtain ⟨kt, hkt, hxt⟩ : ∃ k : Nat, k < 10 ∧ xt = nI k := vp_in_of (vin (n := 10) hpl.1 hpl.2 (Nat.le_refl 10) (by decide)) (by decide)
    refine lv_aload_n hx hb d_SF_read_9 rfl (lv_at hl 0 rfl) ?_
    refine m_get hc hE hw h0 kc_SF l_SF_30_SF rfl d_SF_read_10 ?_
    refine m_calli hw (m_runV (As := []) (rest := []) hc hE hw (c_PieceReader_firstBroken G l H.size f h7 hsP) h7 rfl cw_SF_70 se_PieceReader_firstBroken rfl hl.1 rfl (Nat.le_of_ble_eq_true rfl) d_SF_read_13 ⟨rfl, rfl, by decide, by decide⟩ ⟨by first | decide | (dsimp only; omega), by first | decide | (dsimp only; omega)⟩) (fun r27 g26 H locs p25 hw => ?_)
    obtain ⟨fr2, en2, pi2, li2, nu2, rj2, sh2, mf2, me2, nf2, ne2, hff, p25⟩ := p25
    have hsP2 : sg G g26 A0 A1 90 pn pt := by rw [hff]; exact sg_up hsP h7 wd_x
    have hRg2 := hRg.up 7 (by omega) (.inr (3, [.ref (ad 0), .int fr2, .int en2, .int pi2, .int li2, .int nu2, .int rj2, .int sh2, .int mf2, .int me2, .int nf2, .int ne2]))
    rw [← eA7, ← eA0, ← hff] at hRg2
    have hS2 := hS0.r fr2 en2 pi2 li2 nu2 rj2 sh2 mf2 me2 nf2 ne2
    rw [← eA0] at hS2
    have h28 : g26 root = some (.inr (0, [.ref A0, .ref A2, .ref A7, .ref A8])) := by rw [hff, va_up_ne _ _ (wne h0 h7 (wd_oo (by decide)))]; exact h0
    have h29 : g26 A8 = some (.inl (G.2.1 2, 10, .inr (.inr (.inr (.inr fa))))) := by rw [hff, va_up_ne _ _ (wne h8 h7 wd_ao)]; exact h8
    have h30 : g26 A7 = some (.inr (3, [.ref A0, .int fr2, .int en2, .int pi2, .int li2, .int nu2, .int rj2, .int sh2, .int mf2, .int me2, .int nf2, .int ne2])) := by rw [hff, va_up_self]
    refine lv_bipush (v := (-2)) hx hb d_SF_read_16 (by decide) ?_
    refine lv_icmp_eq (tgt := 24) hx hb d_SF_read_18 (by decide) (fun c31 => ?_) (fun c31 => ?_)
    · refine lv_aload_n hx hb d_SF_read_24 rfl (lv_at hl 0 rfl) ?_
      refine m_get hc hE hw h28 kc_SF l_SF_30_SF rfl d_SF_read_25 ?_
      refine lv_iload_n hx hb d_SF_read_28 rfl (lv_at hl 2 rfl) ?_
      refine m_callq hw (m_runV (As := [.int bs]) (rest := []) hc hE hw (c_PieceReader_makeFilter G l H.size g26 h_bs h30 hsP2) h30 rfl cw_SF_73 se_PieceReader_makeFilter rfl hl.1 rfl (Nat.le_of_ble_eq_true rfl) d_SF_read_29 ⟨rfl, rfl, by decide, by decide⟩ ⟨by first | decide | (dsimp only; omega), by first | decide | (dsimp only; omega)⟩) (fun r34 g33 H locs p32 hw => ?_)
      obtain ⟨a, fr3, en3, pi3, li3, nu3, rj3, sh3, mf3, me3, nf3, ne3, lm, p32, hra3, hhd, htf, hlm⟩ := p32
      subst p32
      have htfb := htf
      obtain ⟨la, pa, pf, ht1, ht2, ht3, ht4, hbs, hpp⟩ := htf
      have hcf : g33 a = some (.inr (5, [.int 1, .int 1, .int 1, .int bs, .ref la, .ref pa])) := (nw_le ht1).2
      have hRg3 := hRg2.grow (j := 7) (by omega) (by rw [← eA7]; exact hhd) (by rw [← eA7]; exact hra3)
      have hg9 : g33 root = some (.inr (0, [.ref A0, .ref A2, .ref A7, .ref A8])) := hhd _ _ h28 (wne h28 h30 (wd_oo (by decide)))
      have h89 : g33 A8 = some (.inl (G.2.1 2, 10, .inr (.inr (.inr (.inr fa))))) := hhd _ _ h29 (wne h29 h30 wd_ao)
      have n_A8_a : A8 ≠ a := wnf h29 (nw_le ht1).1
      refine lv_astore_n (lv' := [(3, .ref a), (0, .ref root), (1, .int xt), (2, .int bs)]) hx hb d_SF_read_32 rfl hl (by decide) rfl (fun ls hl => ?_)
      refine lv_aload_n hx hb d_SF_read_33 rfl (lv_at hl 1 rfl) ?_
      refine m_get hc hE hw hg9 kc_SF l_SF_36_SF rfl d_SF_read_34 ?_
      refine lv_iload_n hx hb d_SF_read_37 rfl (lv_at hl 2 rfl) ?_
      refine lv_aload_n hx hb d_SF_read_38 rfl (lv_at hl 0 rfl) ?_
      refine m_aast hc hE hw 2 h89 rfl hcf rfl (Or.inr ca_TextFilter_Filter) (by rw [hxt]; exact vp_in_nI hkt (by decide)) d_SF_read_39 (fun H locs hw => ?_)
      obtain ⟨f35, ef35⟩ : ∃ z : Wd, z = va_up g33 A8 (some (.inl (G.2.1 2, 10, .inr (.inr (.inr (.inr (va_up fa xt.toNatClampNeg (some a)))))))) := ⟨_, rfl⟩
      replace hw : ms G.1 (Af f sz) f35 s H locs := by rw [ef35]; exact hw
      have h36 : f35 root = some (.inr (0, [.ref A0, .ref A2, .ref A7, .ref A8])) := by rw [ef35, va_up_ne _ _ (wne hg9 h89 wd_oa)]; exact hg9
      have h37 : f35 a = some (.inr (5, [.int 1, .int 1, .int 1, .int bs, .ref la, .ref pa])) := by rw [ef35, va_up_ne _ _ (Ne.symm n_A8_a)]; exact hcf
      have h38 : f35 A8 = some (.inl (G.2.1 2, 10, .inr (.inr (.inr (.inr (va_up fa xt.toNatClampNeg (some a))))))) := by rw [ef35, va_up_self]
      refine lv_aload_n hx hb d_SF_read_40 rfl (lv_at hl 0 rfl) ?_
      have htf9 : tf G f35 a bs lm (clsU pt pn (npc pt pn)).length (Vt pt pn) (Sht pt pn) (Mt pt pn) := htfb.mono (fun q e h => by rw [ef35, va_up_ne _ _ (Ne.symm (wnf h29 (nw_le h).1))]; exact (nw_le h).2)
      refine m_calli hw (m_runV (As := []) (rest := []) hc hE hw (c_TextFilter_countPatterns G l H.size f35 htf9) h37 rfl cw_SF_77 se_TextFilter_countPatterns rfl hl.1 rfl (Nat.le_of_ble_eq_true rfl) d_SF_read_41 ⟨rfl, rfl, by decide, by decide⟩ ⟨by first | decide | (dsimp only; omega), by first | decide | (dsimp only; omega)⟩) (fun r41 g40 H locs p39 hw => ?_)
      obtain ⟨rfl, p39⟩ := p39
      have hfb : fbk pt pn (npc pt pn) 0 = -2 := p25.symm.trans c31
      have hcl : xt.toNatClampNeg = kt := by rw [hxt]; exact nI_clamp (by omega)
      have hgl : gle g (gu g (nw g26 g33)) := gle.gu
      have hfx : f35 = va_up g33 (ad 8) (some (.inl (G.2.1 2, 10, .inr (.inr (.inr (.inr (va_up fa kt (some a)))))))) := by rw [ef35, eA8, hcl]
      have hS3 := hS2.r fr3 en3 pi3 li3 nu3 rj3 sh3 mf3 me3 nf3 ne3
      rw [← eA0] at hS3
      have hrh9 : RH G (gu g (nw g26 g33)) a ((1, 1, 1, anT bs lm (clsU pt pn (npc pt pn)).length (Mt pt pn) (Vt pt pn), (clsU pt pn (npc pt pn)).length, lm, bs, Vt pt pn, Sht pt pn) : FV) := ⟨1, 1, rfl, rfl, by omega, by omega, by omega, by omega, Or.inl ⟨bs, lm, _, _, _, _, htfb.mono hRg2.nwle, rfl⟩⟩
      exact m_iret hc hr hlk hw ⟨by first | decide | (dsimp only; omega), by first | decide | (dsimp only; omega)⟩ d_SF_read_44 ⟨fun z => absurd hpl z, fun _ z => absurd hfb z, fun kt2 h1 h2 _ => by have et : kt = kt2 := (nI_eq (by omega) (by omega)).mp (hxt.symm.trans h2); subst et; exact ⟨lm, hlm, p39, _, _, by rw [hfx]; exact hRg3.up 8 (by omega) _, hgl, fun k hk => by rw [va_up_ne _ _ (by omega), va_up_ne _ _ (by omega), va_up_ne _ _ (by omega)], hS3.f hgl _ _ ((hFL.mono hgl).put hrh9)⟩⟩
    · refine lv_bipush (v := (-2)) hx hb d_SF_read_21 (by decide) ?_
      have hfb : ¬ fbk pt pn (npc pt pn) 0 = -2 := fun z => c31 (p25.trans z)
      exact m_iret hc hr hlk hw ⟨by first | decide | (dsimp only; omega), by first | decide | (dsimp only; omega)⟩ d_SF_read_23 ⟨fun z => absurd hpl z, fun _ _ => ⟨rfl, _, g, hRg2, gle.rf, fun k hk => va_up_ne _ _ (by omega), hS2⟩, fun kt h1 h2 h3 => absurd h3 hfb⟩
  · refine lv_iconst (v := (-1)) hx hb d_SF_read_7 (by decide) ?_
    have hnp := bI_0.mp (p21.symm.trans c24)
    exact m_iret hc hr hlk hw ⟨by first | decide | (dsimp only; omega), by first | decide | (dsimp only; omega)⟩ d_SF_read_8 ⟨fun _ => ⟨rfl, ⟨E, g, hRg, gle.rf, fun _ _ => rfl, hS0⟩⟩, fun z => absurd z hnp, fun kt h1 h2 => absurd (by rw [h2]; exact plc h1) hnp⟩
