theorem Rn.memEq {G : GX} {I : MIx} {Post : Option AV → Mem → Prop} {pc : Nat} {ls : List (Option AV)} {st : List AV} {M M' : Mem} (h : M = M') (k : Rn G I Post pc ls st M') : Rn G I Post pc ls st M := h ▸ k
theorem skp_skp {L : Nat → Nat} {n a : Nat} (h : a ≤ n) : skp L n (skp L n a) = skp L n a := by
  rcases Nat.lt_or_ge (skp L n a) n with q | q
  · exact run_no q (run_stop h q)
  · exact run_end q
theorem c_wordEnd1 (G : GX) {o n : Nat} {L : Nat → Nat} {M : Mem} (h : LnOK o n L M) (s : PS) (hs : s.1 ≤ n) (hk : skp L n s.1 = s.1) : MetM G yX12_wordEnd iX12_wordEnd [vR 11 0] (wS o M s) (fun r M' => r = some (vI (nI (o + wEnd L n s.1))) ∧ M' = wS o M s) := by
  have h9 := c_wordEnd G h s hs
  rw [hk] at h9
  exact h9
set_option maxRecDepth 20000 in
set_option maxHeartbeats 4000000 in
theorem c_read (G : GX) {L : Nat → Nat} {M : Mem} (mm nn n c l : Nat) (first : Bool) (hmm : mm < 4) (hnn : nn < 24) (hl : 24 * mm + nn = l) (hlen : mI M 24 0 l = nI n) (hn : n ≤ 48) (htx : ∀ i, i < n → mI M 25 0 (48 * l + i) = nI (L i)) (hch : ∀ i, i < n → 0 < L i ∧ L i < 256) (hlab : mI M 11 0 19 = nI c) (hc : c ≤ 96) : MetM G yX12_read iX12_read [vR 11 0, vI (nI mm), vI (nI nn), vI (bI first)] M (fun q M' => q = none ∧ M' = wS (48 * l) (stS (rB M l n (rdR (48 * l) L n (first && (lfF M (nI mm) (tch L (skp L n 0) (wEnd L n (skp L n 0))) c 0).isSome) (nI 0, (srM M).2) (mI M 11 0 10) (mI M 11 0 12)).1.1 (rdR (48 * l) L n (first && (lfF M (nI mm) (tch L (skp L n 0) (wEnd L n (skp L n 0))) c 0).isSome) (nI 0, (srM M).2) (mI M 11 0 10) (mI M 11 0 12)).1.2.1 (rdR (48 * l) L n (first && (lfF M (nI mm) (tch L (skp L n 0) (wEnd L n (skp L n 0))) c 0).isSome) (nI 0, (srM M).2) (mI M 11 0 10) (mI M 11 0 12)).1.2.2) (rdR (48 * l) L n (first && (lfF M (nI mm) (tch L (skp L n 0) (wEnd L n (skp L n 0))) c 0).isSome) (nI 0, (srM M).2) (mI M 11 0 10) (mI M 11 0 12)).2.1) (rdR (48 * l) L n (first && (lfF M (nI mm) (tch L (skp L n 0) (wEnd L n (skp L n 0))) c 0).isSome) (nI 0, (srM M).2) (mI M 11 0 10) (mI M 11 0 12)).2.2) := by
  refine MetM.of (ls := [some (vR 11 0), some (vI (nI mm)), some (vI (nI nn)), some (vI (bI first)), none, none]) (by decide) rfl (Nat.le_of_ble_eq_true rfl) rfl ?_
  intro hM0
  have hB : ∀ (lf lt sa : Int32), LnOK (48 * l) n L (rB M l n lf lt sa) := fun lf lt sa => ⟨rfl, by omega, hn, htx, hch, l, rfl, rfl⟩
  have hk0 : skp L n 0 ≤ n := skp_le (Nat.zero_le n)
  refine Rn.aload_n (pc := 0) dX12_read_0 rfl rfl ?_
  refine Rn.bipush (pc := 1) (v := nI 24) dX12_read_1 (by decide) ?_
  refine Rn.iload_n (pc := 3) dX12_read_3 rfl rfl ?_
  refine Rn.imulN (pc := 4) dX12_read_4 ?_
  refine Rn.iload_n (pc := 5) dX12_read_5 rfl rfl ?_
  refine Rn.iaddN (pc := 6) dX12_read_6 ?_
  rw [hl]
  refine Rn.putI (pc := 7) (t := 0) flX12_103 rfl rfl dX12_read_7 ?_
  refine Rn.aload_n (pc := 10) dX12_read_10 rfl rfl ?_
  refine Rn.bipush (pc := 11) (v := nI 48) dX12_read_11 (by decide) ?_
  refine Rn.aload_n (pc := 13) dX12_read_13 rfl rfl ?_
  refine Rn.getI (pc := 14) (t := 0) flX12_103 (show mI _ 11 0 6 = nI l from rfl) dX12_read_14 ?_
  refine Rn.imulN (pc := 17) dX12_read_17 ?_
  refine Rn.putI (pc := 18) (t := 0) flX12_94 rfl rfl dX12_read_18 ?_
  rw [show sI (sI M 11 0 6 (nI l)) 11 0 7 (nI (48 * l)) = wS (48 * l) (stS (sI M 11 0 6 (nI l)) (srM M)) (0, mI M 11 0 9, mI M 11 0 10) from by rw [wS_intro, show srM M = srM (sI M 11 0 6 (nI l)) from rfl, stS_intro]; rfl]
  refine Rn.aload_n (pc := 21) dX12_read_21 rfl rfl ?_
  refine Rn.aload_n (pc := 22) dX12_read_22 rfl rfl ?_
  refine Rn.getI (pc := 23) (t := 0) flX12_94 (show mI _ 11 0 7 = nI (48 * l) from rfl) dX12_read_23 ?_
  refine Rn.aload_n (pc := 26) dX12_read_26 rfl rfl ?_
  refine Rn.getR (pc := 27) flX12_17 mu11_4 fx11_4 dX12_read_27 ?_
  refine Rn.aload_n (pc := 30) dX12_read_30 rfl rfl ?_
  refine Rn.getI (pc := 31) (t := 0) flX12_103 (show mI _ 11 0 6 = nI l from rfl) dX12_read_31 ?_
  refine Rn.ialdN (pc := 34) ak24 (by omega) (by decide) hlen dX12_read_34 ?_
  refine Rn.iaddN (pc := 35) dX12_read_35 ?_
  refine Rn.putI (pc := 36) (t := 0) flX12_97 rfl rfl dX12_read_36 ?_
  rw [wQ_oth (by decide)]
  refine Rn.aload_n (pc := 39) dX12_read_39 rfl rfl ?_
  refine Rn.iconst (pc := 40) (v := nI 0) dX12_read_40 (by decide) ?_
  refine Rn.putI (pc := 41) (t := 0) flX12_100 rfl rfl dX12_read_41 ?_
  rw [wS_s9]
  refine Rn.aload_n (pc := 44) dX12_read_44 rfl rfl ?_
  refine Rn.iconst (pc := 45) (v := -1) dX12_read_45 (by decide) ?_
  refine Rn.putI (pc := 46) (t := 0) flX12_294 rfl rfl dX12_read_46 ?_
  rw [wQ_oth (by decide)]
  refine Rn.aload_n (pc := 49) dX12_read_49 rfl rfl ?_
  refine Rn.iconst (pc := 50) (v := nI 0) dX12_read_50 (by decide) ?_
  refine Rn.putI (pc := 51) (t := 0) flX12_156 rfl rfl dX12_read_51 ?_
  rw [wQ_13]
  refine Rn.aload_n (pc := 54) dX12_read_54 rfl rfl ?_
  refine Rn.iconst (pc := 55) (v := -1) dX12_read_55 (by decide) ?_
  refine Rn.putI (pc := 56) (t := 0) flX12_304 rfl rfl dX12_read_56 ?_
  rw [wQ_oth (by decide), rB_intro]
  refine Rn.memEq (M' := (wS (48 * l) (stS (rB M l n (-1) (mI M 11 0 12) (-1)) (nI 0, (srM M).2)) (0, nI 0, mI M 11 0 10))) rfl ?_
  refine Rn.aload_n (pc := 59) dX12_read_59 rfl rfl ?_
  refine Rn.callV (pc := 60) (as := []) cvX12_116 ⟨by decide, rfl⟩ ⟨by decide, by decide⟩ dX12_read_60 (Nat.le_of_ble_eq_true rfl) rfl (c_next G ((hB (-1) (mI M 11 0 12) (-1)).st (nI 0, (srM M).2)) 0 (Nat.zero_le n) (nI 0) (mI M 11 0 10)) ?_
  rintro _ _ ⟨rfl, rfl⟩
  refine Rn.memEq (M' := (wS (48 * l) (stS (rB M l n (-1) (mI M 11 0 12) (-1)) (nI 0, (srM M).2)) ((skp L n 0), nI 0, mI M 11 0 10))) rfl ?_
  refine Rn.if_ne (pc := 63) (y := 0) (tgt := 67) dX12_read_63 (by decide) (fun c63 => ?_) (fun c63 => ?_)
  · refine Rn.aload_n (pc := 67) dX12_read_67 rfl rfl ?_
    refine Rn.getI (pc := 68) (t := 0) flX12_94 (show mI _ 11 0 7 = nI (48 * l + skp L n 0) from rfl) dX12_read_68 ?_
    refine Rn.istore (pc := 71) dX12_read_71 (by decide) rfl st6_4 ?_
    refine Rn.aload_n (pc := 73) dX12_read_73 rfl rfl ?_
    refine Rn.callV (pc := 74) (as := []) cvX12_131 ⟨by decide, rfl⟩ ⟨by decide, by decide⟩ dX12_read_74 (Nat.le_of_ble_eq_true rfl) rfl (c_wordEnd1 G ((hB (-1) (mI M 11 0 12) (-1)).st (nI 0, (srM M).2)) ((skp L n 0), nI 0, mI M 11 0 10) hk0 (skp_skp (Nat.zero_le n))) ?_
    rintro _ _ ⟨rfl, rfl⟩
    refine Rn.istore (pc := 77) dX12_read_77 (by decide) rfl st6_5 ?_
    refine Rn.aload_n (pc := 79) dX12_read_79 rfl rfl ?_
    refine Rn.iload (pc := 80) dX12_read_80 rfl ?_
    refine Rn.putI (pc := 82) (t := 0) flX12_94 rfl rfl dX12_read_82 ?_
    rw [wS_s7]
    refine Rn.memEq (M' := (wS (48 * l) (stS (rB M l n (-1) (mI M 11 0 12) (-1)) (nI 0, (srM M).2)) ((wEnd L n (skp L n 0)), nI 0, mI M 11 0 10))) rfl ?_
    refine Rn.aload_n (pc := 85) dX12_read_85 rfl rfl ?_
    refine Rn.iload (pc := 86) dX12_read_86 rfl ?_
    refine Rn.iload (pc := 88) dX12_read_88 rfl ?_
    refine Rn.callV (pc := 90) (as := [_, _]) cvX12_138 ⟨by decide, rfl⟩ ⟨by decide, by decide⟩ dX12_read_90 (Nat.le_of_ble_eq_true rfl) rfl (c_isName G ((hB (-1) (mI M 11 0 12) (-1)).st (nI 0, (srM M).2)) ((wEnd L n (skp L n 0)), nI 0, mI M 11 0 10) (skp L n 0) (wEnd L n (skp L n 0)) (wEnd_ge hk0) (wEnd_le hk0)) ?_
    rintro _ _ ⟨rfl, rfl⟩
    refine Rn.if_eqB (pc := 93) (tgt := 174) dX12_read_93 (by decide) (fun c93 => ?_) (fun c93 => ?_)
    · refine rd_174 G (hB (-1) (mI M 11 0 12) (-1)) (nI 0, (srM M).2) ((wEnd L n (skp L n 0)), nI 0, mI M 11 0 10) (wEnd_le hk0) (skp L n 0) (wEnd L n (skp L n 0)) (wEnd_ge hk0) (wEnd_le hk0) ⟨rfl, ?_⟩ _ _ _
      rw [rB_14, rdR, if_neg (fun e9 => c63 (by rw [e9]; rfl)), if_neg (fun q => by rw [c93] at q; exact absurd q.1 (by decide)), if_neg (by rw [c93]; decide)]
    · refine Rn.aload_n (pc := 96) dX12_read_96 rfl rfl ?_
      refine Rn.callV (pc := 97) (as := []) cvX12_116 ⟨by decide, rfl⟩ ⟨by decide, by decide⟩ dX12_read_97 (Nat.le_of_ble_eq_true rfl) rfl (c_next G ((hB (-1) (mI M 11 0 12) (-1)).st (nI 0, (srM M).2)) (wEnd L n (skp L n 0)) (wEnd_le hk0) (nI 0) (mI M 11 0 10)) ?_
      rintro _ _ ⟨rfl, rfl⟩
      refine Rn.memEq (M' := (wS (48 * l) (stS (rB M l n (-1) (mI M 11 0 12) (-1)) (nI 0, (srM M).2)) ((skp L n (wEnd L n (skp L n 0))), nI 0, mI M 11 0 10))) rfl ?_
      refine Rn.bipush (pc := 100) (v := nI 58) dX12_read_100 (by decide) ?_
      refine Rn.icmp_neN (pc := 102) (tgt := 174) dX12_read_102 (by decide) (by have h9 := chA_lt (hB (-1) (mI M 11 0 12) (-1)) (skp L n (wEnd L n (skp L n 0))); omega) (by decide) (fun c102 => ?_) (fun c102 => ?_)
      · refine rd_174 G (hB (-1) (mI M 11 0 12) (-1)) (nI 0, (srM M).2) ((skp L n (wEnd L n (skp L n 0))), nI 0, mI M 11 0 10) (skp_le (wEnd_le hk0)) (skp L n 0) (wEnd L n (skp L n 0)) (wEnd_ge hk0) (wEnd_le hk0) ⟨rfl, ?_⟩ _ _ _
        rw [rB_14, rdR, if_neg (fun e9 => c63 (by rw [e9]; rfl)), if_neg (fun q => c102 q.2), if_pos c93]
      · have hlt1 := chA_pos c102 (by decide)
        have hk2 : (skp L n (skp L n (wEnd L n (skp L n 0)) + 1)) ≤ n := skp_le hlt1
        refine Rn.aload_n (pc := 105) dX12_read_105 rfl rfl ?_
        refine Rn.iload (pc := 106) dX12_read_106 rfl ?_
        refine Rn.putI (pc := 108) (t := 0) flX12_294 rfl rfl dX12_read_108 ?_
        rw [wQ_oth (by decide), rB_11]
        refine Rn.aload_n (pc := 111) dX12_read_111 rfl rfl ?_
        refine Rn.iload (pc := 112) dX12_read_112 rfl ?_
        refine Rn.putI (pc := 114) (t := 0) flX12_297 rfl rfl dX12_read_114 ?_
        rw [wQ_oth (by decide), rB_12]
        refine Rn.aload_n (pc := 117) dX12_read_117 rfl rfl ?_
        refine Rn.dupR (pc := 118) (x := 0) (y := 0) dX12_read_118 ?_
        refine Rn.getI (pc := 119) (t := 0) flX12_94 (show mI _ 11 0 7 = nI (48 * l + skp L n (wEnd L n (skp L n 0))) from rfl) dX12_read_119 ?_
        refine Rn.iconst (pc := 122) (v := nI 1) dX12_read_122 (by decide) ?_
        refine Rn.iaddN (pc := 123) dX12_read_123 ?_
        refine Rn.putI (pc := 124) (t := 0) flX12_94 rfl rfl dX12_read_124 ?_
        refine Rn.memEq (M' := (wS (48 * l) (stS (rB M l n (nI (48 * l + skp L n 0)) (nI (48 * l + wEnd L n (skp L n 0))) (-1)) (nI 0, (srM M).2)) ((skp L n (wEnd L n (skp L n 0)) + 1), nI 0, mI M 11 0 10))) (wS_s7 (b := (skp L n (wEnd L n (skp L n 0)) + 1))) ?_
        refine Rn.iload_n (pc := 127) dX12_read_127 rfl rfl ?_
        refine Rn.if_eqB (pc := 128) (tgt := 148) dX12_read_128 (by decide) (fun c128 => ?_) (fun c128 => ?_)
        · skip
          refine Rn.aload_n (pc := 148) dX12_read_148 rfl rfl ?_
          refine Rn.callV (pc := 149) (as := []) cvX12_116 ⟨by decide, rfl⟩ ⟨by decide, by decide⟩ dX12_read_149 (Nat.le_of_ble_eq_true rfl) rfl (c_next G ((hB (nI (48 * l + skp L n 0)) (nI (48 * l + wEnd L n (skp L n 0))) (-1)).st (nI 0, (srM M).2)) (skp L n (wEnd L n (skp L n 0)) + 1) hlt1 (nI 0) (mI M 11 0 10)) ?_
          rintro _ _ ⟨rfl, rfl⟩
          refine Rn.memEq (M' := (wS (48 * l) (stS (rB M l n (nI (48 * l + skp L n 0)) (nI (48 * l + wEnd L n (skp L n 0))) (-1)) (nI 0, (srM M).2)) ((skp L n (skp L n (wEnd L n (skp L n 0)) + 1)), nI 0, mI M 11 0 10))) rfl ?_
          refine Rn.if_ne (pc := 152) (y := 0) (tgt := 156) dX12_read_152 (by decide) (fun c152 => ?_) (fun c152 => ?_)
          · refine Rn.aload_n (pc := 156) dX12_read_156 rfl rfl ?_
            refine Rn.getI (pc := 157) (t := 0) flX12_94 (show mI _ 11 0 7 = nI (48 * l + (skp L n (skp L n (wEnd L n (skp L n 0)) + 1))) from rfl) dX12_read_157 ?_
            refine Rn.istore (pc := 160) dX12_read_160 (by decide) rfl st6_4 ?_
            refine Rn.aload_n (pc := 162) dX12_read_162 rfl rfl ?_
            refine Rn.callV (pc := 163) (as := []) cvX12_131 ⟨by decide, rfl⟩ ⟨by decide, by decide⟩ dX12_read_163 (Nat.le_of_ble_eq_true rfl) rfl (c_wordEnd1 G ((hB (nI (48 * l + skp L n 0)) (nI (48 * l + wEnd L n (skp L n 0))) (-1)).st (nI 0, (srM M).2)) ((skp L n (skp L n (wEnd L n (skp L n 0)) + 1)), nI 0, mI M 11 0 10) hk2 (skp_skp hlt1)) ?_
            rintro _ _ ⟨rfl, rfl⟩
            refine Rn.istore (pc := 166) dX12_read_166 (by decide) rfl st6_5 ?_
            refine Rn.aload_n (pc := 168) dX12_read_168 rfl rfl ?_
            refine Rn.iload (pc := 169) dX12_read_169 rfl ?_
            refine Rn.putI (pc := 171) (t := 0) flX12_94 rfl rfl dX12_read_171 ?_
            rw [wS_s7]
            refine Rn.memEq (M' := (wS (48 * l) (stS (rB M l n (nI (48 * l + skp L n 0)) (nI (48 * l + wEnd L n (skp L n 0))) (-1)) (nI 0, (srM M).2)) ((wEnd L n (skp L n (skp L n (wEnd L n (skp L n 0)) + 1))), nI 0, mI M 11 0 10))) rfl ?_
            refine rd_174 G (hB (nI (48 * l + skp L n 0)) (nI (48 * l + wEnd L n (skp L n 0))) (-1)) (nI 0, (srM M).2) ((wEnd L n (skp L n (skp L n (wEnd L n (skp L n 0)) + 1))), nI 0, mI M 11 0 10) (wEnd_le hk2) (skp L n (skp L n (wEnd L n (skp L n 0)) + 1)) (wEnd L n (skp L n (skp L n (wEnd L n (skp L n 0)) + 1))) (wEnd_ge hk2) (wEnd_le hk2) ⟨rfl, ?_⟩ _ _ _
            rw [rB_14, rdR, if_neg (fun e9 => c63 (by rw [e9]; rfl)), if_pos ⟨c93, c102⟩, if_neg (by rw [c128]; simp), if_neg (fun e9 => c152 (by rw [e9]; rfl))]
          · refine Rn.vret (pc := 155) rfl dX12_read_155 ?_
            refine ⟨rfl, ?_⟩; rw [rdR, if_neg (fun e9 => c63 (by rw [e9]; rfl)), if_pos ⟨c93, c102⟩, if_neg (by rw [c128]; simp), if_pos ((nI_eq (by have h9 := chA_lt (hB (-1) (mI M 11 0 12) (-1)) (skp L n (skp L n (wEnd L n (skp L n 0)) + 1)); omega) (by decide)).mp c152)]
        · refine Rn.aload_n (pc := 131) dX12_read_131 rfl rfl ?_
          refine Rn.iload_n (pc := 132) dX12_read_132 rfl rfl ?_
          refine Rn.callV (pc := 133) (as := [_]) cvX12_307 ⟨by decide, rfl⟩ ⟨by decide, by decide⟩ dX12_read_133 (Nat.le_of_ble_eq_true rfl) rfl (c_isTwice G (nI mm) (skp L n 0) (wEnd L n (skp L n 0)) c (wEnd_ge hk0) (by have := wEnd_le (L := L) hk0; omega) (fun i _ h2 => htx i (Nat.lt_of_lt_of_le h2 (wEnd_le hk0))) hlab hc rfl rfl) ?_
          rintro _ _ ⟨rfl, rfl⟩
          refine Rn.if_eqB (pc := 136) (tgt := 148) dX12_read_136 (by decide) (fun c136 => ?_) (fun c136 => ?_)
          · have h136 : (lfF M (nI mm) (tch L (skp L n 0) (wEnd L n (skp L n 0))) c 0).isSome = false := by rw [← c136]; exact congrArg Option.isSome (Eq.symm (lfF_congr (by intro _; rfl) (by intro _; rfl) c 0))
            refine Rn.aload_n (pc := 148) dX12_read_148 rfl rfl ?_
            refine Rn.callV (pc := 149) (as := []) cvX12_116 ⟨by decide, rfl⟩ ⟨by decide, by decide⟩ dX12_read_149 (Nat.le_of_ble_eq_true rfl) rfl (c_next G ((hB (nI (48 * l + skp L n 0)) (nI (48 * l + wEnd L n (skp L n 0))) (-1)).st (nI 0, (srM M).2)) (skp L n (wEnd L n (skp L n 0)) + 1) hlt1 (nI 0) (mI M 11 0 10)) ?_
            rintro _ _ ⟨rfl, rfl⟩
            refine Rn.memEq (M' := (wS (48 * l) (stS (rB M l n (nI (48 * l + skp L n 0)) (nI (48 * l + wEnd L n (skp L n 0))) (-1)) (nI 0, (srM M).2)) ((skp L n (skp L n (wEnd L n (skp L n 0)) + 1)), nI 0, mI M 11 0 10))) rfl ?_
            refine Rn.if_ne (pc := 152) (y := 0) (tgt := 156) dX12_read_152 (by decide) (fun c152 => ?_) (fun c152 => ?_)
            · refine Rn.aload_n (pc := 156) dX12_read_156 rfl rfl ?_
              refine Rn.getI (pc := 157) (t := 0) flX12_94 (show mI _ 11 0 7 = nI (48 * l + (skp L n (skp L n (wEnd L n (skp L n 0)) + 1))) from rfl) dX12_read_157 ?_
              refine Rn.istore (pc := 160) dX12_read_160 (by decide) rfl st6_4 ?_
              refine Rn.aload_n (pc := 162) dX12_read_162 rfl rfl ?_
              refine Rn.callV (pc := 163) (as := []) cvX12_131 ⟨by decide, rfl⟩ ⟨by decide, by decide⟩ dX12_read_163 (Nat.le_of_ble_eq_true rfl) rfl (c_wordEnd1 G ((hB (nI (48 * l + skp L n 0)) (nI (48 * l + wEnd L n (skp L n 0))) (-1)).st (nI 0, (srM M).2)) ((skp L n (skp L n (wEnd L n (skp L n 0)) + 1)), nI 0, mI M 11 0 10) hk2 (skp_skp hlt1)) ?_
              rintro _ _ ⟨rfl, rfl⟩
              refine Rn.istore (pc := 166) dX12_read_166 (by decide) rfl st6_5 ?_
              refine Rn.aload_n (pc := 168) dX12_read_168 rfl rfl ?_
              refine Rn.iload (pc := 169) dX12_read_169 rfl ?_
              refine Rn.putI (pc := 171) (t := 0) flX12_94 rfl rfl dX12_read_171 ?_
              rw [wS_s7]
              refine Rn.memEq (M' := (wS (48 * l) (stS (rB M l n (nI (48 * l + skp L n 0)) (nI (48 * l + wEnd L n (skp L n 0))) (-1)) (nI 0, (srM M).2)) ((wEnd L n (skp L n (skp L n (wEnd L n (skp L n 0)) + 1))), nI 0, mI M 11 0 10))) rfl ?_
              refine rd_174 G (hB (nI (48 * l + skp L n 0)) (nI (48 * l + wEnd L n (skp L n 0))) (-1)) (nI 0, (srM M).2) ((wEnd L n (skp L n (skp L n (wEnd L n (skp L n 0)) + 1))), nI 0, mI M 11 0 10) (wEnd_le hk2) (skp L n (skp L n (wEnd L n (skp L n 0)) + 1)) (wEnd L n (skp L n (skp L n (wEnd L n (skp L n 0)) + 1))) (wEnd_ge hk2) (wEnd_le hk2) ⟨rfl, ?_⟩ _ _ _
              rw [rB_14, rdR, if_neg (fun e9 => c63 (by rw [e9]; rfl)), if_pos ⟨c93, c102⟩, if_neg (by rw [c128, h136]; decide), if_neg (fun e9 => c152 (by rw [e9]; rfl))]
            · refine Rn.vret (pc := 155) rfl dX12_read_155 ?_
              refine ⟨rfl, ?_⟩; rw [rdR, if_neg (fun e9 => c63 (by rw [e9]; rfl)), if_pos ⟨c93, c102⟩, if_neg (by rw [c128, h136]; decide), if_pos ((nI_eq (by have h9 := chA_lt (hB (-1) (mI M 11 0 12) (-1)) (skp L n (skp L n (wEnd L n (skp L n 0)) + 1)); omega) (by decide)).mp c152)]
          · have h136 : (lfF M (nI mm) (tch L (skp L n 0) (wEnd L n (skp L n 0))) c 0).isSome = true := by rw [← c136]; exact congrArg Option.isSome (Eq.symm (lfF_congr (by intro _; rfl) (by intro _; rfl) c 0))
            refine Rn.aload_n (pc := 139) dX12_read_139 rfl rfl ?_
            refine Rn.bipush (pc := 140) (v := -2) dX12_read_140 (by decide) ?_
            refine Rn.iload (pc := 142) dX12_read_142 rfl ?_
            refine Rn.callV (pc := 144) (as := [_, _]) cvX12_123 ⟨by decide, rfl⟩ ⟨by decide, by decide⟩ dX12_read_144 (Nat.le_of_ble_eq_true rfl) rfl (c_wrong G ((hB (nI (48 * l + skp L n 0)) (nI (48 * l + wEnd L n (skp L n 0))) (-1)).st (nI 0, (srM M).2)) ((skp L n (wEnd L n (skp L n 0)) + 1), nI 0, mI M 11 0 10) (-2) (skp L n 0) hk0) ?_
            rintro _ _ ⟨rfl, rfl⟩
            refine Rn.vret (pc := 147) rfl dX12_read_147 ?_
            refine ⟨rfl, ?_⟩; rw [rdR, if_neg (fun e9 => c63 (by rw [e9]; rfl)), if_pos ⟨c93, c102⟩, if_pos (by rw [c128, h136]; rfl)]
  · refine Rn.vret (pc := 66) rfl dX12_read_66 ?_
    refine ⟨rfl, ?_⟩; rw [rdR, if_pos ((nI_eq (by have h9 := chA_lt (hB (-1) (mI M 11 0 12) (-1)) (skp L n 0); omega) (by decide)).mp c63)]

