def mnFn (j : Nat) : Nat := (mnF j).toInt.toNat
def mnCn (j : Nat) : Nat := (mnC j).toInt.toNat
def mnXn (j : Nat) : Nat := (mnX j).toInt.toNat
theorem mn_all : ∀ j, j < 49 → (mnF j = nI (mnFn j) ∧ mnFn j ≤ 16) ∧ (mnC j = nI (mnCn j) ∧ mnCn j < 65536) ∧ (mnX j = nI (mnXn j) ∧ mnXn j < 65536) := by decide +kernel
def cFR (L : Nat → Nat) (n : Nat) (t : KS) : Nat × KS := ((cReg L n t).1, cExp L n 44 (cReg L n t).2)
theorem cFR_ok {L : Nat → Nat} {n : Nat} {t : KS} (h : cOK n t) : cOK n (cFR L n t).2 := cExp_ok (cReg_ok h)
def cMv (L : Nat → Nat) (n : Nat) (c x : Nat) (t : KS) : Int32 × KS :=
  if cSee L n 35 (cFR L n t).2 = true then (nI (x + 256 * (cFR L n t).1) + (cNu L n (nI 0) (nI 255) (cStep L n (cFR L n t).2)).1, (cNu L n (nI 0) (nI 255) (cStep L n (cFR L n t).2)).2)
  else (nI (c + 8 * (cReg L n (cFR L n t).2).1 + (cFR L n t).1), (cReg L n (cFR L n t).2).2)
def cS3 (L : Nat → Nat) (n : Nat) (t : KS) : KS := cExp L n 44 (cReg L n (cFR L n t).2).2
def cSm (L : Nat → Nat) (n : Nat) (c x : Nat) (t : KS) : Int32 × KS :=
  if cSee L n 35 (cFR L n t).2 = true then (nI (x + 256 * (cFR L n t).1) + (cNu L n (nI 0) (nI 255) (cStep L n (cFR L n t).2)).1, (cNu L n (nI 0) (nI 255) (cStep L n (cFR L n t).2)).2)
  else if cSee L n 35 (cS3 L n t) = true then (nI (c + 1024) + nI 64 * (cNu L n (nI 0) (nI 7) (cStep L n (cS3 L n t))).1 + nI (8 * (cReg L n (cFR L n t).2).1) + nI (cFR L n t).1, (cNu L n (nI 0) (nI 7) (cStep L n (cS3 L n t))).2)
  else (nI (c + 64 * (cReg L n (cS3 L n t)).1 + 8 * (cReg L n (cFR L n t).2).1 + (cFR L n t).1), (cReg L n (cS3 L n t)).2)
def cSh (L : Nat → Nat) (n : Nat) (c x : Nat) (t : KS) : Int32 × KS := (nI c + nI 64 * ((cNu L n (nI x) (nI (x + 31)) (cExp L n 35 (cS3 L n t))).1 &&& nI 31) + nI (8 * (cReg L n (cFR L n t).2).1) + nI (cFR L n t).1, (cNu L n (nI x) (nI (x + 31)) (cExp L n 35 (cS3 L n t))).2)
def cPr (L : Nat → Nat) (n : Nat) (c : Nat) (t : KS) : Int32 × KS := (nI (c + 8 * (cReg L n (cFR L n t).2).1 + (cFR L n t).1), (cReg L n (cFR L n t).2).2)
def cM1 (L : Nat → Nat) (n : Nat) (t : KS) : Nat × KS := cReg L n (cExp L n 91 t)
def cM2 (L : Nat → Nat) (n : Nat) (t : KS) : KS := cExp L n 35 (cExp L n 44 (cM1 L n t).2)
def cM3 (L : Nat → Nat) (n : Nat) (sh : Nat) (t : KS) : Int32 × KS := cNu L n (nI 0) (nI 31 <<< (nI sh &&& 31)) (cM2 L n t)
def cMe (L : Nat → Nat) (n : Nat) (sh : Nat) (t : KS) : Int32 × KS := (nI 64 * ((cM3 L n sh t).1 >>> (nI sh &&& 31)) + nI (8 * (cM1 L n t).1), cExp L n 93 (if (cM3 L n sh t).1 >>> (nI sh &&& 31) <<< (nI sh &&& 31) = (cM3 L n sh t).1 then (cM3 L n sh t).2 else cFail (cM3 L n sh t).2 (-4) (nI (cM2 L n t).1)))
theorem cM1_ok {L : Nat → Nat} {n : Nat} {t : KS} (h : cOK n t) : cOK n (cM1 L n t).2 := cReg_ok (cExp_ok h)
theorem cM2_ok {L : Nat → Nat} {n : Nat} {t : KS} (h : cOK n t) : cOK n (cM2 L n t) := cExp_ok (cExp_ok (cM1_ok h))
theorem cM3_ok {L : Nat → Nat} {n sh : Nat} {t : KS} (h : cOK n t) : cOK n (cM3 L n sh t).2 := cNu_ok (cM2_ok h)
theorem cMe_ok {L : Nat → Nat} {n sh : Nat} {t : KS} (h : cOK n t) : cOK n (cMe L n sh t).2 := by
  refine cExp_ok ?_
  split
  · exact cM3_ok h
  · exact cFail_ok (cM3_ok h)
theorem cS3_ok {L : Nat → Nat} {n : Nat} {t : KS} (h : cOK n t) : cOK n (cS3 L n t) := cExp_ok (cReg_ok (cFR_ok h))
theorem cMv_ok {L : Nat → Nat} {n c x : Nat} {t : KS} (h : cOK n t) : cOK n (cMv L n c x t).2 := by
  unfold cMv; split
  · exact cNu_ok (cStep_ok (cFR_ok h))
  · exact cReg_ok (cFR_ok h)
theorem cSm_ok {L : Nat → Nat} {n c x : Nat} {t : KS} (h : cOK n t) : cOK n (cSm L n c x t).2 := by
  unfold cSm; split
  · exact cNu_ok (cStep_ok (cFR_ok h))
  · split
    · exact cNu_ok (cStep_ok (cS3_ok h))
    · exact cReg_ok (cS3_ok h)
theorem cSh_ok {L : Nat → Nat} {n c x : Nat} {t : KS} (h : cOK n t) : cOK n (cSh L n c x t).2 := cNu_ok (cExp_ok (cS3_ok h))
theorem cPr_ok {L : Nat → Nat} {n c : Nat} {t : KS} (h : cOK n t) : cOK n (cPr L n c t).2 := cReg_ok (cFR_ok h)
set_option maxRecDepth 20000 in
set_option maxHeartbeats 4000000 in
theorem k_firstRegister (G : GX) {n : Nat} {L : Nat → Nat} {M : Mem} (h : TxOK n L M) (t : KS) (ht : cOK n t) : MetM G yX6_firstRegister iX6_firstRegister [vR 5 0] (wD M t) (fun r M' => r = some (vI (nI (cFR L n t).1)) ∧ M' = wD M (cFR L n t).2) := by
  refine MetM.of (ls := [some (vR 5 0), none]) (by decide) rfl (Nat.le_of_ble_eq_true rfl) rfl ?_
  intro hM0
  have hq2 := h.2.2.1
  have ht1 := ht.1
  have ht2 := ht.2
  refine Rn.aload_n (pc := 0) dX6_firstRegister_0 rfl rfl ?_
  refine Rn.getR (pc := 1) flX6_12 mu5_0 fx5_0 dX6_firstRegister_1 ?_
  refine Rn.callV (pc := 4) (as := []) cvX6_167 ⟨by decide, rfl⟩ ⟨by decide, by decide⟩ dX6_firstRegister_4 (Nat.le_of_ble_eq_true rfl) rfl (k_register G h t ht) ?_
  rintro _ _ ⟨rfl, rfl⟩
  refine Rn.istore_n (pc := 7) dX6_firstRegister_7 rfl (by decide) rfl st2_1 ?_
  refine Rn.aload_n (pc := 8) dX6_firstRegister_8 rfl rfl ?_
  refine Rn.getR (pc := 9) flX6_12 mu5_0 fx5_0 dX6_firstRegister_9 ?_
  refine Rn.bipush (pc := 12) (v := nI 44) dX6_firstRegister_12 (by decide) ?_
  refine Rn.callV (pc := 14) (as := [_]) cvX6_170 ⟨by decide, rfl⟩ ⟨by decide, by decide⟩ dX6_firstRegister_14 (Nat.le_of_ble_eq_true rfl) rfl (k_expect G h (cReg L n t).2 (cReg_ok ht) 44 (by decide)) ?_
  rintro _ _ ⟨rfl, rfl⟩
  refine Rn.iload_n (pc := 17) dX6_firstRegister_17 rfl rfl ?_
  refine Rn.iret (pc := 18) rfl dX6_firstRegister_18 ?_
  exact ⟨rfl, rfl⟩

set_option maxRecDepth 20000 in
set_option maxHeartbeats 4000000 in
theorem k_move (G : GX) {n : Nat} {L : Nat → Nat} {M : Mem} (h : TxOK n L M) (t : KS) (ht : cOK n t) (j : Nat) (hj : j < 49) : MetM G yX6_move iX6_move [vR 5 0, vR 51 j] (wD M t) (fun r M' => r = some (vI (cMv L n (mnCn j) (mnXn j) t).1) ∧ M' = wD M (cMv L n (mnCn j) (mnXn j) t).2) := by
  refine MetM.of (ls := [some (vR 5 0), some (vR 51 j), none]) (by decide) rfl (Nat.le_of_ble_eq_true rfl) rfl ?_
  intro hM0
  have hq2 := h.2.2.1
  have ht1 := ht.1
  have ht2 := ht.2
  obtain ⟨⟨hF1, hF2⟩, ⟨hC1, hC2⟩, hX1, hX2⟩ := mn_all j hj
  refine Rn.aload_n (pc := 0) dX6_move_0 rfl rfl ?_
  refine Rn.callV (pc := 1) (as := []) cvX6_140 ⟨by decide, rfl⟩ ⟨by decide, by decide⟩ dX6_move_1 (Nat.le_of_ble_eq_true rfl) rfl (k_firstRegister G h t ht) ?_
  rintro _ _ ⟨rfl, rfl⟩
  refine Rn.istore_n (pc := 4) dX6_move_4 rfl (by decide) rfl st3_2 ?_
  refine Rn.aload_n (pc := 5) dX6_move_5 rfl rfl ?_
  refine Rn.getR (pc := 6) flX6_12 mu5_0 fx5_0 dX6_move_6 ?_
  refine Rn.bipush (pc := 9) (v := nI 35) dX6_move_9 (by decide) ?_
  refine Rn.callV (pc := 11) (as := [_]) cvX6_77 ⟨by decide, rfl⟩ ⟨by decide, by decide⟩ dX6_move_11 (Nat.le_of_ble_eq_true rfl) rfl (k_accept G h (cFR L n t).2 (cFR_ok ht) 35 (by decide)) ?_
  rintro _ _ ⟨rfl, rfl⟩
  refine Rn.if_eqB (pc := 14) (tgt := 40) dX6_move_14 (by decide) (fun c14 => ?_) (fun c14 => ?_)
  · rw [cAcc, if_neg (by rw [c14]; decide)]
    refine Rn.aload_n (pc := 40) dX6_move_40 rfl rfl ?_
    refine Rn.get_code (pc := 41) wfX6_94 dX6_move_41 ?_
    rw [hC1]
    refine Rn.bipush (pc := 44) (v := nI 8) dX6_move_44 (by decide) ?_
    refine Rn.aload_n (pc := 46) dX6_move_46 rfl rfl ?_
    refine Rn.getR (pc := 47) flX6_12 mu5_0 fx5_0 dX6_move_47 ?_
    refine Rn.callV (pc := 50) (as := []) cvX6_167 ⟨by decide, rfl⟩ ⟨by decide, by decide⟩ dX6_move_50 (Nat.le_of_ble_eq_true rfl) rfl (k_register G h (cFR L n t).2 (cFR_ok ht)) ?_
    rintro _ _ ⟨rfl, rfl⟩
    refine Rn.imulN (pc := 53) dX6_move_53 ?_
    refine Rn.iaddN (pc := 54) dX6_move_54 ?_
    refine Rn.iload_n (pc := 55) dX6_move_55 rfl rfl ?_
    refine Rn.iaddN (pc := 56) dX6_move_56 ?_
    refine Rn.iret (pc := 57) rfl dX6_move_57 ?_
    unfold cMv; rw [if_neg (by rw [c14]; decide)]; exact ⟨rfl, rfl⟩
  · rw [cAcc, if_pos c14]
    refine Rn.aload_n (pc := 17) dX6_move_17 rfl rfl ?_
    refine Rn.get_extra (pc := 18) wfX6_150 dX6_move_18 ?_
    rw [hX1]
    refine Rn.sipush (pc := 21) (v := nI 256) dX6_move_21 (by decide) ?_
    refine Rn.iload_n (pc := 24) dX6_move_24 rfl rfl ?_
    refine Rn.imulN (pc := 25) dX6_move_25 ?_
    refine Rn.iaddN (pc := 26) dX6_move_26 ?_
    refine Rn.aload_n (pc := 27) dX6_move_27 rfl rfl ?_
    refine Rn.getR (pc := 28) flX6_12 mu5_0 fx5_0 dX6_move_28 ?_
    refine Rn.iconst (pc := 31) (v := nI 0) dX6_move_31 (by decide) ?_
    refine Rn.sipush (pc := 32) (v := nI 255) dX6_move_32 (by decide) ?_
    refine Rn.callV (pc := 35) (as := [_, _]) cvX6_109 ⟨by decide, rfl⟩ ⟨by decide, by decide⟩ dX6_move_35 (Nat.le_of_ble_eq_true rfl) rfl (k_number G h (cStep L n (cFR L n t).2) (cStep_ok (cFR_ok ht)) (nI 0) (nI 255)) ?_
    rintro _ _ ⟨rfl, rfl⟩
    refine Rn.iadd (pc := 38) dX6_move_38 ?_
    refine Rn.iret (pc := 39) rfl dX6_move_39 ?_
    unfold cMv; rw [if_pos c14]; exact ⟨rfl, rfl⟩

set_option maxRecDepth 20000 in
set_option maxHeartbeats 4000000 in
theorem k_sum (G : GX) {n : Nat} {L : Nat → Nat} {M : Mem} (h : TxOK n L M) (t : KS) (ht : cOK n t) (j : Nat) (hj : j < 49) : MetM G yX6_sum iX6_sum [vR 5 0, vR 51 j] (wD M t) (fun r M' => r = some (vI (cSm L n (mnCn j) (mnXn j) t).1) ∧ M' = wD M (cSm L n (mnCn j) (mnXn j) t).2) := by
  refine MetM.of (ls := [some (vR 5 0), some (vR 51 j), none, none]) (by decide) rfl (Nat.le_of_ble_eq_true rfl) rfl ?_
  intro hM0
  have hq2 := h.2.2.1
  have ht1 := ht.1
  have ht2 := ht.2
  obtain ⟨⟨hF1, hF2⟩, ⟨hC1, hC2⟩, hX1, hX2⟩ := mn_all j hj
  refine Rn.aload_n (pc := 0) dX6_sum_0 rfl rfl ?_
  refine Rn.callV (pc := 1) (as := []) cvX6_140 ⟨by decide, rfl⟩ ⟨by decide, by decide⟩ dX6_sum_1 (Nat.le_of_ble_eq_true rfl) rfl (k_firstRegister G h t ht) ?_
  rintro _ _ ⟨rfl, rfl⟩
  refine Rn.istore_n (pc := 4) dX6_sum_4 rfl (by decide) rfl st4_2 ?_
  refine Rn.aload_n (pc := 5) dX6_sum_5 rfl rfl ?_
  refine Rn.getR (pc := 6) flX6_12 mu5_0 fx5_0 dX6_sum_6 ?_
  refine Rn.bipush (pc := 9) (v := nI 35) dX6_sum_9 (by decide) ?_
  refine Rn.callV (pc := 11) (as := [_]) cvX6_77 ⟨by decide, rfl⟩ ⟨by decide, by decide⟩ dX6_sum_11 (Nat.le_of_ble_eq_true rfl) rfl (k_accept G h (cFR L n t).2 (cFR_ok ht) 35 (by decide)) ?_
  rintro _ _ ⟨rfl, rfl⟩
  refine Rn.if_eqB (pc := 14) (tgt := 40) dX6_sum_14 (by decide) (fun c14 => ?_) (fun c14 => ?_)
  · rw [cAcc, if_neg (by rw [c14]; decide)]
    refine Rn.aload_n (pc := 40) dX6_sum_40 rfl rfl ?_
    refine Rn.getR (pc := 41) flX6_12 mu5_0 fx5_0 dX6_sum_41 ?_
    refine Rn.callV (pc := 44) (as := []) cvX6_167 ⟨by decide, rfl⟩ ⟨by decide, by decide⟩ dX6_sum_44 (Nat.le_of_ble_eq_true rfl) rfl (k_register G h (cFR L n t).2 (cFR_ok ht)) ?_
    rintro _ _ ⟨rfl, rfl⟩
    refine Rn.istore_n (pc := 47) dX6_sum_47 rfl (by decide) rfl st4_3 ?_
    refine Rn.aload_n (pc := 48) dX6_sum_48 rfl rfl ?_
    refine Rn.getR (pc := 49) flX6_12 mu5_0 fx5_0 dX6_sum_49 ?_
    refine Rn.bipush (pc := 52) (v := nI 44) dX6_sum_52 (by decide) ?_
    refine Rn.callV (pc := 54) (as := [_]) cvX6_170 ⟨by decide, rfl⟩ ⟨by decide, by decide⟩ dX6_sum_54 (Nat.le_of_ble_eq_true rfl) rfl (k_expect G h (cReg L n (cFR L n t).2).2 (cReg_ok (cFR_ok ht)) 44 (by decide)) ?_
    rintro _ _ ⟨rfl, rfl⟩
    rw [show cExp L n 44 (cReg L n (cFR L n t).2).2 = cS3 L n t from rfl]
    refine Rn.aload_n (pc := 57) dX6_sum_57 rfl rfl ?_
    refine Rn.getR (pc := 58) flX6_12 mu5_0 fx5_0 dX6_sum_58 ?_
    refine Rn.bipush (pc := 61) (v := nI 35) dX6_sum_61 (by decide) ?_
    refine Rn.callV (pc := 63) (as := [_]) cvX6_77 ⟨by decide, rfl⟩ ⟨by decide, by decide⟩ dX6_sum_63 (Nat.le_of_ble_eq_true rfl) rfl (k_accept G h (cS3 L n t) (cS3_ok ht) 35 (by decide)) ?_
    rintro _ _ ⟨rfl, rfl⟩
    refine Rn.if_eqB (pc := 66) (tgt := 99) dX6_sum_66 (by decide) (fun c66 => ?_) (fun c66 => ?_)
    · rw [cAcc, if_neg (by rw [c66]; decide)]
      refine Rn.aload_n (pc := 99) dX6_sum_99 rfl rfl ?_
      refine Rn.get_code (pc := 100) wfX6_94 dX6_sum_100 ?_
      rw [hC1]
      refine Rn.bipush (pc := 103) (v := nI 64) dX6_sum_103 (by decide) ?_
      refine Rn.aload_n (pc := 105) dX6_sum_105 rfl rfl ?_
      refine Rn.getR (pc := 106) flX6_12 mu5_0 fx5_0 dX6_sum_106 ?_
      refine Rn.callV (pc := 109) (as := []) cvX6_167 ⟨by decide, rfl⟩ ⟨by decide, by decide⟩ dX6_sum_109 (Nat.le_of_ble_eq_true rfl) rfl (k_register G h (cS3 L n t) (cS3_ok ht)) ?_
      rintro _ _ ⟨rfl, rfl⟩
      refine Rn.imulN (pc := 112) dX6_sum_112 ?_
      refine Rn.iaddN (pc := 113) dX6_sum_113 ?_
      refine Rn.bipush (pc := 114) (v := nI 8) dX6_sum_114 (by decide) ?_
      refine Rn.iload_n (pc := 116) dX6_sum_116 rfl rfl ?_
      refine Rn.imulN (pc := 117) dX6_sum_117 ?_
      refine Rn.iaddN (pc := 118) dX6_sum_118 ?_
      refine Rn.iload_n (pc := 119) dX6_sum_119 rfl rfl ?_
      refine Rn.iaddN (pc := 120) dX6_sum_120 ?_
      refine Rn.iret (pc := 121) rfl dX6_sum_121 ?_
      unfold cSm; rw [if_neg (by rw [c14]; decide), if_neg (by rw [c66]; decide)]; exact ⟨rfl, rfl⟩
    · rw [cAcc, if_pos c66]
      refine Rn.aload_n (pc := 69) dX6_sum_69 rfl rfl ?_
      refine Rn.get_code (pc := 70) wfX6_94 dX6_sum_70 ?_
      rw [hC1]
      refine Rn.sipush (pc := 73) (v := nI 1024) dX6_sum_73 (by decide) ?_
      refine Rn.iaddN (pc := 76) dX6_sum_76 ?_
      refine Rn.bipush (pc := 77) (v := nI 64) dX6_sum_77 (by decide) ?_
      refine Rn.aload_n (pc := 79) dX6_sum_79 rfl rfl ?_
      refine Rn.getR (pc := 80) flX6_12 mu5_0 fx5_0 dX6_sum_80 ?_
      refine Rn.iconst (pc := 83) (v := nI 0) dX6_sum_83 (by decide) ?_
      refine Rn.bipush (pc := 84) (v := nI 7) dX6_sum_84 (by decide) ?_
      refine Rn.callV (pc := 86) (as := [_, _]) cvX6_109 ⟨by decide, rfl⟩ ⟨by decide, by decide⟩ dX6_sum_86 (Nat.le_of_ble_eq_true rfl) rfl (k_number G h (cStep L n (cS3 L n t)) (cStep_ok (cS3_ok ht)) (nI 0) (nI 7)) ?_
      rintro _ _ ⟨rfl, rfl⟩
      refine Rn.imul (pc := 89) dX6_sum_89 ?_
      refine Rn.iadd (pc := 90) dX6_sum_90 ?_
      refine Rn.bipush (pc := 91) (v := nI 8) dX6_sum_91 (by decide) ?_
      refine Rn.iload_n (pc := 93) dX6_sum_93 rfl rfl ?_
      refine Rn.imulN (pc := 94) dX6_sum_94 ?_
      refine Rn.iadd (pc := 95) dX6_sum_95 ?_
      refine Rn.iload_n (pc := 96) dX6_sum_96 rfl rfl ?_
      refine Rn.iadd (pc := 97) dX6_sum_97 ?_
      refine Rn.iret (pc := 98) rfl dX6_sum_98 ?_
      unfold cSm; rw [if_neg (by rw [c14]; decide), if_pos c66]; exact ⟨rfl, rfl⟩
  · rw [cAcc, if_pos c14]
    refine Rn.aload_n (pc := 17) dX6_sum_17 rfl rfl ?_
    refine Rn.get_extra (pc := 18) wfX6_150 dX6_sum_18 ?_
    rw [hX1]
    refine Rn.sipush (pc := 21) (v := nI 256) dX6_sum_21 (by decide) ?_
    refine Rn.iload_n (pc := 24) dX6_sum_24 rfl rfl ?_
    refine Rn.imulN (pc := 25) dX6_sum_25 ?_
    refine Rn.iaddN (pc := 26) dX6_sum_26 ?_
    refine Rn.aload_n (pc := 27) dX6_sum_27 rfl rfl ?_
    refine Rn.getR (pc := 28) flX6_12 mu5_0 fx5_0 dX6_sum_28 ?_
    refine Rn.iconst (pc := 31) (v := nI 0) dX6_sum_31 (by decide) ?_
    refine Rn.sipush (pc := 32) (v := nI 255) dX6_sum_32 (by decide) ?_
    refine Rn.callV (pc := 35) (as := [_, _]) cvX6_109 ⟨by decide, rfl⟩ ⟨by decide, by decide⟩ dX6_sum_35 (Nat.le_of_ble_eq_true rfl) rfl (k_number G h (cStep L n (cFR L n t).2) (cStep_ok (cFR_ok ht)) (nI 0) (nI 255)) ?_
    rintro _ _ ⟨rfl, rfl⟩
    refine Rn.iadd (pc := 38) dX6_sum_38 ?_
    refine Rn.iret (pc := 39) rfl dX6_sum_39 ?_
    unfold cSm; rw [if_pos c14]; exact ⟨rfl, rfl⟩

set_option maxRecDepth 20000 in
set_option maxHeartbeats 4000000 in
theorem k_shift (G : GX) {n : Nat} {L : Nat → Nat} {M : Mem} (h : TxOK n L M) (t : KS) (ht : cOK n t) (j : Nat) (hj : j < 49) : MetM G yX6_shift iX6_shift [vR 5 0, vR 51 j] (wD M t) (fun r M' => r = some (vI (cSh L n (mnCn j) (mnXn j) t).1) ∧ M' = wD M (cSh L n (mnCn j) (mnXn j) t).2) := by
  refine MetM.of (ls := [some (vR 5 0), some (vR 51 j), none, none, none]) (by decide) rfl (Nat.le_of_ble_eq_true rfl) rfl ?_
  intro hM0
  have hq2 := h.2.2.1
  have ht1 := ht.1
  have ht2 := ht.2
  obtain ⟨⟨hF1, hF2⟩, ⟨hC1, hC2⟩, hX1, hX2⟩ := mn_all j hj
  refine Rn.aload_n (pc := 0) dX6_shift_0 rfl rfl ?_
  refine Rn.callV (pc := 1) (as := []) cvX6_140 ⟨by decide, rfl⟩ ⟨by decide, by decide⟩ dX6_shift_1 (Nat.le_of_ble_eq_true rfl) rfl (k_firstRegister G h t ht) ?_
  rintro _ _ ⟨rfl, rfl⟩
  refine Rn.istore_n (pc := 4) dX6_shift_4 rfl (by decide) rfl st5_2 ?_
  refine Rn.aload_n (pc := 5) dX6_shift_5 rfl rfl ?_
  refine Rn.getR (pc := 6) flX6_12 mu5_0 fx5_0 dX6_shift_6 ?_
  refine Rn.callV (pc := 9) (as := []) cvX6_167 ⟨by decide, rfl⟩ ⟨by decide, by decide⟩ dX6_shift_9 (Nat.le_of_ble_eq_true rfl) rfl (k_register G h (cFR L n t).2 (cFR_ok ht)) ?_
  rintro _ _ ⟨rfl, rfl⟩
  refine Rn.istore_n (pc := 12) dX6_shift_12 rfl (by decide) rfl st5_3 ?_
  refine Rn.aload_n (pc := 13) dX6_shift_13 rfl rfl ?_
  refine Rn.getR (pc := 14) flX6_12 mu5_0 fx5_0 dX6_shift_14 ?_
  refine Rn.bipush (pc := 17) (v := nI 44) dX6_shift_17 (by decide) ?_
  refine Rn.callV (pc := 19) (as := [_]) cvX6_170 ⟨by decide, rfl⟩ ⟨by decide, by decide⟩ dX6_shift_19 (Nat.le_of_ble_eq_true rfl) rfl (k_expect G h (cReg L n (cFR L n t).2).2 (cReg_ok (cFR_ok ht)) 44 (by decide)) ?_
  rintro _ _ ⟨rfl, rfl⟩
  rw [show cExp L n 44 (cReg L n (cFR L n t).2).2 = cS3 L n t from rfl]
  refine Rn.aload_n (pc := 22) dX6_shift_22 rfl rfl ?_
  refine Rn.getR (pc := 23) flX6_12 mu5_0 fx5_0 dX6_shift_23 ?_
  refine Rn.bipush (pc := 26) (v := nI 35) dX6_shift_26 (by decide) ?_
  refine Rn.callV (pc := 28) (as := [_]) cvX6_170 ⟨by decide, rfl⟩ ⟨by decide, by decide⟩ dX6_shift_28 (Nat.le_of_ble_eq_true rfl) rfl (k_expect G h (cS3 L n t) (cS3_ok ht) 35 (by decide)) ?_
  rintro _ _ ⟨rfl, rfl⟩
  refine Rn.aload_n (pc := 31) dX6_shift_31 rfl rfl ?_
  refine Rn.getR (pc := 32) flX6_12 mu5_0 fx5_0 dX6_shift_32 ?_
  refine Rn.aload_n (pc := 35) dX6_shift_35 rfl rfl ?_
  refine Rn.get_extra (pc := 36) wfX6_150 dX6_shift_36 ?_
  rw [hX1]
  refine Rn.aload_n (pc := 39) dX6_shift_39 rfl rfl ?_
  refine Rn.get_extra (pc := 40) wfX6_150 dX6_shift_40 ?_
  rw [hX1]
  refine Rn.bipush (pc := 43) (v := nI 31) dX6_shift_43 (by decide) ?_
  refine Rn.iaddN (pc := 45) dX6_shift_45 ?_
  refine Rn.callV (pc := 46) (as := [_, _]) cvX6_109 ⟨by decide, rfl⟩ ⟨by decide, by decide⟩ dX6_shift_46 (Nat.le_of_ble_eq_true rfl) rfl (k_number G h (cExp L n 35 (cS3 L n t)) (cExp_ok (cS3_ok ht)) (nI (mnXn j)) (nI (mnXn j + 31))) ?_
  rintro _ _ ⟨rfl, rfl⟩
  refine Rn.istore (pc := 49) dX6_shift_49 (by decide) rfl st5_4 ?_
  refine Rn.aload_n (pc := 51) dX6_shift_51 rfl rfl ?_
  refine Rn.get_code (pc := 52) wfX6_94 dX6_shift_52 ?_
  rw [hC1]
  refine Rn.bipush (pc := 55) (v := nI 64) dX6_shift_55 (by decide) ?_
  refine Rn.iload (pc := 57) dX6_shift_57 rfl ?_
  refine Rn.bipush (pc := 59) (v := nI 31) dX6_shift_59 (by decide) ?_
  refine Rn.iand (pc := 61) dX6_shift_61 ?_
  refine Rn.imul (pc := 62) dX6_shift_62 ?_
  refine Rn.iadd (pc := 63) dX6_shift_63 ?_
  refine Rn.bipush (pc := 64) (v := nI 8) dX6_shift_64 (by decide) ?_
  refine Rn.iload_n (pc := 66) dX6_shift_66 rfl rfl ?_
  refine Rn.imulN (pc := 67) dX6_shift_67 ?_
  refine Rn.iadd (pc := 68) dX6_shift_68 ?_
  refine Rn.iload_n (pc := 69) dX6_shift_69 rfl rfl ?_
  refine Rn.iadd (pc := 70) dX6_shift_70 ?_
  refine Rn.iret (pc := 71) rfl dX6_shift_71 ?_
  exact ⟨rfl, rfl⟩

set_option maxRecDepth 20000 in
set_option maxHeartbeats 4000000 in
theorem k_pair (G : GX) {n : Nat} {L : Nat → Nat} {M : Mem} (h : TxOK n L M) (t : KS) (ht : cOK n t) (j : Nat) (hj : j < 49) : MetM G yX6_pair iX6_pair [vR 5 0, vR 51 j] (wD M t) (fun r M' => r = some (vI (cPr L n (mnCn j) t).1) ∧ M' = wD M (cPr L n (mnCn j) t).2) := by
  refine MetM.of (ls := [some (vR 5 0), some (vR 51 j), none]) (by decide) rfl (Nat.le_of_ble_eq_true rfl) rfl ?_
  intro hM0
  have hq2 := h.2.2.1
  have ht1 := ht.1
  have ht2 := ht.2
  obtain ⟨⟨hF1, hF2⟩, ⟨hC1, hC2⟩, hX1, hX2⟩ := mn_all j hj
  refine Rn.aload_n (pc := 0) dX6_pair_0 rfl rfl ?_
  refine Rn.callV (pc := 1) (as := []) cvX6_140 ⟨by decide, rfl⟩ ⟨by decide, by decide⟩ dX6_pair_1 (Nat.le_of_ble_eq_true rfl) rfl (k_firstRegister G h t ht) ?_
  rintro _ _ ⟨rfl, rfl⟩
  refine Rn.istore_n (pc := 4) dX6_pair_4 rfl (by decide) rfl st3_2 ?_
  refine Rn.aload_n (pc := 5) dX6_pair_5 rfl rfl ?_
  refine Rn.get_code (pc := 6) wfX6_94 dX6_pair_6 ?_
  rw [hC1]
  refine Rn.bipush (pc := 9) (v := nI 8) dX6_pair_9 (by decide) ?_
  refine Rn.aload_n (pc := 11) dX6_pair_11 rfl rfl ?_
  refine Rn.getR (pc := 12) flX6_12 mu5_0 fx5_0 dX6_pair_12 ?_
  refine Rn.callV (pc := 15) (as := []) cvX6_167 ⟨by decide, rfl⟩ ⟨by decide, by decide⟩ dX6_pair_15 (Nat.le_of_ble_eq_true rfl) rfl (k_register G h (cFR L n t).2 (cFR_ok ht)) ?_
  rintro _ _ ⟨rfl, rfl⟩
  refine Rn.imulN (pc := 18) dX6_pair_18 ?_
  refine Rn.iaddN (pc := 19) dX6_pair_19 ?_
  refine Rn.iload_n (pc := 20) dX6_pair_20 rfl rfl ?_
  refine Rn.iaddN (pc := 21) dX6_pair_21 ?_
  refine Rn.iret (pc := 22) rfl dX6_pair_22 ?_
  exact ⟨rfl, rfl⟩

set_option maxRecDepth 20000 in
set_option maxHeartbeats 4000000 in
theorem k_memory (G : GX) {n : Nat} {L : Nat → Nat} {M : Mem} (h : TxOK n L M) (t : KS) (ht : cOK n t) (sh : Nat) : MetM G yX6_memory iX6_memory [vR 5 0, vI (nI sh)] (wD M t) (fun r M' => r = some (vI (cMe L n sh t).1) ∧ M' = wD M (cMe L n sh t).2) := by
  refine MetM.of (ls := [some (vR 5 0), some (vI (nI sh)), none, none, none]) (by decide) rfl (Nat.le_of_ble_eq_true rfl) rfl ?_
  intro hM0
  have hq2 := h.2.2.1
  have ht1 := ht.1
  have ht2 := ht.2
  refine Rn.aload_n (pc := 0) dX6_memory_0 rfl rfl ?_
  refine Rn.getR (pc := 1) flX6_12 mu5_0 fx5_0 dX6_memory_1 ?_
  refine Rn.bipush (pc := 4) (v := nI 91) dX6_memory_4 (by decide) ?_
  refine Rn.callV (pc := 6) (as := [_]) cvX6_170 ⟨by decide, rfl⟩ ⟨by decide, by decide⟩ dX6_memory_6 (Nat.le_of_ble_eq_true rfl) rfl (k_expect G h t ht 91 (by decide)) ?_
  rintro _ _ ⟨rfl, rfl⟩
  refine Rn.aload_n (pc := 9) dX6_memory_9 rfl rfl ?_
  refine Rn.getR (pc := 10) flX6_12 mu5_0 fx5_0 dX6_memory_10 ?_
  refine Rn.callV (pc := 13) (as := []) cvX6_167 ⟨by decide, rfl⟩ ⟨by decide, by decide⟩ dX6_memory_13 (Nat.le_of_ble_eq_true rfl) rfl (k_register G h (cExp L n 91 t) (cExp_ok ht)) ?_
  rintro _ _ ⟨rfl, rfl⟩
  refine Rn.istore_n (pc := 16) dX6_memory_16 rfl (by decide) rfl st5_2 ?_
  refine Rn.aload_n (pc := 17) dX6_memory_17 rfl rfl ?_
  refine Rn.getR (pc := 18) flX6_12 mu5_0 fx5_0 dX6_memory_18 ?_
  refine Rn.bipush (pc := 21) (v := nI 44) dX6_memory_21 (by decide) ?_
  refine Rn.callV (pc := 23) (as := [_]) cvX6_170 ⟨by decide, rfl⟩ ⟨by decide, by decide⟩ dX6_memory_23 (Nat.le_of_ble_eq_true rfl) rfl (k_expect G h (cM1 L n t).2 (cM1_ok ht) 44 (by decide)) ?_
  rintro _ _ ⟨rfl, rfl⟩
  refine Rn.aload_n (pc := 26) dX6_memory_26 rfl rfl ?_
  refine Rn.getR (pc := 27) flX6_12 mu5_0 fx5_0 dX6_memory_27 ?_
  refine Rn.bipush (pc := 30) (v := nI 35) dX6_memory_30 (by decide) ?_
  refine Rn.callV (pc := 32) (as := [_]) cvX6_170 ⟨by decide, rfl⟩ ⟨by decide, by decide⟩ dX6_memory_32 (Nat.le_of_ble_eq_true rfl) rfl (k_expect G h (cExp L n 44 (cM1 L n t).2) (cExp_ok (cM1_ok ht)) 35 (by decide)) ?_
  rintro _ _ ⟨rfl, rfl⟩
  refine Rn.aload_n (pc := 35) dX6_memory_35 rfl rfl ?_
  refine Rn.getR (pc := 36) flX6_12 mu5_0 fx5_0 dX6_memory_36 ?_
  refine Rn.getI (pc := 39) (t := 0) flX6_35 (show mI (wD M (cM2 L n t)) 6 0 2 = nI (cM2 L n t).1 from rfl) dX6_memory_39 ?_
  refine Rn.istore_n (pc := 42) dX6_memory_42 rfl (by decide) rfl st5_3 ?_
  refine Rn.aload_n (pc := 43) dX6_memory_43 rfl rfl ?_
  refine Rn.getR (pc := 44) flX6_12 mu5_0 fx5_0 dX6_memory_44 ?_
  refine Rn.iconst (pc := 47) (v := nI 0) dX6_memory_47 (by decide) ?_
  refine Rn.bipush (pc := 48) (v := nI 31) dX6_memory_48 (by decide) ?_
  refine Rn.iload_n (pc := 50) dX6_memory_50 rfl rfl ?_
  refine Rn.ishl (pc := 51) dX6_memory_51 ?_
  refine Rn.callV (pc := 52) (as := [_, _]) cvX6_109 ⟨by decide, rfl⟩ ⟨by decide, by decide⟩ dX6_memory_52 (Nat.le_of_ble_eq_true rfl) rfl (k_number G h (cM2 L n t) (cM2_ok ht) (nI 0) (nI 31 <<< (nI sh &&& 31))) ?_
  rintro _ _ ⟨rfl, rfl⟩
  refine Rn.istore (pc := 55) dX6_memory_55 (by decide) rfl st5_4 ?_
  refine Rn.iload (pc := 57) dX6_memory_57 rfl ?_
  refine Rn.iload_n (pc := 59) dX6_memory_59 rfl rfl ?_
  refine Rn.ishr (pc := 60) dX6_memory_60 ?_
  refine Rn.iload_n (pc := 61) dX6_memory_61 rfl rfl ?_
  refine Rn.ishl (pc := 62) dX6_memory_62 ?_
  refine Rn.iload (pc := 63) dX6_memory_63 rfl ?_
  refine Rn.icmp_eq (pc := 65) (tgt := 78) dX6_memory_65 (by decide) (fun c65 => ?_) (fun c65 => ?_)
  · refine Rn.aload_n (pc := 78) dX6_memory_78 rfl rfl ?_
    refine Rn.getR (pc := 79) flX6_12 mu5_0 fx5_0 dX6_memory_79 ?_
    refine Rn.bipush (pc := 82) (v := nI 93) dX6_memory_82 (by decide) ?_
    refine Rn.callV (pc := 84) (as := [_]) cvX6_170 ⟨by decide, rfl⟩ ⟨by decide, by decide⟩ dX6_memory_84 (Nat.le_of_ble_eq_true rfl) rfl (k_expect G h (cM3 L n sh t).2 (cM3_ok ht) 93 (by decide)) ?_
    rintro _ _ ⟨rfl, rfl⟩
    refine Rn.bipush (pc := 87) (v := nI 64) dX6_memory_87 (by decide) ?_
    refine Rn.iload (pc := 89) dX6_memory_89 rfl ?_
    refine Rn.iload_n (pc := 91) dX6_memory_91 rfl rfl ?_
    refine Rn.ishr (pc := 92) dX6_memory_92 ?_
    refine Rn.imul (pc := 93) dX6_memory_93 ?_
    refine Rn.bipush (pc := 94) (v := nI 8) dX6_memory_94 (by decide) ?_
    refine Rn.iload_n (pc := 96) dX6_memory_96 rfl rfl ?_
    refine Rn.imulN (pc := 97) dX6_memory_97 ?_
    refine Rn.iadd (pc := 98) dX6_memory_98 ?_
    refine Rn.iret (pc := 99) rfl dX6_memory_99 ?_
    have c9 : ((cM3 L n sh t).1 >>> (nI sh &&& 31) <<< (nI sh &&& 31) = (cM3 L n sh t).1) := c65
    unfold cMe; rw [if_pos c9]; exact ⟨rfl, rfl⟩
  · refine Rn.aload_n (pc := 68) dX6_memory_68 rfl rfl ?_
    refine Rn.getR (pc := 69) flX6_12 mu5_0 fx5_0 dX6_memory_69 ?_
    refine Rn.bipush (pc := 72) (v := -4) dX6_memory_72 (by decide) ?_
    refine Rn.iload_n (pc := 74) dX6_memory_74 rfl rfl ?_
    refine Rn.callV (pc := 75) (as := [_, _]) cvX6_46 ⟨by decide, rfl⟩ ⟨by decide, by decide⟩ dX6_memory_75 (Nat.le_of_ble_eq_true rfl) rfl (k_failD G (cM3 L n sh t).2 (-4) (nI (cM2 L n t).1)) ?_
    rintro _ _ ⟨rfl, rfl⟩
    refine Rn.aload_n (pc := 78) dX6_memory_78 rfl rfl ?_
    refine Rn.getR (pc := 79) flX6_12 mu5_0 fx5_0 dX6_memory_79 ?_
    refine Rn.bipush (pc := 82) (v := nI 93) dX6_memory_82 (by decide) ?_
    refine Rn.callV (pc := 84) (as := [_]) cvX6_170 ⟨by decide, rfl⟩ ⟨by decide, by decide⟩ dX6_memory_84 (Nat.le_of_ble_eq_true rfl) rfl (k_expect G h (cFail (cM3 L n sh t).2 (-4) (nI (cM2 L n t).1)) (cFail_ok (cM3_ok ht)) 93 (by decide)) ?_
    rintro _ _ ⟨rfl, rfl⟩
    refine Rn.bipush (pc := 87) (v := nI 64) dX6_memory_87 (by decide) ?_
    refine Rn.iload (pc := 89) dX6_memory_89 rfl ?_
    refine Rn.iload_n (pc := 91) dX6_memory_91 rfl rfl ?_
    refine Rn.ishr (pc := 92) dX6_memory_92 ?_
    refine Rn.imul (pc := 93) dX6_memory_93 ?_
    refine Rn.bipush (pc := 94) (v := nI 8) dX6_memory_94 (by decide) ?_
    refine Rn.iload_n (pc := 96) dX6_memory_96 rfl rfl ?_
    refine Rn.imulN (pc := 97) dX6_memory_97 ?_
    refine Rn.iadd (pc := 98) dX6_memory_98 ?_
    refine Rn.iret (pc := 99) rfl dX6_memory_99 ?_
    have c9 : ¬ ((cM3 L n sh t).1 >>> (nI sh &&& 31) <<< (nI sh &&& 31) = (cM3 L n sh t).1) := c65
    unfold cMe; rw [if_neg c9]; exact ⟨rfl, rfl⟩

def cXc (L : Nat → Nat) (n : Nat) (t : KS) : Nat × KS := if swB L t.1 t.2.1 49 = true then (14, cStep L n t) else cReg L n t
theorem cXc_ok {L : Nat → Nat} {n : Nat} {t : KS} (h : cOK n t) : cOK n (cXc L n t).2 := by
  unfold cXc; split
  · exact cStep_ok h
  · exact cReg_ok h
set_option maxRecDepth 20000 in
set_option maxHeartbeats 4000000 in
theorem k_exchanged (G : GX) {n : Nat} {L : Nat → Nat} {M : Mem} (h : TxOK n L M) (t : KS) (ht : cOK n t) : MetM G yX6_exchanged iX6_exchanged [vR 5 0] (wD M t) (fun r M' => r = some (vI (nI (cXc L n t).1)) ∧ M' = wD M (cXc L n t).2) := by
  refine MetM.of (ls := [some (vR 5 0)]) (by decide) rfl (Nat.le_of_ble_eq_true rfl) rfl ?_
  intro hM0
  have hq2 := h.2.2.1
  have ht1 := ht.1
  have ht2 := ht.2
  refine Rn.aload_n (pc := 0) dX6_exchanged_0 rfl rfl ?_
  refine Rn.getR (pc := 1) flX6_12 mu5_0 fx5_0 dX6_exchanged_1 ?_
  refine Rn.ldcS (pc := 4) (j := 49) (tx := "lr") dX6_exchanged_4 (by decide) (by decide) ?_
  refine Rn.callV (pc := 6) (as := [_]) cvX6_177 ⟨by decide, rfl⟩ ⟨by decide, by decide⟩ dX6_exchanged_6 (Nat.le_of_ble_eq_true rfl) rfl (k_seesWord G h t ht 49 (by decide)) ?_
  rintro _ _ ⟨rfl, rfl⟩
  refine Rn.if_eqB (pc := 9) (tgt := 22) dX6_exchanged_9 (by decide) (fun c9 => ?_) (fun c9 => ?_)
  · refine Rn.aload_n (pc := 22) dX6_exchanged_22 rfl rfl ?_
    refine Rn.getR (pc := 23) flX6_12 mu5_0 fx5_0 dX6_exchanged_23 ?_
    refine Rn.callV (pc := 26) (as := []) cvX6_167 ⟨by decide, rfl⟩ ⟨by decide, by decide⟩ dX6_exchanged_26 (Nat.le_of_ble_eq_true rfl) rfl (k_register G h t ht) ?_
    rintro _ _ ⟨rfl, rfl⟩
    refine Rn.iret (pc := 29) rfl dX6_exchanged_29 ?_
    unfold cXc; rw [if_neg (by rw [c9]; decide)]; exact ⟨rfl, rfl⟩
  · refine Rn.aload_n (pc := 12) dX6_exchanged_12 rfl rfl ?_
    refine Rn.getR (pc := 13) flX6_12 mu5_0 fx5_0 dX6_exchanged_13 ?_
    refine Rn.callV (pc := 16) (as := []) cvX6_55 ⟨by decide, rfl⟩ ⟨by decide, by decide⟩ dX6_exchanged_16 (Nat.le_of_ble_eq_true rfl) rfl (k_stepD G h t ht) ?_
    rintro _ _ ⟨rfl, rfl⟩
    refine Rn.bipush (pc := 19) (v := nI 14) dX6_exchanged_19 (by decide) ?_
    refine Rn.iret (pc := 21) rfl dX6_exchanged_21 ?_
    unfold cXc; rw [if_pos c9]; exact ⟨rfl, rfl⟩

/-- registers that rise, and the last word: what is left to read, the sum, the last register, is there more -/
def cLF (L : Nat → Nat) (n : Nat) (j : Nat) : Nat → Int32 → Int32 → Bool → KS → Int32 × KS
  | 0, b, _, _, t => (b, t)
  | _ + 1, b, _, false, t => (b, t)
  | d + 1, b, lo, true, t =>
    if swB L t.1 t.2.1 j = true then (b + nI 256, cStep L n t)
    else if prV (cRg L t.1 t.2.1) ≤ lo then (b, cFail t (-3) (nI t.1))
    else cLF L n j d (b + nI 1 <<< (prV (cRg L t.1 t.2.1) &&& 31)) (prV (cRg L t.1 t.2.1)) (cSee L n 44 (cStep L n t)) (cAcc L n 44 (cStep L n t))
def cLs (L : Nat → Nat) (n : Nat) (j : Nat) (t : KS) : Int32 × KS := ((cLF L n j 9 (nI 0) (-1) true (cExp L n 123 t)).1, cExp L n 125 (cLF L n j 9 (nI 0) (-1) true (cExp L n 123 t)).2)
theorem cLF_ok {L : Nat → Nat} {n j : Nat} : ∀ (d : Nat) (b lo : Int32) (m : Bool) (t : KS), cOK n t → cOK n (cLF L n j d b lo m t).2
  | 0, _, _, _, _, h => h
  | _ + 1, _, _, false, _, h => h
  | d + 1, b, lo, true, t, h => by
    rw [cLF]
    split
    · exact cStep_ok h
    · split
      · exact cFail_ok h
      · exact cLF_ok d _ _ _ _ (cAcc_ok (cStep_ok h))
theorem cLs_ok {L : Nat → Nat} {n j : Nat} {t : KS} (h : cOK n t) : cOK n (cLs L n j t).2 := cExp_ok (cLF_ok 9 _ _ _ _ (cExp_ok h))
set_option maxRecDepth 20000 in
set_option maxHeartbeats 4000000 in
theorem k_list (G : GX) {n : Nat} {L : Nat → Nat} {M : Mem} (h : TxOK n L M) (t : KS) (ht : cOK n t) (j : Nat) (hj : j < 60) : MetM G yX6_list iX6_list [vR 5 0, vR 52 j] (wD M t) (fun r M' => r = some (vI (cLs L n j t).1) ∧ M' = wD M (cLs L n j t).2) := by
  refine MetM.of (ls := [some (vR 5 0), some (vR 52 j), none, none, none, none, none]) (by decide) rfl (Nat.le_of_ble_eq_true rfl) rfl ?_
  intro hM0
  have hq2 := h.2.2.1
  have ht1 := ht.1
  have ht2 := ht.2
  have E132 : ∀ (b lo : Int32) (m : Bool) (k : Nat) (x6 : Option AV) (u : KS), cOK n u → cLF L n j 9 (nI 0) (-1) true (cExp L n 123 t) = (b, u) → Rn G iX6_list (fun r M' => r = some (vI (cLs L n j t).1) ∧ M' = wD M (cLs L n j t).2) 132 [some (vR 5 0), some (vR 52 j), some (vI b), some (vI lo), some (vI (bI m)), some (vI (nI k)), x6] [] (wD M u) := by
    intro b lo m k x6 u hu hf
    refine Rn.aload_n (pc := 132) dX6_list_132 rfl rfl ?_
    refine Rn.getR (pc := 133) flX6_12 mu5_0 fx5_0 dX6_list_133 ?_
    refine Rn.bipush (pc := 136) (v := nI 125) dX6_list_136 (by decide) ?_
    refine Rn.callV (pc := 138) (as := [_]) cvX6_170 ⟨by decide, rfl⟩ ⟨by decide, by decide⟩ dX6_list_138 (Nat.le_of_ble_eq_true rfl) rfl (k_expect G h u hu 125 (by decide)) ?_
    rintro _ _ ⟨rfl, rfl⟩
    refine Rn.iload_n (pc := 141) dX6_list_141 rfl rfl ?_
    refine Rn.iret (pc := 142) rfl dX6_list_142 ?_
    unfold cLs; rw [hf]; exact ⟨rfl, rfl⟩
  have loop : ∀ (d k : Nat) (b lo : Int32) (m : Bool) (x6 : Option AV) (u : KS), 9 - k = d → k ≤ 9 → cOK n u → cLF L n j 9 (nI 0) (-1) true (cExp L n 123 t) = cLF L n j d b lo m u → Rn G iX6_list (fun r M' => r = some (vI (cLs L n j t).1) ∧ M' = wD M (cLs L n j t).2) 19 [some (vR 5 0), some (vR 52 j), some (vI b), some (vI lo), some (vI (bI m)), some (vI (nI k)), x6] [] (wD M u) := by
    intro d
    induction d with
    | zero =>
      intro k b lo m x6 u hd hk hu hf
      rw [cLF] at hf
      refine Rn.iload (pc := 19) dX6_list_19 rfl ?_
      refine Rn.bipush (pc := 21) (v := nI 9) dX6_list_21 (by decide) ?_
      refine Rn.icmp_geN (pc := 23) (tgt := 132) dX6_list_23 (by decide) (by omega) (by omega) (fun c23 => ?_) (fun c23 => ?_)
      · exact E132 _ _ _ _ _ _ hu hf
      · exact absurd c23 (by omega)
    | succ d ih =>
      intro k b lo m x6 u hd hk hu hf
      cases m with
      | false =>
        refine Rn.iload (pc := 19) dX6_list_19 rfl ?_
        refine Rn.bipush (pc := 21) (v := nI 9) dX6_list_21 (by decide) ?_
        refine Rn.icmp_geN (pc := 23) (tgt := 132) dX6_list_23 (by decide) (by omega) (by omega) (fun c23 => ?_) (fun c23 => ?_)
        · exact absurd c23 (by omega)
        · refine Rn.iload (pc := 26) dX6_list_26 rfl ?_
          refine Rn.if_eqB (pc := 28) (tgt := 132) dX6_list_28 (by decide) (fun c28 => ?_) (fun c28 => ?_)
          · exact E132 _ _ _ _ _ _ hu (by rw [hf, cLF])
          · cases c28
      | true =>
        refine Rn.iload (pc := 19) dX6_list_19 rfl ?_
        refine Rn.bipush (pc := 21) (v := nI 9) dX6_list_21 (by decide) ?_
        refine Rn.icmp_geN (pc := 23) (tgt := 132) dX6_list_23 (by decide) (by omega) (by omega) (fun c23 => ?_) (fun c23 => ?_)
        · exact absurd c23 (by omega)
        · refine Rn.iload (pc := 26) dX6_list_26 rfl ?_
          refine Rn.if_eqB (pc := 28) (tgt := 132) dX6_list_28 (by decide) (fun c28 => ?_) (fun c28 => ?_)
          · cases c28
          · refine Rn.aload_n (pc := 31) dX6_list_31 rfl rfl ?_
            refine Rn.getR (pc := 32) flX6_12 mu5_0 fx5_0 dX6_list_32 ?_
            refine Rn.callV (pc := 35) (as := []) cvX6_174 ⟨by decide, rfl⟩ ⟨by decide, by decide⟩ dX6_list_35 (Nat.le_of_ble_eq_true rfl) rfl (k_seenRegister G h u hu) ?_
            rintro _ _ ⟨rfl, rfl⟩
            refine Rn.istore (pc := 38) dX6_list_38 (by decide) rfl st7_6 ?_
            refine Rn.aload_n (pc := 40) dX6_list_40 rfl rfl ?_
            refine Rn.getR (pc := 41) flX6_12 mu5_0 fx5_0 dX6_list_41 ?_
            refine Rn.aload_n (pc := 44) dX6_list_44 rfl rfl ?_
            refine Rn.callV (pc := 45) (as := [_]) cvX6_177 ⟨by decide, rfl⟩ ⟨by decide, by decide⟩ dX6_list_45 (Nat.le_of_ble_eq_true rfl) rfl (k_seesWord G h u hu j hj) ?_
            rintro _ _ ⟨rfl, rfl⟩
            refine Rn.if_eqB (pc := 48) (tgt := 70) dX6_list_48 (by decide) (fun c48 => ?_) (fun c48 => ?_)
            · refine Rn.iload (pc := 70) dX6_list_70 rfl ?_
              refine Rn.iload_n (pc := 72) dX6_list_72 rfl rfl ?_
              refine Rn.icmp_le (pc := 73) (tgt := 107) dX6_list_73 (by decide) (fun c73 => ?_) (fun c73 => ?_)
              · refine Rn.aload_n (pc := 107) dX6_list_107 rfl rfl ?_
                refine Rn.getR (pc := 108) flX6_12 mu5_0 fx5_0 dX6_list_108 ?_
                refine Rn.bipush (pc := 111) (v := -3) dX6_list_111 (by decide) ?_
                refine Rn.aload_n (pc := 113) dX6_list_113 rfl rfl ?_
                refine Rn.getR (pc := 114) flX6_12 mu5_0 fx5_0 dX6_list_114 ?_
                refine Rn.getI (pc := 117) (t := 0) flX6_35 (show mI (wD M u) 6 0 2 = nI u.1 from rfl) dX6_list_117 ?_
                refine Rn.callV (pc := 120) (as := [_, _]) cvX6_46 ⟨by decide, rfl⟩ ⟨by decide, by decide⟩ dX6_list_120 (Nat.le_of_ble_eq_true rfl) rfl (k_failD G u (-3) (nI u.1)) ?_
                rintro _ _ ⟨rfl, rfl⟩
                refine Rn.iconst (pc := 123) (v := nI 0) dX6_list_123 (by decide) ?_
                refine Rn.istore (pc := 124) dX6_list_124 (by decide) rfl st7_4 ?_
                refine Rn.iincN (pc := 126) (n := 1) dX6_list_126 rfl (by decide) (by decide) rfl st7_5 ?_
                refine Rn.goto (pc := 129) (tgt := 19) dX6_list_129 (by decide) ?_
                exact ih (k + 1) _ _ false _ _ (by omega) (by omega) (cFail_ok hu) (by rw [hf, cLF, if_neg (by rw [c48]; decide), if_pos c73]; cases d <;> rfl)
              · refine Rn.iload_n (pc := 76) dX6_list_76 rfl rfl ?_
                refine Rn.iconst (pc := 77) (v := nI 1) dX6_list_77 (by decide) ?_
                refine Rn.iload (pc := 78) dX6_list_78 rfl ?_
                refine Rn.ishl (pc := 80) dX6_list_80 ?_
                refine Rn.iadd (pc := 81) dX6_list_81 ?_
                refine Rn.istore_n (pc := 82) dX6_list_82 rfl (by decide) rfl st7_2 ?_
                refine Rn.iload (pc := 83) dX6_list_83 rfl ?_
                refine Rn.istore_n (pc := 85) dX6_list_85 rfl (by decide) rfl st7_3 ?_
                refine Rn.aload_n (pc := 86) dX6_list_86 rfl rfl ?_
                refine Rn.getR (pc := 87) flX6_12 mu5_0 fx5_0 dX6_list_87 ?_
                refine Rn.callV (pc := 90) (as := []) cvX6_55 ⟨by decide, rfl⟩ ⟨by decide, by decide⟩ dX6_list_90 (Nat.le_of_ble_eq_true rfl) rfl (k_stepD G h u hu) ?_
                rintro _ _ ⟨rfl, rfl⟩
                refine Rn.aload_n (pc := 93) dX6_list_93 rfl rfl ?_
                refine Rn.getR (pc := 94) flX6_12 mu5_0 fx5_0 dX6_list_94 ?_
                refine Rn.bipush (pc := 97) (v := nI 44) dX6_list_97 (by decide) ?_
                refine Rn.callV (pc := 99) (as := [_]) cvX6_77 ⟨by decide, rfl⟩ ⟨by decide, by decide⟩ dX6_list_99 (Nat.le_of_ble_eq_true rfl) rfl (k_accept G h (cStep L n u) (cStep_ok hu) 44 (by decide)) ?_
                rintro _ _ ⟨rfl, rfl⟩
                refine Rn.istore (pc := 102) dX6_list_102 (by decide) rfl st7_4 ?_
                refine Rn.goto (pc := 104) (tgt := 126) dX6_list_104 (by decide) ?_
                refine Rn.iincN (pc := 126) (n := 1) dX6_list_126 rfl (by decide) (by decide) rfl st7_5 ?_
                refine Rn.goto (pc := 129) (tgt := 19) dX6_list_129 (by decide) ?_
                exact ih (k + 1) _ _ _ _ _ (by omega) (by omega) (cAcc_ok (cStep_ok hu)) (by rw [hf, cLF, if_neg (by rw [c48]; decide), if_neg c73])
            · refine Rn.iincW (pc := 51) dX6_list_51 rfl (by rw [show Int32.ofInt 256 = nI 256 by decide]) (by decide) rfl st7_2 ?_
              refine Rn.aload_n (pc := 57) dX6_list_57 rfl rfl ?_
              refine Rn.getR (pc := 58) flX6_12 mu5_0 fx5_0 dX6_list_58 ?_
              refine Rn.callV (pc := 61) (as := []) cvX6_55 ⟨by decide, rfl⟩ ⟨by decide, by decide⟩ dX6_list_61 (Nat.le_of_ble_eq_true rfl) rfl (k_stepD G h u hu) ?_
              rintro _ _ ⟨rfl, rfl⟩
              refine Rn.iconst (pc := 64) (v := nI 0) dX6_list_64 (by decide) ?_
              refine Rn.istore (pc := 65) dX6_list_65 (by decide) rfl st7_4 ?_
              refine Rn.goto (pc := 67) (tgt := 126) dX6_list_67 (by decide) ?_
              refine Rn.iincN (pc := 126) (n := 1) dX6_list_126 rfl (by decide) (by decide) rfl st7_5 ?_
              refine Rn.goto (pc := 129) (tgt := 19) dX6_list_129 (by decide) ?_
              exact ih (k + 1) _ _ false _ _ (by omega) (by omega) (cStep_ok hu) (by rw [hf, cLF, if_pos c48]; cases d <;> rfl)
  refine Rn.iconst (pc := 0) (v := nI 0) dX6_list_0 (by decide) ?_
  refine Rn.istore_n (pc := 1) dX6_list_1 rfl (by decide) rfl st7_2 ?_
  refine Rn.iconst (pc := 2) (v := -1) dX6_list_2 (by decide) ?_
  refine Rn.istore_n (pc := 3) dX6_list_3 rfl (by decide) rfl st7_3 ?_
  refine Rn.iconst (pc := 4) (v := nI 1) dX6_list_4 (by decide) ?_
  refine Rn.istore (pc := 5) dX6_list_5 (by decide) rfl st7_4 ?_
  refine Rn.aload_n (pc := 7) dX6_list_7 rfl rfl ?_
  refine Rn.getR (pc := 8) flX6_12 mu5_0 fx5_0 dX6_list_8 ?_
  refine Rn.bipush (pc := 11) (v := nI 123) dX6_list_11 (by decide) ?_
  refine Rn.callV (pc := 13) (as := [_]) cvX6_170 ⟨by decide, rfl⟩ ⟨by decide, by decide⟩ dX6_list_13 (Nat.le_of_ble_eq_true rfl) rfl (k_expect G h t ht 123 (by decide)) ?_
  rintro _ _ ⟨rfl, rfl⟩
  refine Rn.iconst (pc := 16) (v := nI 0) dX6_list_16 (by decide) ?_
  refine Rn.istore (pc := 17) dX6_list_17 (by decide) rfl st7_5 ?_
  exact loop 9 0 _ _ true _ _ rfl (by decide) (cExp_ok ht) rfl

