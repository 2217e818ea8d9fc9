set_option maxRecDepth 20000 in
set_option maxHeartbeats 4000000 in
theorem k_dist_1 (G : GX) {M : Mem} (d : Int32) : MetM G yX0_distanceBits iX0_distanceBits [vI (nI 1), vI d] M (fun r M' => r = some (vI (dbV 1 d)) ∧ M' = M) := by
  refine MetM.of (ls := [some (vI (nI 1)), some (vI d)]) (by decide) rfl (Nat.le_of_ble_eq_true rfl) rfl ?_
  intro hM0
  refine Rn.iload_n (pc := 0) dX0_distanceBits_0 rfl rfl ?_
  refine Rn.lookup (pc := 1) (off := 27) (tgt := 28) dX0_distanceBits_1 (by decide) (by decide) (by decide) ?_
  refine Rn.iload_n (pc := 28) dX0_distanceBits_28 rfl rfl ?_
  refine Rn.iconst (pc := 29) (v := nI 1) dX0_distanceBits_29 (by decide) ?_
  refine Rn.ishr (pc := 30) dX0_distanceBits_30 ?_
  refine Rn.sipush (pc := 31) (v := nI 2047) dX0_distanceBits_31 (by decide) ?_
  refine Rn.iand (pc := 34) dX0_distanceBits_34 ?_
  refine Rn.iret (pc := 35) rfl dX0_distanceBits_35 ?_
  exact ⟨rfl, rfl⟩

set_option maxRecDepth 20000 in
set_option maxHeartbeats 4000000 in
theorem k_dist_2 (G : GX) {M : Mem} (d : Int32) : MetM G yX0_distanceBits iX0_distanceBits [vI (nI 2), vI d] M (fun r M' => r = some (vI (dbV 2 d)) ∧ M' = M) := by
  refine MetM.of (ls := [some (vI (nI 2)), some (vI d)]) (by decide) rfl (Nat.le_of_ble_eq_true rfl) rfl ?_
  intro hM0
  refine Rn.iload_n (pc := 0) dX0_distanceBits_0 rfl rfl ?_
  refine Rn.lookup (pc := 1) (off := 35) (tgt := 36) dX0_distanceBits_1 (by decide) (by decide) (by decide) ?_
  refine Rn.iload_n (pc := 36) dX0_distanceBits_36 rfl rfl ?_
  refine Rn.iconst (pc := 37) (v := nI 1) dX0_distanceBits_37 (by decide) ?_
  refine Rn.ishr (pc := 38) dX0_distanceBits_38 ?_
  refine Rn.sipush (pc := 39) (v := nI 255) dX0_distanceBits_39 (by decide) ?_
  refine Rn.iand (pc := 42) dX0_distanceBits_42 ?_
  refine Rn.iret (pc := 43) rfl dX0_distanceBits_43 ?_
  exact ⟨rfl, rfl⟩

set_option maxRecDepth 20000 in
set_option maxHeartbeats 4000000 in
theorem k_dist_4 (G : GX) {M : Mem} (d : Int32) : MetM G yX0_distanceBits iX0_distanceBits [vI (nI 4), vI d] M (fun r M' => r = some (vI (dbV 4 d)) ∧ M' = M) := by
  refine MetM.of (ls := [some (vI (nI 4)), some (vI d)]) (by decide) rfl (Nat.le_of_ble_eq_true rfl) rfl ?_
  intro hM0
  refine Rn.iload_n (pc := 0) dX0_distanceBits_0 rfl rfl ?_
  refine Rn.lookup (pc := 1) (off := 43) (tgt := 44) dX0_distanceBits_1 (by decide) (by decide) (by decide) ?_
  refine Rn.iload_n (pc := 44) dX0_distanceBits_44 rfl rfl ?_
  refine Rn.iconst (pc := 45) (v := nI 2) dX0_distanceBits_45 (by decide) ?_
  refine Rn.ishr (pc := 46) dX0_distanceBits_46 ?_
  refine Rn.iret (pc := 47) rfl dX0_distanceBits_47 ?_
  exact ⟨rfl, rfl⟩

theorem k_dist (G : GX) {M : Mem} (re : Nat) (d : Int32) (h : re = 1 ∨ re = 2 ∨ re = 4) : MetM G yX0_distanceBits iX0_distanceBits [vI (nI re), vI d] M (fun r M' => r = some (vI (dbV re d)) ∧ M' = M) := by
  rcases h with rfl | rfl | rfl
  · exact k_dist_1 G d
  · exact k_dist_2 G d
  · exact k_dist_4 G d
def wc0 (c h : Int32) : Int32 := c + nI 1024 * (h >>> (nI 23 &&& 31) &&& nI 1) + (h >>> (nI 11 &&& 31) &&& nI 1023)
def wc1 (h : Int32) : Int32 := nI 53248 + (if h >>> (nI 22 &&& 31) &&& nI 1 = h >>> (nI 23 &&& 31) &&& nI 1 then nI 8192 else nI 0) + (if h >>> (nI 21 &&& 31) &&& nI 1 = h >>> (nI 23 &&& 31) &&& nI 1 then nI 2048 else nI 0) + (h &&& nI 2047)
set_option maxRecDepth 20000 in
set_option maxHeartbeats 4000000 in
theorem k_writeCall (G : GX) {M : Mem} (j p : Nat) (c h : Int32) (hp : p + 3 < 2048) : MetM G yX0_writeCall iX0_writeCall [vR 0 j, vI (nI p), vI c, vI h] M (fun r M' => r = none ∧ Fr (S21 j p (p + 4)) M M' ∧ ∀ i, i < 4 → bC j M' (p + i) = nI (if i < 2 then bt (wc0 c h) i else bt (wc1 h) (i - 2))) := by
  refine MetM.of (ls := [some (vR 0 j), some (vI (nI p)), some (vI c), some (vI h), none, none, none]) (by decide) rfl (Nat.le_of_ble_eq_true rfl) rfl ?_
  intro hM0
  refine Rn.iload_n (pc := 0) dX0_writeCall_0 rfl rfl ?_
  refine Rn.bipush (pc := 1) (v := nI 23) dX0_writeCall_1 (by decide) ?_
  refine Rn.ishr (pc := 3) dX0_writeCall_3 ?_
  refine Rn.iconst (pc := 4) (v := nI 1) dX0_writeCall_4 (by decide) ?_
  refine Rn.iand (pc := 5) dX0_writeCall_5 ?_
  refine Rn.istore (pc := 6) dX0_writeCall_6 (by decide) rfl st7_4 ?_
  refine Rn.iload_n (pc := 8) dX0_writeCall_8 rfl rfl ?_
  refine Rn.bipush (pc := 9) (v := nI 22) dX0_writeCall_9 (by decide) ?_
  refine Rn.ishr (pc := 11) dX0_writeCall_11 ?_
  refine Rn.iconst (pc := 12) (v := nI 1) dX0_writeCall_12 (by decide) ?_
  refine Rn.iand (pc := 13) dX0_writeCall_13 ?_
  refine Rn.istore (pc := 14) dX0_writeCall_14 (by decide) rfl st7_5 ?_
  refine Rn.iload_n (pc := 16) dX0_writeCall_16 rfl rfl ?_
  refine Rn.bipush (pc := 17) (v := nI 21) dX0_writeCall_17 (by decide) ?_
  refine Rn.ishr (pc := 19) dX0_writeCall_19 ?_
  refine Rn.iconst (pc := 20) (v := nI 1) dX0_writeCall_20 (by decide) ?_
  refine Rn.iand (pc := 21) dX0_writeCall_21 ?_
  refine Rn.istore (pc := 22) dX0_writeCall_22 (by decide) rfl st7_6 ?_
  refine Rn.aload_n (pc := 24) dX0_writeCall_24 rfl rfl ?_
  refine Rn.getR (pc := 25) flX0_28 mu0_2 fx0_2 dX0_writeCall_25 ?_
  refine Rn.iload_n (pc := 28) dX0_writeCall_28 rfl rfl ?_
  refine Rn.iload_n (pc := 29) dX0_writeCall_29 rfl rfl ?_
  refine Rn.sipush (pc := 30) (v := nI 1024) dX0_writeCall_30 (by decide) ?_
  refine Rn.iload (pc := 33) dX0_writeCall_33 rfl ?_
  refine Rn.imul (pc := 35) dX0_writeCall_35 ?_
  refine Rn.iadd (pc := 36) dX0_writeCall_36 ?_
  refine Rn.iload_n (pc := 37) dX0_writeCall_37 rfl rfl ?_
  refine Rn.bipush (pc := 38) (v := nI 11) dX0_writeCall_38 (by decide) ?_
  refine Rn.ishr (pc := 40) dX0_writeCall_40 ?_
  refine Rn.sipush (pc := 41) (v := nI 1023) dX0_writeCall_41 (by decide) ?_
  refine Rn.iand (pc := 44) dX0_writeCall_44 ?_
  refine Rn.iadd (pc := 45) dX0_writeCall_45 ?_
  refine Rn.callV (pc := 46) (as := [_, _]) cvX0_113 ⟨by decide, rfl⟩ ⟨by decide, by decide⟩ dX0_writeCall_46 (Nat.le_of_ble_eq_true rfl) rfl (k_putHalf G j p (wc0 c h) (by omega)) ?_
  rintro _ M5 ⟨rfl, f5, b5⟩
  refine Rn.aload_n (pc := 49) dX0_writeCall_49 rfl rfl ?_
  refine Rn.getR (pc := 50) flX0_28 mu0_2 fx0_2 dX0_writeCall_50 ?_
  refine Rn.iload_n (pc := 53) dX0_writeCall_53 rfl rfl ?_
  refine Rn.iconst (pc := 54) (v := nI 2) dX0_writeCall_54 (by decide) ?_
  refine Rn.iaddN (pc := 55) dX0_writeCall_55 ?_
  refine Rn.ldc (pc := 56) dX0_writeCall_56 wcX0_137 ?_
  refine Rn.iload (pc := 58) dX0_writeCall_58 rfl ?_
  refine Rn.iload (pc := 60) dX0_writeCall_60 rfl ?_
  refine Rn.icmp_ne (pc := 62) (tgt := 71) dX0_writeCall_62 (by decide) (fun c62 => ?_) (fun c62 => ?_)
  · refine Rn.iconst (pc := 71) (v := nI 0) dX0_writeCall_71 (by decide) ?_
    refine Rn.iaddN (pc := 72) dX0_writeCall_72 ?_
    refine Rn.iload (pc := 73) dX0_writeCall_73 rfl ?_
    refine Rn.iload (pc := 75) dX0_writeCall_75 rfl ?_
    refine Rn.icmp_ne (pc := 77) (tgt := 86) dX0_writeCall_77 (by decide) (fun c77 => ?_) (fun c77 => ?_)
    · refine Rn.iconst (pc := 86) (v := nI 0) dX0_writeCall_86 (by decide) ?_
      refine Rn.iaddN (pc := 87) dX0_writeCall_87 ?_
      refine Rn.iload_n (pc := 88) dX0_writeCall_88 rfl rfl ?_
      refine Rn.sipush (pc := 89) (v := nI 2047) dX0_writeCall_89 (by decide) ?_
      refine Rn.iand (pc := 92) dX0_writeCall_92 ?_
      refine Rn.iadd (pc := 93) dX0_writeCall_93 ?_
      refine Rn.callV (pc := 94) (as := [_, _]) cvX0_113 ⟨by decide, rfl⟩ ⟨by decide, by decide⟩ dX0_writeCall_94 (Nat.le_of_ble_eq_true rfl) rfl (k_putHalf G j (p + 2) (nI 53248 + nI 0 + nI 0 + (h &&& nI 2047)) (by omega)) ?_
      rintro _ M6 ⟨rfl, f6, b6⟩
      refine Rn.vret (pc := 97) rfl dX0_writeCall_97 ?_
      refine ⟨rfl, (f5.mono ?_).trans (f6.mono ?_), fun i hi => ?_⟩
      · intro k i s h; unfold S21 at h ⊢; omega
      · intro k i s h; unfold S21 at h ⊢; omega
      · rcases Nat.lt_or_ge i 2 with q | q
        · rw [if_pos q, bC_fr f6 (by omega)]; exact b5 i q
        · rw [if_neg (by omega)]
          have h9 := b6 (i - 2) (by omega)
          rw [show p + 2 + (i - 2) = p + i by omega] at h9
          rw [h9, wc1, if_neg c62, if_neg c77]
    · refine Rn.sipush (pc := 80) (v := nI 2048) dX0_writeCall_80 (by decide) ?_
      refine Rn.goto (pc := 83) (tgt := 87) dX0_writeCall_83 (by decide) ?_
      refine Rn.iaddN (pc := 87) dX0_writeCall_87 ?_
      refine Rn.iload_n (pc := 88) dX0_writeCall_88 rfl rfl ?_
      refine Rn.sipush (pc := 89) (v := nI 2047) dX0_writeCall_89 (by decide) ?_
      refine Rn.iand (pc := 92) dX0_writeCall_92 ?_
      refine Rn.iadd (pc := 93) dX0_writeCall_93 ?_
      refine Rn.callV (pc := 94) (as := [_, _]) cvX0_113 ⟨by decide, rfl⟩ ⟨by decide, by decide⟩ dX0_writeCall_94 (Nat.le_of_ble_eq_true rfl) rfl (k_putHalf G j (p + 2) (nI 53248 + nI 0 + nI 2048 + (h &&& nI 2047)) (by omega)) ?_
      rintro _ M6 ⟨rfl, f6, b6⟩
      refine Rn.vret (pc := 97) rfl dX0_writeCall_97 ?_
      refine ⟨rfl, (f5.mono ?_).trans (f6.mono ?_), fun i hi => ?_⟩
      · intro k i s h; unfold S21 at h ⊢; omega
      · intro k i s h; unfold S21 at h ⊢; omega
      · rcases Nat.lt_or_ge i 2 with q | q
        · rw [if_pos q, bC_fr f6 (by omega)]; exact b5 i q
        · rw [if_neg (by omega)]
          have h9 := b6 (i - 2) (by omega)
          rw [show p + 2 + (i - 2) = p + i by omega] at h9
          rw [h9, wc1, if_neg c62, if_pos c77]
  · refine Rn.sipush (pc := 65) (v := nI 8192) dX0_writeCall_65 (by decide) ?_
    refine Rn.goto (pc := 68) (tgt := 72) dX0_writeCall_68 (by decide) ?_
    refine Rn.iaddN (pc := 72) dX0_writeCall_72 ?_
    refine Rn.iload (pc := 73) dX0_writeCall_73 rfl ?_
    refine Rn.iload (pc := 75) dX0_writeCall_75 rfl ?_
    refine Rn.icmp_ne (pc := 77) (tgt := 86) dX0_writeCall_77 (by decide) (fun c77 => ?_) (fun c77 => ?_)
    · refine Rn.iconst (pc := 86) (v := nI 0) dX0_writeCall_86 (by decide) ?_
      refine Rn.iaddN (pc := 87) dX0_writeCall_87 ?_
      refine Rn.iload_n (pc := 88) dX0_writeCall_88 rfl rfl ?_
      refine Rn.sipush (pc := 89) (v := nI 2047) dX0_writeCall_89 (by decide) ?_
      refine Rn.iand (pc := 92) dX0_writeCall_92 ?_
      refine Rn.iadd (pc := 93) dX0_writeCall_93 ?_
      refine Rn.callV (pc := 94) (as := [_, _]) cvX0_113 ⟨by decide, rfl⟩ ⟨by decide, by decide⟩ dX0_writeCall_94 (Nat.le_of_ble_eq_true rfl) rfl (k_putHalf G j (p + 2) (nI 53248 + nI 8192 + nI 0 + (h &&& nI 2047)) (by omega)) ?_
      rintro _ M6 ⟨rfl, f6, b6⟩
      refine Rn.vret (pc := 97) rfl dX0_writeCall_97 ?_
      refine ⟨rfl, (f5.mono ?_).trans (f6.mono ?_), fun i hi => ?_⟩
      · intro k i s h; unfold S21 at h ⊢; omega
      · intro k i s h; unfold S21 at h ⊢; omega
      · rcases Nat.lt_or_ge i 2 with q | q
        · rw [if_pos q, bC_fr f6 (by omega)]; exact b5 i q
        · rw [if_neg (by omega)]
          have h9 := b6 (i - 2) (by omega)
          rw [show p + 2 + (i - 2) = p + i by omega] at h9
          rw [h9, wc1, if_pos c62, if_neg c77]
    · refine Rn.sipush (pc := 80) (v := nI 2048) dX0_writeCall_80 (by decide) ?_
      refine Rn.goto (pc := 83) (tgt := 87) dX0_writeCall_83 (by decide) ?_
      refine Rn.iaddN (pc := 87) dX0_writeCall_87 ?_
      refine Rn.iload_n (pc := 88) dX0_writeCall_88 rfl rfl ?_
      refine Rn.sipush (pc := 89) (v := nI 2047) dX0_writeCall_89 (by decide) ?_
      refine Rn.iand (pc := 92) dX0_writeCall_92 ?_
      refine Rn.iadd (pc := 93) dX0_writeCall_93 ?_
      refine Rn.callV (pc := 94) (as := [_, _]) cvX0_113 ⟨by decide, rfl⟩ ⟨by decide, by decide⟩ dX0_writeCall_94 (Nat.le_of_ble_eq_true rfl) rfl (k_putHalf G j (p + 2) (nI 53248 + nI 8192 + nI 2048 + (h &&& nI 2047)) (by omega)) ?_
      rintro _ M6 ⟨rfl, f6, b6⟩
      refine Rn.vret (pc := 97) rfl dX0_writeCall_97 ?_
      refine ⟨rfl, (f5.mono ?_).trans (f6.mono ?_), fun i hi => ?_⟩
      · intro k i s h; unfold S21 at h ⊢; omega
      · intro k i s h; unfold S21 at h ⊢; omega
      · rcases Nat.lt_or_ge i 2 with q | q
        · rw [if_pos q, bC_fr f6 (by omega)]; exact b5 i q
        · rw [if_neg (by omega)]
          have h9 := b6 (i - 2) (by omega)
          rw [show p + 2 + (i - 2) = p + i by omega] at h9
          rw [h9, wc1, if_pos c62, if_pos c77]

/-- the statement i says the record A -/
def RecC (i : Nat) (A : CR) (M : Mem) : Prop := (mJ M 8 i 0 = lN (rLab A) ∧ mI M 8 i 1 = nI (rLP A) ∧ mI M 8 i 2 = nI (rPl A) ∧ mI M 8 i 3 = nI (rK A) ∧ mI M 8 i 4 = nI (rRe A) ∧ mI M 8 i 5 = rNo A ∧ mJ M 8 i 7 = lN (rNm A) ∧ mI M 8 i 8 = nI (rNP A) ∧ mI M 8 i 11 = rFa A ∧ mI M 8 i 12 = rFP A) ∧ (rK A ≠ 6 → mI M 8 i 6 = rBy A)
theorem dI_c (a h re : Nat) : nI a - nI 4 - nI (hr3 h re) = dI a h re := by
  unfold dI
  rw [Int32.sub_eq_add_neg, Int32.sub_eq_add_neg, Int32.sub_eq_add_neg, Int32.sub_eq_add_neg, Int32.add_assoc, Int32.add_comm (-nI 4), ← Int32.add_assoc]
set_option maxRecDepth 20000 in
set_option maxHeartbeats 4000000 in
theorem k_writeWord (G : GX) {M : Mem} (j i : Nat) (bs : Nat → Nat) (B : LB) (g : Nat → Bool) (A : CR) (m s p pl : Nat) (hk3 : rK A = 3) (hR : RecC i A M) (hn : rNm A < 2 ^ 48) (hm : m < 4) (hp : pl + 4 ≤ 2048) (hL : LbC j B M) (hG : GbC j B g M) (hN : LbN B) (hW : LbW B) (hA : AdC j bs M) : MetM G yX0_writeWord iX0_writeWord [vR 0 j, vR 8 i, vI (nI m), vI (nI pl)] M (fun r M' => r = some (vI (er3 bs B g A m s p).1) ∧ Fr (S21 j pl (pl + 4)) M M' ∧ ((er3 bs B g A m s p).1 = 0 → ∀ x, x < 4 → bC j M' (pl + x) = nI (fb3 bs B g A m s p x))) := by
  refine MetM.of (ls := [some (vR 0 j), some (vR 8 i), some (vI (nI m)), some (vI (nI pl)), none]) (by decide) rfl (Nat.le_of_ble_eq_true rfl) rfl ?_
  intro hM0
  by_cases hnm : rNm A = 0
  · have hz9 : lg_cmp (lN (rNm A)) (lN 0) = 0 := lcmp0.mpr (by rw [hnm])
    refine Rn.aload_n (pc := 0) dX0_writeWord_0 rfl rfl ?_
    refine Rn.getJ (pc := 1) (t := 0) flX0_96 hR.1.2.2.2.2.2.2.1 dX0_writeWord_1 ?_
    refine Rn.lconst (pc := 4) (v := lN 0) dX0_writeWord_4 (by decide) ?_
    refine Rn.lcmp (pc := 5) dX0_writeWord_5 ?_
    refine Rn.if_ne (pc := 6) (y := 0) (tgt := 13) dX0_writeWord_6 (by decide) (fun c6 => ?_) (fun c6 => ?_)
    · exact absurd hz9 c6
    · refine Rn.iconst (pc := 9) (v := -1) dX0_writeWord_9 (by decide) ?_
      refine Rn.goto (pc := 10) (tgt := 22) dX0_writeWord_10 (by decide) ?_
      refine Rn.istore (pc := 22) dX0_writeWord_22 (by decide) rfl st5_4 ?_
      refine Rn.aload_n (pc := 24) dX0_writeWord_24 rfl rfl ?_
      refine Rn.getJ (pc := 25) (t := 0) flX0_96 hR.1.2.2.2.2.2.2.1 dX0_writeWord_25 ?_
      refine Rn.lconst (pc := 28) (v := lN 0) dX0_writeWord_28 (by decide) ?_
      refine Rn.lcmp (pc := 29) dX0_writeWord_29 ?_
      refine Rn.if_eq (pc := 30) (y := 0) (tgt := 42) dX0_writeWord_30 (by decide) (fun c30 => ?_) (fun c30 => ?_)
      · refine Rn.aload_n (pc := 42) dX0_writeWord_42 rfl rfl ?_
        refine Rn.getR (pc := 43) flX0_28 mu0_2 fx0_2 dX0_writeWord_43 ?_
        refine Rn.iload_n (pc := 46) dX0_writeWord_46 rfl rfl ?_
        refine Rn.aload_n (pc := 47) dX0_writeWord_47 rfl rfl ?_
        refine Rn.getJ (pc := 48) (t := 0) flX0_96 hR.1.2.2.2.2.2.2.1 dX0_writeWord_48 ?_
        refine Rn.lconst (pc := 51) (v := lN 0) dX0_writeWord_51 (by decide) ?_
        refine Rn.lcmp (pc := 52) dX0_writeWord_52 ?_
        refine Rn.if_ne (pc := 53) (y := 0) (tgt := 63) dX0_writeWord_53 (by decide) (fun c53 => ?_) (fun c53 => ?_)
        · exact absurd hz9 c53
        · refine Rn.aload_n (pc := 56) dX0_writeWord_56 rfl rfl ?_
          refine Rn.getI (pc := 57) (t := 0) flX0_86 hR.1.2.2.2.2.2.1 dX0_writeWord_57 ?_
          refine Rn.goto (pc := 60) (tgt := 74) dX0_writeWord_60 (by decide) ?_
          refine Rn.callV (pc := 74) (as := [_, _]) cvX0_107 ⟨by decide, rfl⟩ ⟨by decide, by decide⟩ dX0_writeWord_74 (Nat.le_of_ble_eq_true rfl) rfl (k_putWord G j pl (rNo A) (by omega)) ?_
          rintro _ M5 ⟨rfl, f5, b5⟩
          refine Rn.iconst (pc := 77) (v := nI 0) dX0_writeWord_77 (by decide) ?_
          refine Rn.iret (pc := 78) rfl dX0_writeWord_78 ?_
          have hnr : ¬ nref A := fun z => by unfold nref at z; omega
          have he : er3 bs B g A m s p = (0, 0) := by unfold er3; rw [if_neg hnr]
          rw [he]
          refine ⟨rfl, f5, fun _ x hx => ?_⟩
          rw [b5 x hx, fb3, if_neg hnr, lb, if_pos (Or.inl hk3)]
      · exact absurd hz9 c30
  · have hz9 : ¬ lg_cmp (lN (rNm A)) (lN 0) = 0 := fun z => hnm ((lN0_eq (by omega)).mp (lcmp0.mp z))
    have hnr : nref A := Or.inl ⟨hk3, hnm⟩
    refine Rn.aload_n (pc := 0) dX0_writeWord_0 rfl rfl ?_
    refine Rn.getJ (pc := 1) (t := 0) flX0_96 hR.1.2.2.2.2.2.2.1 dX0_writeWord_1 ?_
    refine Rn.lconst (pc := 4) (v := lN 0) dX0_writeWord_4 (by decide) ?_
    refine Rn.lcmp (pc := 5) dX0_writeWord_5 ?_
    refine Rn.if_ne (pc := 6) (y := 0) (tgt := 13) dX0_writeWord_6 (by decide) (fun c6 => ?_) (fun c6 => ?_)
    · refine Rn.aload_n (pc := 13) dX0_writeWord_13 rfl rfl ?_
      refine Rn.iload_n (pc := 14) dX0_writeWord_14 rfl rfl ?_
      refine Rn.aload_n (pc := 15) dX0_writeWord_15 rfl rfl ?_
      refine Rn.getJ (pc := 16) (t := 0) flX0_96 hR.1.2.2.2.2.2.2.1 dX0_writeWord_16 ?_
      refine Rn.callV (pc := 19) (as := [_, _]) cvX0_99 ⟨by decide, rfl⟩ ⟨by decide, by decide⟩ dX0_writeWord_19 (Nat.le_of_ble_eq_true rfl) rfl (k_resolve G j B g m (rNm A) hL hG hN (by omega) (by omega)) ?_
      rintro _ M9 ⟨rfl, h9⟩
      rw [h9]
      cases hf : rs B g m (rNm A) with
      | none =>
        rw [show prV none = (-1 : Int32) from rfl]
        refine Rn.istore (pc := 22) dX0_writeWord_22 (by decide) rfl st5_4 ?_
        refine Rn.aload_n (pc := 24) dX0_writeWord_24 rfl rfl ?_
        refine Rn.getJ (pc := 25) (t := 0) flX0_96 hR.1.2.2.2.2.2.2.1 dX0_writeWord_25 ?_
        refine Rn.lconst (pc := 28) (v := lN 0) dX0_writeWord_28 (by decide) ?_
        refine Rn.lcmp (pc := 29) dX0_writeWord_29 ?_
        refine Rn.if_eq (pc := 30) (y := 0) (tgt := 42) dX0_writeWord_30 (by decide) (fun c30 => ?_) (fun c30 => ?_)
        · exact absurd c30 hz9
        · refine Rn.iload (pc := 33) dX0_writeWord_33 rfl ?_
          refine Rn.iconst (pc := 35) (v := -1) dX0_writeWord_35 (by decide) ?_
          refine Rn.icmp_ne (pc := 36) (tgt := 42) dX0_writeWord_36 (by decide) (fun c36 => ?_) (fun c36 => ?_)
          · exact absurd rfl c36
          · refine Rn.bipush (pc := 39) (v := -8) dX0_writeWord_39 (by decide) ?_
            refine Rn.iret (pc := 41) rfl dX0_writeWord_41 ?_
            have he : er3 bs B g A m s p = (-8, nI (rNP A)) := by unfold er3; rw [if_pos hnr, hf]; rfl
            rw [he]
            exact ⟨rfl, Fr.refl M, fun z => absurd z (show ¬ (-8 : Int32) = 0 by decide)⟩
      | some k =>
        have hkl := rs_lt hf
        have h96 := hN.1
        rw [prV_s]
        refine Rn.istore (pc := 22) dX0_writeWord_22 (by decide) rfl st5_4 ?_
        refine Rn.aload_n (pc := 24) dX0_writeWord_24 rfl rfl ?_
        refine Rn.getJ (pc := 25) (t := 0) flX0_96 hR.1.2.2.2.2.2.2.1 dX0_writeWord_25 ?_
        refine Rn.lconst (pc := 28) (v := lN 0) dX0_writeWord_28 (by decide) ?_
        refine Rn.lcmp (pc := 29) dX0_writeWord_29 ?_
        refine Rn.if_eq (pc := 30) (y := 0) (tgt := 42) dX0_writeWord_30 (by decide) (fun c30 => ?_) (fun c30 => ?_)
        · exact absurd c30 hz9
        · refine Rn.iload (pc := 33) dX0_writeWord_33 rfl ?_
          refine Rn.iconst (pc := 35) (v := -1) dX0_writeWord_35 (by decide) ?_
          refine Rn.icmp_ne (pc := 36) (tgt := 42) dX0_writeWord_36 (by decide) (fun c36 => ?_) (fun c36 => ?_)
          · refine Rn.aload_n (pc := 42) dX0_writeWord_42 rfl rfl ?_
            refine Rn.getR (pc := 43) flX0_28 mu0_2 fx0_2 dX0_writeWord_43 ?_
            refine Rn.iload_n (pc := 46) dX0_writeWord_46 rfl rfl ?_
            refine Rn.aload_n (pc := 47) dX0_writeWord_47 rfl rfl ?_
            refine Rn.getJ (pc := 48) (t := 0) flX0_96 hR.1.2.2.2.2.2.2.1 dX0_writeWord_48 ?_
            refine Rn.lconst (pc := 51) (v := lN 0) dX0_writeWord_51 (by decide) ?_
            refine Rn.lcmp (pc := 52) dX0_writeWord_52 ?_
            refine Rn.if_ne (pc := 53) (y := 0) (tgt := 63) dX0_writeWord_53 (by decide) (fun c53 => ?_) (fun c53 => ?_)
            · refine Rn.aload_n (pc := 63) dX0_writeWord_63 rfl rfl ?_
              refine Rn.iload (pc := 64) dX0_writeWord_64 rfl ?_
              refine Rn.callV (pc := 66) (as := [_]) cvX0_103 ⟨by decide, rfl⟩ ⟨by decide, by decide⟩ dX0_writeWord_66 (Nat.le_of_ble_eq_true rfl) rfl (k_addressOf G j bs B k hkl hL hN.1 hW hA) ?_
              rintro _ M9 ⟨rfl, h9⟩
              rw [h9]
              refine Rn.aload_n (pc := 69) dX0_writeWord_69 rfl rfl ?_
              refine Rn.getI (pc := 70) (t := 0) flX0_86 hR.1.2.2.2.2.2.1 dX0_writeWord_70 ?_
              refine Rn.iadd (pc := 73) dX0_writeWord_73 ?_
              refine Rn.callV (pc := 74) (as := [_, _]) cvX0_107 ⟨by decide, rfl⟩ ⟨by decide, by decide⟩ dX0_writeWord_74 (Nat.le_of_ble_eq_true rfl) rfl (k_putWord G j pl (nI (ad bs B k) + rNo A) (by omega)) ?_
              rintro _ M5 ⟨rfl, f5, b5⟩
              refine Rn.iconst (pc := 77) (v := nI 0) dX0_writeWord_77 (by decide) ?_
              refine Rn.iret (pc := 78) rfl dX0_writeWord_78 ?_
              have he : er3 bs B g A m s p = (0, 0) := by unfold er3; rw [if_pos hnr, hf, er3k, if_pos (by unfold gd3; rw [decide_eq_true hk3]; rfl)]
              rw [he]
              refine ⟨rfl, f5, fun _ x hx => ?_⟩
              rw [b5 x hx, fb3, if_pos hnr, hf, fb3k, fbK, if_pos hk3]
            · exact absurd c53 hz9
          · exact absurd ((prV_m1 (q := some k) (fun i h => by cases h; omega)).mp c36) (fun z => by cases z)
    · exact absurd c6 hz9

set_option maxRecDepth 20000 in
set_option maxHeartbeats 4000000 in
theorem k_writeInstruction (G : GX) {M : Mem} (j i : Nat) (bs : Nat → Nat) (B : LB) (g : Nat → Bool) (A : CR) (m s p pl : Nat) (hk7 : rK A = 7) (hR : RecC i A M) (hn : rNm A < 2 ^ 48) (hre4 : rRe A ≤ 4) (hm : m < 4) (hsec : mI M 8 i 9 = nI 0) (hpl : pl = bs s + p) (hp : pl + (if rRe A = 3 then 4 else 2) ≤ 2048) (hL : LbC j B M) (hG : GbC j B g M) (hN : LbN B) (hW : LbW B) (hA : AdC j bs M) : MetM G yX0_writeInstruction iX0_writeInstruction [vR 0 j, vR 8 i, vI (nI m), vI (nI pl)] M (fun r M' => r = some (vI (er3 bs B g A m s p).1) ∧ Fr (S21 j pl (pl + (if rRe A = 3 then 4 else 2))) M M' ∧ ((er3 bs B g A m s p).1 = 0 → ∀ x, x < (if rRe A = 3 then 4 else 2) → bC j M' (pl + x) = nI (fb3 bs B g A m s p x))) := by
  refine MetM.of (ls := [some (vR 0 j), some (vR 8 i), some (vI (nI m)), some (vI (nI pl)), none, none, none]) (by decide) rfl (Nat.le_of_ble_eq_true rfl) rfl ?_
  intro hM0
  by_cases hre : rRe A = 0
  · rw [if_neg (by omega)] at hp
    refine Rn.aload_n (pc := 0) dX0_writeInstruction_0 rfl rfl ?_
    refine Rn.getI (pc := 1) (t := 0) flX0_110 hR.1.2.2.2.2.1 dX0_writeInstruction_1 ?_
    refine Rn.if_ne (pc := 4) (y := 0) (tgt := 21) dX0_writeInstruction_4 (by decide) (fun c4 => ?_) (fun c4 => ?_)
    · exact absurd (show nI (rRe A) = 0 by rw [hre]; rfl) c4
    · refine Rn.aload_n (pc := 7) dX0_writeInstruction_7 rfl rfl ?_
      refine Rn.getR (pc := 8) flX0_28 mu0_2 fx0_2 dX0_writeInstruction_8 ?_
      refine Rn.iload_n (pc := 11) dX0_writeInstruction_11 rfl rfl ?_
      refine Rn.aload_n (pc := 12) dX0_writeInstruction_12 rfl rfl ?_
      refine Rn.getI (pc := 13) (t := 0) flX0_86 hR.1.2.2.2.2.2.1 dX0_writeInstruction_13 ?_
      refine Rn.callV (pc := 16) (as := [_, _]) cvX0_113 ⟨by decide, rfl⟩ ⟨by decide, by decide⟩ dX0_writeInstruction_16 (Nat.le_of_ble_eq_true rfl) rfl (k_putHalf G j pl (rNo A) (by omega)) ?_
      rintro _ M5 ⟨rfl, f5, b5⟩
      refine Rn.iconst (pc := 19) (v := nI 0) dX0_writeInstruction_19 (by decide) ?_
      refine Rn.iret (pc := 20) rfl dX0_writeInstruction_20 ?_
      have hnr : ¬ nref A := fun z => by unfold nref at z; omega
      have he : er3 bs B g A m s p = (0, 0) := by unfold er3; rw [if_neg hnr]
      rw [he, if_neg (by omega)]
      refine ⟨rfl, f5, fun _ x hx => ?_⟩
      rw [b5 x hx, fb3, if_neg hnr, lb, if_pos (Or.inr (Or.inr hk7))]
  · have hnr : nref A := Or.inr ⟨hk7, hre⟩
    refine Rn.aload_n (pc := 0) dX0_writeInstruction_0 rfl rfl ?_
    refine Rn.getI (pc := 1) (t := 0) flX0_110 hR.1.2.2.2.2.1 dX0_writeInstruction_1 ?_
    refine Rn.if_ne (pc := 4) (y := 0) (tgt := 21) dX0_writeInstruction_4 (by decide) (fun c4 => ?_) (fun c4 => ?_)
    · refine Rn.aload_n (pc := 21) dX0_writeInstruction_21 rfl rfl ?_
      refine Rn.iload_n (pc := 22) dX0_writeInstruction_22 rfl rfl ?_
      refine Rn.aload_n (pc := 23) dX0_writeInstruction_23 rfl rfl ?_
      refine Rn.getJ (pc := 24) (t := 0) flX0_96 hR.1.2.2.2.2.2.2.1 dX0_writeInstruction_24 ?_
      refine Rn.callV (pc := 27) (as := [_, _]) cvX0_99 ⟨by decide, rfl⟩ ⟨by decide, by decide⟩ dX0_writeInstruction_27 (Nat.le_of_ble_eq_true rfl) rfl (k_resolve G j B g m (rNm A) hL hG hN (by omega) (by omega)) ?_
      rintro _ M9 ⟨rfl, h9⟩
      rw [h9]
      cases hf : rs B g m (rNm A) with
      | none =>
        rw [show prV none = (-1 : Int32) from rfl]
        refine Rn.istore (pc := 30) dX0_writeInstruction_30 (by decide) rfl st7_4 ?_
        refine Rn.iload (pc := 32) dX0_writeInstruction_32 rfl ?_
        refine Rn.iconst (pc := 34) (v := -1) dX0_writeInstruction_34 (by decide) ?_
        refine Rn.icmp_ne (pc := 35) (tgt := 41) dX0_writeInstruction_35 (by decide) (fun c35 => ?_) (fun c35 => ?_)
        · exact absurd rfl c35
        · refine Rn.bipush (pc := 38) (v := -8) dX0_writeInstruction_38 (by decide) ?_
          refine Rn.iret (pc := 40) rfl dX0_writeInstruction_40 ?_
          have he : er3 bs B g A m s p = (-8, nI (rNP A)) := by unfold er3; rw [if_pos hnr, hf]; rfl
          rw [he]
          exact ⟨rfl, Fr.refl M, fun z => absurd z (show ¬ (-8 : Int32) = 0 by decide)⟩
      | some k =>
        have hkl := rs_lt hf
        have h96 := hN.1
        obtain ⟨l1, l2, l3, l4⟩ := hL.2 k hkl
        have hw := hW.1 k hkl
        rw [prV_s]
        have K104 : ∀ nr : Bool, nrB B k m = nr → Rn G iX0_writeInstruction (fun r M' => r = some (vI (er3 bs B g A m s p).1) ∧ Fr (S21 j pl (pl + (if rRe A = 3 then 4 else 2))) M M' ∧ ((er3 bs B g A m s p).1 = 0 → ∀ x, x < (if rRe A = 3 then 4 else 2) → bC j M' (pl + x) = nI (fb3 bs B g A m s p x))) 104 [some (vR 0 j), some (vR 8 i), some (vI (nI m)), some (vI (nI pl)), some (vI (nI k)), some (vI (dI (ad bs B k) pl (rRe A))), none] [vI (bI nr)] M := by
          intro nr hnr9
          rw [← hnr9]
          refine Rn.istore (pc := 104) dX0_writeInstruction_104 (by decide) rfl st7_6 ?_
          refine Rn.aload_n (pc := 106) dX0_writeInstruction_106 rfl rfl ?_
          refine Rn.getI (pc := 107) (t := 0) flX0_110 hR.1.2.2.2.2.1 dX0_writeInstruction_107 ?_
          refine Rn.iload (pc := 110) dX0_writeInstruction_110 rfl ?_
          refine Rn.iload (pc := 112) dX0_writeInstruction_112 rfl ?_
          refine Rn.callS (pc := 114) (as := [_, _, _]) csX0_116 ⟨by decide, by decide⟩ dX0_writeInstruction_114 (Nat.le_of_ble_eq_true rfl) rfl (k_reaches G (rRe A) (dI (ad bs B k) pl (rRe A)) (nrB B k m) (by omega) hre4) ?_
          rintro _ M9 ⟨rfl, h9⟩
          rw [h9]
          refine Rn.if_neB (pc := 117) (tgt := 123) dX0_writeInstruction_117 (by decide) (fun c117 => ?_) (fun c117 => ?_)
          · refine Rn.aload_n (pc := 123) dX0_writeInstruction_123 rfl rfl ?_
            refine Rn.getI (pc := 124) (t := 0) flX0_110 hR.1.2.2.2.2.1 dX0_writeInstruction_124 ?_
            refine Rn.iconst (pc := 127) (v := nI 3) dX0_writeInstruction_127 (by decide) ?_
            refine Rn.icmp_neN (pc := 128) (tgt := 147) dX0_writeInstruction_128 (by decide) (by omega) (by omega) (fun c128 => ?_) (fun c128 => ?_)
            · refine Rn.aload_n (pc := 147) dX0_writeInstruction_147 rfl rfl ?_
              refine Rn.getR (pc := 148) flX0_28 mu0_2 fx0_2 dX0_writeInstruction_148 ?_
              refine Rn.iload_n (pc := 151) dX0_writeInstruction_151 rfl rfl ?_
              refine Rn.aload_n (pc := 152) dX0_writeInstruction_152 rfl rfl ?_
              refine Rn.getI (pc := 153) (t := 0) flX0_86 hR.1.2.2.2.2.2.1 dX0_writeInstruction_153 ?_
              refine Rn.aload_n (pc := 156) dX0_writeInstruction_156 rfl rfl ?_
              refine Rn.getI (pc := 157) (t := 0) flX0_110 hR.1.2.2.2.2.1 dX0_writeInstruction_157 ?_
              refine Rn.iload (pc := 160) dX0_writeInstruction_160 rfl ?_
              refine Rn.callS (pc := 162) (as := [_, _]) csX0_124 ⟨by decide, by decide⟩ dX0_writeInstruction_162 (Nat.le_of_ble_eq_true rfl) rfl (k_dist G (rRe A) (dI (ad bs B k) pl (rRe A)) (by omega)) ?_
              rintro _ M9 ⟨rfl, h9⟩
              rw [h9]
              refine Rn.iadd (pc := 165) dX0_writeInstruction_165 ?_
              refine Rn.callV (pc := 166) (as := [_, _]) cvX0_113 ⟨by decide, rfl⟩ ⟨by decide, by decide⟩ dX0_writeInstruction_166 (Nat.le_of_ble_eq_true rfl) rfl (k_putHalf G j pl (rNo A + dbV (rRe A) (dI (ad bs B k) pl (rRe A))) (by have := hp; rw [if_neg c128] at this; omega)) ?_
              rintro _ M5 ⟨rfl, f5, b5⟩
              refine Rn.iconst (pc := 169) (v := nI 0) dX0_writeInstruction_169 (by decide) ?_
              refine Rn.iret (pc := 170) rfl dX0_writeInstruction_170 ?_
              have he : er3 bs B g A m s p = (0, 0) := by
                unfold er3; rw [if_pos hnr, hf, er3k, if_pos (by rw [show gd3 bs B A m s p k = rcO (rRe A) (dI (ad bs B k) pl (rRe A)) (nrB B k m) by unfold gd3 d3; rw [decide_eq_false (p := rK A = 3) (by omega), ← hpl, Bool.false_or]]; exact c117)]
              rw [he]
              rw [if_neg c128]
              refine ⟨rfl, f5, fun _ x hx => ?_⟩
              rw [b5 x hx, fb3, if_pos hnr, hf, fb3k, fbK, if_neg (show ¬ rK A = 3 by omega), d3, ← hpl, hvB, if_pos hx, hv0, dbV]
              rcases (show rRe A = 1 ∨ rRe A = 2 ∨ rRe A = 4 by omega) with e | e | e
              · rw [if_pos e, if_pos e]
              · rw [if_neg (by omega), if_pos e, if_neg (by omega), if_pos e]
              · rw [if_neg (by omega), if_neg (by omega), if_neg (by omega), if_neg (by omega), if_neg (by omega)]
            · refine Rn.aload_n (pc := 131) dX0_writeInstruction_131 rfl rfl ?_
              refine Rn.iload_n (pc := 132) dX0_writeInstruction_132 rfl rfl ?_
              refine Rn.aload_n (pc := 133) dX0_writeInstruction_133 rfl rfl ?_
              refine Rn.getI (pc := 134) (t := 0) flX0_86 hR.1.2.2.2.2.2.1 dX0_writeInstruction_134 ?_
              refine Rn.iload (pc := 137) dX0_writeInstruction_137 rfl ?_
              refine Rn.iconst (pc := 139) (v := nI 1) dX0_writeInstruction_139 (by decide) ?_
              refine Rn.ishr (pc := 140) dX0_writeInstruction_140 ?_
              refine Rn.callV (pc := 141) (as := [_, _, _]) cvX0_120 ⟨by decide, rfl⟩ ⟨by decide, by decide⟩ dX0_writeInstruction_141 (Nat.le_of_ble_eq_true rfl) rfl (k_writeCall G j pl (rNo A) ((dI (ad bs B k) pl (rRe A)) >>> (nI 1 &&& 31)) (by have := hp; rw [if_pos c128] at this; omega)) ?_
              rintro _ M5 ⟨rfl, f5, b5⟩
              refine Rn.goto (pc := 144) (tgt := 169) dX0_writeInstruction_144 (by decide) ?_
              refine Rn.iconst (pc := 169) (v := nI 0) dX0_writeInstruction_169 (by decide) ?_
              refine Rn.iret (pc := 170) rfl dX0_writeInstruction_170 ?_
              have he : er3 bs B g A m s p = (0, 0) := by
                unfold er3; rw [if_pos hnr, hf, er3k, if_pos (by rw [show gd3 bs B A m s p k = rcO (rRe A) (dI (ad bs B k) pl (rRe A)) (nrB B k m) by unfold gd3 d3; rw [decide_eq_false (p := rK A = 3) (by omega), ← hpl, Bool.false_or]]; exact c117)]
              rw [he]
              rw [if_pos c128]
              refine ⟨rfl, f5, fun _ x hx => ?_⟩
              rw [b5 x hx, fb3, if_pos hnr, hf, fb3k, fbK, if_neg (show ¬ rK A = 3 by omega), d3, ← hpl, hvB]
              rcases Nat.lt_or_ge x 2 with q | q
              · rw [if_pos q, if_pos q, hv0, if_neg (by omega), if_neg (by omega), if_pos c128]; rfl
              · rw [if_neg (by omega), if_neg (by omega)]; rfl
          · refine Rn.bipush (pc := 120) (v := -9) dX0_writeInstruction_120 (by decide) ?_
            refine Rn.iret (pc := 122) rfl dX0_writeInstruction_122 ?_
            have he : er3 bs B g A m s p = (-9, nI (rNP A)) := by
              unfold er3; rw [if_pos hnr, hf, er3k, if_neg (by rw [show gd3 bs B A m s p k = rcO (rRe A) (dI (ad bs B k) pl (rRe A)) (nrB B k m) by unfold gd3 d3; rw [decide_eq_false (p := rK A = 3) (by omega), ← hpl, Bool.false_or], c117]; decide)]
            rw [he]
            exact ⟨rfl, Fr.refl M, fun z => absurd z (show ¬ (-9 : Int32) = 0 by decide)⟩
        refine Rn.istore (pc := 30) dX0_writeInstruction_30 (by decide) rfl st7_4 ?_
        refine Rn.iload (pc := 32) dX0_writeInstruction_32 rfl ?_
        refine Rn.iconst (pc := 34) (v := -1) dX0_writeInstruction_34 (by decide) ?_
        refine Rn.icmp_ne (pc := 35) (tgt := 41) dX0_writeInstruction_35 (by decide) (fun c35 => ?_) (fun c35 => ?_)
        · refine Rn.aload_n (pc := 41) dX0_writeInstruction_41 rfl rfl ?_
          refine Rn.iload (pc := 42) dX0_writeInstruction_42 rfl ?_
          refine Rn.callV (pc := 44) (as := [_]) cvX0_103 ⟨by decide, rfl⟩ ⟨by decide, by decide⟩ dX0_writeInstruction_44 (Nat.le_of_ble_eq_true rfl) rfl (k_addressOf G j bs B k hkl hL hN.1 hW hA) ?_
          rintro _ M9 ⟨rfl, h9⟩
          rw [h9]
          refine Rn.iconst (pc := 47) (v := nI 4) dX0_writeInstruction_47 (by decide) ?_
          refine Rn.isub (pc := 48) dX0_writeInstruction_48 ?_
          refine Rn.aload_n (pc := 49) dX0_writeInstruction_49 rfl rfl ?_
          refine Rn.getI (pc := 50) (t := 0) flX0_110 hR.1.2.2.2.2.1 dX0_writeInstruction_50 ?_
          refine Rn.iconst (pc := 53) (v := nI 4) dX0_writeInstruction_53 (by decide) ?_
          refine Rn.icmp_neN (pc := 54) (tgt := 64) dX0_writeInstruction_54 (by decide) (by omega) (by omega) (fun c54 => ?_) (fun c54 => ?_)
          · refine Rn.iload_n (pc := 64) dX0_writeInstruction_64 rfl rfl ?_
            refine Rn.isub (pc := 65) dX0_writeInstruction_65 ?_
            rw [show nI (ad bs B k) - nI 4 - nI pl = (dI (ad bs B k) pl (rRe A)) by rw [← dI_c, hr3, if_neg c54]]
            refine Rn.istore (pc := 66) dX0_writeInstruction_66 (by decide) rfl st7_5 ?_
            refine Rn.aload_n (pc := 68) dX0_writeInstruction_68 rfl rfl ?_
            refine Rn.getR (pc := 69) flX0_12 mu0_0 fx0_0 dX0_writeInstruction_69 ?_
            refine Rn.getR (pc := 72) flX0_44 mu3_2 fx3_2 dX0_writeInstruction_72 ?_
            refine Rn.iload (pc := 75) dX0_writeInstruction_75 rfl ?_
            refine Rn.ialdN (pc := 77) ak17 (by omega) (by decide) l2 dX0_writeInstruction_77 ?_
            refine Rn.iload_n (pc := 78) dX0_writeInstruction_78 rfl rfl ?_
            refine Rn.icmp_neN (pc := 79) (tgt := 103) dX0_writeInstruction_79 (by decide) (by omega) (by omega) (fun c79 => ?_) (fun c79 => ?_)
            · refine Rn.iconst (pc := 103) (v := nI 0) dX0_writeInstruction_103 (by decide) ?_
              exact K104 false (decide_eq_false (fun q => c79 q.1))
            · refine Rn.aload_n (pc := 82) dX0_writeInstruction_82 rfl rfl ?_
              refine Rn.getR (pc := 83) flX0_12 mu0_0 fx0_0 dX0_writeInstruction_83 ?_
              refine Rn.getR (pc := 86) flX0_48 mu3_3 fx3_3 dX0_writeInstruction_86 ?_
              refine Rn.iload (pc := 89) dX0_writeInstruction_89 rfl ?_
              refine Rn.ialdN (pc := 91) ak17 (by omega) (by decide) l3 dX0_writeInstruction_91 ?_
              refine Rn.aload_n (pc := 92) dX0_writeInstruction_92 rfl rfl ?_
              refine Rn.getI (pc := 93) (t := 0) flX0_57 hsec dX0_writeInstruction_93 ?_
              refine Rn.icmp_neN (pc := 96) (tgt := 103) dX0_writeInstruction_96 (by decide) (by omega) (by omega) (fun c96 => ?_) (fun c96 => ?_)
              · refine Rn.iconst (pc := 103) (v := nI 0) dX0_writeInstruction_103 (by decide) ?_
                exact K104 false (decide_eq_false (fun q => c96 q.2))
              · refine Rn.iconst (pc := 99) (v := nI 1) dX0_writeInstruction_99 (by decide) ?_
                refine Rn.goto (pc := 100) (tgt := 104) dX0_writeInstruction_100 (by decide) ?_
                exact K104 true (decide_eq_true ⟨c79, c96⟩)
          · refine Rn.iload_n (pc := 57) dX0_writeInstruction_57 rfl rfl ?_
            refine Rn.bipush (pc := 58) (v := -4) dX0_writeInstruction_58 (by decide) ?_
            refine Rn.iand (pc := 60) dX0_writeInstruction_60 ?_
            rw [and4 (by omega)]
            refine Rn.goto (pc := 61) (tgt := 65) dX0_writeInstruction_61 (by decide) ?_
            refine Rn.isub (pc := 65) dX0_writeInstruction_65 ?_
            rw [show nI (ad bs B k) - nI 4 - nI (pl / 4 * 4) = (dI (ad bs B k) pl (rRe A)) by rw [← dI_c, hr3, if_pos c54]]
            refine Rn.istore (pc := 66) dX0_writeInstruction_66 (by decide) rfl st7_5 ?_
            refine Rn.aload_n (pc := 68) dX0_writeInstruction_68 rfl rfl ?_
            refine Rn.getR (pc := 69) flX0_12 mu0_0 fx0_0 dX0_writeInstruction_69 ?_
            refine Rn.getR (pc := 72) flX0_44 mu3_2 fx3_2 dX0_writeInstruction_72 ?_
            refine Rn.iload (pc := 75) dX0_writeInstruction_75 rfl ?_
            refine Rn.ialdN (pc := 77) ak17 (by omega) (by decide) l2 dX0_writeInstruction_77 ?_
            refine Rn.iload_n (pc := 78) dX0_writeInstruction_78 rfl rfl ?_
            refine Rn.icmp_neN (pc := 79) (tgt := 103) dX0_writeInstruction_79 (by decide) (by omega) (by omega) (fun c79 => ?_) (fun c79 => ?_)
            · refine Rn.iconst (pc := 103) (v := nI 0) dX0_writeInstruction_103 (by decide) ?_
              exact K104 false (decide_eq_false (fun q => c79 q.1))
            · refine Rn.aload_n (pc := 82) dX0_writeInstruction_82 rfl rfl ?_
              refine Rn.getR (pc := 83) flX0_12 mu0_0 fx0_0 dX0_writeInstruction_83 ?_
              refine Rn.getR (pc := 86) flX0_48 mu3_3 fx3_3 dX0_writeInstruction_86 ?_
              refine Rn.iload (pc := 89) dX0_writeInstruction_89 rfl ?_
              refine Rn.ialdN (pc := 91) ak17 (by omega) (by decide) l3 dX0_writeInstruction_91 ?_
              refine Rn.aload_n (pc := 92) dX0_writeInstruction_92 rfl rfl ?_
              refine Rn.getI (pc := 93) (t := 0) flX0_57 hsec dX0_writeInstruction_93 ?_
              refine Rn.icmp_neN (pc := 96) (tgt := 103) dX0_writeInstruction_96 (by decide) (by omega) (by omega) (fun c96 => ?_) (fun c96 => ?_)
              · refine Rn.iconst (pc := 103) (v := nI 0) dX0_writeInstruction_103 (by decide) ?_
                exact K104 false (decide_eq_false (fun q => c96 q.2))
              · refine Rn.iconst (pc := 99) (v := nI 1) dX0_writeInstruction_99 (by decide) ?_
                refine Rn.goto (pc := 100) (tgt := 104) dX0_writeInstruction_100 (by decide) ?_
                exact K104 true (decide_eq_true ⟨c79, c96⟩)
        · exact absurd ((prV_m1 (q := some k) (fun i h => by cases h; omega)).mp c35) (fun z => by cases z)
    · exact absurd (rem_z (by omega) c4) hre

def wrS (A : CR) (j pl n k i s : Nat) : Prop := (rK A = 3 ∨ rK A = 4 ∨ rK A = 7) ∧ S21 j pl (pl + n) k i s
def PWr (j : Nat) (sz : Nat → Nat) (B : LB) (g : Nat → Bool) (A : CR) (m sec off : Nat) (M : Mem) : Option AV → Mem → Prop := fun r M' => r = some (vI (er3 (bsA sz) B g A m (3 * m + sec) off).1) ∧ Fr (wrS A j (fl sz (3 * m + sec) + off) (by1 A off)) M M' ∧ ((er3 (bsA sz) B g A m (3 * m + sec) off).1 = 0 → (rK A = 3 ∨ rK A = 4 ∨ rK A = 7) → ∀ x, x < by1 A off → bC j M' (fl sz (3 * m + sec) + off + x) = nI (fb3 (bsA sz) B g A m (3 * m + sec) off x))
theorem fl_sec {sz : Nat → Nat} {m sec : Nat} (h : sec < 2) : fl sz (3 * m + sec) = if sec = 1 then fbA sz m else bsA sz (3 * m + sec) := by
  rcases (show sec = 0 ∨ sec = 1 by omega) with rfl | rfl
  · rw [if_neg (by decide)]; unfold fl; rw [if_pos (by omega)]
  · rw [if_pos rfl]; unfold fl; rw [if_neg (by omega), show (3 * m + 1) / 3 = m by omega]
set_option maxRecDepth 20000 in
set_option maxHeartbeats 4000000 in
theorem k_write_0 (G : GX) {M : Mem} (j i : Nat) (sz : Nat → Nat) (B : LB) (g : Nat → Bool) (A : CR) (m sec off : Nat) (hR : RecC i A M) (hRc : RcOK A) (hfa : rFa A = 0) (hn : rNm A < 2 ^ 48) (hm : m < 4) (hsec : sec < 3) (hsM : mI M 8 i 9 = nI sec) (hoM : mI M 8 i 10 = nI off) (hk34 : rK A = 3 ∨ rK A = 4 → sec ≠ 2) (hk7 : rK A = 7 → sec = 0) (hb : rK A = 3 ∨ rK A = 4 ∨ rK A = 7 → fl sz (3 * m + sec) + off + by1 A off ≤ 2048) (hL : LbC j B M) (hG : GbC j B g M) (hN : LbN B) (hW : LbW B) (hA : AdC j (bsA sz) M) (hF : FdC j sz M) (hkk : rK A = 0) : MetM G yX0_write iX0_write [vR 0 j, vR 8 i, vI (nI m)] M (PWr j sz B g A m sec off M) := by
  refine MetM.of (ls := [some (vR 0 j), some (vR 8 i), some (vI (nI m)), none, none]) (by decide) rfl (Nat.le_of_ble_eq_true rfl) rfl ?_
  intro hM0
  have hK9 : mI M 8 i 3 = nI 0 := by rw [hR.1.2.2.2.1, hkk]
  refine Rn.aload_n (pc := 0) dX0_write_0 rfl rfl ?_
  refine Rn.getI (pc := 1) (t := 0) flX0_57 hsM dX0_write_1 ?_
  refine Rn.iconst (pc := 4) (v := nI 1) dX0_write_4 (by decide) ?_
  refine Rn.icmp_neN (pc := 5) (tgt := 20) dX0_write_5 (by decide) (by omega) (by decide) (fun c5 => ?_) (fun c5 => ?_)
  · refine Rn.aload_n (pc := 20) dX0_write_20 rfl rfl ?_
    refine Rn.getR (pc := 21) flX0_21 mu0_1 fx0_1 dX0_write_21 ?_
    refine Rn.getR (pc := 24) flX0_40 mu4_1 fx4_1 dX0_write_24 ?_
    refine Rn.iload_n (pc := 27) dX0_write_27 rfl rfl ?_
    refine Rn.aaldN (pc := 28) ak18 (by decide) rfl (by omega) (by decide) fx18 dX0_write_28 ?_
    refine Rn.aload_n (pc := 29) dX0_write_29 rfl rfl ?_
    refine Rn.getI (pc := 30) (t := 0) flX0_57 hsM dX0_write_30 ?_
    refine Rn.ialdN (pc := 33) ak19 (by omega) (by decide) (hA m sec hm hsec) dX0_write_33 ?_
    refine Rn.istore_n (pc := 34) dX0_write_34 rfl (by decide) rfl st5_3 ?_
    refine Rn.iload_n (pc := 35) dX0_write_35 rfl rfl ?_
    refine Rn.aload_n (pc := 36) dX0_write_36 rfl rfl ?_
    refine Rn.getI (pc := 37) (t := 0) flX0_62 hoM dX0_write_37 ?_
    refine Rn.iaddN (pc := 40) dX0_write_40 ?_
    refine Rn.istore (pc := 41) dX0_write_41 (by decide) rfl st5_4 ?_
    refine Rn.aload_n (pc := 43) dX0_write_43 rfl rfl ?_
    refine Rn.getI (pc := 44) (t := 0) flX0_73 hK9 dX0_write_44 ?_
    refine Rn.tableOut (pc := 47) (tgt := 113) dX0_write_47 (by decide) (by decide) ?_
    refine Rn.iconst (pc := 113) (v := nI 0) dX0_write_113 (by decide) ?_
    refine Rn.iret (pc := 114) rfl dX0_write_114 ?_
    have hnr : ¬ nref A := fun z => by unfold nref at z; omega
    unfold PWr er3; rw [if_neg hnr]
    exact ⟨rfl, Fr.refl M, fun _ z => absurd z (by omega)⟩
  · refine Rn.aload_n (pc := 8) dX0_write_8 rfl rfl ?_
    refine Rn.getR (pc := 9) flX0_21 mu0_1 fx0_1 dX0_write_9 ?_
    refine Rn.getR (pc := 12) flX0_79 mu4_2 fx4_2 dX0_write_12 ?_
    refine Rn.iload_n (pc := 15) dX0_write_15 rfl rfl ?_
    refine Rn.ialdN (pc := 16) ak20 (by omega) (by decide) (hF m hm) dX0_write_16 ?_
    refine Rn.goto (pc := 17) (tgt := 34) dX0_write_17 (by decide) ?_
    refine Rn.istore_n (pc := 34) dX0_write_34 rfl (by decide) rfl st5_3 ?_
    refine Rn.iload_n (pc := 35) dX0_write_35 rfl rfl ?_
    refine Rn.aload_n (pc := 36) dX0_write_36 rfl rfl ?_
    refine Rn.getI (pc := 37) (t := 0) flX0_62 hoM dX0_write_37 ?_
    refine Rn.iaddN (pc := 40) dX0_write_40 ?_
    refine Rn.istore (pc := 41) dX0_write_41 (by decide) rfl st5_4 ?_
    refine Rn.aload_n (pc := 43) dX0_write_43 rfl rfl ?_
    refine Rn.getI (pc := 44) (t := 0) flX0_73 hK9 dX0_write_44 ?_
    refine Rn.tableOut (pc := 47) (tgt := 113) dX0_write_47 (by decide) (by decide) ?_
    refine Rn.iconst (pc := 113) (v := nI 0) dX0_write_113 (by decide) ?_
    refine Rn.iret (pc := 114) rfl dX0_write_114 ?_
    have hnr : ¬ nref A := fun z => by unfold nref at z; omega
    unfold PWr er3; rw [if_neg hnr]
    exact ⟨rfl, Fr.refl M, fun _ z => absurd z (by omega)⟩

set_option maxRecDepth 20000 in
set_option maxHeartbeats 4000000 in
theorem k_write_1 (G : GX) {M : Mem} (j i : Nat) (sz : Nat → Nat) (B : LB) (g : Nat → Bool) (A : CR) (m sec off : Nat) (hR : RecC i A M) (hRc : RcOK A) (hfa : rFa A = 0) (hn : rNm A < 2 ^ 48) (hm : m < 4) (hsec : sec < 3) (hsM : mI M 8 i 9 = nI sec) (hoM : mI M 8 i 10 = nI off) (hk34 : rK A = 3 ∨ rK A = 4 → sec ≠ 2) (hk7 : rK A = 7 → sec = 0) (hb : rK A = 3 ∨ rK A = 4 ∨ rK A = 7 → fl sz (3 * m + sec) + off + by1 A off ≤ 2048) (hL : LbC j B M) (hG : GbC j B g M) (hN : LbN B) (hW : LbW B) (hA : AdC j (bsA sz) M) (hF : FdC j sz M) (hkk : rK A = 1) : MetM G yX0_write iX0_write [vR 0 j, vR 8 i, vI (nI m)] M (PWr j sz B g A m sec off M) := by
  refine MetM.of (ls := [some (vR 0 j), some (vR 8 i), some (vI (nI m)), none, none]) (by decide) rfl (Nat.le_of_ble_eq_true rfl) rfl ?_
  intro hM0
  have hK9 : mI M 8 i 3 = nI 1 := by rw [hR.1.2.2.2.1, hkk]
  refine Rn.aload_n (pc := 0) dX0_write_0 rfl rfl ?_
  refine Rn.getI (pc := 1) (t := 0) flX0_57 hsM dX0_write_1 ?_
  refine Rn.iconst (pc := 4) (v := nI 1) dX0_write_4 (by decide) ?_
  refine Rn.icmp_neN (pc := 5) (tgt := 20) dX0_write_5 (by decide) (by omega) (by decide) (fun c5 => ?_) (fun c5 => ?_)
  · refine Rn.aload_n (pc := 20) dX0_write_20 rfl rfl ?_
    refine Rn.getR (pc := 21) flX0_21 mu0_1 fx0_1 dX0_write_21 ?_
    refine Rn.getR (pc := 24) flX0_40 mu4_1 fx4_1 dX0_write_24 ?_
    refine Rn.iload_n (pc := 27) dX0_write_27 rfl rfl ?_
    refine Rn.aaldN (pc := 28) ak18 (by decide) rfl (by omega) (by decide) fx18 dX0_write_28 ?_
    refine Rn.aload_n (pc := 29) dX0_write_29 rfl rfl ?_
    refine Rn.getI (pc := 30) (t := 0) flX0_57 hsM dX0_write_30 ?_
    refine Rn.ialdN (pc := 33) ak19 (by omega) (by decide) (hA m sec hm hsec) dX0_write_33 ?_
    refine Rn.istore_n (pc := 34) dX0_write_34 rfl (by decide) rfl st5_3 ?_
    refine Rn.iload_n (pc := 35) dX0_write_35 rfl rfl ?_
    refine Rn.aload_n (pc := 36) dX0_write_36 rfl rfl ?_
    refine Rn.getI (pc := 37) (t := 0) flX0_62 hoM dX0_write_37 ?_
    refine Rn.iaddN (pc := 40) dX0_write_40 ?_
    refine Rn.istore (pc := 41) dX0_write_41 (by decide) rfl st5_4 ?_
    refine Rn.aload_n (pc := 43) dX0_write_43 rfl rfl ?_
    refine Rn.getI (pc := 44) (t := 0) flX0_73 hK9 dX0_write_44 ?_
    refine Rn.tableOut (pc := 47) (tgt := 113) dX0_write_47 (by decide) (by decide) ?_
    refine Rn.iconst (pc := 113) (v := nI 0) dX0_write_113 (by decide) ?_
    refine Rn.iret (pc := 114) rfl dX0_write_114 ?_
    have hnr : ¬ nref A := fun z => by unfold nref at z; omega
    unfold PWr er3; rw [if_neg hnr]
    exact ⟨rfl, Fr.refl M, fun _ z => absurd z (by omega)⟩
  · refine Rn.aload_n (pc := 8) dX0_write_8 rfl rfl ?_
    refine Rn.getR (pc := 9) flX0_21 mu0_1 fx0_1 dX0_write_9 ?_
    refine Rn.getR (pc := 12) flX0_79 mu4_2 fx4_2 dX0_write_12 ?_
    refine Rn.iload_n (pc := 15) dX0_write_15 rfl rfl ?_
    refine Rn.ialdN (pc := 16) ak20 (by omega) (by decide) (hF m hm) dX0_write_16 ?_
    refine Rn.goto (pc := 17) (tgt := 34) dX0_write_17 (by decide) ?_
    refine Rn.istore_n (pc := 34) dX0_write_34 rfl (by decide) rfl st5_3 ?_
    refine Rn.iload_n (pc := 35) dX0_write_35 rfl rfl ?_
    refine Rn.aload_n (pc := 36) dX0_write_36 rfl rfl ?_
    refine Rn.getI (pc := 37) (t := 0) flX0_62 hoM dX0_write_37 ?_
    refine Rn.iaddN (pc := 40) dX0_write_40 ?_
    refine Rn.istore (pc := 41) dX0_write_41 (by decide) rfl st5_4 ?_
    refine Rn.aload_n (pc := 43) dX0_write_43 rfl rfl ?_
    refine Rn.getI (pc := 44) (t := 0) flX0_73 hK9 dX0_write_44 ?_
    refine Rn.tableOut (pc := 47) (tgt := 113) dX0_write_47 (by decide) (by decide) ?_
    refine Rn.iconst (pc := 113) (v := nI 0) dX0_write_113 (by decide) ?_
    refine Rn.iret (pc := 114) rfl dX0_write_114 ?_
    have hnr : ¬ nref A := fun z => by unfold nref at z; omega
    unfold PWr er3; rw [if_neg hnr]
    exact ⟨rfl, Fr.refl M, fun _ z => absurd z (by omega)⟩

set_option maxRecDepth 20000 in
set_option maxHeartbeats 4000000 in
theorem k_write_2 (G : GX) {M : Mem} (j i : Nat) (sz : Nat → Nat) (B : LB) (g : Nat → Bool) (A : CR) (m sec off : Nat) (hR : RecC i A M) (hRc : RcOK A) (hfa : rFa A = 0) (hn : rNm A < 2 ^ 48) (hm : m < 4) (hsec : sec < 3) (hsM : mI M 8 i 9 = nI sec) (hoM : mI M 8 i 10 = nI off) (hk34 : rK A = 3 ∨ rK A = 4 → sec ≠ 2) (hk7 : rK A = 7 → sec = 0) (hb : rK A = 3 ∨ rK A = 4 ∨ rK A = 7 → fl sz (3 * m + sec) + off + by1 A off ≤ 2048) (hL : LbC j B M) (hG : GbC j B g M) (hN : LbN B) (hW : LbW B) (hA : AdC j (bsA sz) M) (hF : FdC j sz M) (hkk : rK A = 2) : MetM G yX0_write iX0_write [vR 0 j, vR 8 i, vI (nI m)] M (PWr j sz B g A m sec off M) := by
  refine MetM.of (ls := [some (vR 0 j), some (vR 8 i), some (vI (nI m)), none, none]) (by decide) rfl (Nat.le_of_ble_eq_true rfl) rfl ?_
  intro hM0
  have hK9 : mI M 8 i 3 = nI 2 := by rw [hR.1.2.2.2.1, hkk]
  refine Rn.aload_n (pc := 0) dX0_write_0 rfl rfl ?_
  refine Rn.getI (pc := 1) (t := 0) flX0_57 hsM dX0_write_1 ?_
  refine Rn.iconst (pc := 4) (v := nI 1) dX0_write_4 (by decide) ?_
  refine Rn.icmp_neN (pc := 5) (tgt := 20) dX0_write_5 (by decide) (by omega) (by decide) (fun c5 => ?_) (fun c5 => ?_)
  · refine Rn.aload_n (pc := 20) dX0_write_20 rfl rfl ?_
    refine Rn.getR (pc := 21) flX0_21 mu0_1 fx0_1 dX0_write_21 ?_
    refine Rn.getR (pc := 24) flX0_40 mu4_1 fx4_1 dX0_write_24 ?_
    refine Rn.iload_n (pc := 27) dX0_write_27 rfl rfl ?_
    refine Rn.aaldN (pc := 28) ak18 (by decide) rfl (by omega) (by decide) fx18 dX0_write_28 ?_
    refine Rn.aload_n (pc := 29) dX0_write_29 rfl rfl ?_
    refine Rn.getI (pc := 30) (t := 0) flX0_57 hsM dX0_write_30 ?_
    refine Rn.ialdN (pc := 33) ak19 (by omega) (by decide) (hA m sec hm hsec) dX0_write_33 ?_
    refine Rn.istore_n (pc := 34) dX0_write_34 rfl (by decide) rfl st5_3 ?_
    refine Rn.iload_n (pc := 35) dX0_write_35 rfl rfl ?_
    refine Rn.aload_n (pc := 36) dX0_write_36 rfl rfl ?_
    refine Rn.getI (pc := 37) (t := 0) flX0_62 hoM dX0_write_37 ?_
    refine Rn.iaddN (pc := 40) dX0_write_40 ?_
    refine Rn.istore (pc := 41) dX0_write_41 (by decide) rfl st5_4 ?_
    refine Rn.aload_n (pc := 43) dX0_write_43 rfl rfl ?_
    refine Rn.getI (pc := 44) (t := 0) flX0_73 hK9 dX0_write_44 ?_
    refine Rn.tableOut (pc := 47) (tgt := 113) dX0_write_47 (by decide) (by decide) ?_
    refine Rn.iconst (pc := 113) (v := nI 0) dX0_write_113 (by decide) ?_
    refine Rn.iret (pc := 114) rfl dX0_write_114 ?_
    have hnr : ¬ nref A := fun z => by unfold nref at z; omega
    unfold PWr er3; rw [if_neg hnr]
    exact ⟨rfl, Fr.refl M, fun _ z => absurd z (by omega)⟩
  · refine Rn.aload_n (pc := 8) dX0_write_8 rfl rfl ?_
    refine Rn.getR (pc := 9) flX0_21 mu0_1 fx0_1 dX0_write_9 ?_
    refine Rn.getR (pc := 12) flX0_79 mu4_2 fx4_2 dX0_write_12 ?_
    refine Rn.iload_n (pc := 15) dX0_write_15 rfl rfl ?_
    refine Rn.ialdN (pc := 16) ak20 (by omega) (by decide) (hF m hm) dX0_write_16 ?_
    refine Rn.goto (pc := 17) (tgt := 34) dX0_write_17 (by decide) ?_
    refine Rn.istore_n (pc := 34) dX0_write_34 rfl (by decide) rfl st5_3 ?_
    refine Rn.iload_n (pc := 35) dX0_write_35 rfl rfl ?_
    refine Rn.aload_n (pc := 36) dX0_write_36 rfl rfl ?_
    refine Rn.getI (pc := 37) (t := 0) flX0_62 hoM dX0_write_37 ?_
    refine Rn.iaddN (pc := 40) dX0_write_40 ?_
    refine Rn.istore (pc := 41) dX0_write_41 (by decide) rfl st5_4 ?_
    refine Rn.aload_n (pc := 43) dX0_write_43 rfl rfl ?_
    refine Rn.getI (pc := 44) (t := 0) flX0_73 hK9 dX0_write_44 ?_
    refine Rn.tableOut (pc := 47) (tgt := 113) dX0_write_47 (by decide) (by decide) ?_
    refine Rn.iconst (pc := 113) (v := nI 0) dX0_write_113 (by decide) ?_
    refine Rn.iret (pc := 114) rfl dX0_write_114 ?_
    have hnr : ¬ nref A := fun z => by unfold nref at z; omega
    unfold PWr er3; rw [if_neg hnr]
    exact ⟨rfl, Fr.refl M, fun _ z => absurd z (by omega)⟩

set_option maxRecDepth 20000 in
set_option maxHeartbeats 4000000 in
theorem k_write_3 (G : GX) {M : Mem} (j i : Nat) (sz : Nat → Nat) (B : LB) (g : Nat → Bool) (A : CR) (m sec off : Nat) (hR : RecC i A M) (hRc : RcOK A) (hfa : rFa A = 0) (hn : rNm A < 2 ^ 48) (hm : m < 4) (hsec : sec < 3) (hsM : mI M 8 i 9 = nI sec) (hoM : mI M 8 i 10 = nI off) (hk34 : rK A = 3 ∨ rK A = 4 → sec ≠ 2) (hk7 : rK A = 7 → sec = 0) (hb : rK A = 3 ∨ rK A = 4 ∨ rK A = 7 → fl sz (3 * m + sec) + off + by1 A off ≤ 2048) (hL : LbC j B M) (hG : GbC j B g M) (hN : LbN B) (hW : LbW B) (hA : AdC j (bsA sz) M) (hF : FdC j sz M) (hkk : rK A = 3) : MetM G yX0_write iX0_write [vR 0 j, vR 8 i, vI (nI m)] M (PWr j sz B g A m sec off M) := by
  refine MetM.of (ls := [some (vR 0 j), some (vR 8 i), some (vI (nI m)), none, none]) (by decide) rfl (Nat.le_of_ble_eq_true rfl) rfl ?_
  intro hM0
  have hK9 : mI M 8 i 3 = nI 3 := by rw [hR.1.2.2.2.1, hkk]
  have hb9 := hb (by omega)
  have hs2 := hk34 (by omega)
  refine Rn.aload_n (pc := 0) dX0_write_0 rfl rfl ?_
  refine Rn.getI (pc := 1) (t := 0) flX0_57 hsM dX0_write_1 ?_
  refine Rn.iconst (pc := 4) (v := nI 1) dX0_write_4 (by decide) ?_
  refine Rn.icmp_neN (pc := 5) (tgt := 20) dX0_write_5 (by decide) (by omega) (by decide) (fun c5 => ?_) (fun c5 => ?_)
  · refine Rn.aload_n (pc := 20) dX0_write_20 rfl rfl ?_
    refine Rn.getR (pc := 21) flX0_21 mu0_1 fx0_1 dX0_write_21 ?_
    refine Rn.getR (pc := 24) flX0_40 mu4_1 fx4_1 dX0_write_24 ?_
    refine Rn.iload_n (pc := 27) dX0_write_27 rfl rfl ?_
    refine Rn.aaldN (pc := 28) ak18 (by decide) rfl (by omega) (by decide) fx18 dX0_write_28 ?_
    refine Rn.aload_n (pc := 29) dX0_write_29 rfl rfl ?_
    refine Rn.getI (pc := 30) (t := 0) flX0_57 hsM dX0_write_30 ?_
    refine Rn.ialdN (pc := 33) ak19 (by omega) (by decide) (hA m sec hm hsec) dX0_write_33 ?_
    refine Rn.istore_n (pc := 34) dX0_write_34 rfl (by decide) rfl st5_3 ?_
    refine Rn.iload_n (pc := 35) dX0_write_35 rfl rfl ?_
    refine Rn.aload_n (pc := 36) dX0_write_36 rfl rfl ?_
    refine Rn.getI (pc := 37) (t := 0) flX0_62 hoM dX0_write_37 ?_
    refine Rn.iaddN (pc := 40) dX0_write_40 ?_
    refine Rn.istore (pc := 41) dX0_write_41 (by decide) rfl st5_4 ?_
    refine Rn.aload_n (pc := 43) dX0_write_43 rfl rfl ?_
    refine Rn.getI (pc := 44) (t := 0) flX0_73 hK9 dX0_write_44 ?_
    refine Rn.tableIn (pc := 47) (off := 33) (tgt := 80) dX0_write_47 (by decide) (by decide) rfl (by decide) ?_
    have hfl : fl sz (3 * m + sec) + off = (bsA sz (3 * m + sec) + off) := by rw [fl_sec (by omega), if_neg c5]
    have hby : by1 A off = 4 := by unfold by1; rw [if_neg (by omega)]; exact (hRc hfa).2.2.2.2.1 hkk
    rw [hby, hfl] at hb9
    refine Rn.aload_n (pc := 80) dX0_write_80 rfl rfl ?_
    refine Rn.aload_n (pc := 81) dX0_write_81 rfl rfl ?_
    refine Rn.iload_n (pc := 82) dX0_write_82 rfl rfl ?_
    refine Rn.iload (pc := 83) dX0_write_83 rfl ?_
    refine Rn.callV (pc := 85) (as := [_, _, _]) cvX0_82 ⟨by decide, rfl⟩ ⟨by decide, by decide⟩ dX0_write_85 (Nat.le_of_ble_eq_true rfl) rfl (k_writeWord G j i (bsA sz) B g A m (3 * m + sec) off (bsA sz (3 * m + sec) + off) hkk hR hn hm hb9 hL hG hN hW hA) ?_
    rintro _ M5 ⟨rfl, f5, b5⟩
    refine Rn.iret (pc := 88) rfl dX0_write_88 ?_
    unfold PWr; rw [hby, hfl]
    exact ⟨rfl, f5.mono (fun k i s h => ⟨Or.inl hkk, h⟩), fun z _ => b5 z⟩
  · refine Rn.aload_n (pc := 8) dX0_write_8 rfl rfl ?_
    refine Rn.getR (pc := 9) flX0_21 mu0_1 fx0_1 dX0_write_9 ?_
    refine Rn.getR (pc := 12) flX0_79 mu4_2 fx4_2 dX0_write_12 ?_
    refine Rn.iload_n (pc := 15) dX0_write_15 rfl rfl ?_
    refine Rn.ialdN (pc := 16) ak20 (by omega) (by decide) (hF m hm) dX0_write_16 ?_
    refine Rn.goto (pc := 17) (tgt := 34) dX0_write_17 (by decide) ?_
    refine Rn.istore_n (pc := 34) dX0_write_34 rfl (by decide) rfl st5_3 ?_
    refine Rn.iload_n (pc := 35) dX0_write_35 rfl rfl ?_
    refine Rn.aload_n (pc := 36) dX0_write_36 rfl rfl ?_
    refine Rn.getI (pc := 37) (t := 0) flX0_62 hoM dX0_write_37 ?_
    refine Rn.iaddN (pc := 40) dX0_write_40 ?_
    refine Rn.istore (pc := 41) dX0_write_41 (by decide) rfl st5_4 ?_
    refine Rn.aload_n (pc := 43) dX0_write_43 rfl rfl ?_
    refine Rn.getI (pc := 44) (t := 0) flX0_73 hK9 dX0_write_44 ?_
    refine Rn.tableIn (pc := 47) (off := 33) (tgt := 80) dX0_write_47 (by decide) (by decide) rfl (by decide) ?_
    have hfl : fl sz (3 * m + sec) + off = (fbA sz m + off) := by rw [fl_sec (by omega), if_pos c5]
    have hby : by1 A off = 4 := by unfold by1; rw [if_neg (by omega)]; exact (hRc hfa).2.2.2.2.1 hkk
    rw [hby, hfl] at hb9
    refine Rn.aload_n (pc := 80) dX0_write_80 rfl rfl ?_
    refine Rn.aload_n (pc := 81) dX0_write_81 rfl rfl ?_
    refine Rn.iload_n (pc := 82) dX0_write_82 rfl rfl ?_
    refine Rn.iload (pc := 83) dX0_write_83 rfl ?_
    refine Rn.callV (pc := 85) (as := [_, _, _]) cvX0_82 ⟨by decide, rfl⟩ ⟨by decide, by decide⟩ dX0_write_85 (Nat.le_of_ble_eq_true rfl) rfl (k_writeWord G j i (bsA sz) B g A m (3 * m + sec) off (fbA sz m + off) hkk hR hn hm hb9 hL hG hN hW hA) ?_
    rintro _ M5 ⟨rfl, f5, b5⟩
    refine Rn.iret (pc := 88) rfl dX0_write_88 ?_
    unfold PWr; rw [hby, hfl]
    exact ⟨rfl, f5.mono (fun k i s h => ⟨Or.inl hkk, h⟩), fun z _ => b5 z⟩

set_option maxRecDepth 20000 in
set_option maxHeartbeats 4000000 in
theorem k_write_4 (G : GX) {M : Mem} (j i : Nat) (sz : Nat → Nat) (B : LB) (g : Nat → Bool) (A : CR) (m sec off : Nat) (hR : RecC i A M) (hRc : RcOK A) (hfa : rFa A = 0) (hn : rNm A < 2 ^ 48) (hm : m < 4) (hsec : sec < 3) (hsM : mI M 8 i 9 = nI sec) (hoM : mI M 8 i 10 = nI off) (hk34 : rK A = 3 ∨ rK A = 4 → sec ≠ 2) (hk7 : rK A = 7 → sec = 0) (hb : rK A = 3 ∨ rK A = 4 ∨ rK A = 7 → fl sz (3 * m + sec) + off + by1 A off ≤ 2048) (hL : LbC j B M) (hG : GbC j B g M) (hN : LbN B) (hW : LbW B) (hA : AdC j (bsA sz) M) (hF : FdC j sz M) (hkk : rK A = 4) : MetM G yX0_write iX0_write [vR 0 j, vR 8 i, vI (nI m)] M (PWr j sz B g A m sec off M) := by
  refine MetM.of (ls := [some (vR 0 j), some (vR 8 i), some (vI (nI m)), none, none]) (by decide) rfl (Nat.le_of_ble_eq_true rfl) rfl ?_
  intro hM0
  have hK9 : mI M 8 i 3 = nI 4 := by rw [hR.1.2.2.2.1, hkk]
  have hb9 := hb (by omega)
  have hs2 := hk34 (by omega)
  refine Rn.aload_n (pc := 0) dX0_write_0 rfl rfl ?_
  refine Rn.getI (pc := 1) (t := 0) flX0_57 hsM dX0_write_1 ?_
  refine Rn.iconst (pc := 4) (v := nI 1) dX0_write_4 (by decide) ?_
  refine Rn.icmp_neN (pc := 5) (tgt := 20) dX0_write_5 (by decide) (by omega) (by decide) (fun c5 => ?_) (fun c5 => ?_)
  · refine Rn.aload_n (pc := 20) dX0_write_20 rfl rfl ?_
    refine Rn.getR (pc := 21) flX0_21 mu0_1 fx0_1 dX0_write_21 ?_
    refine Rn.getR (pc := 24) flX0_40 mu4_1 fx4_1 dX0_write_24 ?_
    refine Rn.iload_n (pc := 27) dX0_write_27 rfl rfl ?_
    refine Rn.aaldN (pc := 28) ak18 (by decide) rfl (by omega) (by decide) fx18 dX0_write_28 ?_
    refine Rn.aload_n (pc := 29) dX0_write_29 rfl rfl ?_
    refine Rn.getI (pc := 30) (t := 0) flX0_57 hsM dX0_write_30 ?_
    refine Rn.ialdN (pc := 33) ak19 (by omega) (by decide) (hA m sec hm hsec) dX0_write_33 ?_
    refine Rn.istore_n (pc := 34) dX0_write_34 rfl (by decide) rfl st5_3 ?_
    refine Rn.iload_n (pc := 35) dX0_write_35 rfl rfl ?_
    refine Rn.aload_n (pc := 36) dX0_write_36 rfl rfl ?_
    refine Rn.getI (pc := 37) (t := 0) flX0_62 hoM dX0_write_37 ?_
    refine Rn.iaddN (pc := 40) dX0_write_40 ?_
    refine Rn.istore (pc := 41) dX0_write_41 (by decide) rfl st5_4 ?_
    refine Rn.aload_n (pc := 43) dX0_write_43 rfl rfl ?_
    refine Rn.getI (pc := 44) (t := 0) flX0_73 hK9 dX0_write_44 ?_
    refine Rn.tableIn (pc := 47) (off := 42) (tgt := 89) dX0_write_47 (by decide) (by decide) rfl (by decide) ?_
    have hfl : fl sz (3 * m + sec) + off = (bsA sz (3 * m + sec) + off) := by rw [fl_sec (by omega), if_neg c5]
    have hby : by1 A off = 1 := by unfold by1; rw [if_neg (by omega)]; exact (hRc hfa).2.2.2.2.2.1 hkk
    rw [hby, hfl] at hb9
    refine Rn.aload_n (pc := 89) dX0_write_89 rfl rfl ?_
    refine Rn.getR (pc := 90) flX0_28 mu0_2 fx0_2 dX0_write_90 ?_
    refine Rn.iload (pc := 93) dX0_write_93 rfl ?_
    refine Rn.aload_n (pc := 95) dX0_write_95 rfl rfl ?_
    refine Rn.getI (pc := 96) (t := 0) flX0_86 hR.1.2.2.2.2.2.1 dX0_write_96 ?_
    refine Rn.callV (pc := 99) (as := [_, _]) cvX0_89 ⟨by decide, rfl⟩ ⟨by decide, by decide⟩ dX0_write_99 (Nat.le_of_ble_eq_true rfl) rfl (k_putByte G j (bsA sz (3 * m + sec) + off) (rNo A) (by omega)) ?_
    rintro _ M5 ⟨rfl, f5, b5⟩
    refine Rn.iconst (pc := 102) (v := nI 0) dX0_write_102 (by decide) ?_
    refine Rn.iret (pc := 103) rfl dX0_write_103 ?_
    have hnr : ¬ nref A := fun z => by unfold nref at z; omega
    unfold PWr er3; rw [hby, hfl, if_neg hnr]
    refine ⟨rfl, f5.mono (fun k i s h => ⟨Or.inr (Or.inl hkk), h⟩), fun z _ x hx => ?_⟩
    rw [b5 x hx, fb3, if_neg hnr, lb, if_pos (Or.inr (Or.inl hkk))]
  · refine Rn.aload_n (pc := 8) dX0_write_8 rfl rfl ?_
    refine Rn.getR (pc := 9) flX0_21 mu0_1 fx0_1 dX0_write_9 ?_
    refine Rn.getR (pc := 12) flX0_79 mu4_2 fx4_2 dX0_write_12 ?_
    refine Rn.iload_n (pc := 15) dX0_write_15 rfl rfl ?_
    refine Rn.ialdN (pc := 16) ak20 (by omega) (by decide) (hF m hm) dX0_write_16 ?_
    refine Rn.goto (pc := 17) (tgt := 34) dX0_write_17 (by decide) ?_
    refine Rn.istore_n (pc := 34) dX0_write_34 rfl (by decide) rfl st5_3 ?_
    refine Rn.iload_n (pc := 35) dX0_write_35 rfl rfl ?_
    refine Rn.aload_n (pc := 36) dX0_write_36 rfl rfl ?_
    refine Rn.getI (pc := 37) (t := 0) flX0_62 hoM dX0_write_37 ?_
    refine Rn.iaddN (pc := 40) dX0_write_40 ?_
    refine Rn.istore (pc := 41) dX0_write_41 (by decide) rfl st5_4 ?_
    refine Rn.aload_n (pc := 43) dX0_write_43 rfl rfl ?_
    refine Rn.getI (pc := 44) (t := 0) flX0_73 hK9 dX0_write_44 ?_
    refine Rn.tableIn (pc := 47) (off := 42) (tgt := 89) dX0_write_47 (by decide) (by decide) rfl (by decide) ?_
    have hfl : fl sz (3 * m + sec) + off = (fbA sz m + off) := by rw [fl_sec (by omega), if_pos c5]
    have hby : by1 A off = 1 := by unfold by1; rw [if_neg (by omega)]; exact (hRc hfa).2.2.2.2.2.1 hkk
    rw [hby, hfl] at hb9
    refine Rn.aload_n (pc := 89) dX0_write_89 rfl rfl ?_
    refine Rn.getR (pc := 90) flX0_28 mu0_2 fx0_2 dX0_write_90 ?_
    refine Rn.iload (pc := 93) dX0_write_93 rfl ?_
    refine Rn.aload_n (pc := 95) dX0_write_95 rfl rfl ?_
    refine Rn.getI (pc := 96) (t := 0) flX0_86 hR.1.2.2.2.2.2.1 dX0_write_96 ?_
    refine Rn.callV (pc := 99) (as := [_, _]) cvX0_89 ⟨by decide, rfl⟩ ⟨by decide, by decide⟩ dX0_write_99 (Nat.le_of_ble_eq_true rfl) rfl (k_putByte G j (fbA sz m + off) (rNo A) (by omega)) ?_
    rintro _ M5 ⟨rfl, f5, b5⟩
    refine Rn.iconst (pc := 102) (v := nI 0) dX0_write_102 (by decide) ?_
    refine Rn.iret (pc := 103) rfl dX0_write_103 ?_
    have hnr : ¬ nref A := fun z => by unfold nref at z; omega
    unfold PWr er3; rw [hby, hfl, if_neg hnr]
    refine ⟨rfl, f5.mono (fun k i s h => ⟨Or.inr (Or.inl hkk), h⟩), fun z _ x hx => ?_⟩
    rw [b5 x hx, fb3, if_neg hnr, lb, if_pos (Or.inr (Or.inl hkk))]

set_option maxRecDepth 20000 in
set_option maxHeartbeats 4000000 in
theorem k_write_5 (G : GX) {M : Mem} (j i : Nat) (sz : Nat → Nat) (B : LB) (g : Nat → Bool) (A : CR) (m sec off : Nat) (hR : RecC i A M) (hRc : RcOK A) (hfa : rFa A = 0) (hn : rNm A < 2 ^ 48) (hm : m < 4) (hsec : sec < 3) (hsM : mI M 8 i 9 = nI sec) (hoM : mI M 8 i 10 = nI off) (hk34 : rK A = 3 ∨ rK A = 4 → sec ≠ 2) (hk7 : rK A = 7 → sec = 0) (hb : rK A = 3 ∨ rK A = 4 ∨ rK A = 7 → fl sz (3 * m + sec) + off + by1 A off ≤ 2048) (hL : LbC j B M) (hG : GbC j B g M) (hN : LbN B) (hW : LbW B) (hA : AdC j (bsA sz) M) (hF : FdC j sz M) (hkk : rK A = 5) : MetM G yX0_write iX0_write [vR 0 j, vR 8 i, vI (nI m)] M (PWr j sz B g A m sec off M) := by
  refine MetM.of (ls := [some (vR 0 j), some (vR 8 i), some (vI (nI m)), none, none]) (by decide) rfl (Nat.le_of_ble_eq_true rfl) rfl ?_
  intro hM0
  have hK9 : mI M 8 i 3 = nI 5 := by rw [hR.1.2.2.2.1, hkk]
  refine Rn.aload_n (pc := 0) dX0_write_0 rfl rfl ?_
  refine Rn.getI (pc := 1) (t := 0) flX0_57 hsM dX0_write_1 ?_
  refine Rn.iconst (pc := 4) (v := nI 1) dX0_write_4 (by decide) ?_
  refine Rn.icmp_neN (pc := 5) (tgt := 20) dX0_write_5 (by decide) (by omega) (by decide) (fun c5 => ?_) (fun c5 => ?_)
  · refine Rn.aload_n (pc := 20) dX0_write_20 rfl rfl ?_
    refine Rn.getR (pc := 21) flX0_21 mu0_1 fx0_1 dX0_write_21 ?_
    refine Rn.getR (pc := 24) flX0_40 mu4_1 fx4_1 dX0_write_24 ?_
    refine Rn.iload_n (pc := 27) dX0_write_27 rfl rfl ?_
    refine Rn.aaldN (pc := 28) ak18 (by decide) rfl (by omega) (by decide) fx18 dX0_write_28 ?_
    refine Rn.aload_n (pc := 29) dX0_write_29 rfl rfl ?_
    refine Rn.getI (pc := 30) (t := 0) flX0_57 hsM dX0_write_30 ?_
    refine Rn.ialdN (pc := 33) ak19 (by omega) (by decide) (hA m sec hm hsec) dX0_write_33 ?_
    refine Rn.istore_n (pc := 34) dX0_write_34 rfl (by decide) rfl st5_3 ?_
    refine Rn.iload_n (pc := 35) dX0_write_35 rfl rfl ?_
    refine Rn.aload_n (pc := 36) dX0_write_36 rfl rfl ?_
    refine Rn.getI (pc := 37) (t := 0) flX0_62 hoM dX0_write_37 ?_
    refine Rn.iaddN (pc := 40) dX0_write_40 ?_
    refine Rn.istore (pc := 41) dX0_write_41 (by decide) rfl st5_4 ?_
    refine Rn.aload_n (pc := 43) dX0_write_43 rfl rfl ?_
    refine Rn.getI (pc := 44) (t := 0) flX0_73 hK9 dX0_write_44 ?_
    refine Rn.tableIn (pc := 47) (off := 66) (tgt := 113) dX0_write_47 (by decide) (by decide) rfl (by decide) ?_
    refine Rn.iconst (pc := 113) (v := nI 0) dX0_write_113 (by decide) ?_
    refine Rn.iret (pc := 114) rfl dX0_write_114 ?_
    have hnr : ¬ nref A := fun z => by unfold nref at z; omega
    unfold PWr er3; rw [if_neg hnr]
    exact ⟨rfl, Fr.refl M, fun _ z => absurd z (by omega)⟩
  · refine Rn.aload_n (pc := 8) dX0_write_8 rfl rfl ?_
    refine Rn.getR (pc := 9) flX0_21 mu0_1 fx0_1 dX0_write_9 ?_
    refine Rn.getR (pc := 12) flX0_79 mu4_2 fx4_2 dX0_write_12 ?_
    refine Rn.iload_n (pc := 15) dX0_write_15 rfl rfl ?_
    refine Rn.ialdN (pc := 16) ak20 (by omega) (by decide) (hF m hm) dX0_write_16 ?_
    refine Rn.goto (pc := 17) (tgt := 34) dX0_write_17 (by decide) ?_
    refine Rn.istore_n (pc := 34) dX0_write_34 rfl (by decide) rfl st5_3 ?_
    refine Rn.iload_n (pc := 35) dX0_write_35 rfl rfl ?_
    refine Rn.aload_n (pc := 36) dX0_write_36 rfl rfl ?_
    refine Rn.getI (pc := 37) (t := 0) flX0_62 hoM dX0_write_37 ?_
    refine Rn.iaddN (pc := 40) dX0_write_40 ?_
    refine Rn.istore (pc := 41) dX0_write_41 (by decide) rfl st5_4 ?_
    refine Rn.aload_n (pc := 43) dX0_write_43 rfl rfl ?_
    refine Rn.getI (pc := 44) (t := 0) flX0_73 hK9 dX0_write_44 ?_
    refine Rn.tableIn (pc := 47) (off := 66) (tgt := 113) dX0_write_47 (by decide) (by decide) rfl (by decide) ?_
    refine Rn.iconst (pc := 113) (v := nI 0) dX0_write_113 (by decide) ?_
    refine Rn.iret (pc := 114) rfl dX0_write_114 ?_
    have hnr : ¬ nref A := fun z => by unfold nref at z; omega
    unfold PWr er3; rw [if_neg hnr]
    exact ⟨rfl, Fr.refl M, fun _ z => absurd z (by omega)⟩

set_option maxRecDepth 20000 in
set_option maxHeartbeats 4000000 in
theorem k_write_6 (G : GX) {M : Mem} (j i : Nat) (sz : Nat → Nat) (B : LB) (g : Nat → Bool) (A : CR) (m sec off : Nat) (hR : RecC i A M) (hRc : RcOK A) (hfa : rFa A = 0) (hn : rNm A < 2 ^ 48) (hm : m < 4) (hsec : sec < 3) (hsM : mI M 8 i 9 = nI sec) (hoM : mI M 8 i 10 = nI off) (hk34 : rK A = 3 ∨ rK A = 4 → sec ≠ 2) (hk7 : rK A = 7 → sec = 0) (hb : rK A = 3 ∨ rK A = 4 ∨ rK A = 7 → fl sz (3 * m + sec) + off + by1 A off ≤ 2048) (hL : LbC j B M) (hG : GbC j B g M) (hN : LbN B) (hW : LbW B) (hA : AdC j (bsA sz) M) (hF : FdC j sz M) (hkk : rK A = 6) : MetM G yX0_write iX0_write [vR 0 j, vR 8 i, vI (nI m)] M (PWr j sz B g A m sec off M) := by
  refine MetM.of (ls := [some (vR 0 j), some (vR 8 i), some (vI (nI m)), none, none]) (by decide) rfl (Nat.le_of_ble_eq_true rfl) rfl ?_
  intro hM0
  have hK9 : mI M 8 i 3 = nI 6 := by rw [hR.1.2.2.2.1, hkk]
  refine Rn.aload_n (pc := 0) dX0_write_0 rfl rfl ?_
  refine Rn.getI (pc := 1) (t := 0) flX0_57 hsM dX0_write_1 ?_
  refine Rn.iconst (pc := 4) (v := nI 1) dX0_write_4 (by decide) ?_
  refine Rn.icmp_neN (pc := 5) (tgt := 20) dX0_write_5 (by decide) (by omega) (by decide) (fun c5 => ?_) (fun c5 => ?_)
  · refine Rn.aload_n (pc := 20) dX0_write_20 rfl rfl ?_
    refine Rn.getR (pc := 21) flX0_21 mu0_1 fx0_1 dX0_write_21 ?_
    refine Rn.getR (pc := 24) flX0_40 mu4_1 fx4_1 dX0_write_24 ?_
    refine Rn.iload_n (pc := 27) dX0_write_27 rfl rfl ?_
    refine Rn.aaldN (pc := 28) ak18 (by decide) rfl (by omega) (by decide) fx18 dX0_write_28 ?_
    refine Rn.aload_n (pc := 29) dX0_write_29 rfl rfl ?_
    refine Rn.getI (pc := 30) (t := 0) flX0_57 hsM dX0_write_30 ?_
    refine Rn.ialdN (pc := 33) ak19 (by omega) (by decide) (hA m sec hm hsec) dX0_write_33 ?_
    refine Rn.istore_n (pc := 34) dX0_write_34 rfl (by decide) rfl st5_3 ?_
    refine Rn.iload_n (pc := 35) dX0_write_35 rfl rfl ?_
    refine Rn.aload_n (pc := 36) dX0_write_36 rfl rfl ?_
    refine Rn.getI (pc := 37) (t := 0) flX0_62 hoM dX0_write_37 ?_
    refine Rn.iaddN (pc := 40) dX0_write_40 ?_
    refine Rn.istore (pc := 41) dX0_write_41 (by decide) rfl st5_4 ?_
    refine Rn.aload_n (pc := 43) dX0_write_43 rfl rfl ?_
    refine Rn.getI (pc := 44) (t := 0) flX0_73 hK9 dX0_write_44 ?_
    refine Rn.tableIn (pc := 47) (off := 66) (tgt := 113) dX0_write_47 (by decide) (by decide) rfl (by decide) ?_
    refine Rn.iconst (pc := 113) (v := nI 0) dX0_write_113 (by decide) ?_
    refine Rn.iret (pc := 114) rfl dX0_write_114 ?_
    have hnr : ¬ nref A := fun z => by unfold nref at z; omega
    unfold PWr er3; rw [if_neg hnr]
    exact ⟨rfl, Fr.refl M, fun _ z => absurd z (by omega)⟩
  · refine Rn.aload_n (pc := 8) dX0_write_8 rfl rfl ?_
    refine Rn.getR (pc := 9) flX0_21 mu0_1 fx0_1 dX0_write_9 ?_
    refine Rn.getR (pc := 12) flX0_79 mu4_2 fx4_2 dX0_write_12 ?_
    refine Rn.iload_n (pc := 15) dX0_write_15 rfl rfl ?_
    refine Rn.ialdN (pc := 16) ak20 (by omega) (by decide) (hF m hm) dX0_write_16 ?_
    refine Rn.goto (pc := 17) (tgt := 34) dX0_write_17 (by decide) ?_
    refine Rn.istore_n (pc := 34) dX0_write_34 rfl (by decide) rfl st5_3 ?_
    refine Rn.iload_n (pc := 35) dX0_write_35 rfl rfl ?_
    refine Rn.aload_n (pc := 36) dX0_write_36 rfl rfl ?_
    refine Rn.getI (pc := 37) (t := 0) flX0_62 hoM dX0_write_37 ?_
    refine Rn.iaddN (pc := 40) dX0_write_40 ?_
    refine Rn.istore (pc := 41) dX0_write_41 (by decide) rfl st5_4 ?_
    refine Rn.aload_n (pc := 43) dX0_write_43 rfl rfl ?_
    refine Rn.getI (pc := 44) (t := 0) flX0_73 hK9 dX0_write_44 ?_
    refine Rn.tableIn (pc := 47) (off := 66) (tgt := 113) dX0_write_47 (by decide) (by decide) rfl (by decide) ?_
    refine Rn.iconst (pc := 113) (v := nI 0) dX0_write_113 (by decide) ?_
    refine Rn.iret (pc := 114) rfl dX0_write_114 ?_
    have hnr : ¬ nref A := fun z => by unfold nref at z; omega
    unfold PWr er3; rw [if_neg hnr]
    exact ⟨rfl, Fr.refl M, fun _ z => absurd z (by omega)⟩

set_option maxRecDepth 20000 in
set_option maxHeartbeats 4000000 in
theorem k_write_7 (G : GX) {M : Mem} (j i : Nat) (sz : Nat → Nat) (B : LB) (g : Nat → Bool) (A : CR) (m sec off : Nat) (hR : RecC i A M) (hRc : RcOK A) (hfa : rFa A = 0) (hn : rNm A < 2 ^ 48) (hm : m < 4) (hsec : sec < 3) (hsM : mI M 8 i 9 = nI sec) (hoM : mI M 8 i 10 = nI off) (hk34 : rK A = 3 ∨ rK A = 4 → sec ≠ 2) (hk7 : rK A = 7 → sec = 0) (hb : rK A = 3 ∨ rK A = 4 ∨ rK A = 7 → fl sz (3 * m + sec) + off + by1 A off ≤ 2048) (hL : LbC j B M) (hG : GbC j B g M) (hN : LbN B) (hW : LbW B) (hA : AdC j (bsA sz) M) (hF : FdC j sz M) (hkk : rK A = 7) : MetM G yX0_write iX0_write [vR 0 j, vR 8 i, vI (nI m)] M (PWr j sz B g A m sec off M) := by
  refine MetM.of (ls := [some (vR 0 j), some (vR 8 i), some (vI (nI m)), none, none]) (by decide) rfl (Nat.le_of_ble_eq_true rfl) rfl ?_
  intro hM0
  have hK9 : mI M 8 i 3 = nI 7 := by rw [hR.1.2.2.2.1, hkk]
  have hb9 := hb (by omega)
  refine Rn.aload_n (pc := 0) dX0_write_0 rfl rfl ?_
  refine Rn.getI (pc := 1) (t := 0) flX0_57 hsM dX0_write_1 ?_
  refine Rn.iconst (pc := 4) (v := nI 1) dX0_write_4 (by decide) ?_
  refine Rn.icmp_neN (pc := 5) (tgt := 20) dX0_write_5 (by decide) (by omega) (by decide) (fun c5 => ?_) (fun c5 => ?_)
  · refine Rn.aload_n (pc := 20) dX0_write_20 rfl rfl ?_
    refine Rn.getR (pc := 21) flX0_21 mu0_1 fx0_1 dX0_write_21 ?_
    refine Rn.getR (pc := 24) flX0_40 mu4_1 fx4_1 dX0_write_24 ?_
    refine Rn.iload_n (pc := 27) dX0_write_27 rfl rfl ?_
    refine Rn.aaldN (pc := 28) ak18 (by decide) rfl (by omega) (by decide) fx18 dX0_write_28 ?_
    refine Rn.aload_n (pc := 29) dX0_write_29 rfl rfl ?_
    refine Rn.getI (pc := 30) (t := 0) flX0_57 hsM dX0_write_30 ?_
    refine Rn.ialdN (pc := 33) ak19 (by omega) (by decide) (hA m sec hm hsec) dX0_write_33 ?_
    refine Rn.istore_n (pc := 34) dX0_write_34 rfl (by decide) rfl st5_3 ?_
    refine Rn.iload_n (pc := 35) dX0_write_35 rfl rfl ?_
    refine Rn.aload_n (pc := 36) dX0_write_36 rfl rfl ?_
    refine Rn.getI (pc := 37) (t := 0) flX0_62 hoM dX0_write_37 ?_
    refine Rn.iaddN (pc := 40) dX0_write_40 ?_
    refine Rn.istore (pc := 41) dX0_write_41 (by decide) rfl st5_4 ?_
    refine Rn.aload_n (pc := 43) dX0_write_43 rfl rfl ?_
    refine Rn.getI (pc := 44) (t := 0) flX0_73 hK9 dX0_write_44 ?_
    refine Rn.tableIn (pc := 47) (off := 57) (tgt := 104) dX0_write_47 (by decide) (by decide) rfl (by decide) ?_
    have hfl : fl sz (3 * m + sec) + off = (bsA sz (3 * m + sec) + off) := by rw [fl_sec (by omega), if_neg c5]
    have hs0 := hk7 hkk
    have hby : by1 A off = if rRe A = 3 then 4 else 2 := by unfold by1; rw [if_neg (by omega)]; exact ((hRc hfa).2.2.2.2.2.2.2 hkk).2
    rw [hby, hfl] at hb9
    refine Rn.aload_n (pc := 104) dX0_write_104 rfl rfl ?_
    refine Rn.aload_n (pc := 105) dX0_write_105 rfl rfl ?_
    refine Rn.iload_n (pc := 106) dX0_write_106 rfl rfl ?_
    refine Rn.iload (pc := 107) dX0_write_107 rfl ?_
    refine Rn.callV (pc := 109) (as := [_, _, _]) cvX0_93 ⟨by decide, rfl⟩ ⟨by decide, by decide⟩ dX0_write_109 (Nat.le_of_ble_eq_true rfl) rfl (k_writeInstruction G j i (bsA sz) B g A m (3 * m + sec) off (bsA sz (3 * m + sec) + off) hkk hR hn ((hRc hfa).2.2.2.2.2.2.2 hkk).1 hm (by rw [hsM, hs0]) rfl hb9 hL hG hN hW hA) ?_
    rintro _ M5 ⟨rfl, f5, b5⟩
    refine Rn.iret (pc := 112) rfl dX0_write_112 ?_
    unfold PWr; rw [hby, hfl]
    exact ⟨rfl, f5.mono (fun k i s h => ⟨Or.inr (Or.inr hkk), h⟩), fun z _ => b5 z⟩
  · exact absurd (hk7 hkk) (by omega)

theorem k_write (G : GX) {M : Mem} (j i : Nat) (sz : Nat → Nat) (B : LB) (g : Nat → Bool) (A : CR) (m sec off : Nat) (hR : RecC i A M) (hRc : RcOK A) (hfa : rFa A = 0) (hn : rNm A < 2 ^ 48) (hm : m < 4) (hsec : sec < 3) (hsM : mI M 8 i 9 = nI sec) (hoM : mI M 8 i 10 = nI off) (hk34 : rK A = 3 ∨ rK A = 4 → sec ≠ 2) (hk7 : rK A = 7 → sec = 0) (hb : rK A = 3 ∨ rK A = 4 ∨ rK A = 7 → fl sz (3 * m + sec) + off + by1 A off ≤ 2048) (hL : LbC j B M) (hG : GbC j B g M) (hN : LbN B) (hW : LbW B) (hA : AdC j (bsA sz) M) (hF : FdC j sz M) : MetM G yX0_write iX0_write [vR 0 j, vR 8 i, vI (nI m)] M (PWr j sz B g A m sec off M) := by
  have h7 := (hRc hfa).2.1
  rcases (show rK A = 0 ∨ rK A = 1 ∨ rK A = 2 ∨ rK A = 3 ∨ rK A = 4 ∨ rK A = 5 ∨ rK A = 6 ∨ rK A = 7 by omega) with h | h | h | h | h | h | h | h
  · exact k_write_0 G j i sz B g A m sec off hR hRc hfa hn hm hsec hsM hoM hk34 hk7 hb hL hG hN hW hA hF h
  · exact k_write_1 G j i sz B g A m sec off hR hRc hfa hn hm hsec hsM hoM hk34 hk7 hb hL hG hN hW hA hF h
  · exact k_write_2 G j i sz B g A m sec off hR hRc hfa hn hm hsec hsM hoM hk34 hk7 hb hL hG hN hW hA hF h
  · exact k_write_3 G j i sz B g A m sec off hR hRc hfa hn hm hsec hsM hoM hk34 hk7 hb hL hG hN hW hA hF h
  · exact k_write_4 G j i sz B g A m sec off hR hRc hfa hn hm hsec hsM hoM hk34 hk7 hb hL hG hN hW hA hF h
  · exact k_write_5 G j i sz B g A m sec off hR hRc hfa hn hm hsec hsM hoM hk34 hk7 hb hL hG hN hW hA hF h
  · exact k_write_6 G j i sz B g A m sec off hR hRc hfa hn hm hsec hsM hoM hk34 hk7 hb hL hG hN hW hA hF h
  · exact k_write_7 G j i sz B g A m sec off hR hRc hfa hn hm hsec hsM hoM hk34 hk7 hb hL hG hN hW hA hF h
