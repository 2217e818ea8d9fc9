def fSum (L : Nat → Nat) (n wh th : Nat) (r : SR) (s : PS) : SR × PS :=
  if chA L n (skp L n (pWt L n 44 (pRg L n s).2).1) = 35 then ((nI 10, nI (wh + 256 * (pRg L n s).1) + (pIm L n (nI 0) (nI 255) (nI 1) (skp L n (pWt L n 44 (pRg L n s).2).1, (pWt L n 44 (pRg L n s).2).2)).1, r.2.2), (pIm L n (nI 0) (nI 255) (nI 1) (skp L n (pWt L n 44 (pRg L n s).2).1, (pWt L n 44 (pRg L n s).2).2)).2)
  else if chA L n (skp L n (pWt L n 44 (pRg L n (skp L n (pWt L n 44 (pRg L n s).2).1, (pWt L n 44 (pRg L n s).2).2)).2).1) = 35 then ((nI 10, nI (th + 1024) + nI 64 * (pIm L n (nI 0) (nI 7) (nI 1) (skp L n (pWt L n 44 (pRg L n (skp L n (pWt L n 44 (pRg L n s).2).1, (pWt L n 44 (pRg L n s).2).2)).2).1, (pWt L n 44 (pRg L n (skp L n (pWt L n 44 (pRg L n s).2).1, (pWt L n 44 (pRg L n s).2).2)).2).2)).1 + nI (8 * (pRg L n (skp L n (pWt L n 44 (pRg L n s).2).1, (pWt L n 44 (pRg L n s).2).2)).1) + nI (pRg L n s).1, r.2.2), (pIm L n (nI 0) (nI 7) (nI 1) (skp L n (pWt L n 44 (pRg L n (skp L n (pWt L n 44 (pRg L n s).2).1, (pWt L n 44 (pRg L n s).2).2)).2).1, (pWt L n 44 (pRg L n (skp L n (pWt L n 44 (pRg L n s).2).1, (pWt L n 44 (pRg L n s).2).2)).2).2)).2)
  else ((nI 10, nI (th + 64 * (pRg L n (skp L n (pWt L n 44 (pRg L n (skp L n (pWt L n 44 (pRg L n s).2).1, (pWt L n 44 (pRg L n s).2).2)).2).1, (pWt L n 44 (pRg L n (skp L n (pWt L n 44 (pRg L n s).2).1, (pWt L n 44 (pRg L n s).2).2)).2).2)).1 + 8 * (pRg L n (skp L n (pWt L n 44 (pRg L n s).2).1, (pWt L n 44 (pRg L n s).2).2)).1 + (pRg L n s).1), r.2.2), (pRg L n (skp L n (pWt L n 44 (pRg L n (skp L n (pWt L n 44 (pRg L n s).2).1, (pWt L n 44 (pRg L n s).2).2)).2).1, (pWt L n 44 (pRg L n (skp L n (pWt L n 44 (pRg L n s).2).1, (pWt L n 44 (pRg L n s).2).2)).2).2)).2)
set_option maxRecDepth 20000 in
set_option maxHeartbeats 4000000 in
theorem c_sums (G : GX) {o n : Nat} {L : Nat → Nat} {M : Mem} (h : LnOK o n L M) (r : SR) (s : PS) (hs : s.1 ≤ n) (wh th : Nat) : MetM G yX12_sums iX12_sums [vR 11 0, vI (nI wh), vI (nI th)] (wS o (stS M r) s) (fun q M' => q = none ∧ M' = wS o (stS M (fSum L n wh th r s).1) (fSum L n wh th r s).2) := by
  refine MetM.of (ls := [some (vR 11 0), some (vI (nI wh)), some (vI (nI th)), none, none]) (by decide) rfl (Nat.le_of_ble_eq_true rfl) rfl ?_
  intro hM0
  have hq1 := h.2.1
  have hq2 := h.2.2.1
  refine Rn.aload_n (pc := 0) dX12_sums_0 rfl rfl ?_
  refine Rn.callV (pc := 1) (as := []) cvX12_162 ⟨by decide, rfl⟩ ⟨by decide, by decide⟩ dX12_sums_1 (Nat.le_of_ble_eq_true rfl) rfl (c_register G (h.st r) s hs) ?_
  rintro _ _ ⟨rfl, rfl⟩
  refine Rn.istore_n (pc := 4) dX12_sums_4 rfl (by decide) rfl st5_3 ?_
  refine Rn.aload_n (pc := 5) dX12_sums_5 rfl rfl ?_
  refine Rn.bipush (pc := 6) (v := nI 44) dX12_sums_6 (by decide) ?_
  refine Rn.callV (pc := 8) (as := [_]) cvX12_148 ⟨by decide, rfl⟩ ⟨by decide, by decide⟩ dX12_sums_8 (Nat.le_of_ble_eq_true rfl) rfl (c_want G (h.st r) (pRg L n s).2 (pRg_le hs) 44 (by decide) (by decide)) ?_
  rintro _ _ ⟨rfl, rfl⟩
  refine Rn.aload_n (pc := 11) dX12_sums_11 rfl rfl ?_
  refine Rn.callV (pc := 12) (as := []) cvX12_116 ⟨by decide, rfl⟩ ⟨by decide, by decide⟩ dX12_sums_12 (Nat.le_of_ble_eq_true rfl) rfl (c_next G (h.st r) (pWt L n 44 (pRg L n s).2).1 (pWt_le (pRg_le hs) (by decide)) (pWt L n 44 (pRg L n s).2).2.1 (pWt L n 44 (pRg L n s).2).2.2) ?_
  rintro _ _ ⟨rfl, rfl⟩
  rw [show wP o (stS M r) (skp L n (pWt L n 44 (pRg L n s).2).1) (pWt L n 44 (pRg L n s).2).2.1 (pWt L n 44 (pRg L n s).2).2.2 = wS o (stS M r) (skp L n (pWt L n 44 (pRg L n s).2).1, (pWt L n 44 (pRg L n s).2).2) from rfl]
  refine Rn.bipush (pc := 15) (v := nI 35) dX12_sums_15 (by decide) ?_
  refine Rn.icmp_neN (pc := 17) (tgt := 42) dX12_sums_17 (by decide) (by have := chA_lt h (skp L n (pWt L n 44 (pRg L n s).2).1); omega) (by decide) (fun c17 => ?_) (fun c17 => ?_)
  · refine Rn.aload_n (pc := 42) dX12_sums_42 rfl rfl ?_
    refine Rn.callV (pc := 43) (as := []) cvX12_162 ⟨by decide, rfl⟩ ⟨by decide, by decide⟩ dX12_sums_43 (Nat.le_of_ble_eq_true rfl) rfl (c_register G (h.st r) (skp L n (pWt L n 44 (pRg L n s).2).1, (pWt L n 44 (pRg L n s).2).2) (skp_le (pWt_le (pRg_le hs) (by decide)))) ?_
    rintro _ _ ⟨rfl, rfl⟩
    refine Rn.istore (pc := 46) dX12_sums_46 (by decide) rfl st5_4 ?_
    refine Rn.aload_n (pc := 48) dX12_sums_48 rfl rfl ?_
    refine Rn.bipush (pc := 49) (v := nI 44) dX12_sums_49 (by decide) ?_
    refine Rn.callV (pc := 51) (as := [_]) cvX12_148 ⟨by decide, rfl⟩ ⟨by decide, by decide⟩ dX12_sums_51 (Nat.le_of_ble_eq_true rfl) rfl (c_want G (h.st r) (pRg L n (skp L n (pWt L n 44 (pRg L n s).2).1, (pWt L n 44 (pRg L n s).2).2)).2 (pRg_le (skp_le (pWt_le (pRg_le hs) (by decide)))) 44 (by decide) (by decide)) ?_
    rintro _ _ ⟨rfl, rfl⟩
    refine Rn.aload_n (pc := 54) dX12_sums_54 rfl rfl ?_
    refine Rn.callV (pc := 55) (as := []) cvX12_116 ⟨by decide, rfl⟩ ⟨by decide, by decide⟩ dX12_sums_55 (Nat.le_of_ble_eq_true rfl) rfl (c_next G (h.st r) (pWt L n 44 (pRg L n (skp L n (pWt L n 44 (pRg L n s).2).1, (pWt L n 44 (pRg L n s).2).2)).2).1 (pWt_le (pRg_le (skp_le (pWt_le (pRg_le hs) (by decide)))) (by decide)) (pWt L n 44 (pRg L n (skp L n (pWt L n 44 (pRg L n s).2).1, (pWt L n 44 (pRg L n s).2).2)).2).2.1 (pWt L n 44 (pRg L n (skp L n (pWt L n 44 (pRg L n s).2).1, (pWt L n 44 (pRg L n s).2).2)).2).2.2) ?_
    rintro _ _ ⟨rfl, rfl⟩
    rw [show wP o (stS M r) (skp L n (pWt L n 44 (pRg L n (skp L n (pWt L n 44 (pRg L n s).2).1, (pWt L n 44 (pRg L n s).2).2)).2).1) (pWt L n 44 (pRg L n (skp L n (pWt L n 44 (pRg L n s).2).1, (pWt L n 44 (pRg L n s).2).2)).2).2.1 (pWt L n 44 (pRg L n (skp L n (pWt L n 44 (pRg L n s).2).1, (pWt L n 44 (pRg L n s).2).2)).2).2.2 = wS o (stS M r) (skp L n (pWt L n 44 (pRg L n (skp L n (pWt L n 44 (pRg L n s).2).1, (pWt L n 44 (pRg L n s).2).2)).2).1, (pWt L n 44 (pRg L n (skp L n (pWt L n 44 (pRg L n s).2).1, (pWt L n 44 (pRg L n s).2).2)).2).2) from rfl]
    refine Rn.bipush (pc := 58) (v := nI 35) dX12_sums_58 (by decide) ?_
    refine Rn.icmp_neN (pc := 60) (tgt := 95) dX12_sums_60 (by decide) (by have := chA_lt h (skp L n (pWt L n 44 (pRg L n (skp L n (pWt L n 44 (pRg L n s).2).1, (pWt L n 44 (pRg L n s).2).2)).2).1); omega) (by decide) (fun c60 => ?_) (fun c60 => ?_)
    · refine Rn.aload_n (pc := 95) dX12_sums_95 rfl rfl ?_
      refine Rn.iload_n (pc := 96) dX12_sums_96 rfl rfl ?_
      refine Rn.bipush (pc := 97) (v := nI 64) dX12_sums_97 (by decide) ?_
      refine Rn.aload_n (pc := 99) dX12_sums_99 rfl rfl ?_
      refine Rn.callV (pc := 100) (as := []) cvX12_162 ⟨by decide, rfl⟩ ⟨by decide, by decide⟩ dX12_sums_100 (Nat.le_of_ble_eq_true rfl) rfl (c_register G (h.st r) (skp L n (pWt L n 44 (pRg L n (skp L n (pWt L n 44 (pRg L n s).2).1, (pWt L n 44 (pRg L n s).2).2)).2).1, (pWt L n 44 (pRg L n (skp L n (pWt L n 44 (pRg L n s).2).1, (pWt L n 44 (pRg L n s).2).2)).2).2) (skp_le (pWt_le (pRg_le (skp_le (pWt_le (pRg_le hs) (by decide)))) (by decide)))) ?_
      rintro _ _ ⟨rfl, rfl⟩
      refine Rn.imulN (pc := 103) dX12_sums_103 ?_
      refine Rn.iaddN (pc := 104) dX12_sums_104 ?_
      refine Rn.bipush (pc := 105) (v := nI 8) dX12_sums_105 (by decide) ?_
      refine Rn.iload (pc := 107) dX12_sums_107 rfl ?_
      refine Rn.imulN (pc := 109) dX12_sums_109 ?_
      refine Rn.iaddN (pc := 110) dX12_sums_110 ?_
      refine Rn.iload_n (pc := 111) dX12_sums_111 rfl rfl ?_
      refine Rn.iaddN (pc := 112) dX12_sums_112 ?_
      refine Rn.callV (pc := 113) (as := [_]) cvX12_165 ⟨by decide, rfl⟩ ⟨by decide, by decide⟩ dX12_sums_113 (Nat.le_of_ble_eq_true rfl) rfl (c_plain G r (pRg L n (skp L n (pWt L n 44 (pRg L n (skp L n (pWt L n 44 (pRg L n s).2).1, (pWt L n 44 (pRg L n s).2).2)).2).1, (pWt L n 44 (pRg L n (skp L n (pWt L n 44 (pRg L n s).2).1, (pWt L n 44 (pRg L n s).2).2)).2).2)).2 _) ?_
      rintro _ _ ⟨rfl, rfl⟩
      refine Rn.vret (pc := 116) rfl dX12_sums_116 ?_
      refine ⟨rfl, ?_⟩; rw [fSum, if_neg c17, if_neg c60]
    · refine Rn.aload_n (pc := 63) dX12_sums_63 rfl rfl ?_
      refine Rn.iload_n (pc := 64) dX12_sums_64 rfl rfl ?_
      refine Rn.sipush (pc := 65) (v := nI 1024) dX12_sums_65 (by decide) ?_
      refine Rn.iaddN (pc := 68) dX12_sums_68 ?_
      refine Rn.bipush (pc := 69) (v := nI 64) dX12_sums_69 (by decide) ?_
      refine Rn.aload_n (pc := 71) dX12_sums_71 rfl rfl ?_
      refine Rn.iconst (pc := 72) (v := nI 0) dX12_sums_72 (by decide) ?_
      refine Rn.bipush (pc := 73) (v := nI 7) dX12_sums_73 (by decide) ?_
      refine Rn.iconst (pc := 75) (v := nI 1) dX12_sums_75 (by decide) ?_
      refine Rn.callV (pc := 76) (as := [_, _, _]) cvX12_168 ⟨by decide, rfl⟩ ⟨by decide, by decide⟩ dX12_sums_76 (Nat.le_of_ble_eq_true rfl) rfl (c_immediate G (h.st r) (skp L n (pWt L n 44 (pRg L n (skp L n (pWt L n 44 (pRg L n s).2).1, (pWt L n 44 (pRg L n s).2).2)).2).1, (pWt L n 44 (pRg L n (skp L n (pWt L n 44 (pRg L n s).2).1, (pWt L n 44 (pRg L n s).2).2)).2).2) (skp_le (pWt_le (pRg_le (skp_le (pWt_le (pRg_le hs) (by decide)))) (by decide))) (nI 0) (nI 7) (nI 1) (by decide)) ?_
      rintro _ _ ⟨rfl, rfl⟩
      refine Rn.imul (pc := 79) dX12_sums_79 ?_
      refine Rn.iadd (pc := 80) dX12_sums_80 ?_
      refine Rn.bipush (pc := 81) (v := nI 8) dX12_sums_81 (by decide) ?_
      refine Rn.iload (pc := 83) dX12_sums_83 rfl ?_
      refine Rn.imulN (pc := 85) dX12_sums_85 ?_
      refine Rn.iadd (pc := 86) dX12_sums_86 ?_
      refine Rn.iload_n (pc := 87) dX12_sums_87 rfl rfl ?_
      refine Rn.iadd (pc := 88) dX12_sums_88 ?_
      refine Rn.callV (pc := 89) (as := [_]) cvX12_165 ⟨by decide, rfl⟩ ⟨by decide, by decide⟩ dX12_sums_89 (Nat.le_of_ble_eq_true rfl) rfl (c_plain G r (pIm L n (nI 0) (nI 7) (nI 1) (skp L n (pWt L n 44 (pRg L n (skp L n (pWt L n 44 (pRg L n s).2).1, (pWt L n 44 (pRg L n s).2).2)).2).1, (pWt L n 44 (pRg L n (skp L n (pWt L n 44 (pRg L n s).2).1, (pWt L n 44 (pRg L n s).2).2)).2).2)).2 _) ?_
      rintro _ _ ⟨rfl, rfl⟩
      refine Rn.goto (pc := 92) (tgt := 116) dX12_sums_92 (by decide) ?_
      refine Rn.vret (pc := 116) rfl dX12_sums_116 ?_
      refine ⟨rfl, ?_⟩; rw [fSum, if_neg c17, if_pos c60]
  · refine Rn.aload_n (pc := 20) dX12_sums_20 rfl rfl ?_
    refine Rn.iload_n (pc := 21) dX12_sums_21 rfl rfl ?_
    refine Rn.sipush (pc := 22) (v := nI 256) dX12_sums_22 (by decide) ?_
    refine Rn.iload_n (pc := 25) dX12_sums_25 rfl rfl ?_
    refine Rn.imulN (pc := 26) dX12_sums_26 ?_
    refine Rn.iaddN (pc := 27) dX12_sums_27 ?_
    refine Rn.aload_n (pc := 28) dX12_sums_28 rfl rfl ?_
    refine Rn.iconst (pc := 29) (v := nI 0) dX12_sums_29 (by decide) ?_
    refine Rn.sipush (pc := 30) (v := nI 255) dX12_sums_30 (by decide) ?_
    refine Rn.iconst (pc := 33) (v := nI 1) dX12_sums_33 (by decide) ?_
    refine Rn.callV (pc := 34) (as := [_, _, _]) cvX12_168 ⟨by decide, rfl⟩ ⟨by decide, by decide⟩ dX12_sums_34 (Nat.le_of_ble_eq_true rfl) rfl (c_immediate G (h.st r) (skp L n (pWt L n 44 (pRg L n s).2).1, (pWt L n 44 (pRg L n s).2).2) (skp_le (pWt_le (pRg_le hs) (by decide))) (nI 0) (nI 255) (nI 1) (by decide)) ?_
    rintro _ _ ⟨rfl, rfl⟩
    refine Rn.iadd (pc := 37) dX12_sums_37 ?_
    refine Rn.callV (pc := 38) (as := [_]) cvX12_165 ⟨by decide, rfl⟩ ⟨by decide, by decide⟩ dX12_sums_38 (Nat.le_of_ble_eq_true rfl) rfl (c_plain G r (pIm L n (nI 0) (nI 255) (nI 1) (skp L n (pWt L n 44 (pRg L n s).2).1, (pWt L n 44 (pRg L n s).2).2)).2 _) ?_
    rintro _ _ ⟨rfl, rfl⟩
    refine Rn.vret (pc := 41) rfl dX12_sums_41 ?_
    refine ⟨rfl, ?_⟩; rw [fSum, if_pos c17]

def fShf (L : Nat → Nat) (n fr : Nat) (lo hi : Int32) (r : SR) (s : PS) : SR × PS :=
  ((nI 10, nI fr + nI 64 * ((pIm L n lo hi (nI 1) (pWt L n 44 (pRg L n (pWt L n 44 (pRg L n s).2)).2)).1 &&& nI 31) + nI (8 * (pRg L n (pWt L n 44 (pRg L n s).2)).1) + nI (pRg L n s).1, r.2.2), (pIm L n lo hi (nI 1) (pWt L n 44 (pRg L n (pWt L n 44 (pRg L n s).2)).2)).2)
set_option maxRecDepth 20000 in
set_option maxHeartbeats 4000000 in
theorem c_shifts (G : GX) {o n : Nat} {L : Nat → Nat} {M : Mem} (h : LnOK o n L M) (r : SR) (s : PS) (hs : s.1 ≤ n) (fr : Nat) (lo hi : Int32) : MetM G yX12_shifts iX12_shifts [vR 11 0, vI (nI fr), vI lo, vI hi] (wS o (stS M r) s) (fun q M' => q = none ∧ M' = wS o (stS M (fShf L n fr lo hi r s).1) (fShf L n fr lo hi r s).2) := by
  refine MetM.of (ls := [some (vR 11 0), some (vI (nI fr)), some (vI lo), some (vI hi), none, none]) (by decide) rfl (Nat.le_of_ble_eq_true rfl) rfl ?_
  intro hM0
  have hq1 := h.2.1
  have hq2 := h.2.2.1
  refine Rn.aload_n (pc := 0) dX12_shifts_0 rfl rfl ?_
  refine Rn.callV (pc := 1) (as := []) cvX12_162 ⟨by decide, rfl⟩ ⟨by decide, by decide⟩ dX12_shifts_1 (Nat.le_of_ble_eq_true rfl) rfl (c_register G (h.st r) s hs) ?_
  rintro _ _ ⟨rfl, rfl⟩
  refine Rn.istore (pc := 4) dX12_shifts_4 (by decide) rfl st6_4 ?_
  refine Rn.aload_n (pc := 6) dX12_shifts_6 rfl rfl ?_
  refine Rn.bipush (pc := 7) (v := nI 44) dX12_shifts_7 (by decide) ?_
  refine Rn.callV (pc := 9) (as := [_]) cvX12_148 ⟨by decide, rfl⟩ ⟨by decide, by decide⟩ dX12_shifts_9 (Nat.le_of_ble_eq_true rfl) rfl (c_want G (h.st r) (pRg L n s).2 (pRg_le hs) 44 (by decide) (by decide)) ?_
  rintro _ _ ⟨rfl, rfl⟩
  refine Rn.aload_n (pc := 12) dX12_shifts_12 rfl rfl ?_
  refine Rn.callV (pc := 13) (as := []) cvX12_162 ⟨by decide, rfl⟩ ⟨by decide, by decide⟩ dX12_shifts_13 (Nat.le_of_ble_eq_true rfl) rfl (c_register G (h.st r) (pWt L n 44 (pRg L n s).2) (pWt_le (pRg_le hs) (by decide))) ?_
  rintro _ _ ⟨rfl, rfl⟩
  refine Rn.istore (pc := 16) dX12_shifts_16 (by decide) rfl st6_5 ?_
  refine Rn.aload_n (pc := 18) dX12_shifts_18 rfl rfl ?_
  refine Rn.bipush (pc := 19) (v := nI 44) dX12_shifts_19 (by decide) ?_
  refine Rn.callV (pc := 21) (as := [_]) cvX12_148 ⟨by decide, rfl⟩ ⟨by decide, by decide⟩ dX12_shifts_21 (Nat.le_of_ble_eq_true rfl) rfl (c_want G (h.st r) (pRg L n (pWt L n 44 (pRg L n s).2)).2 (pRg_le (pWt_le (pRg_le hs) (by decide))) 44 (by decide) (by decide)) ?_
  rintro _ _ ⟨rfl, rfl⟩
  refine Rn.aload_n (pc := 24) dX12_shifts_24 rfl rfl ?_
  refine Rn.iload_n (pc := 25) dX12_shifts_25 rfl rfl ?_
  refine Rn.bipush (pc := 26) (v := nI 64) dX12_shifts_26 (by decide) ?_
  refine Rn.aload_n (pc := 28) dX12_shifts_28 rfl rfl ?_
  refine Rn.iload_n (pc := 29) dX12_shifts_29 rfl rfl ?_
  refine Rn.iload_n (pc := 30) dX12_shifts_30 rfl rfl ?_
  refine Rn.iconst (pc := 31) (v := nI 1) dX12_shifts_31 (by decide) ?_
  refine Rn.callV (pc := 32) (as := [_, _, _]) cvX12_168 ⟨by decide, rfl⟩ ⟨by decide, by decide⟩ dX12_shifts_32 (Nat.le_of_ble_eq_true rfl) rfl (c_immediate G (h.st r) (pWt L n 44 (pRg L n (pWt L n 44 (pRg L n s).2)).2) (pWt_le (pRg_le (pWt_le (pRg_le hs) (by decide))) (by decide)) lo hi (nI 1) (by decide)) ?_
  rintro _ _ ⟨rfl, rfl⟩
  refine Rn.bipush (pc := 35) (v := nI 31) dX12_shifts_35 (by decide) ?_
  refine Rn.iand (pc := 37) dX12_shifts_37 ?_
  refine Rn.imul (pc := 38) dX12_shifts_38 ?_
  refine Rn.iadd (pc := 39) dX12_shifts_39 ?_
  refine Rn.bipush (pc := 40) (v := nI 8) dX12_shifts_40 (by decide) ?_
  refine Rn.iload (pc := 42) dX12_shifts_42 rfl ?_
  refine Rn.imulN (pc := 44) dX12_shifts_44 ?_
  refine Rn.iadd (pc := 45) dX12_shifts_45 ?_
  refine Rn.iload (pc := 46) dX12_shifts_46 rfl ?_
  refine Rn.iadd (pc := 48) dX12_shifts_48 ?_
  refine Rn.callV (pc := 49) (as := [_]) cvX12_165 ⟨by decide, rfl⟩ ⟨by decide, by decide⟩ dX12_shifts_49 (Nat.le_of_ble_eq_true rfl) rfl (c_plain G r (pIm L n lo hi (nI 1) (pWt L n 44 (pRg L n (pWt L n 44 (pRg L n s).2)).2)).2 _) ?_
  rintro _ _ ⟨rfl, rfl⟩
  refine Rn.vret (pc := 52) rfl dX12_shifts_52 ?_
  refine ⟨rfl, ?_⟩; rw [fShf]

def fJmp (o : Nat) (L : Nat → Nat) (n : Nat) (wh v : Int32) (r : SR) (s : PS) : SR × PS := ((wh, v, (fNa o L n r s).1.2.2), (fNa o L n r s).2)
set_option maxRecDepth 20000 in
set_option maxHeartbeats 4000000 in
theorem c_jump (G : GX) {o n : Nat} {L : Nat → Nat} {M : Mem} (h : LnOK o n L M) (r : SR) (s : PS) (hs : s.1 ≤ n) (wh v : Int32) : MetM G yX12_jump iX12_jump [vR 11 0, vI wh, vI v] (wS o (stS M r) s) (fun q M' => q = none ∧ M' = wS o (stS M (fJmp o L n wh v r s).1) (fJmp o L n wh v r s).2) := by
  refine MetM.of (ls := [some (vR 11 0), some (vI wh), some (vI v)]) (by decide) rfl (Nat.le_of_ble_eq_true rfl) rfl ?_
  intro hM0
  have hq1 := h.2.1
  have hq2 := h.2.2.1
  refine Rn.aload_n (pc := 0) dX12_jump_0 rfl rfl ?_
  refine Rn.callV (pc := 1) (as := []) cvX12_171 ⟨by decide, rfl⟩ ⟨by decide, by decide⟩ dX12_jump_1 (Nat.le_of_ble_eq_true rfl) rfl (c_readName G h r s hs) ?_
  rintro _ _ ⟨rfl, rfl⟩
  refine Rn.aload_n (pc := 4) dX12_jump_4 rfl rfl ?_
  refine Rn.iload_n (pc := 5) dX12_jump_5 rfl rfl ?_
  refine Rn.putI (pc := 6) (t := 0) flX12_156 rfl rfl dX12_jump_6 ?_
  rw [wQ_13]
  refine Rn.aload_n (pc := 9) dX12_jump_9 rfl rfl ?_
  refine Rn.iload_n (pc := 10) dX12_jump_10 rfl rfl ?_
  refine Rn.putI (pc := 11) (t := 0) flX12_159 rfl rfl dX12_jump_11 ?_
  rw [wQ_15]
  refine Rn.vret (pc := 14) rfl dX12_jump_14 ?_
  refine ⟨rfl, ?_⟩; rw [fJmp]

def fMemT (L : Nat → Nat) (n fr stp d : Nat) (r : SR) (u : PS) : SR × PS :=
  ((nI 10, nI fr + nI 64 * ((pIm L n (nI 0) (nI (31 * stp)) (nI stp) (pWt L n 44 (pRg L n (pWt L n 91 u)).2)).1 / nI stp) + nI (8 * (pRg L n (pWt L n 91 u)).1) + nI d, r.2.2), pWt L n 93 (pIm L n (nI 0) (nI (31 * stp)) (nI stp) (pWt L n 44 (pRg L n (pWt L n 91 u)).2)).2)
def fMem (o : Nat) (L : Nat → Nat) (n fr stp : Nat) (nm : Bool) (r : SR) (s : PS) : SR × PS :=
  if nm = true then (if chA L n (skp L n (pWt L n 44 (pRg L n s).2).1) = 91 then fMemT L n fr stp (pRg L n s).1 r (skp L n (pWt L n 44 (pRg L n s).2).1, (pWt L n 44 (pRg L n s).2).2) else ((nI 14, nI (18432 + 256 * (pRg L n s).1), (fNa o L n r (skp L n (pWt L n 44 (pRg L n s).2).1, (pWt L n 44 (pRg L n s).2).2)).1.2.2), (fNa o L n r (skp L n (pWt L n 44 (pRg L n s).2).1, (pWt L n 44 (pRg L n s).2).2)).2))
  else fMemT L n fr stp (pRg L n s).1 r (pWt L n 44 (pRg L n s).2)
set_option maxRecDepth 20000 in
set_option maxHeartbeats 4000000 in
theorem c_memory (G : GX) {o n : Nat} {L : Nat → Nat} {M : Mem} (h : LnOK o n L M) (r : SR) (s : PS) (hs : s.1 ≤ n) (fr stp : Nat) (nm : Bool) (hst : ¬ nI stp = 0) : MetM G yX12_memory iX12_memory [vR 11 0, vI (nI fr), vI (nI stp), vI (bI nm)] (wS o (stS M r) s) (fun q M' => q = none ∧ M' = wS o (stS M (fMem o L n fr stp nm r s).1) (fMem o L n fr stp nm r s).2) := by
  refine MetM.of (ls := [some (vR 11 0), some (vI (nI fr)), some (vI (nI stp)), some (vI (bI nm)), none, none, none]) (by decide) rfl (Nat.le_of_ble_eq_true rfl) rfl ?_
  intro hM0
  have hq1 := h.2.1
  have hq2 := h.2.2.1
  have tail : ∀ (u : PS), u.1 ≤ n → fMem o L n fr stp nm r s = fMemT L n fr stp (pRg L n s).1 r u → Rn G iX12_memory (fun q M' => q = none ∧ M' = wS o (stS M (fMem o L n fr stp nm r s).1) (fMem o L n fr stp nm r s).2) 50 [some (vR 11 0), some (vI (nI fr)), some (vI (nI stp)), some (vI (bI nm)), some (vI (nI (pRg L n s).1)), none, none] [] (wS o (stS M r) u) := by
    intro u hu hm
    refine Rn.aload_n (pc := 50) dX12_memory_50 rfl rfl ?_
    refine Rn.bipush (pc := 51) (v := nI 91) dX12_memory_51 (by decide) ?_
    refine Rn.callV (pc := 53) (as := [_]) cvX12_148 ⟨by decide, rfl⟩ ⟨by decide, by decide⟩ dX12_memory_53 (Nat.le_of_ble_eq_true rfl) rfl (c_want G (h.st r) u hu 91 (by decide) (by decide)) ?_
    rintro _ _ ⟨rfl, rfl⟩
    refine Rn.aload_n (pc := 56) dX12_memory_56 rfl rfl ?_
    refine Rn.callV (pc := 57) (as := []) cvX12_162 ⟨by decide, rfl⟩ ⟨by decide, by decide⟩ dX12_memory_57 (Nat.le_of_ble_eq_true rfl) rfl (c_register G (h.st r) (pWt L n 91 u) (pWt_le hu (by decide))) ?_
    rintro _ _ ⟨rfl, rfl⟩
    refine Rn.istore (pc := 60) dX12_memory_60 (by decide) rfl st7_5 ?_
    refine Rn.aload_n (pc := 62) dX12_memory_62 rfl rfl ?_
    refine Rn.bipush (pc := 63) (v := nI 44) dX12_memory_63 (by decide) ?_
    refine Rn.callV (pc := 65) (as := [_]) cvX12_148 ⟨by decide, rfl⟩ ⟨by decide, by decide⟩ dX12_memory_65 (Nat.le_of_ble_eq_true rfl) rfl (c_want G (h.st r) (pRg L n (pWt L n 91 u)).2 (pRg_le (pWt_le hu (by decide))) 44 (by decide) (by decide)) ?_
    rintro _ _ ⟨rfl, rfl⟩
    refine Rn.aload_n (pc := 68) dX12_memory_68 rfl rfl ?_
    refine Rn.iconst (pc := 69) (v := nI 0) dX12_memory_69 (by decide) ?_
    refine Rn.bipush (pc := 70) (v := nI 31) dX12_memory_70 (by decide) ?_
    refine Rn.iload_n (pc := 72) dX12_memory_72 rfl rfl ?_
    refine Rn.imulN (pc := 73) dX12_memory_73 ?_
    refine Rn.iload_n (pc := 74) dX12_memory_74 rfl rfl ?_
    refine Rn.callV (pc := 75) (as := [_, _, _]) cvX12_168 ⟨by decide, rfl⟩ ⟨by decide, by decide⟩ dX12_memory_75 (Nat.le_of_ble_eq_true rfl) rfl (c_immediate G (h.st r) (pWt L n 44 (pRg L n (pWt L n 91 u)).2) (pWt_le (pRg_le (pWt_le hu (by decide))) (by decide)) (nI 0) (nI (31 * stp)) (nI stp) hst) ?_
    rintro _ _ ⟨rfl, rfl⟩
    refine Rn.istore (pc := 78) dX12_memory_78 (by decide) rfl st7_6 ?_
    refine Rn.aload_n (pc := 80) dX12_memory_80 rfl rfl ?_
    refine Rn.bipush (pc := 81) (v := nI 93) dX12_memory_81 (by decide) ?_
    refine Rn.callV (pc := 83) (as := [_]) cvX12_148 ⟨by decide, rfl⟩ ⟨by decide, by decide⟩ dX12_memory_83 (Nat.le_of_ble_eq_true rfl) rfl (c_want G (h.st r) (pIm L n (nI 0) (nI (31 * stp)) (nI stp) (pWt L n 44 (pRg L n (pWt L n 91 u)).2)).2 (pNu_le (pWt_le (pWt_le (pRg_le (pWt_le hu (by decide))) (by decide)) (by decide))) 93 (by decide) (by decide)) ?_
    rintro _ _ ⟨rfl, rfl⟩
    refine Rn.aload_n (pc := 86) dX12_memory_86 rfl rfl ?_
    refine Rn.iload_n (pc := 87) dX12_memory_87 rfl rfl ?_
    refine Rn.bipush (pc := 88) (v := nI 64) dX12_memory_88 (by decide) ?_
    refine Rn.iload (pc := 90) dX12_memory_90 rfl ?_
    refine Rn.iload_n (pc := 92) dX12_memory_92 rfl rfl ?_
    refine Rn.idiv (pc := 93) dX12_memory_93 hst ?_
    refine Rn.imul (pc := 94) dX12_memory_94 ?_
    refine Rn.iadd (pc := 95) dX12_memory_95 ?_
    refine Rn.bipush (pc := 96) (v := nI 8) dX12_memory_96 (by decide) ?_
    refine Rn.iload (pc := 98) dX12_memory_98 rfl ?_
    refine Rn.imulN (pc := 100) dX12_memory_100 ?_
    refine Rn.iadd (pc := 101) dX12_memory_101 ?_
    refine Rn.iload (pc := 102) dX12_memory_102 rfl ?_
    refine Rn.iadd (pc := 104) dX12_memory_104 ?_
    refine Rn.callV (pc := 105) (as := [_]) cvX12_165 ⟨by decide, rfl⟩ ⟨by decide, by decide⟩ dX12_memory_105 (Nat.le_of_ble_eq_true rfl) rfl (c_plain G r (pWt L n 93 (pIm L n (nI 0) (nI (31 * stp)) (nI stp) (pWt L n 44 (pRg L n (pWt L n 91 u)).2)).2) _) ?_
    rintro _ _ ⟨rfl, rfl⟩
    refine Rn.vret (pc := 108) rfl dX12_memory_108 ?_
    refine ⟨rfl, ?_⟩; rw [hm, fMemT]
  refine Rn.aload_n (pc := 0) dX12_memory_0 rfl rfl ?_
  refine Rn.callV (pc := 1) (as := []) cvX12_162 ⟨by decide, rfl⟩ ⟨by decide, by decide⟩ dX12_memory_1 (Nat.le_of_ble_eq_true rfl) rfl (c_register G (h.st r) s hs) ?_
  rintro _ _ ⟨rfl, rfl⟩
  refine Rn.istore (pc := 4) dX12_memory_4 (by decide) rfl st7_4 ?_
  refine Rn.aload_n (pc := 6) dX12_memory_6 rfl rfl ?_
  refine Rn.bipush (pc := 7) (v := nI 44) dX12_memory_7 (by decide) ?_
  refine Rn.callV (pc := 9) (as := [_]) cvX12_148 ⟨by decide, rfl⟩ ⟨by decide, by decide⟩ dX12_memory_9 (Nat.le_of_ble_eq_true rfl) rfl (c_want G (h.st r) (pRg L n s).2 (pRg_le hs) 44 (by decide) (by decide)) ?_
  rintro _ _ ⟨rfl, rfl⟩
  refine Rn.iload_n (pc := 12) dX12_memory_12 rfl rfl ?_
  refine Rn.if_eqB (pc := 13) (tgt := 50) dX12_memory_13 (by decide) (fun c13 => ?_) (fun c13 => ?_)
  · exact tail (pWt L n 44 (pRg L n s).2) (pWt_le (pRg_le hs) (by decide)) (by rw [fMem, if_neg (by rw [c13]; decide)])
  · refine Rn.aload_n (pc := 16) dX12_memory_16 rfl rfl ?_
    refine Rn.callV (pc := 17) (as := []) cvX12_116 ⟨by decide, rfl⟩ ⟨by decide, by decide⟩ dX12_memory_17 (Nat.le_of_ble_eq_true rfl) rfl (c_next G (h.st r) (pWt L n 44 (pRg L n s).2).1 (pWt_le (pRg_le hs) (by decide)) (pWt L n 44 (pRg L n s).2).2.1 (pWt L n 44 (pRg L n s).2).2.2) ?_
    rintro _ _ ⟨rfl, rfl⟩
    rw [show wP o (stS M r) (skp L n (pWt L n 44 (pRg L n s).2).1) (pWt L n 44 (pRg L n s).2).2.1 (pWt L n 44 (pRg L n s).2).2.2 = wS o (stS M r) (skp L n (pWt L n 44 (pRg L n s).2).1, (pWt L n 44 (pRg L n s).2).2) from rfl]
    refine Rn.bipush (pc := 20) (v := nI 91) dX12_memory_20 (by decide) ?_
    refine Rn.icmp_eqN (pc := 22) (tgt := 50) dX12_memory_22 (by decide) (by have := chA_lt h (skp L n (pWt L n 44 (pRg L n s).2).1); omega) (by decide) (fun c22 => ?_) (fun c22 => ?_)
    · exact tail (skp L n (pWt L n 44 (pRg L n s).2).1, (pWt L n 44 (pRg L n s).2).2) (skp_le (pWt_le (pRg_le hs) (by decide))) (by rw [fMem, if_pos c13, if_pos c22])
    · refine Rn.aload_n (pc := 25) dX12_memory_25 rfl rfl ?_
      refine Rn.callV (pc := 26) (as := []) cvX12_171 ⟨by decide, rfl⟩ ⟨by decide, by decide⟩ dX12_memory_26 (Nat.le_of_ble_eq_true rfl) rfl (c_readName G h r (skp L n (pWt L n 44 (pRg L n s).2).1, (pWt L n 44 (pRg L n s).2).2) (skp_le (pWt_le (pRg_le hs) (by decide)))) ?_
      rintro _ _ ⟨rfl, rfl⟩
      refine Rn.aload_n (pc := 29) dX12_memory_29 rfl rfl ?_
      refine Rn.bipush (pc := 30) (v := nI 14) dX12_memory_30 (by decide) ?_
      refine Rn.putI (pc := 32) (t := 0) flX12_156 rfl rfl dX12_memory_32 ?_
      rw [wQ_13]
      refine Rn.aload_n (pc := 35) dX12_memory_35 rfl rfl ?_
      refine Rn.sipush (pc := 36) (v := nI 18432) dX12_memory_36 (by decide) ?_
      refine Rn.sipush (pc := 39) (v := nI 256) dX12_memory_39 (by decide) ?_
      refine Rn.iload (pc := 42) dX12_memory_42 rfl ?_
      refine Rn.imulN (pc := 44) dX12_memory_44 ?_
      refine Rn.iaddN (pc := 45) dX12_memory_45 ?_
      refine Rn.putI (pc := 46) (t := 0) flX12_159 rfl rfl dX12_memory_46 ?_
      rw [wQ_15]
      refine Rn.vret (pc := 49) rfl dX12_memory_49 ?_
      refine ⟨rfl, ?_⟩; rw [fMem, if_pos c13, if_neg c22]

