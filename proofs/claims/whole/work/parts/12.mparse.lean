set_option maxRecDepth 20000 in
set_option maxHeartbeats 4000000 in
theorem c_isName (G : GX) {o n : Nat} {L : Nat → Nat} {M : Mem} (h : LnOK o n L M) (s : PS) (a e : Nat) (ha : a ≤ e) (he : e ≤ n) : MetM G yX12_isName iX12_isName [vR 11 0, vI (nI (o + a)), vI (nI (o + e))] (wS o M s) (fun r M' => r = some (vI (bI (isNm L a e))) ∧ M' = wS o M s) := by
  refine MetM.of (ls := [some (vR 11 0), some (vI (nI (o + a))), some (vI (nI (o + e))), none, none]) (by decide) rfl (Nat.le_of_ble_eq_true rfl) rfl ?_
  intro hM0
  have hq1 := h.2.1
  have hq2 := h.2.2.1
  have loop : ∀ (d k : Nat) (b : Bool), a ≤ k → k ≤ e → e - k = d → isNm L a e = (b && allWs L k e) → Rn G iX12_isName (fun r M' => r = some (vI (bI (isNm L a e))) ∧ M' = wS o M s) 36 [some (vR 11 0), some (vI (nI (o + a))), some (vI (nI (o + e))), some (vI (bI b)), some (vI (nI (o + k)))] [] (wS o M s) := by
    intro d
    induction d using Nat.strongRecOn with
    | ind d ih =>
      intro k b hk hk2 hd hw
      refine Rn.iload (pc := 36) dX12_isName_36 rfl ?_
      refine Rn.iload_n (pc := 38) dX12_isName_38 rfl rfl ?_
      refine Rn.icmp_geN (pc := 39) (tgt := 84) dX12_isName_39 (by decide) (by omega) (by omega) (fun c39 => ?_) (fun c39 => ?_)
      · refine Rn.iload_n (pc := 84) dX12_isName_84 rfl rfl ?_
        refine Rn.zret (pc := 85) rfl bI_n dX12_isName_85 ?_
        refine ⟨?_, rfl⟩
        first
          | (rw [hw, c43]; simp; done)
          | (rw [hw, allWs, run_end (by omega)]; simp; congr 1; omega)
          | (rw [hw, allWs, run_end (by omega), show k = e by omega]; simp)
      · refine Rn.iload_n (pc := 42) dX12_isName_42 rfl rfl ?_
        refine Rn.if_eqB (pc := 43) (tgt := 84) dX12_isName_43 (by decide) (fun c43 => ?_) (fun c43 => ?_)
        · refine Rn.iload_n (pc := 84) dX12_isName_84 rfl rfl ?_
          refine Rn.zret (pc := 85) rfl bI_n dX12_isName_85 ?_
          refine ⟨?_, rfl⟩
          first
            | (rw [hw, c43]; simp; done)
            | (rw [hw, allWs, run_end (by omega)]; simp; congr 1; omega)
            | (rw [hw, allWs, run_end (by omega), show k = e by omega]; simp)
        · refine Rn.aload_n (pc := 46) dX12_isName_46 rfl rfl ?_
          refine Rn.getR (pc := 47) flX12_20 mu11_5 fx11_5 dX12_isName_47 ?_
          refine Rn.iload (pc := 50) dX12_isName_50 rfl ?_
          refine Rn.caldN (pc := 52) ak25 (by omega) (by decide) (wS_tx h k (by omega)) dX12_isName_52 ?_
          refine Rn.callS (pc := 53) (as := [_]) csX12_109 ⟨by decide, by decide⟩ dX12_isName_53 (Nat.le_of_ble_eq_true rfl) rfl (c_isSmall G (L k) (by have := h.2.2.2.2.1 k (by omega); omega)) ?_
          rintro _ _ ⟨rfl, rfl⟩
          refine Rn.if_neB (pc := 56) (tgt := 72) dX12_isName_56 (by decide) (fun c56 => ?_) (fun c56 => ?_)
          · refine Rn.iconst (pc := 72) (v := nI 1) dX12_isName_72 (by decide) ?_
            refine Rn.goto (pc := 73) (tgt := 77) dX12_isName_73 (by decide) ?_
            refine Rn.istore_n (pc := 77) dX12_isName_77 rfl (by decide) rfl st5_3 ?_
            refine Rn.iincN (pc := 78) (n := 1) dX12_isName_78 rfl (by decide) (by decide) rfl st5_4 ?_
            refine Rn.goto (pc := 81) (tgt := 36) dX12_isName_81 (by decide) ?_
            first
              | exact ih (e - (k + 1)) (by omega) (k + 1) true (by omega) (by omega) rfl (by rw [hw, c43, allWs, allWs, run_yes (by omega) (by simp [isWs, *])])
              | exact ih (e - (k + 1)) (by omega) (k + 1) false (by omega) (by omega) rfl (by rw [hw, c43, allWs, run_no (by omega) (by simp [isWs, *])]; simp; omega)
          · refine Rn.aload_n (pc := 59) dX12_isName_59 rfl rfl ?_
            refine Rn.getR (pc := 60) flX12_20 mu11_5 fx11_5 dX12_isName_60 ?_
            refine Rn.iload (pc := 63) dX12_isName_63 rfl ?_
            refine Rn.caldN (pc := 65) ak25 (by omega) (by decide) (wS_tx h k (by omega)) dX12_isName_65 ?_
            refine Rn.callS (pc := 66) (as := [_]) csX12_113 ⟨by decide, by decide⟩ dX12_isName_66 (Nat.le_of_ble_eq_true rfl) rfl (c_isDigit G (L k) (by have := h.2.2.2.2.1 k (by omega); omega)) ?_
            rintro _ _ ⟨rfl, rfl⟩
            refine Rn.if_eqB (pc := 69) (tgt := 76) dX12_isName_69 (by decide) (fun c69 => ?_) (fun c69 => ?_)
            · refine Rn.iconst (pc := 76) (v := nI 0) dX12_isName_76 (by decide) ?_
              refine Rn.istore_n (pc := 77) dX12_isName_77 rfl (by decide) rfl st5_3 ?_
              refine Rn.iincN (pc := 78) (n := 1) dX12_isName_78 rfl (by decide) (by decide) rfl st5_4 ?_
              refine Rn.goto (pc := 81) (tgt := 36) dX12_isName_81 (by decide) ?_
              first
                | exact ih (e - (k + 1)) (by omega) (k + 1) true (by omega) (by omega) rfl (by rw [hw, c43, allWs, allWs, run_yes (by omega) (by simp [isWs, *])])
                | exact ih (e - (k + 1)) (by omega) (k + 1) false (by omega) (by omega) rfl (by rw [hw, c43, allWs, run_no (by omega) (by simp [isWs, *])]; simp; omega)
            · refine Rn.iconst (pc := 72) (v := nI 1) dX12_isName_72 (by decide) ?_
              refine Rn.goto (pc := 73) (tgt := 77) dX12_isName_73 (by decide) ?_
              refine Rn.istore_n (pc := 77) dX12_isName_77 rfl (by decide) rfl st5_3 ?_
              refine Rn.iincN (pc := 78) (n := 1) dX12_isName_78 rfl (by decide) (by decide) rfl st5_4 ?_
              refine Rn.goto (pc := 81) (tgt := 36) dX12_isName_81 (by decide) ?_
              first
                | exact ih (e - (k + 1)) (by omega) (k + 1) true (by omega) (by omega) rfl (by rw [hw, c43, allWs, allWs, run_yes (by omega) (by simp [isWs, *])])
                | exact ih (e - (k + 1)) (by omega) (k + 1) false (by omega) (by omega) rfl (by rw [hw, c43, allWs, run_no (by omega) (by simp [isWs, *])]; simp; omega)
  refine Rn.iload_n (pc := 0) dX12_isName_0 rfl rfl ?_
  refine Rn.iload_n (pc := 1) dX12_isName_1 rfl rfl ?_
  refine Rn.isub (pc := 2) dX12_isName_2 ?_
  rw [pk_sub (by omega), show o + e - (o + a) = e - a by omega]
  refine Rn.iconst (pc := 3) (v := nI 1) dX12_isName_3 (by decide) ?_
  refine Rn.icmp_ltN (pc := 4) (tgt := 31) dX12_isName_4 (by decide) (by omega) (by omega) (fun c4 => ?_) (fun c4 => ?_)
  · refine Rn.iconst (pc := 31) (v := nI 0) dX12_isName_31 (by decide) ?_
    refine Rn.istore_n (pc := 32) dX12_isName_32 rfl (by decide) rfl st5_3 ?_
    refine Rn.iload_n (pc := 33) dX12_isName_33 rfl rfl ?_
    refine Rn.istore (pc := 34) dX12_isName_34 (by decide) rfl st5_4 ?_
    first
      | exact loop _ a true (by omega) (by omega) rfl (by simp [isNm, *]; try omega)
      | exact loop _ a false (by omega) (by omega) rfl (by simp [isNm, *]; try omega)
  · refine Rn.iload_n (pc := 7) dX12_isName_7 rfl rfl ?_
    refine Rn.iload_n (pc := 8) dX12_isName_8 rfl rfl ?_
    refine Rn.isub (pc := 9) dX12_isName_9 ?_
    rw [pk_sub (by omega), show o + e - (o + a) = e - a by omega]
    refine Rn.bipush (pc := 10) (v := nI 6) dX12_isName_10 (by decide) ?_
    refine Rn.icmp_gtN (pc := 12) (tgt := 31) dX12_isName_12 (by decide) (by omega) (by omega) (fun c12 => ?_) (fun c12 => ?_)
    · refine Rn.iconst (pc := 31) (v := nI 0) dX12_isName_31 (by decide) ?_
      refine Rn.istore_n (pc := 32) dX12_isName_32 rfl (by decide) rfl st5_3 ?_
      refine Rn.iload_n (pc := 33) dX12_isName_33 rfl rfl ?_
      refine Rn.istore (pc := 34) dX12_isName_34 (by decide) rfl st5_4 ?_
      first
        | exact loop _ a true (by omega) (by omega) rfl (by simp [isNm, *]; try omega)
        | exact loop _ a false (by omega) (by omega) rfl (by simp [isNm, *]; try omega)
    · refine Rn.aload_n (pc := 15) dX12_isName_15 rfl rfl ?_
      refine Rn.getR (pc := 16) flX12_20 mu11_5 fx11_5 dX12_isName_16 ?_
      refine Rn.iload_n (pc := 19) dX12_isName_19 rfl rfl ?_
      refine Rn.caldN (pc := 20) ak25 (by omega) (by decide) (wS_tx h a (by omega)) dX12_isName_20 ?_
      refine Rn.callS (pc := 21) (as := [_]) csX12_109 ⟨by decide, by decide⟩ dX12_isName_21 (Nat.le_of_ble_eq_true rfl) rfl (c_isSmall G (L a) (by have := h.2.2.2.2.1 a (by omega); omega)) ?_
      rintro _ _ ⟨rfl, rfl⟩
      refine Rn.if_eqB (pc := 24) (tgt := 31) dX12_isName_24 (by decide) (fun c24 => ?_) (fun c24 => ?_)
      · refine Rn.iconst (pc := 31) (v := nI 0) dX12_isName_31 (by decide) ?_
        refine Rn.istore_n (pc := 32) dX12_isName_32 rfl (by decide) rfl st5_3 ?_
        refine Rn.iload_n (pc := 33) dX12_isName_33 rfl rfl ?_
        refine Rn.istore (pc := 34) dX12_isName_34 (by decide) rfl st5_4 ?_
        first
          | exact loop _ a true (by omega) (by omega) rfl (by simp [isNm, *]; try omega)
          | exact loop _ a false (by omega) (by omega) rfl (by simp [isNm, *]; try omega)
      · refine Rn.iconst (pc := 27) (v := nI 1) dX12_isName_27 (by decide) ?_
        refine Rn.goto (pc := 28) (tgt := 32) dX12_isName_28 (by decide) ?_
        refine Rn.istore_n (pc := 32) dX12_isName_32 rfl (by decide) rfl st5_3 ?_
        refine Rn.iload_n (pc := 33) dX12_isName_33 rfl rfl ?_
        refine Rn.istore (pc := 34) dX12_isName_34 (by decide) rfl st5_4 ?_
        first
          | exact loop _ a true (by omega) (by omega) rfl (by simp [isNm, *]; try omega)
          | exact loop _ a false (by omega) (by omega) rfl (by simp [isNm, *]; try omega)

def isRg (L : Nat → Nat) (a e : Nat) : Bool := decide (e - a = 2) && (decide (L a = 114) && (decide (48 ≤ L (a + 1)) && decide (L (a + 1) ≤ 55)))
def pRg (L : Nat → Nat) (n : Nat) (s : PS) : Nat × PS := if s.2.1 = 0 ∧ isRg L (skp L n s.1) (wEnd L n (skp L n s.1)) = true then (L (skp L n s.1 + 1) - 48, wEnd L n (skp L n s.1), s.2) else (0, pWrong (skp L n s.1, s.2) (-3) (skp L n s.1))
theorem pRg_le {L : Nat → Nat} {n : Nat} {s : PS} (h : s.1 ≤ n) : (pRg L n s).2.1 ≤ n := by
  unfold pRg
  split
  · exact wEnd_le (skp_le h)
  · rw [pWrong_1]; exact skp_le h
theorem pRg_lt {L : Nat → Nat} {n : Nat} {s : PS} : (pRg L n s).1 < 8 := by
  unfold pRg
  split
  · rename_i h
    have h2 := h.2
    simp only [isRg, Bool.and_eq_true, decide_eq_true_eq] at h2
    show L (skp L n s.1 + 1) - 48 < 8
    omega
  · show 0 < 8; decide
set_option maxRecDepth 20000 in
set_option maxHeartbeats 4000000 in
theorem c_register (G : GX) {o n : Nat} {L : Nat → Nat} {M : Mem} (h : LnOK o n L M) (s : PS) (hs : s.1 ≤ n) : MetM G yX12_register iX12_register [vR 11 0] (wS o M s) (fun r M' => r = some (vI (nI (pRg L n s).1)) ∧ M' = wS o M (pRg L n s).2) := by
  refine MetM.of (ls := [some (vR 11 0), none, none, none]) (by decide) rfl (Nat.le_of_ble_eq_true rfl) rfl ?_
  intro hM0
  have hq1 := h.2.1
  have hq2 := h.2.2.1
  have hk1 := skp_le (L := L) hs
  have hk2 := wEnd_le (L := L) hk1
  have hk3 := wEnd_ge (L := L) hk1
  have J : ∀ (b : Bool), isRg L (skp L n s.1) (wEnd L n (skp L n s.1)) = b → Rn G iX12_register (fun r M' => r = some (vI (nI (pRg L n s).1)) ∧ M' = wS o M (pRg L n s).2) 66 [some (vR 11 0), some (vI (nI (o + wEnd L n (skp L n s.1)))), none, none] [vI (bI b)] (wS o M (skp L n s.1, s.2)) := by
    intro b hb
    refine Rn.istore_n (pc := 66) dX12_register_66 rfl (by decide) rfl st4_2 ?_
    refine Rn.aload_n (pc := 67) dX12_register_67 rfl rfl ?_
    refine Rn.getI (pc := 68) (t := 0) flX12_100 wS_f dX12_register_68 ?_
    refine Rn.if_ne (pc := 71) (y := 0) (tgt := 78) dX12_register_71 (by decide) (fun c71 => ?_) (fun c71 => ?_)
    · refine Rn.aload_n (pc := 78) dX12_register_78 rfl rfl ?_
      refine Rn.bipush (pc := 79) (v := -3) dX12_register_79 (by decide) ?_
      refine Rn.aload_n (pc := 81) dX12_register_81 rfl rfl ?_
      refine Rn.getI (pc := 82) (t := 0) flX12_94 wS_at dX12_register_82 ?_
      refine Rn.callV (pc := 85) (as := [_, _]) cvX12_123 ⟨by decide, rfl⟩ ⟨by decide, by decide⟩ dX12_register_85 (Nat.le_of_ble_eq_true rfl) rfl (c_wrong G h (skp L n s.1, s.2) (-3) (skp L n s.1) hk1) ?_
      rintro _ _ ⟨rfl, rfl⟩
      refine Rn.iconst (pc := 88) (v := nI 0) dX12_register_88 (by decide) ?_
      refine Rn.iret (pc := 89) rfl dX12_register_89 ?_
      simp only [pRg]; simp [*]
    · refine Rn.iload_n (pc := 74) dX12_register_74 rfl rfl ?_
      refine Rn.if_neB (pc := 75) (tgt := 90) dX12_register_75 (by decide) (fun c75 => ?_) (fun c75 => ?_)
      · have hf0 : s.2.1 = 0 := c71
        have hrg := hb; rw [c75] at hrg; simp only [isRg, Bool.and_eq_true, decide_eq_true_eq] at hrg
        refine Rn.aload_n (pc := 90) dX12_register_90 rfl rfl ?_
        refine Rn.getR (pc := 91) flX12_20 mu11_5 fx11_5 dX12_register_91 ?_
        refine Rn.aload_n (pc := 94) dX12_register_94 rfl rfl ?_
        refine Rn.getI (pc := 95) (t := 0) flX12_94 wS_at dX12_register_95 ?_
        refine Rn.iconst (pc := 98) (v := nI 1) dX12_register_98 (by decide) ?_
        refine Rn.iaddN (pc := 99) dX12_register_99 ?_
        refine Rn.caldN (pc := 100) ak25 (by omega) (by decide) (wS_tx h (skp L n s.1 + 1) (by omega)) dX12_register_100 ?_
        refine Rn.bipush (pc := 101) (v := nI 48) dX12_register_101 (by decide) ?_
        refine Rn.isub (pc := 103) dX12_register_103 ?_
        rw [pk_sub (by omega)]
        refine Rn.istore_n (pc := 104) dX12_register_104 rfl (by decide) rfl st4_3 ?_
        refine Rn.aload_n (pc := 105) dX12_register_105 rfl rfl ?_
        refine Rn.iload_n (pc := 106) dX12_register_106 rfl rfl ?_
        refine Rn.putI (pc := 107) (t := 0) flX12_94 rfl rfl dX12_register_107 ?_
        rw [wS_s7]
        refine Rn.iload_n (pc := 110) dX12_register_110 rfl rfl ?_
        refine Rn.iret (pc := 111) rfl dX12_register_111 ?_
        simp only [pRg]; simp [*]
      · refine Rn.aload_n (pc := 78) dX12_register_78 rfl rfl ?_
        refine Rn.bipush (pc := 79) (v := -3) dX12_register_79 (by decide) ?_
        refine Rn.aload_n (pc := 81) dX12_register_81 rfl rfl ?_
        refine Rn.getI (pc := 82) (t := 0) flX12_94 wS_at dX12_register_82 ?_
        refine Rn.callV (pc := 85) (as := [_, _]) cvX12_123 ⟨by decide, rfl⟩ ⟨by decide, by decide⟩ dX12_register_85 (Nat.le_of_ble_eq_true rfl) rfl (c_wrong G h (skp L n s.1, s.2) (-3) (skp L n s.1) hk1) ?_
        rintro _ _ ⟨rfl, rfl⟩
        refine Rn.iconst (pc := 88) (v := nI 0) dX12_register_88 (by decide) ?_
        refine Rn.iret (pc := 89) rfl dX12_register_89 ?_
        simp only [pRg]; simp [*]
  refine Rn.aload_n (pc := 0) dX12_register_0 rfl rfl ?_
  refine Rn.callV (pc := 1) (as := []) cvX12_131 ⟨by decide, rfl⟩ ⟨by decide, by decide⟩ dX12_register_1 (Nat.le_of_ble_eq_true rfl) rfl (c_wordEnd G h s hs) ?_
  rintro _ _ ⟨rfl, rfl⟩
  refine Rn.istore_n (pc := 4) dX12_register_4 rfl (by decide) rfl st4_1 ?_
  refine Rn.iload_n (pc := 5) dX12_register_5 rfl rfl ?_
  refine Rn.aload_n (pc := 6) dX12_register_6 rfl rfl ?_
  refine Rn.getI (pc := 7) (t := 0) flX12_94 wS_at dX12_register_7 ?_
  refine Rn.isub (pc := 10) dX12_register_10 ?_
  rw [pk_sub (by omega), show o + wEnd L n (skp L n s.1) - (o + skp L n s.1) = wEnd L n (skp L n s.1) - skp L n s.1 by omega]
  refine Rn.iconst (pc := 11) (v := nI 2) dX12_register_11 (by decide) ?_
  refine Rn.icmp_neN (pc := 12) (tgt := 65) dX12_register_12 (by decide) (by omega) (by omega) (fun c12 => ?_) (fun c12 => ?_)
  · refine Rn.iconst (pc := 65) (v := nI 0) dX12_register_65 (by decide) ?_
    first | exact J true (by simp [isRg, *]; try omega) | exact J false (by simp [isRg, *]; try omega)
  · refine Rn.aload_n (pc := 15) dX12_register_15 rfl rfl ?_
    refine Rn.getR (pc := 16) flX12_20 mu11_5 fx11_5 dX12_register_16 ?_
    refine Rn.aload_n (pc := 19) dX12_register_19 rfl rfl ?_
    refine Rn.getI (pc := 20) (t := 0) flX12_94 wS_at dX12_register_20 ?_
    refine Rn.caldN (pc := 23) ak25 (by omega) (by decide) (wS_tx h (skp L n s.1) (by omega)) dX12_register_23 ?_
    refine Rn.bipush (pc := 24) (v := nI 114) dX12_register_24 (by decide) ?_
    refine Rn.icmp_neN (pc := 26) (tgt := 65) dX12_register_26 (by decide) (by have := h.2.2.2.2.1 (skp L n s.1) (by omega); omega) (by decide) (fun c26 => ?_) (fun c26 => ?_)
    · refine Rn.iconst (pc := 65) (v := nI 0) dX12_register_65 (by decide) ?_
      first | exact J true (by simp [isRg, *]; try omega) | exact J false (by simp [isRg, *]; try omega)
    · refine Rn.aload_n (pc := 29) dX12_register_29 rfl rfl ?_
      refine Rn.getR (pc := 30) flX12_20 mu11_5 fx11_5 dX12_register_30 ?_
      refine Rn.aload_n (pc := 33) dX12_register_33 rfl rfl ?_
      refine Rn.getI (pc := 34) (t := 0) flX12_94 wS_at dX12_register_34 ?_
      refine Rn.iconst (pc := 37) (v := nI 1) dX12_register_37 (by decide) ?_
      refine Rn.iaddN (pc := 38) dX12_register_38 ?_
      refine Rn.caldN (pc := 39) ak25 (by omega) (by decide) (wS_tx h (skp L n s.1 + 1) (by omega)) dX12_register_39 ?_
      refine Rn.bipush (pc := 40) (v := nI 48) dX12_register_40 (by decide) ?_
      refine Rn.icmp_ltN (pc := 42) (tgt := 65) dX12_register_42 (by decide) (by have := h.2.2.2.2.1 (skp L n s.1 + 1) (by omega); omega) (by decide) (fun c42 => ?_) (fun c42 => ?_)
      · refine Rn.iconst (pc := 65) (v := nI 0) dX12_register_65 (by decide) ?_
        first | exact J true (by simp [isRg, *]; try omega) | exact J false (by simp [isRg, *]; try omega)
      · refine Rn.aload_n (pc := 45) dX12_register_45 rfl rfl ?_
        refine Rn.getR (pc := 46) flX12_20 mu11_5 fx11_5 dX12_register_46 ?_
        refine Rn.aload_n (pc := 49) dX12_register_49 rfl rfl ?_
        refine Rn.getI (pc := 50) (t := 0) flX12_94 wS_at dX12_register_50 ?_
        refine Rn.iconst (pc := 53) (v := nI 1) dX12_register_53 (by decide) ?_
        refine Rn.iaddN (pc := 54) dX12_register_54 ?_
        refine Rn.caldN (pc := 55) ak25 (by omega) (by decide) (wS_tx h (skp L n s.1 + 1) (by omega)) dX12_register_55 ?_
        refine Rn.bipush (pc := 56) (v := nI 55) dX12_register_56 (by decide) ?_
        refine Rn.icmp_gtN (pc := 58) (tgt := 65) dX12_register_58 (by decide) (by have := h.2.2.2.2.1 (skp L n s.1 + 1) (by omega); omega) (by decide) (fun c58 => ?_) (fun c58 => ?_)
        · refine Rn.iconst (pc := 65) (v := nI 0) dX12_register_65 (by decide) ?_
          first | exact J true (by simp [isRg, *]; try omega) | exact J false (by simp [isRg, *]; try omega)
        · refine Rn.iconst (pc := 61) (v := nI 1) dX12_register_61 (by decide) ?_
          refine Rn.goto (pc := 62) (tgt := 66) dX12_register_62 (by decide) ?_
          first | exact J true (by simp [isRg, *]; try omega) | exact J false (by simp [isRg, *]; try omega)

