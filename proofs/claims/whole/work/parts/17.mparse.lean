theorem pTk_t {L : Nat → Nat} {n c : Nat} {s : PS} (h : (pTk L n c s).1 = true) : s.2.1 = 0 ∧ (pTk L n c s).2 = (skp L n s.1 + 1, s.2) := by
  unfold pTk at h ⊢
  by_cases h1 : s.2.1 = 0
  · rw [if_pos h1] at h ⊢
    by_cases h2 : chA L n (skp L n s.1) = c
    · rw [if_pos h2]; exact ⟨h1, rfl⟩
    · rw [if_neg h2] at h; cases h
  · rw [if_neg h1] at h; cases h
theorem pRg_ge {L : Nat → Nat} {n : Nat} {s : PS} (h : s.1 ≤ n) : s.1 ≤ (pRg L n s).2.1 := by
  unfold pRg
  split
  · exact Nat.le_trans (skp_ge h) (wEnd_ge (skp_le h))
  · rw [pWrong_1]; exact skp_ge h
def lsS (L : Nat → Nat) (n : Nat) (bef : Int32) (s : PS) : PS := if (pRg L n (skp L n s.1, s.2)).2.2.1 = 0 ∧ ¬ bef < nI (pRg L n (skp L n s.1, s.2)).1 then pWrong (pRg L n (skp L n s.1, s.2)).2 (-3) (skp L n s.1) else (pRg L n (skp L n s.1, s.2)).2
def lsF (L : Nat → Nat) (n last : Nat) : Nat → Int32 → Int32 → PS → Int32 × PS
  | 0, v, _, s => (v, s)
  | f + 1, v, bef, s =>
    if isW L (skp L n s.1) (wEnd L n (skp L n s.1)) last = true then (v + nI 256, (wEnd L n (skp L n s.1), s.2))
    else if (pTk L n 44 (lsS L n bef s)).1 = true then lsF L n last f (v + nI 1 <<< (nI (pRg L n (skp L n s.1, s.2)).1 &&& 31)) (nI (pRg L n (skp L n s.1, s.2)).1) (pTk L n 44 (lsS L n bef s)).2
    else (v + nI 1 <<< (nI (pRg L n (skp L n s.1, s.2)).1 &&& 31), (pTk L n 44 (lsS L n bef s)).2)
theorem lsS_1 {L : Nat → Nat} {n : Nat} {bef : Int32} {s : PS} : (lsS L n bef s).1 = (pRg L n (skp L n s.1, s.2)).2.1 := by
  unfold lsS; split
  · exact pWrong_1
  · rfl
theorem lsF_le {L : Nat → Nat} {n last : Nat} : ∀ (f : Nat) (v bef : Int32) (s : PS), s.1 ≤ n → (lsF L n last f v bef s).2.1 ≤ n
  | 0, v, bef, s, h => h
  | f + 1, v, bef, s, h => by
    have h2 : (lsS L n bef s).1 ≤ n := by rw [lsS_1]; exact pRg_le (s := (skp L n s.1, s.2)) (skp_le h)
    rw [lsF]
    split
    · exact wEnd_le (skp_le h)
    · split
      · exact lsF_le f _ _ _ (pTk_le h2 (by decide))
      · exact pTk_le h2 (by decide)
def lsQ (L : Nat → Nat) (n fr last : Nat) (s : PS) : Int32 × PS := if (pWt L n 123 s).2.1 = 0 then lsF L n last (n + 1) (nI fr) (-1) (pWt L n 123 s) else (nI fr, pWt L n 123 s)
def fLst (L : Nat → Nat) (n fr last : Nat) (r : SR) (s : PS) : SR × PS := ((nI 10, (lsQ L n fr last s).1, r.2.2), pWt L n 125 (lsQ L n fr last s).2)
theorem lsQ_le {L : Nat → Nat} {n fr last : Nat} {s : PS} (h : s.1 ≤ n) : (lsQ L n fr last s).2.1 ≤ n := by
  unfold lsQ
  split
  · exact lsF_le _ _ _ _ (pWt_le h (by decide))
  · exact pWt_le h (by decide)
set_option maxRecDepth 20000 in
set_option maxHeartbeats 4000000 in
theorem c_listed (G : GX) {o n : Nat} {L : Nat → Nat} {M : Mem} (h : LnOK o n L M) (r : SR) (s : PS) (hs : s.1 ≤ n) (fr last : Nat) (hla : last < 256 ^ 7) : MetM G yX12_listed iX12_listed [vR 11 0, vI (nI fr), vJ (lN last)] (wS o (stS M r) s) (fun q M' => q = none ∧ M' = wS o (stS M (fLst L n fr last r s).1) (fLst L n fr last r s).2) := by
  refine MetM.of (ls := [some (vR 11 0), some (vI (nI fr)), some (vJ (lN last)), none, none, none, none, none, none, none]) (by decide) rfl (Nat.le_of_ble_eq_true rfl) rfl ?_
  intro hM0
  have hq1 := h.2.1
  have hq2 := h.2.2.1
  have E26 : ∀ (v bef : Int32) (t : PS) (x7 x8 x9 : Option AV), lsQ L n fr last s = (v, t) → Rn G iX12_listed (fun q M' => q = none ∧ M' = wS o (stS M (fLst L n fr last r s).1) (fLst L n fr last r s).2) 26 [some (vR 11 0), some (vI (nI fr)), some (vJ (lN last)), none, some (vI v), some (vI bef), some (vI (bI false)), x7, x8, x9] [] (wS o (stS M r) t) := by
    intro v bef t x7 x8 x9 hQ
    obtain ⟨rfl, rfl⟩ : v = (lsQ L n fr last s).1 ∧ t = (lsQ L n fr last s).2 := by rw [hQ]; exact ⟨rfl, rfl⟩
    refine Rn.iload (pc := 26) dX12_listed_26 rfl ?_
    refine Rn.if_eqB (pc := 28) (tgt := 129) dX12_listed_28 (by decide) (fun c28 => ?_) (fun c28 => ?_)
    · refine Rn.aload_n (pc := 129) dX12_listed_129 rfl rfl ?_
      refine Rn.bipush (pc := 130) (v := nI 125) dX12_listed_130 (by decide) ?_
      refine Rn.callV (pc := 132) (as := [_]) cvX12_148 ⟨by decide, rfl⟩ ⟨by decide, by decide⟩ dX12_listed_132 (Nat.le_of_ble_eq_true rfl) rfl (c_want G (h.st r) (lsQ L n fr last s).2 (lsQ_le hs) 125 (by decide) (by decide)) ?_
      rintro _ _ ⟨rfl, rfl⟩
      refine Rn.aload_n (pc := 135) dX12_listed_135 rfl rfl ?_
      refine Rn.iload (pc := 136) dX12_listed_136 rfl ?_
      refine Rn.callV (pc := 138) (as := [_]) cvX12_165 ⟨by decide, rfl⟩ ⟨by decide, by decide⟩ dX12_listed_138 (Nat.le_of_ble_eq_true rfl) rfl (c_plain G r (pWt L n 125 (lsQ L n fr last s).2) _) ?_
      rintro _ _ ⟨rfl, rfl⟩
      refine Rn.vret (pc := 141) rfl dX12_listed_141 ?_
      refine ⟨rfl, ?_⟩; rw [fLst]
    · cases c28
  have loop : ∀ (f : Nat) (v bef : Int32) (x7 x8 x9 : Option AV) (t : PS), t.1 ≤ n → n < f + t.1 → t.2.1 = 0 → lsQ L n fr last s = lsF L n last f v bef t → Rn G iX12_listed (fun q M' => q = none ∧ M' = wS o (stS M (fLst L n fr last r s).1) (fLst L n fr last r s).2) 26 [some (vR 11 0), some (vI (nI fr)), some (vJ (lN last)), none, some (vI v), some (vI bef), some (vI (bI true)), x7, x8, x9] [] (wS o (stS M r) t) := by
    intro f
    induction f using Nat.strongRecOn with
    | ind f0 ih =>
      intro v bef x7 x8 x9 t ht hf ht0 hQ
      obtain ⟨f, rfl⟩ : ∃ f, f0 = f + 1 := ⟨f0 - 1, by omega⟩
      refine Rn.iload (pc := 26) dX12_listed_26 rfl ?_
      refine Rn.if_eqB (pc := 28) (tgt := 129) dX12_listed_28 (by decide) (fun c28 => ?_) (fun c28 => ?_)
      · cases c28
      · refine Rn.aload_n (pc := 31) dX12_listed_31 rfl rfl ?_
        refine Rn.callV (pc := 32) (as := []) cvX12_131 ⟨by decide, rfl⟩ ⟨by decide, by decide⟩ dX12_listed_32 (Nat.le_of_ble_eq_true rfl) rfl (c_wordEnd G (h.st r) t ht) ?_
        rintro _ _ ⟨rfl, rfl⟩
        refine Rn.istore (pc := 35) dX12_listed_35 (by decide) rfl st10_7 ?_
        refine Rn.aload_n (pc := 37) dX12_listed_37 rfl rfl ?_
        refine Rn.aload_n (pc := 38) dX12_listed_38 rfl rfl ?_
        refine Rn.getI (pc := 39) (t := 0) flX12_94 wS_at dX12_listed_39 ?_
        refine Rn.iload (pc := 42) dX12_listed_42 rfl ?_
        refine Rn.lload_n (pc := 44) dX12_listed_44 rfl rfl ?_
        refine Rn.callV (pc := 45) (as := [_, _, _]) cvX12_174 ⟨by decide, rfl⟩ ⟨by decide, by decide⟩ dX12_listed_45 (Nat.le_of_ble_eq_true rfl) rfl (c_isWord G (h.st r) (skp L n t.1, t.2) (skp L n t.1) (wEnd L n (skp L n t.1)) last (wEnd_ge (skp_le ht)) (wEnd_le (skp_le ht)) hla) ?_
        rintro _ _ ⟨rfl, rfl⟩
        refine Rn.if_eqB (pc := 48) (tgt := 71) dX12_listed_48 (by decide) (fun c48 => ?_) (fun c48 => ?_)
        · refine Rn.aload_n (pc := 71) dX12_listed_71 rfl rfl ?_
          refine Rn.getI (pc := 72) (t := 0) flX12_94 wS_at dX12_listed_72 ?_
          refine Rn.istore (pc := 75) dX12_listed_75 (by decide) rfl st10_8 ?_
          refine Rn.aload_n (pc := 77) dX12_listed_77 rfl rfl ?_
          refine Rn.callV (pc := 78) (as := []) cvX12_162 ⟨by decide, rfl⟩ ⟨by decide, by decide⟩ dX12_listed_78 (Nat.le_of_ble_eq_true rfl) rfl (c_register G (h.st r) (skp L n t.1, t.2) (skp_le ht)) ?_
          rintro _ _ ⟨rfl, rfl⟩
          refine Rn.istore (pc := 81) dX12_listed_81 (by decide) rfl st10_9 ?_
          refine Rn.aload_n (pc := 83) dX12_listed_83 rfl rfl ?_
          refine Rn.getI (pc := 84) (t := 0) flX12_100 wS_f dX12_listed_84 ?_
          refine Rn.if_ne (pc := 87) (y := 0) (tgt := 105) dX12_listed_87 (by decide) (fun c87 => ?_) (fun c87 => ?_)
          · refine Rn.iload (pc := 105) dX12_listed_105 rfl ?_
            refine Rn.istore (pc := 107) dX12_listed_107 (by decide) rfl st10_5 ?_
            refine Rn.iload (pc := 109) dX12_listed_109 rfl ?_
            refine Rn.iconst (pc := 111) (v := nI 1) dX12_listed_111 (by decide) ?_
            refine Rn.iload (pc := 112) dX12_listed_112 rfl ?_
            refine Rn.ishl (pc := 114) dX12_listed_114 ?_
            refine Rn.iadd (pc := 115) dX12_listed_115 ?_
            refine Rn.istore (pc := 116) dX12_listed_116 (by decide) rfl st10_4 ?_
            refine Rn.aload_n (pc := 118) dX12_listed_118 rfl rfl ?_
            refine Rn.bipush (pc := 119) (v := nI 44) dX12_listed_119 (by decide) ?_
            refine Rn.callV (pc := 121) (as := [_]) cvX12_120 ⟨by decide, rfl⟩ ⟨by decide, by decide⟩ dX12_listed_121 (Nat.le_of_ble_eq_true rfl) rfl (c_takes G (h.st r) (pRg L n (skp L n t.1, t.2)).2 (pRg_le (s := (skp L n t.1, t.2)) (skp_le ht)) 44 (by decide) (by decide)) ?_
            rintro _ _ ⟨rfl, rfl⟩
            refine Rn.istore (pc := 124) dX12_listed_124 (by decide) rfl st10_6 ?_
            refine Rn.goto (pc := 126) (tgt := 26) dX12_listed_126 (by decide) ?_
            have hS : lsS L n bef t = (pRg L n (skp L n t.1, t.2)).2 := by rw [lsS, if_neg (fun q => c87 q.1)]
            have hQ2 := hQ
            rw [lsF, if_neg (by rw [c48]; decide), hS] at hQ2
            cases hT : (pTk L n 44 (pRg L n (skp L n t.1, t.2)).2).1 with
            | true =>
              obtain ⟨g1, g2⟩ := pTk_t hT
              have g3 := pRg_ge (L := L) (s := (skp L n t.1, t.2)) (skp_le ht)
              have g4 := skp_ge (L := L) ht
              have g5 : (pTk L n 44 (pRg L n (skp L n t.1, t.2)).2).2.1 ≤ n := pTk_le (pRg_le (s := (skp L n t.1, t.2)) (skp_le ht)) (by decide)
              rw [hT, if_pos rfl] at hQ2
              have g6 : t.1 < (pTk L n 44 (pRg L n (skp L n t.1, t.2)).2).2.1 := by
                rw [g2]
                have g7 := skp_ge (L := L) (n := n) (a := (pRg L n (skp L n t.1, t.2)).2.1) (pRg_le (s := (skp L n t.1, t.2)) (skp_le ht))
                skip
                show t.1 < skp L n _ + 1
                skip
                omega
              exact ih f (by omega) _ _ _ _ _ _ g5 (by omega) (by rw [g2]; exact g1) hQ2
            | false =>
              rw [hT, if_neg (by decide)] at hQ2
              exact E26 _ _ _ _ _ _ hQ2
          · refine Rn.iload (pc := 90) dX12_listed_90 rfl ?_
            refine Rn.iload (pc := 92) dX12_listed_92 rfl ?_
            refine Rn.icmp_gt (pc := 94) (tgt := 105) dX12_listed_94 (by decide) (fun c94 => ?_) (fun c94 => ?_)
            · refine Rn.iload (pc := 105) dX12_listed_105 rfl ?_
              refine Rn.istore (pc := 107) dX12_listed_107 (by decide) rfl st10_5 ?_
              refine Rn.iload (pc := 109) dX12_listed_109 rfl ?_
              refine Rn.iconst (pc := 111) (v := nI 1) dX12_listed_111 (by decide) ?_
              refine Rn.iload (pc := 112) dX12_listed_112 rfl ?_
              refine Rn.ishl (pc := 114) dX12_listed_114 ?_
              refine Rn.iadd (pc := 115) dX12_listed_115 ?_
              refine Rn.istore (pc := 116) dX12_listed_116 (by decide) rfl st10_4 ?_
              refine Rn.aload_n (pc := 118) dX12_listed_118 rfl rfl ?_
              refine Rn.bipush (pc := 119) (v := nI 44) dX12_listed_119 (by decide) ?_
              refine Rn.callV (pc := 121) (as := [_]) cvX12_120 ⟨by decide, rfl⟩ ⟨by decide, by decide⟩ dX12_listed_121 (Nat.le_of_ble_eq_true rfl) rfl (c_takes G (h.st r) (pRg L n (skp L n t.1, t.2)).2 (pRg_le (s := (skp L n t.1, t.2)) (skp_le ht)) 44 (by decide) (by decide)) ?_
              rintro _ _ ⟨rfl, rfl⟩
              refine Rn.istore (pc := 124) dX12_listed_124 (by decide) rfl st10_6 ?_
              refine Rn.goto (pc := 126) (tgt := 26) dX12_listed_126 (by decide) ?_
              have hS : lsS L n bef t = (pRg L n (skp L n t.1, t.2)).2 := by rw [lsS, if_neg (fun q => q.2 c94)]
              have hQ2 := hQ
              rw [lsF, if_neg (by rw [c48]; decide), hS] at hQ2
              cases hT : (pTk L n 44 (pRg L n (skp L n t.1, t.2)).2).1 with
              | true =>
                obtain ⟨g1, g2⟩ := pTk_t hT
                have g3 := pRg_ge (L := L) (s := (skp L n t.1, t.2)) (skp_le ht)
                have g4 := skp_ge (L := L) ht
                have g5 : (pTk L n 44 (pRg L n (skp L n t.1, t.2)).2).2.1 ≤ n := pTk_le (pRg_le (s := (skp L n t.1, t.2)) (skp_le ht)) (by decide)
                rw [hT, if_pos rfl] at hQ2
                have g6 : t.1 < (pTk L n 44 (pRg L n (skp L n t.1, t.2)).2).2.1 := by
                  rw [g2]
                  have g7 := skp_ge (L := L) (n := n) (a := (pRg L n (skp L n t.1, t.2)).2.1) (pRg_le (s := (skp L n t.1, t.2)) (skp_le ht))
                  skip
                  show t.1 < skp L n _ + 1
                  skip
                  omega
                exact ih f (by omega) _ _ _ _ _ _ g5 (by omega) (by rw [g2]; exact g1) hQ2
              | false =>
                rw [hT, if_neg (by decide)] at hQ2
                exact E26 _ _ _ _ _ _ hQ2
            · refine Rn.aload_n (pc := 97) dX12_listed_97 rfl rfl ?_
              refine Rn.bipush (pc := 98) (v := -3) dX12_listed_98 (by decide) ?_
              refine Rn.iload (pc := 100) dX12_listed_100 rfl ?_
              refine Rn.callV (pc := 102) (as := [_, _]) cvX12_123 ⟨by decide, rfl⟩ ⟨by decide, by decide⟩ dX12_listed_102 (Nat.le_of_ble_eq_true rfl) rfl (c_wrong G (h.st r) (pRg L n (skp L n t.1, t.2)).2 (-3) (skp L n t.1) (skp_le ht)) ?_
              rintro _ _ ⟨rfl, rfl⟩
              refine Rn.iload (pc := 105) dX12_listed_105 rfl ?_
              refine Rn.istore (pc := 107) dX12_listed_107 (by decide) rfl st10_5 ?_
              refine Rn.iload (pc := 109) dX12_listed_109 rfl ?_
              refine Rn.iconst (pc := 111) (v := nI 1) dX12_listed_111 (by decide) ?_
              refine Rn.iload (pc := 112) dX12_listed_112 rfl ?_
              refine Rn.ishl (pc := 114) dX12_listed_114 ?_
              refine Rn.iadd (pc := 115) dX12_listed_115 ?_
              refine Rn.istore (pc := 116) dX12_listed_116 (by decide) rfl st10_4 ?_
              refine Rn.aload_n (pc := 118) dX12_listed_118 rfl rfl ?_
              refine Rn.bipush (pc := 119) (v := nI 44) dX12_listed_119 (by decide) ?_
              refine Rn.callV (pc := 121) (as := [_]) cvX12_120 ⟨by decide, rfl⟩ ⟨by decide, by decide⟩ dX12_listed_121 (Nat.le_of_ble_eq_true rfl) rfl (c_takes G (h.st r) (pWrong (pRg L n (skp L n t.1, t.2)).2 (-3) (skp L n t.1)) (by rw [pWrong_1]; exact (pRg_le (s := (skp L n t.1, t.2)) (skp_le ht))) 44 (by decide) (by decide)) ?_
              rintro _ _ ⟨rfl, rfl⟩
              refine Rn.istore (pc := 124) dX12_listed_124 (by decide) rfl st10_6 ?_
              refine Rn.goto (pc := 126) (tgt := 26) dX12_listed_126 (by decide) ?_
              have hS : lsS L n bef t = (pWrong (pRg L n (skp L n t.1, t.2)).2 (-3) (skp L n t.1)) := by rw [lsS, if_pos ⟨c87, c94⟩]
              have hQ2 := hQ
              rw [lsF, if_neg (by rw [c48]; decide), hS] at hQ2
              cases hT : (pTk L n 44 (pWrong (pRg L n (skp L n t.1, t.2)).2 (-3) (skp L n t.1))).1 with
              | true =>
                obtain ⟨g1, g2⟩ := pTk_t hT
                have g3 := pRg_ge (L := L) (s := (skp L n t.1, t.2)) (skp_le ht)
                have g4 := skp_ge (L := L) ht
                have g5 : (pTk L n 44 (pWrong (pRg L n (skp L n t.1, t.2)).2 (-3) (skp L n t.1))).2.1 ≤ n := pTk_le (by rw [pWrong_1]; exact (pRg_le (s := (skp L n t.1, t.2)) (skp_le ht))) (by decide)
                rw [hT, if_pos rfl] at hQ2
                have g6 : t.1 < (pTk L n 44 (pWrong (pRg L n (skp L n t.1, t.2)).2 (-3) (skp L n t.1))).2.1 := by
                  rw [g2]
                  have g7 := skp_ge (L := L) (n := n) (a := (pWrong (pRg L n (skp L n t.1, t.2)).2 (-3) (skp L n t.1)).1) (by rw [pWrong_1]; exact (pRg_le (s := (skp L n t.1, t.2)) (skp_le ht)))
                  rw [pWrong_1] at g7
                  show t.1 < skp L n _ + 1
                  rw [pWrong_1]
                  omega
                exact ih f (by omega) _ _ _ _ _ _ g5 (by omega) (by rw [g2]; exact g1) hQ2
              | false =>
                rw [hT, if_neg (by decide)] at hQ2
                exact E26 _ _ _ _ _ _ hQ2
        · refine Rn.iload (pc := 51) dX12_listed_51 rfl ?_
          refine Rn.sipush (pc := 53) (v := nI 256) dX12_listed_53 (by decide) ?_
          refine Rn.iadd (pc := 56) dX12_listed_56 ?_
          refine Rn.istore (pc := 57) dX12_listed_57 (by decide) rfl st10_4 ?_
          refine Rn.aload_n (pc := 59) dX12_listed_59 rfl rfl ?_
          refine Rn.iload (pc := 60) dX12_listed_60 rfl ?_
          refine Rn.putI (pc := 62) (t := 0) flX12_94 rfl rfl dX12_listed_62 ?_
          rw [wS_s7]
          refine Rn.iconst (pc := 65) (v := nI 0) dX12_listed_65 (by decide) ?_
          refine Rn.istore (pc := 66) dX12_listed_66 (by decide) rfl st10_6 ?_
          refine Rn.goto (pc := 68) (tgt := 126) dX12_listed_68 (by decide) ?_
          refine Rn.goto (pc := 126) (tgt := 26) dX12_listed_126 (by decide) ?_
          exact E26 _ _ _ _ _ _ (by rw [hQ, lsF, if_pos c48])
  refine Rn.aload_n (pc := 0) dX12_listed_0 rfl rfl ?_
  refine Rn.bipush (pc := 1) (v := nI 123) dX12_listed_1 (by decide) ?_
  refine Rn.callV (pc := 3) (as := [_]) cvX12_148 ⟨by decide, rfl⟩ ⟨by decide, by decide⟩ dX12_listed_3 (Nat.le_of_ble_eq_true rfl) rfl (c_want G (h.st r) s hs 123 (by decide) (by decide)) ?_
  rintro _ _ ⟨rfl, rfl⟩
  refine Rn.iload_n (pc := 6) dX12_listed_6 rfl rfl ?_
  refine Rn.istore (pc := 7) dX12_listed_7 (by decide) rfl st10_4 ?_
  refine Rn.iconst (pc := 9) (v := -1) dX12_listed_9 (by decide) ?_
  refine Rn.istore (pc := 10) dX12_listed_10 (by decide) rfl st10_5 ?_
  refine Rn.aload_n (pc := 12) dX12_listed_12 rfl rfl ?_
  refine Rn.getI (pc := 13) (t := 0) flX12_100 wS_f dX12_listed_13 ?_
  refine Rn.if_ne (pc := 16) (y := 0) (tgt := 23) dX12_listed_16 (by decide) (fun c16 => ?_) (fun c16 => ?_)
  · refine Rn.iconst (pc := 23) (v := nI 0) dX12_listed_23 (by decide) ?_
    refine Rn.istore (pc := 24) dX12_listed_24 (by decide) rfl st10_6 ?_
    exact E26 _ _ _ _ _ _ (by rw [lsQ, if_neg c16])
  · refine Rn.iconst (pc := 19) (v := nI 1) dX12_listed_19 (by decide) ?_
    refine Rn.goto (pc := 20) (tgt := 24) dX12_listed_20 (by decide) ?_
    refine Rn.istore (pc := 24) dX12_listed_24 (by decide) rfl st10_6 ?_
    exact loop (n + 1) _ _ _ _ _ (pWt L n 123 s) (pWt_le hs (by decide)) (by omega) c16 (by rw [lsQ, if_pos c16])

