theorem lN0_eq {v : Nat} (h : v < 2 ^ 62) : lN v = lN 0 ↔ v = 0 := by
  constructor
  · intro e
    have h8 := congrArg Int64.toInt e
    rw [pf_lI (by omega), pf_lI (by decide)] at h8
    omega
  · intro e; rw [e]
theorem nmV_lt {L : Nat → Nat} {a e n : Nat} (he : e ≤ n) (hL : ∀ i, i < n → 0 < L i ∧ L i < 256) : nmV L a e < 256 ^ 6 := by
  unfold nmV
  split
  · rename_i g
    simp only [isNm, Bool.and_eq_true, decide_eq_true_eq] at g
    exact Nat.lt_of_lt_of_le (pkN_lt (e - a) (fun i hi => (hL (a + i) (by omega)).2)) (Nat.pow_le_pow_right (by decide) g.1.1.2)
  · decide
def cName (L : Nat → Nat) (n : Nat) (t : KS) : Nat × KS := (cNm L t, if cNm L t = 0 then cFail t (-3) (nI t.1) else cStep L n t)
theorem cName_ok {L : Nat → Nat} {n : Nat} {t : KS} (h : cOK n t) : cOK n (cName L n t).2 := by
  unfold cName; dsimp only; split
  · exact h
  · exact cStep_ok h
set_option maxRecDepth 20000 in
set_option maxHeartbeats 4000000 in
theorem k_name (G : GX) {n : Nat} {L : Nat → Nat} {M : Mem} (h : TxOK n L M) (t : KS) (ht : cOK n t) : MetM G yX7_name iX7_name [vR 6 0] (wD M t) (fun r M' => r = some (vJ (lN (cName L n t).1)) ∧ M' = wD M (cName L n t).2) := by
  refine MetM.of (ls := [some (vR 6 0), none, none]) (by decide) rfl (Nat.le_of_ble_eq_true rfl) rfl ?_
  intro hM0
  have hq2 := h.2.2.1
  have ht1 := ht.1
  have ht2 := ht.2
  have hnl : cNm L t < 256 ^ 6 := nmV_lt ht2 h.2.2.2.2
  refine Rn.aload_n (pc := 0) dX7_name_0 rfl rfl ?_
  refine Rn.getRm (pc := 1) flX7_12 (show mR (wD M t) 6 0 0 = 0 from h.1) dX7_name_1 ?_
  refine Rn.aload_n (pc := 4) dX7_name_4 rfl rfl ?_
  refine Rn.getI (pc := 5) (t := 0) flX7_31 (show mI (wD M t) 6 0 2 = nI t.1 from rfl) dX7_name_5 ?_
  refine Rn.aload_n (pc := 8) dX7_name_8 rfl rfl ?_
  refine Rn.getI (pc := 9) (t := 0) flX7_18 (show mI (wD M t) 6 0 1 = nI t.2.1 from rfl) dX7_name_9 ?_
  refine Rn.callV (pc := 12) (as := [_, _]) cvX7_71 ⟨by decide, rfl⟩ ⟨by decide, by decide⟩ dX7_name_12 (Nat.le_of_ble_eq_true rfl) rfl (k_nameBetween G (show Tx0 n L (wD M t) from h.2) t.1 t.2.1 ht1 ht2) ?_
  rintro _ _ ⟨rfl, rfl⟩
  refine Rn.lstore_n (pc := 15) dX7_name_15 rfl (by decide) rfl sl3_1 ?_
  refine Rn.lload_n (pc := 16) dX7_name_16 rfl rfl ?_
  refine Rn.lconst (pc := 17) (v := lN 0) dX7_name_17 (by decide) ?_
  refine Rn.lcmp (pc := 18) dX7_name_18 ?_
  refine Rn.if_ne (pc := 19) (y := 0) (tgt := 35) dX7_name_19 (by decide) (fun c19 => ?_) (fun c19 => ?_)
  · refine Rn.aload_n (pc := 35) dX7_name_35 rfl rfl ?_
    refine Rn.callV (pc := 36) (as := []) cvX7_28 ⟨by decide, rfl⟩ ⟨by decide, by decide⟩ dX7_name_36 (Nat.le_of_ble_eq_true rfl) rfl (k_stepD G h t ht) ?_
    rintro _ _ ⟨rfl, rfl⟩
    refine Rn.lload_n (pc := 39) dX7_name_39 rfl rfl ?_
    refine Rn.lret (pc := 40) rfl dX7_name_40 ?_
    refine ⟨rfl, ?_⟩; rw [cName]; dsimp only; rw [if_neg (fun e9 => c19 (lcmp0.mpr (by show lN (cNm L t) = lN 0; rw [e9])))]
  · refine Rn.aload_n (pc := 22) dX7_name_22 rfl rfl ?_
    refine Rn.bipush (pc := 23) (v := -3) dX7_name_23 (by decide) ?_
    refine Rn.aload_n (pc := 25) dX7_name_25 rfl rfl ?_
    refine Rn.getI (pc := 26) (t := 0) flX7_31 (show mI (wD M t) 6 0 2 = nI t.1 from rfl) dX7_name_26 ?_
    refine Rn.callV (pc := 29) (as := [_, _]) cvX7_78 ⟨by decide, rfl⟩ ⟨by decide, by decide⟩ dX7_name_29 (Nat.le_of_ble_eq_true rfl) rfl (k_failD G t (-3) (nI t.1)) ?_
    rintro _ _ ⟨rfl, rfl⟩
    refine Rn.goto (pc := 32) (tgt := 39) dX7_name_32 (by decide) ?_
    refine Rn.lload_n (pc := 39) dX7_name_39 rfl rfl ?_
    refine Rn.lret (pc := 40) rfl dX7_name_40 ?_
    refine ⟨rfl, ?_⟩; rw [cName]; dsimp only; rw [if_pos (show cNm L t = 0 from (lN0_eq (v := cNm L t) (by omega)).mp (lcmp0.mp c19))]

def cDg (L : Nat → Nat) (n : Nat) (t : KS) : Nat × KS := if isDg L t.1 t.2.1 = true then (dv L t.1 (t.2.1 - t.1), cStep L n t) else (0, cFail t (-3) (nI t.1))
theorem cDg_ok {L : Nat → Nat} {n : Nat} {t : KS} (h : cOK n t) : cOK n (cDg L n t).2 := by
  unfold cDg; split
  · exact cStep_ok h
  · exact h
set_option maxRecDepth 20000 in
set_option maxHeartbeats 4000000 in
theorem k_digits (G : GX) {n : Nat} {L : Nat → Nat} {M : Mem} (h : TxOK n L M) (t : KS) (ht : cOK n t) : MetM G yX7_digits iX7_digits [vR 6 0] (wD M t) (fun r M' => r = some (vI (nI (cDg L n t).1)) ∧ M' = wD M (cDg L n t).2) := by
  refine MetM.of (ls := [some (vR 6 0), none, none, none]) (by decide) rfl (Nat.le_of_ble_eq_true rfl) rfl ?_
  intro hM0
  have hq2 := h.2.2.1
  have ht1 := ht.1
  have ht2 := ht.2
  have K : ∀ {k : Nat} (b : Bool) (v : Int32), isDg L t.1 t.2.1 = b → (b = true → v = nI (dv L t.1 (t.2.1 - t.1))) → Rn G iX7_digits (fun r M' => r = some (vI (nI (cDg L n t).1)) ∧ M' = wD M (cDg L n t).2) 86 [some (vR 6 0), some (vI (bI b)), some (vI v), some (vI (nI k))] [] (wD M t) := by
    intro k b v hb hv
    refine Rn.iload_n (pc := 86) dX7_digits_86 rfl rfl ?_
    refine Rn.if_neB (pc := 87) (tgt := 102) dX7_digits_87 (by decide) (fun c87 => ?_) (fun c87 => ?_)
    · have hv1 := hv c87
      subst hv1
      refine Rn.aload_n (pc := 102) dX7_digits_102 rfl rfl ?_
      refine Rn.callV (pc := 103) (as := []) cvX7_28 ⟨by decide, rfl⟩ ⟨by decide, by decide⟩ dX7_digits_103 (Nat.le_of_ble_eq_true rfl) rfl (k_stepD G h t ht) ?_
      rintro _ _ ⟨rfl, rfl⟩
      refine Rn.iload_n (pc := 106) dX7_digits_106 rfl rfl ?_
      refine Rn.iret (pc := 107) rfl dX7_digits_107 ?_
      rw [cDg, if_pos (by rw [hb, c87])]; exact ⟨rfl, rfl⟩
    · refine Rn.aload_n (pc := 90) dX7_digits_90 rfl rfl ?_
      refine Rn.bipush (pc := 91) (v := -3) dX7_digits_91 (by decide) ?_
      refine Rn.aload_n (pc := 93) dX7_digits_93 rfl rfl ?_
      refine Rn.getI (pc := 94) (t := 0) flX7_31 (show mI (wD M t) 6 0 2 = nI t.1 from rfl) dX7_digits_94 ?_
      refine Rn.callV (pc := 97) (as := [_, _]) cvX7_78 ⟨by decide, rfl⟩ ⟨by decide, by decide⟩ dX7_digits_97 (Nat.le_of_ble_eq_true rfl) rfl (k_failD G t (-3) (nI t.1)) ?_
      rintro _ _ ⟨rfl, rfl⟩
      refine Rn.iconst (pc := 100) (v := nI 0) dX7_digits_100 (by decide) ?_
      refine Rn.iret (pc := 101) rfl dX7_digits_101 ?_
      rw [cDg, if_neg (by rw [hb, c87]; decide)]; exact ⟨rfl, rfl⟩
  have loop : ∀ (d k : Nat) (b : Bool) (v : Int32), t.1 ≤ k → k ≤ t.2.1 → t.2.1 - k = d → isDg L t.1 t.2.1 = (b && decide (run isDig L t.2.1 k = t.2.1)) → (b = true → v = nI (dv L t.1 (k - t.1))) → Rn G iX7_digits (fun r M' => r = some (vI (nI (cDg L n t).1)) ∧ M' = wD M (cDg L n t).2) 37 [some (vR 6 0), some (vI (bI b)), some (vI v), some (vI (nI k))] [] (wD M t) := by
    intro d
    induction d using Nat.strongRecOn with
    | ind d ih =>
      intro k b v hk hk9 hd hw hv
      refine Rn.iload_n (pc := 37) dX7_digits_37 rfl rfl ?_
      refine Rn.if_eqB (pc := 38) (tgt := 86) dX7_digits_38 (by decide) (fun c38 => ?_) (fun c38 => ?_)
      · exact K b v (by rw [hw, c38]; rfl) (fun q => by rw [c38] at q; cases q)
      · have hv1 := hv c38
        subst hv1
        refine Rn.iload_n (pc := 41) dX7_digits_41 rfl rfl ?_
        refine Rn.aload_n (pc := 42) dX7_digits_42 rfl rfl ?_
        refine Rn.getI (pc := 43) (t := 0) flX7_18 (show mI (wD M t) 6 0 1 = nI t.2.1 from rfl) dX7_digits_43 ?_
        refine Rn.icmp_geN (pc := 46) (tgt := 86) dX7_digits_46 (by decide) (by omega) (by omega) (fun c46 => ?_) (fun c46 => ?_)
        · exact K b _ (by rw [hw, run_end (by omega), show k = t.2.1 by omega]; simp) (fun _ => by rw [show k = t.2.1 by omega])
        · refine Rn.aload_n (pc := 49) dX7_digits_49 rfl rfl ?_
          refine Rn.getRm (pc := 50) flX7_12 (show mR (wD M t) 6 0 0 = 0 from h.1) dX7_digits_50 ?_
          refine Rn.getR (pc := 53) flX7_37 mu9_0 fx9_0 dX7_digits_53 ?_
          refine Rn.iload_n (pc := 56) dX7_digits_56 rfl rfl ?_
          refine Rn.caldN (pc := 57) ak12 (by omega) (by decide) (show mI (wD M t) 12 0 k = nI (L k) from h.2.2.2.1 k (by omega)) dX7_digits_57 ?_
          refine Rn.callN (pc := 58) (as := [_]) cnX7_45 ⟨by decide, by decide⟩ dX7_digits_58 (Nat.le_of_ble_eq_true rfl) rfl (k_isDigit G (L k) (by have := h.2.2.2.2 k (by omega); omega)) ?_
          rintro _ _ ⟨rfl, rfl⟩
          refine Rn.istore_n (pc := 61) dX7_digits_61 rfl (by decide) rfl st4_1 ?_
          refine Rn.iload_n (pc := 62) dX7_digits_62 rfl rfl ?_
          refine Rn.bipush (pc := 63) (v := nI 10) dX7_digits_63 (by decide) ?_
          refine Rn.imulN (pc := 65) dX7_digits_65 ?_
          refine Rn.aload_n (pc := 66) dX7_digits_66 rfl rfl ?_
          refine Rn.getRm (pc := 67) flX7_12 (show mR (wD M t) 6 0 0 = 0 from h.1) dX7_digits_67 ?_
          refine Rn.getR (pc := 70) flX7_37 mu9_0 fx9_0 dX7_digits_70 ?_
          refine Rn.iload_n (pc := 73) dX7_digits_73 rfl rfl ?_
          refine Rn.caldN (pc := 74) ak12 (by omega) (by decide) (show mI (wD M t) 12 0 k = nI (L k) from h.2.2.2.1 k (by omega)) dX7_digits_74 ?_
          refine Rn.iaddN (pc := 75) dX7_digits_75 ?_
          refine Rn.bipush (pc := 76) (v := nI 48) dX7_digits_76 (by decide) ?_
          refine Rn.isub (pc := 78) dX7_digits_78 ?_
          refine Rn.istore_n (pc := 79) dX7_digits_79 rfl (by decide) rfl st4_2 ?_
          refine Rn.iincN (pc := 80) (n := 1) dX7_digits_80 rfl (by decide) (by decide) rfl st4_3 ?_
          refine Rn.goto (pc := 83) (tgt := 37) dX7_digits_83 (by decide) ?_
          refine ih (t.2.1 - (k + 1)) (by omega) (k + 1) (isDig (L k)) _ (by omega) (by omega) rfl ?_ ?_
          · rw [hw, c38]
            cases hd9 : isDig (L k) with
            | true => rw [run_yes (by omega) hd9]
            | false => rw [run_no (by omega) hd9]; simp; omega
          · intro hd9
            have hd8 := isDig_iff.mp hd9
            rw [show k + 1 - t.1 = (k - t.1) + 1 by omega, dv, show t.1 + (k - t.1) = k by omega, pk_sub (by omega)]
            congr 1; omega
  refine Rn.aload_n (pc := 0) dX7_digits_0 rfl rfl ?_
  refine Rn.getI (pc := 1) (t := 0) flX7_18 (show mI (wD M t) 6 0 1 = nI t.2.1 from rfl) dX7_digits_1 ?_
  refine Rn.aload_n (pc := 4) dX7_digits_4 rfl rfl ?_
  refine Rn.getI (pc := 5) (t := 0) flX7_31 (show mI (wD M t) 6 0 2 = nI t.1 from rfl) dX7_digits_5 ?_
  refine Rn.icmp_leN (pc := 8) (tgt := 28) dX7_digits_8 (by decide) (by omega) (by omega) (fun c8 => ?_) (fun c8 => ?_)
  · refine Rn.iconst (pc := 28) (v := nI 0) dX7_digits_28 (by decide) ?_
    refine Rn.istore_n (pc := 29) dX7_digits_29 rfl (by decide) rfl st4_1 ?_
    refine Rn.iconst (pc := 30) (v := nI 0) dX7_digits_30 (by decide) ?_
    refine Rn.istore_n (pc := 31) dX7_digits_31 rfl (by decide) rfl st4_2 ?_
    refine Rn.aload_n (pc := 32) dX7_digits_32 rfl rfl ?_
    refine Rn.getI (pc := 33) (t := 0) flX7_31 (show mI (wD M t) 6 0 2 = nI t.1 from rfl) dX7_digits_33 ?_
    refine Rn.istore_n (pc := 36) dX7_digits_36 rfl (by decide) rfl st4_3 ?_
    exact loop _ t.1 false (nI 0) (Nat.le_refl _) ht1 rfl (by simp [isDg, *]; try omega) (fun _ => by rw [Nat.sub_self]; rfl)
  · refine Rn.aload_n (pc := 11) dX7_digits_11 rfl rfl ?_
    refine Rn.getI (pc := 12) (t := 0) flX7_18 (show mI (wD M t) 6 0 1 = nI t.2.1 from rfl) dX7_digits_12 ?_
    refine Rn.aload_n (pc := 15) dX7_digits_15 rfl rfl ?_
    refine Rn.getI (pc := 16) (t := 0) flX7_31 (show mI (wD M t) 6 0 2 = nI t.1 from rfl) dX7_digits_16 ?_
    refine Rn.isub (pc := 19) dX7_digits_19 ?_
    rw [pk_sub (by omega)]
    refine Rn.iconst (pc := 20) (v := nI 4) dX7_digits_20 (by decide) ?_
    refine Rn.icmp_gtN (pc := 21) (tgt := 28) dX7_digits_21 (by decide) (by omega) (by omega) (fun c21 => ?_) (fun c21 => ?_)
    · refine Rn.iconst (pc := 28) (v := nI 0) dX7_digits_28 (by decide) ?_
      refine Rn.istore_n (pc := 29) dX7_digits_29 rfl (by decide) rfl st4_1 ?_
      refine Rn.iconst (pc := 30) (v := nI 0) dX7_digits_30 (by decide) ?_
      refine Rn.istore_n (pc := 31) dX7_digits_31 rfl (by decide) rfl st4_2 ?_
      refine Rn.aload_n (pc := 32) dX7_digits_32 rfl rfl ?_
      refine Rn.getI (pc := 33) (t := 0) flX7_31 (show mI (wD M t) 6 0 2 = nI t.1 from rfl) dX7_digits_33 ?_
      refine Rn.istore_n (pc := 36) dX7_digits_36 rfl (by decide) rfl st4_3 ?_
      exact loop _ t.1 false (nI 0) (Nat.le_refl _) ht1 rfl (by simp [isDg, *]; try omega) (fun _ => by rw [Nat.sub_self]; rfl)
    · refine Rn.iconst (pc := 24) (v := nI 1) dX7_digits_24 (by decide) ?_
      refine Rn.goto (pc := 25) (tgt := 29) dX7_digits_25 (by decide) ?_
      refine Rn.istore_n (pc := 29) dX7_digits_29 rfl (by decide) rfl st4_1 ?_
      refine Rn.iconst (pc := 30) (v := nI 0) dX7_digits_30 (by decide) ?_
      refine Rn.istore_n (pc := 31) dX7_digits_31 rfl (by decide) rfl st4_2 ?_
      refine Rn.aload_n (pc := 32) dX7_digits_32 rfl rfl ?_
      refine Rn.getI (pc := 33) (t := 0) flX7_31 (show mI (wD M t) 6 0 2 = nI t.1 from rfl) dX7_digits_33 ?_
      refine Rn.istore_n (pc := 36) dX7_digits_36 rfl (by decide) rfl st4_3 ?_
      exact loop _ t.1 true (nI 0) (Nat.le_refl _) ht1 rfl (by simp [isDg, *]; try omega) (fun _ => by rw [Nat.sub_self]; rfl)

def cNu (L : Nat → Nat) (n : Nat) (lo hi : Int32) (t : KS) : Int32 × KS :=
  ((if cSee L n 45 t = true then -(nI (cDg L n (cStep L n t)).1) else nI (cDg L n t).1),
   if cSee L n 45 t = true then (if -(nI (cDg L n (cStep L n t)).1) < lo ∨ hi < -(nI (cDg L n (cStep L n t)).1) then cFail (cDg L n (cStep L n t)).2 (-4) (nI t.1) else (cDg L n (cStep L n t)).2)
   else (if nI (cDg L n t).1 < lo ∨ hi < nI (cDg L n t).1 then cFail (cDg L n t).2 (-4) (nI t.1) else (cDg L n t).2))
theorem cNu_ok {L : Nat → Nat} {n : Nat} {lo hi : Int32} {t : KS} (h : cOK n t) : cOK n (cNu L n lo hi t).2 := by
  unfold cNu; dsimp only; split
  · split
    · exact cFail_ok (cDg_ok (cStep_ok h))
    · exact cDg_ok (cStep_ok h)
  · split
    · exact cFail_ok (cDg_ok h)
    · exact cDg_ok h
set_option maxRecDepth 20000 in
set_option maxHeartbeats 4000000 in
theorem k_number (G : GX) {n : Nat} {L : Nat → Nat} {M : Mem} (h : TxOK n L M) (t : KS) (ht : cOK n t) (lo hi : Int32) : MetM G yX7_number iX7_number [vR 6 0, vI lo, vI hi] (wD M t) (fun r M' => r = some (vI (cNu L n lo hi t).1) ∧ M' = wD M (cNu L n lo hi t).2) := by
  refine MetM.of (ls := [some (vR 6 0), some (vI lo), some (vI hi), none, none]) (by decide) rfl (Nat.le_of_ble_eq_true rfl) rfl ?_
  intro hM0
  have hq2 := h.2.2.1
  have ht1 := ht.1
  have ht2 := ht.2
  refine Rn.aload_n (pc := 0) dX7_number_0 rfl rfl ?_
  refine Rn.getI (pc := 1) (t := 0) flX7_31 (show mI (wD M t) 6 0 2 = nI t.1 from rfl) dX7_number_1 ?_
  refine Rn.istore_n (pc := 4) dX7_number_4 rfl (by decide) rfl st5_3 ?_
  refine Rn.aload_n (pc := 5) dX7_number_5 rfl rfl ?_
  refine Rn.bipush (pc := 6) (v := nI 45) dX7_number_6 (by decide) ?_
  refine Rn.callV (pc := 8) (as := [_]) cvX7_85 ⟨by decide, rfl⟩ ⟨by decide, by decide⟩ dX7_number_8 (Nat.le_of_ble_eq_true rfl) rfl (k_accept G h t ht 45 (by decide)) ?_
  rintro _ _ ⟨rfl, rfl⟩
  refine Rn.if_eqB (pc := 11) (tgt := 22) dX7_number_11 (by decide) (fun c11 => ?_) (fun c11 => ?_)
  · rw [cAcc, if_neg (by rw [c11]; decide)]
    refine Rn.aload_n (pc := 22) dX7_number_22 rfl rfl ?_
    refine Rn.callV (pc := 23) (as := []) cvX7_88 ⟨by decide, rfl⟩ ⟨by decide, by decide⟩ dX7_number_23 (Nat.le_of_ble_eq_true rfl) rfl (k_digits G h t ht) ?_
    rintro _ _ ⟨rfl, rfl⟩
    refine Rn.istore (pc := 26) dX7_number_26 (by decide) rfl st5_4 ?_
    refine Rn.iload (pc := 28) dX7_number_28 rfl ?_
    refine Rn.iload_n (pc := 30) dX7_number_30 rfl rfl ?_
    refine Rn.icmp_lt (pc := 31) (tgt := 40) dX7_number_31 (by decide) (fun c31 => ?_) (fun c31 => ?_)
    · refine Rn.aload_n (pc := 40) dX7_number_40 rfl rfl ?_
      refine Rn.bipush (pc := 41) (v := -4) dX7_number_41 (by decide) ?_
      refine Rn.iload_n (pc := 43) dX7_number_43 rfl rfl ?_
      refine Rn.callV (pc := 44) (as := [_, _]) cvX7_78 ⟨by decide, rfl⟩ ⟨by decide, by decide⟩ dX7_number_44 (Nat.le_of_ble_eq_true rfl) rfl (k_failD G (cDg L n t).2 (-4) (nI t.1)) ?_
      rintro _ _ ⟨rfl, rfl⟩
      refine Rn.iload (pc := 47) dX7_number_47 rfl ?_
      refine Rn.iret (pc := 49) rfl dX7_number_49 ?_
      rw [cNu]; dsimp only; rw [if_neg (by rw [c11]; decide), if_neg (by rw [c11]; decide), if_pos (Or.inl c31)]; exact ⟨rfl, rfl⟩
    · refine Rn.iload (pc := 34) dX7_number_34 rfl ?_
      refine Rn.iload_n (pc := 36) dX7_number_36 rfl rfl ?_
      refine Rn.icmp_le (pc := 37) (tgt := 47) dX7_number_37 (by decide) (fun c37 => ?_) (fun c37 => ?_)
      · refine Rn.iload (pc := 47) dX7_number_47 rfl ?_
        refine Rn.iret (pc := 49) rfl dX7_number_49 ?_
        rw [cNu]; dsimp only; rw [if_neg (by rw [c11]; decide), if_neg (by rw [c11]; decide), if_neg (fun q => q.elim c31 (fun q => absurd c37 (Int32.not_le.mpr q)))]; exact ⟨rfl, rfl⟩
      · refine Rn.aload_n (pc := 40) dX7_number_40 rfl rfl ?_
        refine Rn.bipush (pc := 41) (v := -4) dX7_number_41 (by decide) ?_
        refine Rn.iload_n (pc := 43) dX7_number_43 rfl rfl ?_
        refine Rn.callV (pc := 44) (as := [_, _]) cvX7_78 ⟨by decide, rfl⟩ ⟨by decide, by decide⟩ dX7_number_44 (Nat.le_of_ble_eq_true rfl) rfl (k_failD G (cDg L n t).2 (-4) (nI t.1)) ?_
        rintro _ _ ⟨rfl, rfl⟩
        refine Rn.iload (pc := 47) dX7_number_47 rfl ?_
        refine Rn.iret (pc := 49) rfl dX7_number_49 ?_
        rw [cNu]; dsimp only; rw [if_neg (by rw [c11]; decide), if_neg (by rw [c11]; decide), if_pos (Or.inr (Int32.not_le.mp c37))]; exact ⟨rfl, rfl⟩
  · rw [cAcc, if_pos c11]
    refine Rn.aload_n (pc := 14) dX7_number_14 rfl rfl ?_
    refine Rn.callV (pc := 15) (as := []) cvX7_88 ⟨by decide, rfl⟩ ⟨by decide, by decide⟩ dX7_number_15 (Nat.le_of_ble_eq_true rfl) rfl (k_digits G h (cStep L n t) (cStep_ok ht)) ?_
    rintro _ _ ⟨rfl, rfl⟩
    refine Rn.ineg (pc := 18) dX7_number_18 ?_
    refine Rn.goto (pc := 19) (tgt := 26) dX7_number_19 (by decide) ?_
    refine Rn.istore (pc := 26) dX7_number_26 (by decide) rfl st5_4 ?_
    refine Rn.iload (pc := 28) dX7_number_28 rfl ?_
    refine Rn.iload_n (pc := 30) dX7_number_30 rfl rfl ?_
    refine Rn.icmp_lt (pc := 31) (tgt := 40) dX7_number_31 (by decide) (fun c31 => ?_) (fun c31 => ?_)
    · refine Rn.aload_n (pc := 40) dX7_number_40 rfl rfl ?_
      refine Rn.bipush (pc := 41) (v := -4) dX7_number_41 (by decide) ?_
      refine Rn.iload_n (pc := 43) dX7_number_43 rfl rfl ?_
      refine Rn.callV (pc := 44) (as := [_, _]) cvX7_78 ⟨by decide, rfl⟩ ⟨by decide, by decide⟩ dX7_number_44 (Nat.le_of_ble_eq_true rfl) rfl (k_failD G (cDg L n (cStep L n t)).2 (-4) (nI t.1)) ?_
      rintro _ _ ⟨rfl, rfl⟩
      refine Rn.iload (pc := 47) dX7_number_47 rfl ?_
      refine Rn.iret (pc := 49) rfl dX7_number_49 ?_
      rw [cNu]; dsimp only; rw [if_pos c11, if_pos c11, if_pos (Or.inl c31)]; exact ⟨rfl, rfl⟩
    · refine Rn.iload (pc := 34) dX7_number_34 rfl ?_
      refine Rn.iload_n (pc := 36) dX7_number_36 rfl rfl ?_
      refine Rn.icmp_le (pc := 37) (tgt := 47) dX7_number_37 (by decide) (fun c37 => ?_) (fun c37 => ?_)
      · refine Rn.iload (pc := 47) dX7_number_47 rfl ?_
        refine Rn.iret (pc := 49) rfl dX7_number_49 ?_
        rw [cNu]; dsimp only; rw [if_pos c11, if_pos c11, if_neg (fun q => q.elim c31 (fun q => absurd c37 (Int32.not_le.mpr q)))]; exact ⟨rfl, rfl⟩
      · refine Rn.aload_n (pc := 40) dX7_number_40 rfl rfl ?_
        refine Rn.bipush (pc := 41) (v := -4) dX7_number_41 (by decide) ?_
        refine Rn.iload_n (pc := 43) dX7_number_43 rfl rfl ?_
        refine Rn.callV (pc := 44) (as := [_, _]) cvX7_78 ⟨by decide, rfl⟩ ⟨by decide, by decide⟩ dX7_number_44 (Nat.le_of_ble_eq_true rfl) rfl (k_failD G (cDg L n (cStep L n t)).2 (-4) (nI t.1)) ?_
        rintro _ _ ⟨rfl, rfl⟩
        refine Rn.iload (pc := 47) dX7_number_47 rfl ?_
        refine Rn.iret (pc := 49) rfl dX7_number_49 ?_
        rw [cNu]; dsimp only; rw [if_pos c11, if_pos c11, if_pos (Or.inr (Int32.not_le.mp c37))]; exact ⟨rfl, rfl⟩

set_option maxRecDepth 20000 in
set_option maxHeartbeats 4000000 in
theorem k_stepBackTo (G : GX) {n : Nat} {L : Nat → Nat} {M : Mem} (h : TxOK n L M) (t : KS) (ht : cOK n t) (p : Nat) (hp : p ≤ n) : MetM G yX7_stepBackTo iX7_stepBackTo [vR 6 0, vI (nI p)] (wD M t) (fun r M' => r = none ∧ M' = wD M (skp L n p, tEnd L n (skp L n p), t.2.2)) := by
  refine MetM.of (ls := [some (vR 6 0), some (vI (nI p))]) (by decide) rfl (Nat.le_of_ble_eq_true rfl) rfl ?_
  intro hM0
  have hq2 := h.2.2.1
  have ht1 := ht.1
  have ht2 := ht.2
  refine Rn.aload_n (pc := 0) dX7_stepBackTo_0 rfl rfl ?_
  refine Rn.iload_n (pc := 1) dX7_stepBackTo_1 rfl rfl ?_
  refine Rn.putI (pc := 2) (t := 0) flX7_18 rfl rfl dX7_stepBackTo_2 ?_
  rw [show sI (wD M t) 6 0 1 (nI p) = wC M t.1 p t.2.2.1 t.2.2.2 from wC_1]
  refine Rn.aload_n (pc := 5) dX7_stepBackTo_5 rfl rfl ?_
  refine Rn.callV (pc := 6) (as := []) cvX7_28 ⟨by decide, rfl⟩ ⟨by decide, by decide⟩ dX7_stepBackTo_6 (Nat.le_of_ble_eq_true rfl) rfl (k_step G h t.1 p t.2.2.1 t.2.2.2 hp) ?_
  rintro _ _ ⟨rfl, rfl⟩
  refine Rn.vret (pc := 9) rfl dX7_stepBackTo_9 ?_
  exact ⟨rfl, rfl⟩

set_option maxRecDepth 20000 in
set_option maxHeartbeats 4000000 in
theorem k_seesLetter (G : GX) {n : Nat} {L : Nat → Nat} {M : Mem} (h : TxOK n L M) (t : KS) (ht : cOK n t) : MetM G yX7_seesLetter iX7_seesLetter [vR 6 0] (wD M t) (fun r M' => r = some (vI (bI (decide (t.1 < n) && isLow (L t.1)))) ∧ M' = wD M t) := by
  refine MetM.of (ls := [some (vR 6 0)]) (by decide) rfl (Nat.le_of_ble_eq_true rfl) rfl ?_
  intro hM0
  have hq2 := h.2.2.1
  have ht1 := ht.1
  have ht2 := ht.2
  refine Rn.aload_n (pc := 0) dX7_seesLetter_0 rfl rfl ?_
  refine Rn.getI (pc := 1) (t := 0) flX7_31 (show mI (wD M t) 6 0 2 = nI t.1 from rfl) dX7_seesLetter_1 ?_
  refine Rn.aload_n (pc := 4) dX7_seesLetter_4 rfl rfl ?_
  refine Rn.getRm (pc := 5) flX7_12 (show mR (wD M t) 6 0 0 = 0 from h.1) dX7_seesLetter_5 ?_
  refine Rn.getI (pc := 8) (t := 0) flX7_34 (show mI (wD M t) 9 0 1 = nI n from h.2.1) dX7_seesLetter_8 ?_
  refine Rn.icmp_geN (pc := 11) (tgt := 36) dX7_seesLetter_11 (by decide) (by omega) (by omega) (fun c11 => ?_) (fun c11 => ?_)
  · refine Rn.iconst (pc := 36) (v := nI 0) dX7_seesLetter_36 (by decide) ?_
    refine Rn.zret (pc := 37) rfl rfl dX7_seesLetter_37 ?_
    refine ⟨?_, rfl⟩; rw [decide_eq_false (by omega)]; rfl
  · refine Rn.aload_n (pc := 14) dX7_seesLetter_14 rfl rfl ?_
    refine Rn.getRm (pc := 15) flX7_12 (show mR (wD M t) 6 0 0 = 0 from h.1) dX7_seesLetter_15 ?_
    refine Rn.getR (pc := 18) flX7_37 mu9_0 fx9_0 dX7_seesLetter_18 ?_
    refine Rn.aload_n (pc := 21) dX7_seesLetter_21 rfl rfl ?_
    refine Rn.getI (pc := 22) (t := 0) flX7_31 (show mI (wD M t) 6 0 2 = nI t.1 from rfl) dX7_seesLetter_22 ?_
    refine Rn.caldN (pc := 25) ak12 (by omega) (by decide) (show mI (wD M t) 12 0 t.1 = nI (L t.1) from h.2.2.2.1 t.1 (by omega)) dX7_seesLetter_25 ?_
    refine Rn.callN (pc := 26) (as := [_]) cnX7_41 ⟨by decide, by decide⟩ dX7_seesLetter_26 (Nat.le_of_ble_eq_true rfl) rfl (k_isLetter G (L t.1) (by have := h.2.2.2.2 t.1 (by omega); omega)) ?_
    rintro _ _ ⟨rfl, rfl⟩
    refine Rn.if_eqB (pc := 29) (tgt := 36) dX7_seesLetter_29 (by decide) (fun c29 => ?_) (fun c29 => ?_)
    · refine Rn.iconst (pc := 36) (v := nI 0) dX7_seesLetter_36 (by decide) ?_
      refine Rn.zret (pc := 37) rfl rfl dX7_seesLetter_37 ?_
      refine ⟨?_, rfl⟩; rw [decide_eq_true (by omega), c29]; rfl
    · refine Rn.iconst (pc := 32) (v := nI 1) dX7_seesLetter_32 (by decide) ?_
      refine Rn.goto (pc := 33) (tgt := 37) dX7_seesLetter_33 (by decide) ?_
      refine Rn.zret (pc := 37) rfl rfl dX7_seesLetter_37 ?_
      refine ⟨?_, rfl⟩; rw [decide_eq_true (by omega), c29]; rfl

