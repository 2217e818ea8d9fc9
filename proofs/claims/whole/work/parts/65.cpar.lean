theorem wA_5 {i : Nat} {A : CR} {M : Mem} {t : KS} {v : Int32} : mI (wD (wA i (uNo A v) M) t) 8 i 5 = v := by
  show (if 8 = 8 ∧ i = i then slI (uNo A v) 5 (mI M 8 i 5) else mI M 8 i 5) = v
  rw [if_pos ⟨rfl, rfl⟩]; rfl
theorem cNm_lt {L : Nat → Nat} {t : KS} : cNm L t < 2 ^ 48 := by
  unfold cNm nmV
  split
  · rename_i h
    have h6 := (nm_f h).2.1
    have h1 := pkN_lt (L := L) (a := t.1) (t.2.1 - t.1) (fun i hi => (nm_b h i hi).2)
    have h2 : 256 ^ (t.2.1 - t.1) ≤ 256 ^ 6 := Nat.pow_le_pow_right (by decide) h6
    have h3 : (256 : Nat) ^ 6 = 2 ^ 48 := by decide
    omega
  · decide
def cRef (L : Nat → Nat) (n : Nat) (A : CR) (t : KS) : CR × KS := (uNm (uNP A t.1) (cName L n t).1, (cName L n t).2)
def cLb (L : Nat → Nat) (n : Nat) (A : CR) (t : KS) : CR × KS :=
  if cNm L t = 0 then (A, t)
  else if cSee L n 58 (cStep L n t) = true then (uLP (uLab A (cNm L t)) t.1, cStep L n (cStep L n t))
  else (A, (skp L n t.1, tEnd L n (skp L n t.1), (cStep L n t).2.2))
def cV2 (L : Nat → Nat) (n : Nat) (A : CR) (t : KS) : CR × KS :=
  if cSee L n 43 t = true then (uNo A (nI (cDg L n (cStep L n t)).1), (cDg L n (cStep L n t)).2)
  else if cSee L n 45 t = true then (uNo A (- nI (cDg L n (cStep L n t)).1), (cDg L n (cStep L n t)).2)
  else (A, t)
def cVal (L : Nat → Nat) (n : Nat) (A : CR) (t : KS) : CR × KS :=
  if (decide (t.1 < n) && isLow (L t.1)) = true then cV2 L n (cRef L n A t).1 (cRef L n A t).2
  else (uNo A (cNu L n (-9999) (nI 9999) t).1, (cNu L n (-9999) (nI 9999) t).2)
def cDir (L : Nat → Nat) (n : Nat) (f c : Nat) (A : CR) (t : KS) : CR × KS :=
  if f = 0 then (uNo (uK A 1) (nI c), t)
  else if f = 1 then cRef L n (uK A 2) t
  else if f = 2 then cVal L n (uBy (uK A 3) (nI 4)) t
  else if f = 3 then (uNo (uBy (uK A 4) (nI 1)) (cNu L n (-128) (nI 255) t).1, (cNu L n (-128) (nI 255) t).2)
  else if f = 4 then (uBy (uK A 5) (cNu L n (nI 0) (nI 512) t).1, (cNu L n (nI 0) (nI 512) t).2)
  else (uK A 6, t)
def cI7 (A : CR) : CR := uBy (uK A 7) (nI 2)
def cLd (L : Nat → Nat) (n : Nat) (c x : Nat) (A : CR) (t : KS) : CR × KS :=
  if cSee L n 91 (cFR L n t).2 = true then (uNo A (nI (cFR L n t).1 + (nI c + (cMe L n 2 (cFR L n t).2).1)), (cMe L n 2 (cFR L n t).2).2)
  else cRef L n (uRe (uNo A (nI (x + 256 * (cFR L n t).1))) 4) (cFR L n t).2
def cIns (L : Nat → Nat) (n : Nat) (f c x : Nat) (A : CR) (t : KS) : CR × KS :=
  if f = 7 then (uNo (cI7 A) (cMv L n c x t).1, (cMv L n c x t).2)
  else if f = 8 then (uNo (cI7 A) (cSm L n c x t).1, (cSm L n c x t).2)
  else if f = 9 then (uNo (cI7 A) (cSh L n c x t).1, (cSh L n c x t).2)
  else if f = 10 then (uNo (cI7 A) (cPr L n c t).1, (cPr L n c t).2)
  else if f = 11 then cLd L n c x (cI7 A) t
  else if f = 12 then (uNo (cI7 A) (nI (c + (cFR L n t).1) + (cMe L n x (cFR L n t).2).1), (cMe L n x (cFR L n t).2).2)
  else if f = 13 then (uNo (cI7 A) (nI c + (cLs L n 49 t).1), (cLs L n 49 t).2)
  else if f = 14 then (uNo (cI7 A) (nI c + (cLs L n 50 t).1), (cLs L n 50 t).2)
  else if f = 15 then cRef L n (uBy (uRe (uNo (cI7 A) (nI c)) x) (if x = 3 then nI 4 else nI 2)) t
  else if f = 16 then (uNo (cI7 A) (nI (c + 8 * (cXc L n t).1)), (cXc L n t).2)
  else (uNo (cI7 A) (nI c), t)
def cSt (L : Nat → Nat) (n : Nat) (A : CR) (t : KS) : Option Nat → CR × KS
  | none => (uPl A t.1, cFail t (-3) (nI t.1))
  | some j => if mnFn j < 6 then cDir L n (mnFn j) (mnCn j) (uPl A t.1) (cStep L n t) else cIns L n (mnFn j) (mnCn j) (mnXn j) (uPl A t.1) (cStep L n t)
def cB1 (L : Nat → Nat) (n : Nat) (t : KS) (A : CR) : CR × KS := if n ≤ t.1 then (A, t) else cSt L n A t (mnS L t.1 t.2.1 49 0)
def cB2 (n : Nat) (q : CR × KS) : CR × KS := if n ≤ q.2.1 then q else (q.1, cFail q.2 (-3) (nI q.2.1))
def cFin (q : CR × KS) : CR := uFP (uFa q.1 q.2.2.2.1) q.2.2.2.2
def cT0 (L : Nat → Nat) (n : Nat) : KS := (skp L n 0, tEnd L n (skp L n 0), nI 0, nI 0)
/-- what the class reads of a line -/
def cP (L : Nat → Nat) (n : Nat) : CR := cFin (cB2 n (cB1 L n (cLb L n A0 (cT0 L n)).2 (cLb L n A0 (cT0 L n)).1))
theorem cRef_ok {L : Nat → Nat} {n : Nat} {A : CR} {t : KS} (h : cOK n t) : cOK n (cRef L n A t).2 := cName_ok h
theorem cLb_ok {L : Nat → Nat} {n : Nat} {A : CR} {t : KS} (h : cOK n t) : cOK n (cLb L n A t).2 := by
  unfold cLb; split
  · exact h
  · split
    · exact cStep_ok (cStep_ok h)
    · exact ⟨tEnd_ge (skp_le (Nat.le_trans h.1 h.2)), tEnd_le (skp_le (Nat.le_trans h.1 h.2))⟩
theorem cV2_ok {L : Nat → Nat} {n : Nat} {A : CR} {t : KS} (h : cOK n t) : cOK n (cV2 L n A t).2 := by
  unfold cV2; split
  · exact cDg_ok (cStep_ok h)
  · split
    · exact cDg_ok (cStep_ok h)
    · exact h
theorem cVal_ok {L : Nat → Nat} {n : Nat} {A : CR} {t : KS} (h : cOK n t) : cOK n (cVal L n A t).2 := by
  unfold cVal; split
  · exact cV2_ok (cRef_ok h)
  · exact cNu_ok h
theorem cDir_ok {L : Nat → Nat} {n f c : Nat} {A : CR} {t : KS} (h : cOK n t) : cOK n (cDir L n f c A t).2 := by
  unfold cDir
  split; · exact h
  split; · exact cRef_ok h
  split; · exact cVal_ok h
  split; · exact cNu_ok h
  split; · exact cNu_ok h
  exact h
theorem cLd_ok {L : Nat → Nat} {n c x : Nat} {A : CR} {t : KS} (h : cOK n t) : cOK n (cLd L n c x A t).2 := by
  unfold cLd; split
  · exact cMe_ok (cFR_ok h)
  · exact cRef_ok (cFR_ok h)
theorem cIns_ok {L : Nat → Nat} {n f c x : Nat} {A : CR} {t : KS} (h : cOK n t) : cOK n (cIns L n f c x A t).2 := by
  unfold cIns
  split; · exact cMv_ok h
  split; · exact cSm_ok h
  split; · exact cSh_ok (c := c) h
  split; · exact cPr_ok (c := c) h
  split; · exact cLd_ok h
  split; · exact cMe_ok (cFR_ok h)
  split; · exact cLs_ok h
  split; · exact cLs_ok h
  split; · exact cRef_ok h
  split; · exact cXc_ok h
  exact h
theorem cSt_ok {L : Nat → Nat} {n : Nat} {A : CR} {t : KS} {q : Option Nat} (h : cOK n t) : cOK n (cSt L n A t q).2 := by
  cases q with
  | none => exact cFail_ok h
  | some j =>
    show cOK n (if mnFn j < 6 then _ else _ : CR × KS).2
    split
    · exact cDir_ok (cStep_ok h)
    · exact cIns_ok (cStep_ok h)
theorem cB1_ok {L : Nat → Nat} {n : Nat} {A : CR} {t : KS} (h : cOK n t) : cOK n (cB1 L n t A).2 := by
  unfold cB1; split
  · exact h
  · exact cSt_ok h
set_option maxRecDepth 20000 in
set_option maxHeartbeats 4000000 in
theorem k_reference (G : GX) {n : Nat} {L : Nat → Nat} {M : Mem} (h : TxOK n L M) (i : Nat) (A : CR) (t : KS) (ht : cOK n t) : MetM G yX6_reference iX6_reference [vR 5 0, vR 8 i] (wD (wA i A M) t) (fun r M' => r = none ∧ M' = wD (wA i (cRef L n A t).1 M) (cRef L n A t).2) := by
  refine MetM.of (ls := [some (vR 5 0), some (vR 8 i)]) (by decide) rfl (Nat.le_of_ble_eq_true rfl) rfl ?_
  intro hM0
  have hq2 := h.2.2.1
  have ht1 := ht.1
  have ht2 := ht.2
  refine Rn.aload_n (pc := 0) dX6_reference_0 rfl rfl ?_
  refine Rn.aload_n (pc := 1) dX6_reference_1 rfl rfl ?_
  refine Rn.getR (pc := 2) flX6_12 mu5_0 fx5_0 dX6_reference_2 ?_
  refine Rn.getI (pc := 5) (t := 0) flX6_35 (show mI (wD (wA i A M) t) 6 0 2 = nI t.1 from rfl) dX6_reference_5 ?_
  refine Rn.putI (pc := 8) (t := 0) flX6_112 rfl rfl dX6_reference_8 ?_
  rw [show sI (wD (wA i A M) t) 8 i 8 (nI t.1) = wD (wA i (uNP A t.1) M) t by rw [wD_8, wA_NP]]
  refine Rn.aload_n (pc := 11) dX6_reference_11 rfl rfl ?_
  refine Rn.aload_n (pc := 12) dX6_reference_12 rfl rfl ?_
  refine Rn.getR (pc := 13) flX6_12 mu5_0 fx5_0 dX6_reference_13 ?_
  refine Rn.callV (pc := 16) (as := []) cvX6_115 ⟨by decide, rfl⟩ ⟨by decide, by decide⟩ dX6_reference_16 (Nat.le_of_ble_eq_true rfl) rfl (k_name G (h.a (i := i) (A := uNP A t.1)) t ht) ?_
  rintro _ _ ⟨rfl, rfl⟩
  refine Rn.putJ (pc := 19) (t := 0) flX6_118 rfl rfl dX6_reference_19 ?_
  rw [show sJ (wD (wA i (uNP A t.1) M) (cName L n t).2) 8 i 7 (lN (cName L n t).1) = wD (wA i (uNm (uNP A t.1) (cName L n t).1) M) (cName L n t).2 by rw [wD_8J, wA_Nm]]
  refine Rn.vret (pc := 22) rfl dX6_reference_22 ?_
  exact ⟨rfl, rfl⟩

set_option maxRecDepth 20000 in
set_option maxHeartbeats 4000000 in
theorem k_label (G : GX) {n : Nat} {L : Nat → Nat} {M : Mem} (h : TxOK n L M) (i : Nat) (A : CR) (t : KS) (ht : cOK n t) : MetM G yX6_label iX6_label [vR 5 0, vR 8 i] (wD (wA i A M) t) (fun r M' => r = none ∧ M' = wD (wA i (cLb L n A t).1 M) (cLb L n A t).2) := by
  refine MetM.of (ls := [some (vR 5 0), some (vR 8 i), none, none, none]) (by decide) rfl (Nat.le_of_ble_eq_true rfl) rfl ?_
  intro hM0
  have hq2 := h.2.2.1
  have ht1 := ht.1
  have ht2 := ht.2
  have hc9 := cNm_lt (L := L) (t := t)
  refine Rn.aload_n (pc := 0) dX6_label_0 rfl rfl ?_
  refine Rn.getR (pc := 1) flX6_12 mu5_0 fx5_0 dX6_label_1 ?_
  refine Rn.callV (pc := 4) (as := []) cvX6_73 ⟨by decide, rfl⟩ ⟨by decide, by decide⟩ dX6_label_4 (Nat.le_of_ble_eq_true rfl) rfl (k_seenName G (h.a (i := i) (A := A)) t ht) ?_
  rintro _ _ ⟨rfl, rfl⟩
  refine Rn.lstore_n (pc := 7) dX6_label_7 rfl (by decide) rfl sl5_2 ?_
  refine Rn.aload_n (pc := 8) dX6_label_8 rfl rfl ?_
  refine Rn.getR (pc := 9) flX6_12 mu5_0 fx5_0 dX6_label_9 ?_
  refine Rn.getI (pc := 12) (t := 0) flX6_35 (show mI (wD (wA i A M) t) 6 0 2 = nI t.1 from rfl) dX6_label_12 ?_
  refine Rn.istore (pc := 15) dX6_label_15 (by decide) rfl st5_4 ?_
  refine Rn.lload_n (pc := 17) dX6_label_17 rfl rfl ?_
  refine Rn.lconst (pc := 18) (v := lN 0) dX6_label_18 (by decide) ?_
  refine Rn.lcmp (pc := 19) dX6_label_19 ?_
  refine Rn.if_ne (pc := 20) (y := 0) (tgt := 24) dX6_label_20 (by decide) (fun c20 => ?_) (fun c20 => ?_)
  · refine Rn.aload_n (pc := 24) dX6_label_24 rfl rfl ?_
    refine Rn.getR (pc := 25) flX6_12 mu5_0 fx5_0 dX6_label_25 ?_
    refine Rn.callV (pc := 28) (as := []) cvX6_55 ⟨by decide, rfl⟩ ⟨by decide, by decide⟩ dX6_label_28 (Nat.le_of_ble_eq_true rfl) rfl (k_stepD G (h.a (i := i) (A := A)) t ht) ?_
    rintro _ _ ⟨rfl, rfl⟩
    refine Rn.aload_n (pc := 31) dX6_label_31 rfl rfl ?_
    refine Rn.getR (pc := 32) flX6_12 mu5_0 fx5_0 dX6_label_32 ?_
    refine Rn.bipush (pc := 35) (v := nI 58) dX6_label_35 (by decide) ?_
    refine Rn.callV (pc := 37) (as := [_]) cvX6_77 ⟨by decide, rfl⟩ ⟨by decide, by decide⟩ dX6_label_37 (Nat.le_of_ble_eq_true rfl) rfl (k_accept G (h.a (i := i) (A := A)) (cStep L n t) (cStep_ok ht) 58 (by decide)) ?_
    rintro _ _ ⟨rfl, rfl⟩
    refine Rn.if_eqB (pc := 40) (tgt := 57) dX6_label_40 (by decide) (fun c40 => ?_) (fun c40 => ?_)
    · rw [cAcc, if_neg (by rw [c40]; decide)]
      refine Rn.aload_n (pc := 57) dX6_label_57 rfl rfl ?_
      refine Rn.getR (pc := 58) flX6_12 mu5_0 fx5_0 dX6_label_58 ?_
      refine Rn.iload (pc := 61) dX6_label_61 rfl ?_
      refine Rn.callV (pc := 63) (as := [_]) cvX6_87 ⟨by decide, rfl⟩ ⟨by decide, by decide⟩ dX6_label_63 (Nat.le_of_ble_eq_true rfl) rfl (k_stepBackTo G (h.a (i := i) (A := A)) (cStep L n t) (cStep_ok ht) t.1 (by omega)) ?_
      rintro _ _ ⟨rfl, rfl⟩
      refine Rn.vret (pc := 66) rfl dX6_label_66 ?_
      unfold cLb; rw [if_neg (fun e9 => c20 (lcmp0.mpr (by rw [e9]))), if_neg (by rw [c40]; decide)]; exact ⟨rfl, rfl⟩
    · rw [cAcc, if_pos c40]
      refine Rn.aload_n (pc := 43) dX6_label_43 rfl rfl ?_
      refine Rn.lload_n (pc := 44) dX6_label_44 rfl rfl ?_
      refine Rn.putJ (pc := 45) (t := 0) flX6_81 rfl rfl dX6_label_45 ?_
      rw [show sJ (wD (wA i A M) (cStep L n (cStep L n t))) 8 i 0 (lN (cNm L t)) = wD (wA i (uLab A (cNm L t)) M) (cStep L n (cStep L n t)) by rw [wD_8J, wA_Lab]]
      refine Rn.aload_n (pc := 48) dX6_label_48 rfl rfl ?_
      refine Rn.iload (pc := 49) dX6_label_49 rfl ?_
      refine Rn.putI (pc := 51) (t := 0) flX6_84 rfl rfl dX6_label_51 ?_
      rw [show sI (wD (wA i (uLab A (cNm L t)) M) (cStep L n (cStep L n t))) 8 i 1 (nI t.1) = wD (wA i (uLP (uLab A (cNm L t)) t.1) M) (cStep L n (cStep L n t)) by rw [wD_8, wA_LP]]
      refine Rn.goto (pc := 54) (tgt := 66) dX6_label_54 (by decide) ?_
      refine Rn.vret (pc := 66) rfl dX6_label_66 ?_
      unfold cLb; rw [if_neg (fun e9 => c20 (lcmp0.mpr (by rw [e9]))), if_pos c40]; exact ⟨rfl, rfl⟩
  · refine Rn.vret (pc := 23) rfl dX6_label_23 ?_
    unfold cLb; rw [if_pos ((lN0_eq (by omega)).mp (lcmp0.mp c20))]; exact ⟨rfl, rfl⟩

set_option maxRecDepth 20000 in
set_option maxHeartbeats 4000000 in
theorem k_value (G : GX) {n : Nat} {L : Nat → Nat} {M : Mem} (h : TxOK n L M) (i : Nat) (A : CR) (t : KS) (ht : cOK n t) : MetM G yX6_value iX6_value [vR 5 0, vR 8 i] (wD (wA i A M) t) (fun r M' => r = none ∧ M' = wD (wA i (cVal L n A t).1 M) (cVal L n A t).2) := by
  refine MetM.of (ls := [some (vR 5 0), some (vR 8 i)]) (by decide) rfl (Nat.le_of_ble_eq_true rfl) rfl ?_
  intro hM0
  have hq2 := h.2.2.1
  have ht1 := ht.1
  have ht2 := ht.2
  refine Rn.aload_n (pc := 0) dX6_value_0 rfl rfl ?_
  refine Rn.getR (pc := 1) flX6_12 mu5_0 fx5_0 dX6_value_1 ?_
  refine Rn.callV (pc := 4) (as := []) cvX6_120 ⟨by decide, rfl⟩ ⟨by decide, by decide⟩ dX6_value_4 (Nat.le_of_ble_eq_true rfl) rfl (k_seesLetter G (h.a (i := i) (A := A)) t ht) ?_
  rintro _ _ ⟨rfl, rfl⟩
  refine Rn.if_neB (pc := 7) (tgt := 28) dX6_value_7 (by decide) (fun c7 => ?_) (fun c7 => ?_)
  · refine Rn.aload_n (pc := 28) dX6_value_28 rfl rfl ?_
    refine Rn.aload_n (pc := 29) dX6_value_29 rfl rfl ?_
    refine Rn.callV (pc := 30) (as := [_]) cvX6_100 ⟨by decide, rfl⟩ ⟨by decide, by decide⟩ dX6_value_30 (Nat.le_of_ble_eq_true rfl) rfl (k_reference G h i A t ht) ?_
    rintro _ _ ⟨rfl, rfl⟩
    refine Rn.aload_n (pc := 33) dX6_value_33 rfl rfl ?_
    refine Rn.getR (pc := 34) flX6_12 mu5_0 fx5_0 dX6_value_34 ?_
    refine Rn.bipush (pc := 37) (v := nI 43) dX6_value_37 (by decide) ?_
    refine Rn.callV (pc := 39) (as := [_]) cvX6_77 ⟨by decide, rfl⟩ ⟨by decide, by decide⟩ dX6_value_39 (Nat.le_of_ble_eq_true rfl) rfl (k_accept G (h.a (i := i) (A := (cRef L n A t).1)) (cRef L n A t).2 (cRef_ok ht) 43 (by decide)) ?_
    rintro _ _ ⟨rfl, rfl⟩
    refine Rn.if_eqB (pc := 42) (tgt := 59) dX6_value_42 (by decide) (fun c42 => ?_) (fun c42 => ?_)
    · rw [cAcc, if_neg (by rw [c42]; decide)]
      refine Rn.aload_n (pc := 59) dX6_value_59 rfl rfl ?_
      refine Rn.getR (pc := 60) flX6_12 mu5_0 fx5_0 dX6_value_60 ?_
      refine Rn.bipush (pc := 63) (v := nI 45) dX6_value_63 (by decide) ?_
      refine Rn.callV (pc := 65) (as := [_]) cvX6_77 ⟨by decide, rfl⟩ ⟨by decide, by decide⟩ dX6_value_65 (Nat.le_of_ble_eq_true rfl) rfl (k_accept G (h.a (i := i) (A := (cRef L n A t).1)) (cRef L n A t).2 (cRef_ok ht) 45 (by decide)) ?_
      rintro _ _ ⟨rfl, rfl⟩
      refine Rn.if_eqB (pc := 68) (tgt := 83) dX6_value_68 (by decide) (fun c68 => ?_) (fun c68 => ?_)
      · rw [cAcc, if_neg (by rw [c68]; decide)]
        refine Rn.vret (pc := 83) rfl dX6_value_83 ?_
        unfold cVal cV2; rw [if_pos c7, if_neg (by rw [c42]; decide), if_neg (by rw [c68]; decide)]; exact ⟨rfl, rfl⟩
      · rw [cAcc, if_pos c68]
        refine Rn.aload_n (pc := 71) dX6_value_71 rfl rfl ?_
        refine Rn.aload_n (pc := 72) dX6_value_72 rfl rfl ?_
        refine Rn.getR (pc := 73) flX6_12 mu5_0 fx5_0 dX6_value_73 ?_
        refine Rn.callV (pc := 76) (as := []) cvX6_123 ⟨by decide, rfl⟩ ⟨by decide, by decide⟩ dX6_value_76 (Nat.le_of_ble_eq_true rfl) rfl (k_digits G (h.a (i := i) (A := (cRef L n A t).1)) (cStep L n (cRef L n A t).2) (cStep_ok (cRef_ok ht))) ?_
        rintro _ _ ⟨rfl, rfl⟩
        refine Rn.ineg (pc := 79) dX6_value_79 ?_
        refine Rn.putI (pc := 80) (t := 0) flX6_97 rfl rfl dX6_value_80 ?_
        rw [show sI (wD (wA i (cRef L n A t).1 M) (cDg L n (cStep L n (cRef L n A t).2)).2) 8 i 5 (- nI (cDg L n (cStep L n (cRef L n A t).2)).1) = wD (wA i (uNo (cRef L n A t).1 (- nI (cDg L n (cStep L n (cRef L n A t).2)).1)) M) (cDg L n (cStep L n (cRef L n A t).2)).2 by rw [wD_8, wA_No]]
        refine Rn.vret (pc := 83) rfl dX6_value_83 ?_
        unfold cVal cV2; rw [if_pos c7, if_neg (by rw [c42]; decide), if_pos c68]; exact ⟨rfl, rfl⟩
    · rw [cAcc, if_pos c42]
      refine Rn.aload_n (pc := 45) dX6_value_45 rfl rfl ?_
      refine Rn.aload_n (pc := 46) dX6_value_46 rfl rfl ?_
      refine Rn.getR (pc := 47) flX6_12 mu5_0 fx5_0 dX6_value_47 ?_
      refine Rn.callV (pc := 50) (as := []) cvX6_123 ⟨by decide, rfl⟩ ⟨by decide, by decide⟩ dX6_value_50 (Nat.le_of_ble_eq_true rfl) rfl (k_digits G (h.a (i := i) (A := (cRef L n A t).1)) (cStep L n (cRef L n A t).2) (cStep_ok (cRef_ok ht))) ?_
      rintro _ _ ⟨rfl, rfl⟩
      refine Rn.putI (pc := 53) (t := 0) flX6_97 rfl rfl dX6_value_53 ?_
      rw [show sI (wD (wA i (cRef L n A t).1 M) (cDg L n (cStep L n (cRef L n A t).2)).2) 8 i 5 (nI (cDg L n (cStep L n (cRef L n A t).2)).1) = wD (wA i (uNo (cRef L n A t).1 (nI (cDg L n (cStep L n (cRef L n A t).2)).1)) M) (cDg L n (cStep L n (cRef L n A t).2)).2 by rw [wD_8, wA_No]]
      refine Rn.goto (pc := 56) (tgt := 83) dX6_value_56 (by decide) ?_
      refine Rn.vret (pc := 83) rfl dX6_value_83 ?_
      unfold cVal cV2; rw [if_pos c7, if_pos c42]; exact ⟨rfl, rfl⟩
  · refine Rn.aload_n (pc := 10) dX6_value_10 rfl rfl ?_
    refine Rn.aload_n (pc := 11) dX6_value_11 rfl rfl ?_
    refine Rn.getR (pc := 12) flX6_12 mu5_0 fx5_0 dX6_value_12 ?_
    refine Rn.sipush (pc := 15) (v := -9999) dX6_value_15 (by decide) ?_
    refine Rn.sipush (pc := 18) (v := nI 9999) dX6_value_18 (by decide) ?_
    refine Rn.callV (pc := 21) (as := [_, _]) cvX6_109 ⟨by decide, rfl⟩ ⟨by decide, by decide⟩ dX6_value_21 (Nat.le_of_ble_eq_true rfl) rfl (k_number G (h.a (i := i) (A := A)) t ht (-9999) (nI 9999)) ?_
    rintro _ _ ⟨rfl, rfl⟩
    refine Rn.putI (pc := 24) (t := 0) flX6_97 rfl rfl dX6_value_24 ?_
    rw [show sI (wD (wA i A M) (cNu L n (-9999) (nI 9999) t).2) 8 i 5 (cNu L n (-9999) (nI 9999) t).1 = wD (wA i (uNo A (cNu L n (-9999) (nI 9999) t).1) M) (cNu L n (-9999) (nI 9999) t).2 by rw [wD_8, wA_No]]
    refine Rn.vret (pc := 27) rfl dX6_value_27 ?_
    unfold cVal; rw [if_neg (by rw [c7]; decide)]; exact ⟨rfl, rfl⟩

set_option maxRecDepth 20000 in
set_option maxHeartbeats 4000000 in
theorem k_dir_0 (G : GX) {n : Nat} {L : Nat → Nat} {M : Mem} (h : TxOK n L M) (i : Nat) (A : CR) (t : KS) (ht : cOK n t) (j : Nat) (hj : j < 49) (hf : mnFn j = 0) : MetM G yX6_directive iX6_directive [vR 5 0, vR 51 j, vR 8 i] (wD (wA i A M) t) (fun r M' => r = none ∧ M' = wD (wA i (cDir L n (mnFn j) (mnCn j) A t).1 M) (cDir L n (mnFn j) (mnCn j) A t).2) := by
  refine MetM.of (ls := [some (vR 5 0), some (vR 51 j), some (vR 8 i)]) (by decide) rfl (Nat.le_of_ble_eq_true rfl) rfl ?_
  intro hM0
  have hq2 := h.2.2.1
  have ht1 := ht.1
  have ht2 := ht.2
  obtain ⟨⟨hF1, hF2⟩, ⟨hC1, hC2⟩, hX1, hX2⟩ := mn_all j hj
  refine Rn.aload_n (pc := 0) dX6_directive_0 rfl rfl ?_
  refine Rn.get_form (pc := 1) wfX6_50 dX6_directive_1 ?_
  rw [hF1, hf]
  refine Rn.tableIn (pc := 4) (off := 36) (tgt := 40) dX6_directive_4 (by decide) (by decide) rfl (by decide) ?_
  refine Rn.aload_n (pc := 40) dX6_directive_40 rfl rfl ?_
  refine Rn.iconst (pc := 41) (v := nI 1) dX6_directive_41 (by decide) ?_
  refine Rn.putI (pc := 42) (t := 0) flX6_91 rfl rfl dX6_directive_42 ?_
  rw [show sI (wD (wA i A M) t) 8 i 3 (nI 1) = wD (wA i (uK A 1) M) t by rw [wD_8, wA_K]]
  refine Rn.aload_n (pc := 45) dX6_directive_45 rfl rfl ?_
  refine Rn.aload_n (pc := 46) dX6_directive_46 rfl rfl ?_
  refine Rn.get_code (pc := 47) wfX6_94 dX6_directive_47 ?_
  rw [hC1]
  refine Rn.putI (pc := 50) (t := 0) flX6_97 rfl rfl dX6_directive_50 ?_
  rw [show sI (wD (wA i (uK A 1) M) t) 8 i 5 (nI (mnCn j)) = wD (wA i (uNo (uK A 1) (nI (mnCn j))) M) t by rw [wD_8, wA_No]]
  refine Rn.goto (pc := 53) (tgt := 145) dX6_directive_53 (by decide) ?_
  refine Rn.vret (pc := 145) rfl dX6_directive_145 ?_
  unfold cDir; rw [if_pos rfl]; exact ⟨rfl, rfl⟩

set_option maxRecDepth 20000 in
set_option maxHeartbeats 4000000 in
theorem k_dir_1 (G : GX) {n : Nat} {L : Nat → Nat} {M : Mem} (h : TxOK n L M) (i : Nat) (A : CR) (t : KS) (ht : cOK n t) (j : Nat) (hj : j < 49) (hf : mnFn j = 1) : MetM G yX6_directive iX6_directive [vR 5 0, vR 51 j, vR 8 i] (wD (wA i A M) t) (fun r M' => r = none ∧ M' = wD (wA i (cDir L n (mnFn j) (mnCn j) A t).1 M) (cDir L n (mnFn j) (mnCn j) A t).2) := by
  refine MetM.of (ls := [some (vR 5 0), some (vR 51 j), some (vR 8 i)]) (by decide) rfl (Nat.le_of_ble_eq_true rfl) rfl ?_
  intro hM0
  have hq2 := h.2.2.1
  have ht1 := ht.1
  have ht2 := ht.2
  obtain ⟨⟨hF1, hF2⟩, ⟨hC1, hC2⟩, hX1, hX2⟩ := mn_all j hj
  refine Rn.aload_n (pc := 0) dX6_directive_0 rfl rfl ?_
  refine Rn.get_form (pc := 1) wfX6_50 dX6_directive_1 ?_
  rw [hF1, hf]
  refine Rn.tableIn (pc := 4) (off := 52) (tgt := 56) dX6_directive_4 (by decide) (by decide) rfl (by decide) ?_
  refine Rn.aload_n (pc := 56) dX6_directive_56 rfl rfl ?_
  refine Rn.iconst (pc := 57) (v := nI 2) dX6_directive_57 (by decide) ?_
  refine Rn.putI (pc := 58) (t := 0) flX6_91 rfl rfl dX6_directive_58 ?_
  rw [show sI (wD (wA i A M) t) 8 i 3 (nI 2) = wD (wA i (uK A 2) M) t by rw [wD_8, wA_K]]
  refine Rn.aload_n (pc := 61) dX6_directive_61 rfl rfl ?_
  refine Rn.aload_n (pc := 62) dX6_directive_62 rfl rfl ?_
  refine Rn.callV (pc := 63) (as := [_]) cvX6_100 ⟨by decide, rfl⟩ ⟨by decide, by decide⟩ dX6_directive_63 (Nat.le_of_ble_eq_true rfl) rfl (k_reference G h i (uK A 2) t ht) ?_
  rintro _ _ ⟨rfl, rfl⟩
  refine Rn.goto (pc := 66) (tgt := 145) dX6_directive_66 (by decide) ?_
  refine Rn.vret (pc := 145) rfl dX6_directive_145 ?_
  unfold cDir; rw [if_neg (by decide), if_pos rfl]; exact ⟨rfl, rfl⟩

set_option maxRecDepth 20000 in
set_option maxHeartbeats 4000000 in
theorem k_dir_2 (G : GX) {n : Nat} {L : Nat → Nat} {M : Mem} (h : TxOK n L M) (i : Nat) (A : CR) (t : KS) (ht : cOK n t) (j : Nat) (hj : j < 49) (hf : mnFn j = 2) : MetM G yX6_directive iX6_directive [vR 5 0, vR 51 j, vR 8 i] (wD (wA i A M) t) (fun r M' => r = none ∧ M' = wD (wA i (cDir L n (mnFn j) (mnCn j) A t).1 M) (cDir L n (mnFn j) (mnCn j) A t).2) := by
  refine MetM.of (ls := [some (vR 5 0), some (vR 51 j), some (vR 8 i)]) (by decide) rfl (Nat.le_of_ble_eq_true rfl) rfl ?_
  intro hM0
  have hq2 := h.2.2.1
  have ht1 := ht.1
  have ht2 := ht.2
  obtain ⟨⟨hF1, hF2⟩, ⟨hC1, hC2⟩, hX1, hX2⟩ := mn_all j hj
  refine Rn.aload_n (pc := 0) dX6_directive_0 rfl rfl ?_
  refine Rn.get_form (pc := 1) wfX6_50 dX6_directive_1 ?_
  rw [hF1, hf]
  refine Rn.tableIn (pc := 4) (off := 65) (tgt := 69) dX6_directive_4 (by decide) (by decide) rfl (by decide) ?_
  refine Rn.aload_n (pc := 69) dX6_directive_69 rfl rfl ?_
  refine Rn.iconst (pc := 70) (v := nI 3) dX6_directive_70 (by decide) ?_
  refine Rn.putI (pc := 71) (t := 0) flX6_91 rfl rfl dX6_directive_71 ?_
  rw [show sI (wD (wA i A M) t) 8 i 3 (nI 3) = wD (wA i (uK A 3) M) t by rw [wD_8, wA_K]]
  refine Rn.aload_n (pc := 74) dX6_directive_74 rfl rfl ?_
  refine Rn.iconst (pc := 75) (v := nI 4) dX6_directive_75 (by decide) ?_
  refine Rn.putI (pc := 76) (t := 0) flX6_103 rfl rfl dX6_directive_76 ?_
  rw [show sI (wD (wA i (uK A 3) M) t) 8 i 6 (nI 4) = wD (wA i (uBy (uK A 3) (nI 4)) M) t by rw [wD_8, wA_By]]
  refine Rn.aload_n (pc := 79) dX6_directive_79 rfl rfl ?_
  refine Rn.aload_n (pc := 80) dX6_directive_80 rfl rfl ?_
  refine Rn.callV (pc := 81) (as := [_]) cvX6_106 ⟨by decide, rfl⟩ ⟨by decide, by decide⟩ dX6_directive_81 (Nat.le_of_ble_eq_true rfl) rfl (k_value G h i (uBy (uK A 3) (nI 4)) t ht) ?_
  rintro _ _ ⟨rfl, rfl⟩
  refine Rn.goto (pc := 84) (tgt := 145) dX6_directive_84 (by decide) ?_
  refine Rn.vret (pc := 145) rfl dX6_directive_145 ?_
  unfold cDir; rw [if_neg (by decide), if_neg (by decide), if_pos rfl]; exact ⟨rfl, rfl⟩

set_option maxRecDepth 20000 in
set_option maxHeartbeats 4000000 in
theorem k_dir_3 (G : GX) {n : Nat} {L : Nat → Nat} {M : Mem} (h : TxOK n L M) (i : Nat) (A : CR) (t : KS) (ht : cOK n t) (j : Nat) (hj : j < 49) (hf : mnFn j = 3) : MetM G yX6_directive iX6_directive [vR 5 0, vR 51 j, vR 8 i] (wD (wA i A M) t) (fun r M' => r = none ∧ M' = wD (wA i (cDir L n (mnFn j) (mnCn j) A t).1 M) (cDir L n (mnFn j) (mnCn j) A t).2) := by
  refine MetM.of (ls := [some (vR 5 0), some (vR 51 j), some (vR 8 i)]) (by decide) rfl (Nat.le_of_ble_eq_true rfl) rfl ?_
  intro hM0
  have hq2 := h.2.2.1
  have ht1 := ht.1
  have ht2 := ht.2
  obtain ⟨⟨hF1, hF2⟩, ⟨hC1, hC2⟩, hX1, hX2⟩ := mn_all j hj
  refine Rn.aload_n (pc := 0) dX6_directive_0 rfl rfl ?_
  refine Rn.get_form (pc := 1) wfX6_50 dX6_directive_1 ?_
  rw [hF1, hf]
  refine Rn.tableIn (pc := 4) (off := 83) (tgt := 87) dX6_directive_4 (by decide) (by decide) rfl (by decide) ?_
  refine Rn.aload_n (pc := 87) dX6_directive_87 rfl rfl ?_
  refine Rn.iconst (pc := 88) (v := nI 4) dX6_directive_88 (by decide) ?_
  refine Rn.putI (pc := 89) (t := 0) flX6_91 rfl rfl dX6_directive_89 ?_
  rw [show sI (wD (wA i A M) t) 8 i 3 (nI 4) = wD (wA i (uK A 4) M) t by rw [wD_8, wA_K]]
  refine Rn.aload_n (pc := 92) dX6_directive_92 rfl rfl ?_
  refine Rn.iconst (pc := 93) (v := nI 1) dX6_directive_93 (by decide) ?_
  refine Rn.putI (pc := 94) (t := 0) flX6_103 rfl rfl dX6_directive_94 ?_
  rw [show sI (wD (wA i (uK A 4) M) t) 8 i 6 (nI 1) = wD (wA i (uBy (uK A 4) (nI 1)) M) t by rw [wD_8, wA_By]]
  refine Rn.aload_n (pc := 97) dX6_directive_97 rfl rfl ?_
  refine Rn.aload_n (pc := 98) dX6_directive_98 rfl rfl ?_
  refine Rn.getR (pc := 99) flX6_12 mu5_0 fx5_0 dX6_directive_99 ?_
  refine Rn.bipush (pc := 102) (v := -128) dX6_directive_102 (by decide) ?_
  refine Rn.sipush (pc := 104) (v := nI 255) dX6_directive_104 (by decide) ?_
  refine Rn.callV (pc := 107) (as := [_, _]) cvX6_109 ⟨by decide, rfl⟩ ⟨by decide, by decide⟩ dX6_directive_107 (Nat.le_of_ble_eq_true rfl) rfl (k_number G (h.a (i := i) (A := uBy (uK A 4) (nI 1))) t ht (-128) (nI 255)) ?_
  rintro _ _ ⟨rfl, rfl⟩
  refine Rn.putI (pc := 110) (t := 0) flX6_97 rfl rfl dX6_directive_110 ?_
  rw [show sI (wD (wA i (uBy (uK A 4) (nI 1)) M) (cNu L n (-128) (nI 255) t).2) 8 i 5 (cNu L n (-128) (nI 255) t).1 = wD (wA i (uNo (uBy (uK A 4) (nI 1)) (cNu L n (-128) (nI 255) t).1) M) (cNu L n (-128) (nI 255) t).2 by rw [wD_8, wA_No]]
  refine Rn.goto (pc := 113) (tgt := 145) dX6_directive_113 (by decide) ?_
  refine Rn.vret (pc := 145) rfl dX6_directive_145 ?_
  unfold cDir; rw [if_neg (by decide), if_neg (by decide), if_neg (by decide), if_pos rfl]; exact ⟨rfl, rfl⟩

set_option maxRecDepth 20000 in
set_option maxHeartbeats 4000000 in
theorem k_dir_4 (G : GX) {n : Nat} {L : Nat → Nat} {M : Mem} (h : TxOK n L M) (i : Nat) (A : CR) (t : KS) (ht : cOK n t) (j : Nat) (hj : j < 49) (hf : mnFn j = 4) : MetM G yX6_directive iX6_directive [vR 5 0, vR 51 j, vR 8 i] (wD (wA i A M) t) (fun r M' => r = none ∧ M' = wD (wA i (cDir L n (mnFn j) (mnCn j) A t).1 M) (cDir L n (mnFn j) (mnCn j) A t).2) := by
  refine MetM.of (ls := [some (vR 5 0), some (vR 51 j), some (vR 8 i)]) (by decide) rfl (Nat.le_of_ble_eq_true rfl) rfl ?_
  intro hM0
  have hq2 := h.2.2.1
  have ht1 := ht.1
  have ht2 := ht.2
  obtain ⟨⟨hF1, hF2⟩, ⟨hC1, hC2⟩, hX1, hX2⟩ := mn_all j hj
  refine Rn.aload_n (pc := 0) dX6_directive_0 rfl rfl ?_
  refine Rn.get_form (pc := 1) wfX6_50 dX6_directive_1 ?_
  rw [hF1, hf]
  refine Rn.tableIn (pc := 4) (off := 112) (tgt := 116) dX6_directive_4 (by decide) (by decide) rfl (by decide) ?_
  refine Rn.aload_n (pc := 116) dX6_directive_116 rfl rfl ?_
  refine Rn.iconst (pc := 117) (v := nI 5) dX6_directive_117 (by decide) ?_
  refine Rn.putI (pc := 118) (t := 0) flX6_91 rfl rfl dX6_directive_118 ?_
  rw [show sI (wD (wA i A M) t) 8 i 3 (nI 5) = wD (wA i (uK A 5) M) t by rw [wD_8, wA_K]]
  refine Rn.aload_n (pc := 121) dX6_directive_121 rfl rfl ?_
  refine Rn.aload_n (pc := 122) dX6_directive_122 rfl rfl ?_
  refine Rn.getR (pc := 123) flX6_12 mu5_0 fx5_0 dX6_directive_123 ?_
  refine Rn.iconst (pc := 126) (v := nI 0) dX6_directive_126 (by decide) ?_
  refine Rn.sipush (pc := 127) (v := nI 512) dX6_directive_127 (by decide) ?_
  refine Rn.callV (pc := 130) (as := [_, _]) cvX6_109 ⟨by decide, rfl⟩ ⟨by decide, by decide⟩ dX6_directive_130 (Nat.le_of_ble_eq_true rfl) rfl (k_number G (h.a (i := i) (A := uK A 5)) t ht (nI 0) (nI 512)) ?_
  rintro _ _ ⟨rfl, rfl⟩
  refine Rn.putI (pc := 133) (t := 0) flX6_103 rfl rfl dX6_directive_133 ?_
  rw [show sI (wD (wA i (uK A 5) M) (cNu L n (nI 0) (nI 512) t).2) 8 i 6 (cNu L n (nI 0) (nI 512) t).1 = wD (wA i (uBy (uK A 5) (cNu L n (nI 0) (nI 512) t).1) M) (cNu L n (nI 0) (nI 512) t).2 by rw [wD_8, wA_By]]
  refine Rn.goto (pc := 136) (tgt := 145) dX6_directive_136 (by decide) ?_
  refine Rn.vret (pc := 145) rfl dX6_directive_145 ?_
  unfold cDir; rw [if_neg (by decide), if_neg (by decide), if_neg (by decide), if_neg (by decide), if_pos rfl]; exact ⟨rfl, rfl⟩

set_option maxRecDepth 20000 in
set_option maxHeartbeats 4000000 in
theorem k_dir_5 (G : GX) {n : Nat} {L : Nat → Nat} {M : Mem} (h : TxOK n L M) (i : Nat) (A : CR) (t : KS) (ht : cOK n t) (j : Nat) (hj : j < 49) (hf : mnFn j = 5) : MetM G yX6_directive iX6_directive [vR 5 0, vR 51 j, vR 8 i] (wD (wA i A M) t) (fun r M' => r = none ∧ M' = wD (wA i (cDir L n (mnFn j) (mnCn j) A t).1 M) (cDir L n (mnFn j) (mnCn j) A t).2) := by
  refine MetM.of (ls := [some (vR 5 0), some (vR 51 j), some (vR 8 i)]) (by decide) rfl (Nat.le_of_ble_eq_true rfl) rfl ?_
  intro hM0
  have hq2 := h.2.2.1
  have ht1 := ht.1
  have ht2 := ht.2
  obtain ⟨⟨hF1, hF2⟩, ⟨hC1, hC2⟩, hX1, hX2⟩ := mn_all j hj
  refine Rn.aload_n (pc := 0) dX6_directive_0 rfl rfl ?_
  refine Rn.get_form (pc := 1) wfX6_50 dX6_directive_1 ?_
  rw [hF1, hf]
  refine Rn.tableOut (pc := 4) (tgt := 139) dX6_directive_4 (by decide) (by decide) ?_
  refine Rn.aload_n (pc := 139) dX6_directive_139 rfl rfl ?_
  refine Rn.bipush (pc := 140) (v := nI 6) dX6_directive_140 (by decide) ?_
  refine Rn.putI (pc := 142) (t := 0) flX6_91 rfl rfl dX6_directive_142 ?_
  rw [show sI (wD (wA i A M) t) 8 i 3 (nI 6) = wD (wA i (uK A 6) M) t by rw [wD_8, wA_K]]
  refine Rn.vret (pc := 145) rfl dX6_directive_145 ?_
  unfold cDir; rw [if_neg (by decide), if_neg (by decide), if_neg (by decide), if_neg (by decide), if_neg (by decide)]; exact ⟨rfl, rfl⟩

set_option maxRecDepth 20000 in
set_option maxHeartbeats 4000000 in
theorem k_ins_6 (G : GX) {n : Nat} {L : Nat → Nat} {M : Mem} (h : TxOK n L M) (i : Nat) (A : CR) (t : KS) (ht : cOK n t) (j : Nat) (hj : j < 49) (hf : mnFn j = 6) : MetM G yX6_instruction iX6_instruction [vR 5 0, vR 51 j, vR 8 i] (wD (wA i A M) t) (fun r M' => r = none ∧ M' = wD (wA i (cIns L n (mnFn j) (mnCn j) (mnXn j) A t).1 M) (cIns L n (mnFn j) (mnCn j) (mnXn j) A t).2) := by
  refine MetM.of (ls := [some (vR 5 0), some (vR 51 j), some (vR 8 i)]) (by decide) rfl (Nat.le_of_ble_eq_true rfl) rfl ?_
  intro hM0
  have hq2 := h.2.2.1
  have ht1 := ht.1
  have ht2 := ht.2
  obtain ⟨⟨hF1, hF2⟩, ⟨hC1, hC2⟩, hX1, hX2⟩ := mn_all j hj
  refine Rn.aload_n (pc := 0) dX6_instruction_0 rfl rfl ?_
  refine Rn.bipush (pc := 1) (v := nI 7) dX6_instruction_1 (by decide) ?_
  refine Rn.putI (pc := 3) (t := 0) flX6_91 rfl rfl dX6_instruction_3 ?_
  rw [show sI (wD (wA i A M) t) 8 i 3 (nI 7) = wD (wA i (uK A 7) M) t by rw [wD_8, wA_K]]
  refine Rn.aload_n (pc := 6) dX6_instruction_6 rfl rfl ?_
  refine Rn.iconst (pc := 7) (v := nI 2) dX6_instruction_7 (by decide) ?_
  refine Rn.putI (pc := 8) (t := 0) flX6_103 rfl rfl dX6_instruction_8 ?_
  rw [show sI (wD (wA i (uK A 7) M) t) 8 i 6 (nI 2) = wD (wA i (uBy (uK A 7) (nI 2)) M) t by rw [wD_8, wA_By]]
  rw [show uBy (uK A 7) (nI 2) = cI7 A from rfl]
  refine Rn.aload_n (pc := 11) dX6_instruction_11 rfl rfl ?_
  refine Rn.get_form (pc := 12) wfX6_50 dX6_instruction_12 ?_
  rw [hF1, hf]
  refine Rn.tableOut (pc := 15) (tgt := 309) dX6_instruction_15 (by decide) (by decide) ?_
  refine Rn.aload_n (pc := 309) dX6_instruction_309 rfl rfl ?_
  refine Rn.aload_n (pc := 310) dX6_instruction_310 rfl rfl ?_
  refine Rn.get_code (pc := 311) wfX6_94 dX6_instruction_311 ?_
  rw [hC1]
  refine Rn.putI (pc := 314) (t := 0) flX6_97 rfl rfl dX6_instruction_314 ?_
  rw [show sI (wD (wA i (cI7 A) M) t) 8 i 5 (nI (mnCn j)) = wD (wA i (uNo (cI7 A) (nI (mnCn j))) M) t by rw [wD_8, wA_No]]
  refine Rn.vret (pc := 317) rfl dX6_instruction_317 ?_
  unfold cIns; rw [if_neg (by decide), if_neg (by decide), if_neg (by decide), if_neg (by decide), if_neg (by decide), if_neg (by decide), if_neg (by decide), if_neg (by decide), if_neg (by decide), if_neg (by decide)]; exact ⟨rfl, rfl⟩

set_option maxRecDepth 20000 in
set_option maxHeartbeats 4000000 in
theorem k_ins_7 (G : GX) {n : Nat} {L : Nat → Nat} {M : Mem} (h : TxOK n L M) (i : Nat) (A : CR) (t : KS) (ht : cOK n t) (j : Nat) (hj : j < 49) (hf : mnFn j = 7) : MetM G yX6_instruction iX6_instruction [vR 5 0, vR 51 j, vR 8 i] (wD (wA i A M) t) (fun r M' => r = none ∧ M' = wD (wA i (cIns L n (mnFn j) (mnCn j) (mnXn j) A t).1 M) (cIns L n (mnFn j) (mnCn j) (mnXn j) A t).2) := by
  refine MetM.of (ls := [some (vR 5 0), some (vR 51 j), some (vR 8 i)]) (by decide) rfl (Nat.le_of_ble_eq_true rfl) rfl ?_
  intro hM0
  have hq2 := h.2.2.1
  have ht1 := ht.1
  have ht2 := ht.2
  obtain ⟨⟨hF1, hF2⟩, ⟨hC1, hC2⟩, hX1, hX2⟩ := mn_all j hj
  refine Rn.aload_n (pc := 0) dX6_instruction_0 rfl rfl ?_
  refine Rn.bipush (pc := 1) (v := nI 7) dX6_instruction_1 (by decide) ?_
  refine Rn.putI (pc := 3) (t := 0) flX6_91 rfl rfl dX6_instruction_3 ?_
  rw [show sI (wD (wA i A M) t) 8 i 3 (nI 7) = wD (wA i (uK A 7) M) t by rw [wD_8, wA_K]]
  refine Rn.aload_n (pc := 6) dX6_instruction_6 rfl rfl ?_
  refine Rn.iconst (pc := 7) (v := nI 2) dX6_instruction_7 (by decide) ?_
  refine Rn.putI (pc := 8) (t := 0) flX6_103 rfl rfl dX6_instruction_8 ?_
  rw [show sI (wD (wA i (uK A 7) M) t) 8 i 6 (nI 2) = wD (wA i (uBy (uK A 7) (nI 2)) M) t by rw [wD_8, wA_By]]
  rw [show uBy (uK A 7) (nI 2) = cI7 A from rfl]
  refine Rn.aload_n (pc := 11) dX6_instruction_11 rfl rfl ?_
  refine Rn.get_form (pc := 12) wfX6_50 dX6_instruction_12 ?_
  rw [hF1, hf]
  refine Rn.tableIn (pc := 15) (off := 53) (tgt := 68) dX6_instruction_15 (by decide) (by decide) rfl (by decide) ?_
  refine Rn.aload_n (pc := 68) dX6_instruction_68 rfl rfl ?_
  refine Rn.aload_n (pc := 69) dX6_instruction_69 rfl rfl ?_
  refine Rn.aload_n (pc := 70) dX6_instruction_70 rfl rfl ?_
  refine Rn.callV (pc := 71) (as := [_]) cvX6_127 ⟨by decide, rfl⟩ ⟨by decide, by decide⟩ dX6_instruction_71 (Nat.le_of_ble_eq_true rfl) rfl (k_move G (h.a (i := i) (A := cI7 A)) t ht j hj) ?_
  rintro _ _ ⟨rfl, rfl⟩
  refine Rn.putI (pc := 74) (t := 0) flX6_97 rfl rfl dX6_instruction_74 ?_
  rw [show sI (wD (wA i (cI7 A) M) (cMv L n (mnCn j) (mnXn j) t).2) 8 i 5 (cMv L n (mnCn j) (mnXn j) t).1 = wD (wA i (uNo (cI7 A) (cMv L n (mnCn j) (mnXn j) t).1) M) (cMv L n (mnCn j) (mnXn j) t).2 by rw [wD_8, wA_No]]
  refine Rn.goto (pc := 77) (tgt := 317) dX6_instruction_77 (by decide) ?_
  refine Rn.vret (pc := 317) rfl dX6_instruction_317 ?_
  unfold cIns; rw [if_pos rfl]; exact ⟨rfl, rfl⟩

set_option maxRecDepth 20000 in
set_option maxHeartbeats 4000000 in
theorem k_ins_8 (G : GX) {n : Nat} {L : Nat → Nat} {M : Mem} (h : TxOK n L M) (i : Nat) (A : CR) (t : KS) (ht : cOK n t) (j : Nat) (hj : j < 49) (hf : mnFn j = 8) : MetM G yX6_instruction iX6_instruction [vR 5 0, vR 51 j, vR 8 i] (wD (wA i A M) t) (fun r M' => r = none ∧ M' = wD (wA i (cIns L n (mnFn j) (mnCn j) (mnXn j) A t).1 M) (cIns L n (mnFn j) (mnCn j) (mnXn j) A t).2) := by
  refine MetM.of (ls := [some (vR 5 0), some (vR 51 j), some (vR 8 i)]) (by decide) rfl (Nat.le_of_ble_eq_true rfl) rfl ?_
  intro hM0
  have hq2 := h.2.2.1
  have ht1 := ht.1
  have ht2 := ht.2
  obtain ⟨⟨hF1, hF2⟩, ⟨hC1, hC2⟩, hX1, hX2⟩ := mn_all j hj
  refine Rn.aload_n (pc := 0) dX6_instruction_0 rfl rfl ?_
  refine Rn.bipush (pc := 1) (v := nI 7) dX6_instruction_1 (by decide) ?_
  refine Rn.putI (pc := 3) (t := 0) flX6_91 rfl rfl dX6_instruction_3 ?_
  rw [show sI (wD (wA i A M) t) 8 i 3 (nI 7) = wD (wA i (uK A 7) M) t by rw [wD_8, wA_K]]
  refine Rn.aload_n (pc := 6) dX6_instruction_6 rfl rfl ?_
  refine Rn.iconst (pc := 7) (v := nI 2) dX6_instruction_7 (by decide) ?_
  refine Rn.putI (pc := 8) (t := 0) flX6_103 rfl rfl dX6_instruction_8 ?_
  rw [show sI (wD (wA i (uK A 7) M) t) 8 i 6 (nI 2) = wD (wA i (uBy (uK A 7) (nI 2)) M) t by rw [wD_8, wA_By]]
  rw [show uBy (uK A 7) (nI 2) = cI7 A from rfl]
  refine Rn.aload_n (pc := 11) dX6_instruction_11 rfl rfl ?_
  refine Rn.get_form (pc := 12) wfX6_50 dX6_instruction_12 ?_
  rw [hF1, hf]
  refine Rn.tableIn (pc := 15) (off := 65) (tgt := 80) dX6_instruction_15 (by decide) (by decide) rfl (by decide) ?_
  refine Rn.aload_n (pc := 80) dX6_instruction_80 rfl rfl ?_
  refine Rn.aload_n (pc := 81) dX6_instruction_81 rfl rfl ?_
  refine Rn.aload_n (pc := 82) dX6_instruction_82 rfl rfl ?_
  refine Rn.callV (pc := 83) (as := [_]) cvX6_131 ⟨by decide, rfl⟩ ⟨by decide, by decide⟩ dX6_instruction_83 (Nat.le_of_ble_eq_true rfl) rfl (k_sum G (h.a (i := i) (A := cI7 A)) t ht j hj) ?_
  rintro _ _ ⟨rfl, rfl⟩
  refine Rn.putI (pc := 86) (t := 0) flX6_97 rfl rfl dX6_instruction_86 ?_
  rw [show sI (wD (wA i (cI7 A) M) (cSm L n (mnCn j) (mnXn j) t).2) 8 i 5 (cSm L n (mnCn j) (mnXn j) t).1 = wD (wA i (uNo (cI7 A) (cSm L n (mnCn j) (mnXn j) t).1) M) (cSm L n (mnCn j) (mnXn j) t).2 by rw [wD_8, wA_No]]
  refine Rn.goto (pc := 89) (tgt := 317) dX6_instruction_89 (by decide) ?_
  refine Rn.vret (pc := 317) rfl dX6_instruction_317 ?_
  unfold cIns; rw [if_neg (by decide), if_pos rfl]; exact ⟨rfl, rfl⟩

set_option maxRecDepth 20000 in
set_option maxHeartbeats 4000000 in
theorem k_ins_9 (G : GX) {n : Nat} {L : Nat → Nat} {M : Mem} (h : TxOK n L M) (i : Nat) (A : CR) (t : KS) (ht : cOK n t) (j : Nat) (hj : j < 49) (hf : mnFn j = 9) : MetM G yX6_instruction iX6_instruction [vR 5 0, vR 51 j, vR 8 i] (wD (wA i A M) t) (fun r M' => r = none ∧ M' = wD (wA i (cIns L n (mnFn j) (mnCn j) (mnXn j) A t).1 M) (cIns L n (mnFn j) (mnCn j) (mnXn j) A t).2) := by
  refine MetM.of (ls := [some (vR 5 0), some (vR 51 j), some (vR 8 i)]) (by decide) rfl (Nat.le_of_ble_eq_true rfl) rfl ?_
  intro hM0
  have hq2 := h.2.2.1
  have ht1 := ht.1
  have ht2 := ht.2
  obtain ⟨⟨hF1, hF2⟩, ⟨hC1, hC2⟩, hX1, hX2⟩ := mn_all j hj
  refine Rn.aload_n (pc := 0) dX6_instruction_0 rfl rfl ?_
  refine Rn.bipush (pc := 1) (v := nI 7) dX6_instruction_1 (by decide) ?_
  refine Rn.putI (pc := 3) (t := 0) flX6_91 rfl rfl dX6_instruction_3 ?_
  rw [show sI (wD (wA i A M) t) 8 i 3 (nI 7) = wD (wA i (uK A 7) M) t by rw [wD_8, wA_K]]
  refine Rn.aload_n (pc := 6) dX6_instruction_6 rfl rfl ?_
  refine Rn.iconst (pc := 7) (v := nI 2) dX6_instruction_7 (by decide) ?_
  refine Rn.putI (pc := 8) (t := 0) flX6_103 rfl rfl dX6_instruction_8 ?_
  rw [show sI (wD (wA i (uK A 7) M) t) 8 i 6 (nI 2) = wD (wA i (uBy (uK A 7) (nI 2)) M) t by rw [wD_8, wA_By]]
  rw [show uBy (uK A 7) (nI 2) = cI7 A from rfl]
  refine Rn.aload_n (pc := 11) dX6_instruction_11 rfl rfl ?_
  refine Rn.get_form (pc := 12) wfX6_50 dX6_instruction_12 ?_
  rw [hF1, hf]
  refine Rn.tableIn (pc := 15) (off := 77) (tgt := 92) dX6_instruction_15 (by decide) (by decide) rfl (by decide) ?_
  refine Rn.aload_n (pc := 92) dX6_instruction_92 rfl rfl ?_
  refine Rn.aload_n (pc := 93) dX6_instruction_93 rfl rfl ?_
  refine Rn.aload_n (pc := 94) dX6_instruction_94 rfl rfl ?_
  refine Rn.callV (pc := 95) (as := [_]) cvX6_134 ⟨by decide, rfl⟩ ⟨by decide, by decide⟩ dX6_instruction_95 (Nat.le_of_ble_eq_true rfl) rfl (k_shift G (h.a (i := i) (A := cI7 A)) t ht j hj) ?_
  rintro _ _ ⟨rfl, rfl⟩
  refine Rn.putI (pc := 98) (t := 0) flX6_97 rfl rfl dX6_instruction_98 ?_
  rw [show sI (wD (wA i (cI7 A) M) (cSh L n (mnCn j) (mnXn j) t).2) 8 i 5 (cSh L n (mnCn j) (mnXn j) t).1 = wD (wA i (uNo (cI7 A) (cSh L n (mnCn j) (mnXn j) t).1) M) (cSh L n (mnCn j) (mnXn j) t).2 by rw [wD_8, wA_No]]
  refine Rn.goto (pc := 101) (tgt := 317) dX6_instruction_101 (by decide) ?_
  refine Rn.vret (pc := 317) rfl dX6_instruction_317 ?_
  unfold cIns; rw [if_neg (by decide), if_neg (by decide), if_pos rfl]; exact ⟨rfl, rfl⟩

set_option maxRecDepth 20000 in
set_option maxHeartbeats 4000000 in
theorem k_ins_10 (G : GX) {n : Nat} {L : Nat → Nat} {M : Mem} (h : TxOK n L M) (i : Nat) (A : CR) (t : KS) (ht : cOK n t) (j : Nat) (hj : j < 49) (hf : mnFn j = 10) : MetM G yX6_instruction iX6_instruction [vR 5 0, vR 51 j, vR 8 i] (wD (wA i A M) t) (fun r M' => r = none ∧ M' = wD (wA i (cIns L n (mnFn j) (mnCn j) (mnXn j) A t).1 M) (cIns L n (mnFn j) (mnCn j) (mnXn j) A t).2) := by
  refine MetM.of (ls := [some (vR 5 0), some (vR 51 j), some (vR 8 i)]) (by decide) rfl (Nat.le_of_ble_eq_true rfl) rfl ?_
  intro hM0
  have hq2 := h.2.2.1
  have ht1 := ht.1
  have ht2 := ht.2
  obtain ⟨⟨hF1, hF2⟩, ⟨hC1, hC2⟩, hX1, hX2⟩ := mn_all j hj
  refine Rn.aload_n (pc := 0) dX6_instruction_0 rfl rfl ?_
  refine Rn.bipush (pc := 1) (v := nI 7) dX6_instruction_1 (by decide) ?_
  refine Rn.putI (pc := 3) (t := 0) flX6_91 rfl rfl dX6_instruction_3 ?_
  rw [show sI (wD (wA i A M) t) 8 i 3 (nI 7) = wD (wA i (uK A 7) M) t by rw [wD_8, wA_K]]
  refine Rn.aload_n (pc := 6) dX6_instruction_6 rfl rfl ?_
  refine Rn.iconst (pc := 7) (v := nI 2) dX6_instruction_7 (by decide) ?_
  refine Rn.putI (pc := 8) (t := 0) flX6_103 rfl rfl dX6_instruction_8 ?_
  rw [show sI (wD (wA i (uK A 7) M) t) 8 i 6 (nI 2) = wD (wA i (uBy (uK A 7) (nI 2)) M) t by rw [wD_8, wA_By]]
  rw [show uBy (uK A 7) (nI 2) = cI7 A from rfl]
  refine Rn.aload_n (pc := 11) dX6_instruction_11 rfl rfl ?_
  refine Rn.get_form (pc := 12) wfX6_50 dX6_instruction_12 ?_
  rw [hF1, hf]
  refine Rn.tableIn (pc := 15) (off := 89) (tgt := 104) dX6_instruction_15 (by decide) (by decide) rfl (by decide) ?_
  refine Rn.aload_n (pc := 104) dX6_instruction_104 rfl rfl ?_
  refine Rn.aload_n (pc := 105) dX6_instruction_105 rfl rfl ?_
  refine Rn.aload_n (pc := 106) dX6_instruction_106 rfl rfl ?_
  refine Rn.callV (pc := 107) (as := [_]) cvX6_137 ⟨by decide, rfl⟩ ⟨by decide, by decide⟩ dX6_instruction_107 (Nat.le_of_ble_eq_true rfl) rfl (k_pair G (h.a (i := i) (A := cI7 A)) t ht j hj) ?_
  rintro _ _ ⟨rfl, rfl⟩
  refine Rn.putI (pc := 110) (t := 0) flX6_97 rfl rfl dX6_instruction_110 ?_
  rw [show sI (wD (wA i (cI7 A) M) (cPr L n (mnCn j) t).2) 8 i 5 (cPr L n (mnCn j) t).1 = wD (wA i (uNo (cI7 A) (cPr L n (mnCn j) t).1) M) (cPr L n (mnCn j) t).2 by rw [wD_8, wA_No]]
  refine Rn.goto (pc := 113) (tgt := 317) dX6_instruction_113 (by decide) ?_
  refine Rn.vret (pc := 317) rfl dX6_instruction_317 ?_
  unfold cIns; rw [if_neg (by decide), if_neg (by decide), if_neg (by decide), if_pos rfl]; exact ⟨rfl, rfl⟩

set_option maxRecDepth 20000 in
set_option maxHeartbeats 4000000 in
theorem k_ins_11 (G : GX) {n : Nat} {L : Nat → Nat} {M : Mem} (h : TxOK n L M) (i : Nat) (A : CR) (t : KS) (ht : cOK n t) (j : Nat) (hj : j < 49) (hf : mnFn j = 11) : MetM G yX6_instruction iX6_instruction [vR 5 0, vR 51 j, vR 8 i] (wD (wA i A M) t) (fun r M' => r = none ∧ M' = wD (wA i (cIns L n (mnFn j) (mnCn j) (mnXn j) A t).1 M) (cIns L n (mnFn j) (mnCn j) (mnXn j) A t).2) := by
  refine MetM.of (ls := [some (vR 5 0), some (vR 51 j), some (vR 8 i)]) (by decide) rfl (Nat.le_of_ble_eq_true rfl) rfl ?_
  intro hM0
  have hq2 := h.2.2.1
  have ht1 := ht.1
  have ht2 := ht.2
  obtain ⟨⟨hF1, hF2⟩, ⟨hC1, hC2⟩, hX1, hX2⟩ := mn_all j hj
  refine Rn.aload_n (pc := 0) dX6_instruction_0 rfl rfl ?_
  refine Rn.bipush (pc := 1) (v := nI 7) dX6_instruction_1 (by decide) ?_
  refine Rn.putI (pc := 3) (t := 0) flX6_91 rfl rfl dX6_instruction_3 ?_
  rw [show sI (wD (wA i A M) t) 8 i 3 (nI 7) = wD (wA i (uK A 7) M) t by rw [wD_8, wA_K]]
  refine Rn.aload_n (pc := 6) dX6_instruction_6 rfl rfl ?_
  refine Rn.iconst (pc := 7) (v := nI 2) dX6_instruction_7 (by decide) ?_
  refine Rn.putI (pc := 8) (t := 0) flX6_103 rfl rfl dX6_instruction_8 ?_
  rw [show sI (wD (wA i (uK A 7) M) t) 8 i 6 (nI 2) = wD (wA i (uBy (uK A 7) (nI 2)) M) t by rw [wD_8, wA_By]]
  rw [show uBy (uK A 7) (nI 2) = cI7 A from rfl]
  refine Rn.aload_n (pc := 11) dX6_instruction_11 rfl rfl ?_
  refine Rn.get_form (pc := 12) wfX6_50 dX6_instruction_12 ?_
  rw [hF1, hf]
  refine Rn.tableIn (pc := 15) (off := 101) (tgt := 116) dX6_instruction_15 (by decide) (by decide) rfl (by decide) ?_
  refine Rn.aload_n (pc := 116) dX6_instruction_116 rfl rfl ?_
  refine Rn.aload_n (pc := 117) dX6_instruction_117 rfl rfl ?_
  refine Rn.callV (pc := 118) (as := []) cvX6_140 ⟨by decide, rfl⟩ ⟨by decide, by decide⟩ dX6_instruction_118 (Nat.le_of_ble_eq_true rfl) rfl (k_firstRegister G (h.a (i := i) (A := cI7 A)) t ht) ?_
  rintro _ _ ⟨rfl, rfl⟩
  refine Rn.putI (pc := 121) (t := 0) flX6_97 rfl rfl dX6_instruction_121 ?_
  rw [show sI (wD (wA i (cI7 A) M) (cFR L n t).2) 8 i 5 (nI (cFR L n t).1) = wD (wA i (uNo (cI7 A) (nI (cFR L n t).1)) M) (cFR L n t).2 by rw [wD_8, wA_No]]
  refine Rn.aload_n (pc := 124) dX6_instruction_124 rfl rfl ?_
  refine Rn.getR (pc := 125) flX6_12 mu5_0 fx5_0 dX6_instruction_125 ?_
  refine Rn.bipush (pc := 128) (v := nI 91) dX6_instruction_128 (by decide) ?_
  refine Rn.callV (pc := 130) (as := [_]) cvX6_143 ⟨by decide, rfl⟩ ⟨by decide, by decide⟩ dX6_instruction_130 (Nat.le_of_ble_eq_true rfl) rfl (k_seesD G (h.a (i := i) (A := (uNo (cI7 A) (nI (cFR L n t).1)))) (cFR L n t).2 (cFR_ok ht) 91 (by decide)) ?_
  rintro _ _ ⟨rfl, rfl⟩
  refine Rn.if_eqB (pc := 133) (tgt := 158) dX6_instruction_133 (by decide) (fun c133 => ?_) (fun c133 => ?_)
  · refine Rn.aload_n (pc := 158) dX6_instruction_158 rfl rfl ?_
    refine Rn.aload_n (pc := 159) dX6_instruction_159 rfl rfl ?_
    refine Rn.get_extra (pc := 160) wfX6_150 dX6_instruction_160 ?_
    rw [hX1]
    refine Rn.sipush (pc := 163) (v := nI 256) dX6_instruction_163 (by decide) ?_
    refine Rn.aload_n (pc := 166) dX6_instruction_166 rfl rfl ?_
    refine Rn.getI (pc := 167) (t := 0) flX6_97 (show mI (wD (wA i (uNo (cI7 A) (nI (cFR L n t).1)) M) (cFR L n t).2) 8 i 5 = nI (cFR L n t).1 from wA_5) dX6_instruction_167 ?_
    refine Rn.imulN (pc := 170) dX6_instruction_170 ?_
    refine Rn.iaddN (pc := 171) dX6_instruction_171 ?_
    refine Rn.putI (pc := 172) (t := 0) flX6_97 rfl rfl dX6_instruction_172 ?_
    rw [show sI (wD (wA i (uNo (cI7 A) (nI (cFR L n t).1)) M) (cFR L n t).2) 8 i 5 (nI ((mnXn j) + 256 * (cFR L n t).1)) = wD (wA i (uNo (uNo (cI7 A) (nI (cFR L n t).1)) (nI ((mnXn j) + 256 * (cFR L n t).1))) M) (cFR L n t).2 by rw [wD_8, wA_No]]
    rw [show uNo (uNo (cI7 A) (nI (cFR L n t).1)) (nI ((mnXn j) + 256 * (cFR L n t).1)) = uNo (cI7 A) (nI ((mnXn j) + 256 * (cFR L n t).1)) from rfl]
    refine Rn.aload_n (pc := 175) dX6_instruction_175 rfl rfl ?_
    refine Rn.iconst (pc := 176) (v := nI 4) dX6_instruction_176 (by decide) ?_
    refine Rn.putI (pc := 177) (t := 0) flX6_153 rfl rfl dX6_instruction_177 ?_
    rw [show sI (wD (wA i (uNo (cI7 A) (nI ((mnXn j) + 256 * (cFR L n t).1))) M) (cFR L n t).2) 8 i 4 (nI 4) = wD (wA i (uRe (uNo (cI7 A) (nI ((mnXn j) + 256 * (cFR L n t).1))) 4) M) (cFR L n t).2 by rw [wD_8, wA_Re]]
    refine Rn.aload_n (pc := 180) dX6_instruction_180 rfl rfl ?_
    refine Rn.aload_n (pc := 181) dX6_instruction_181 rfl rfl ?_
    refine Rn.callV (pc := 182) (as := [_]) cvX6_100 ⟨by decide, rfl⟩ ⟨by decide, by decide⟩ dX6_instruction_182 (Nat.le_of_ble_eq_true rfl) rfl (k_reference G h i (uRe (uNo (cI7 A) (nI ((mnXn j) + 256 * (cFR L n t).1))) 4) (cFR L n t).2 (cFR_ok ht)) ?_
    rintro _ _ ⟨rfl, rfl⟩
    refine Rn.goto (pc := 185) (tgt := 317) dX6_instruction_185 (by decide) ?_
    refine Rn.vret (pc := 317) rfl dX6_instruction_317 ?_
    have c9 : cSee L n 91 (cFR L n t).2 = false := c133
    unfold cIns; rw [if_neg (by decide), if_neg (by decide), if_neg (by decide), if_neg (by decide), if_pos rfl, cLd, if_neg (by rw [c9]; decide)]; exact ⟨rfl, rfl⟩
  · refine Rn.aload_n (pc := 136) dX6_instruction_136 rfl rfl ?_
    refine Rn.dupR (pc := 137) (x := 0) (y := 0) dX6_instruction_137 ?_
    refine Rn.getI (pc := 138) (t := 0) flX6_97 (show mI (wD (wA i (uNo (cI7 A) (nI (cFR L n t).1)) M) (cFR L n t).2) 8 i 5 = nI (cFR L n t).1 from wA_5) dX6_instruction_138 ?_
    refine Rn.aload_n (pc := 141) dX6_instruction_141 rfl rfl ?_
    refine Rn.get_code (pc := 142) wfX6_94 dX6_instruction_142 ?_
    rw [hC1]
    refine Rn.aload_n (pc := 145) dX6_instruction_145 rfl rfl ?_
    refine Rn.iconst (pc := 146) (v := nI 2) dX6_instruction_146 (by decide) ?_
    refine Rn.callV (pc := 147) (as := [_]) cvX6_146 ⟨by decide, rfl⟩ ⟨by decide, by decide⟩ dX6_instruction_147 (Nat.le_of_ble_eq_true rfl) rfl (k_memory G (h.a (i := i) (A := (uNo (cI7 A) (nI (cFR L n t).1)))) (cFR L n t).2 (cFR_ok ht) 2) ?_
    rintro _ _ ⟨rfl, rfl⟩
    refine Rn.iadd (pc := 150) dX6_instruction_150 ?_
    refine Rn.iadd (pc := 151) dX6_instruction_151 ?_
    refine Rn.putI (pc := 152) (t := 0) flX6_97 rfl rfl dX6_instruction_152 ?_
    rw [show sI (wD (wA i (uNo (cI7 A) (nI (cFR L n t).1)) M) (cMe L n 2 (cFR L n t).2).2) 8 i 5 (nI (cFR L n t).1 + (nI (mnCn j) + (cMe L n 2 (cFR L n t).2).1)) = wD (wA i (uNo (uNo (cI7 A) (nI (cFR L n t).1)) (nI (cFR L n t).1 + (nI (mnCn j) + (cMe L n 2 (cFR L n t).2).1))) M) (cMe L n 2 (cFR L n t).2).2 by rw [wD_8, wA_No]]
    rw [show uNo (uNo (cI7 A) (nI (cFR L n t).1)) (nI (cFR L n t).1 + (nI (mnCn j) + (cMe L n 2 (cFR L n t).2).1)) = uNo (cI7 A) (nI (cFR L n t).1 + (nI (mnCn j) + (cMe L n 2 (cFR L n t).2).1)) from rfl]
    refine Rn.goto (pc := 155) (tgt := 317) dX6_instruction_155 (by decide) ?_
    refine Rn.vret (pc := 317) rfl dX6_instruction_317 ?_
    have c9 : cSee L n 91 (cFR L n t).2 = true := c133
    unfold cIns; rw [if_neg (by decide), if_neg (by decide), if_neg (by decide), if_neg (by decide), if_pos rfl, cLd, if_pos c9]; exact ⟨rfl, rfl⟩

set_option maxRecDepth 20000 in
set_option maxHeartbeats 4000000 in
theorem k_ins_12 (G : GX) {n : Nat} {L : Nat → Nat} {M : Mem} (h : TxOK n L M) (i : Nat) (A : CR) (t : KS) (ht : cOK n t) (j : Nat) (hj : j < 49) (hf : mnFn j = 12) : MetM G yX6_instruction iX6_instruction [vR 5 0, vR 51 j, vR 8 i] (wD (wA i A M) t) (fun r M' => r = none ∧ M' = wD (wA i (cIns L n (mnFn j) (mnCn j) (mnXn j) A t).1 M) (cIns L n (mnFn j) (mnCn j) (mnXn j) A t).2) := by
  refine MetM.of (ls := [some (vR 5 0), some (vR 51 j), some (vR 8 i)]) (by decide) rfl (Nat.le_of_ble_eq_true rfl) rfl ?_
  intro hM0
  have hq2 := h.2.2.1
  have ht1 := ht.1
  have ht2 := ht.2
  obtain ⟨⟨hF1, hF2⟩, ⟨hC1, hC2⟩, hX1, hX2⟩ := mn_all j hj
  refine Rn.aload_n (pc := 0) dX6_instruction_0 rfl rfl ?_
  refine Rn.bipush (pc := 1) (v := nI 7) dX6_instruction_1 (by decide) ?_
  refine Rn.putI (pc := 3) (t := 0) flX6_91 rfl rfl dX6_instruction_3 ?_
  rw [show sI (wD (wA i A M) t) 8 i 3 (nI 7) = wD (wA i (uK A 7) M) t by rw [wD_8, wA_K]]
  refine Rn.aload_n (pc := 6) dX6_instruction_6 rfl rfl ?_
  refine Rn.iconst (pc := 7) (v := nI 2) dX6_instruction_7 (by decide) ?_
  refine Rn.putI (pc := 8) (t := 0) flX6_103 rfl rfl dX6_instruction_8 ?_
  rw [show sI (wD (wA i (uK A 7) M) t) 8 i 6 (nI 2) = wD (wA i (uBy (uK A 7) (nI 2)) M) t by rw [wD_8, wA_By]]
  rw [show uBy (uK A 7) (nI 2) = cI7 A from rfl]
  refine Rn.aload_n (pc := 11) dX6_instruction_11 rfl rfl ?_
  refine Rn.get_form (pc := 12) wfX6_50 dX6_instruction_12 ?_
  rw [hF1, hf]
  refine Rn.tableIn (pc := 15) (off := 173) (tgt := 188) dX6_instruction_15 (by decide) (by decide) rfl (by decide) ?_
  refine Rn.aload_n (pc := 188) dX6_instruction_188 rfl rfl ?_
  refine Rn.aload_n (pc := 189) dX6_instruction_189 rfl rfl ?_
  refine Rn.get_code (pc := 190) wfX6_94 dX6_instruction_190 ?_
  rw [hC1]
  refine Rn.aload_n (pc := 193) dX6_instruction_193 rfl rfl ?_
  refine Rn.callV (pc := 194) (as := []) cvX6_140 ⟨by decide, rfl⟩ ⟨by decide, by decide⟩ dX6_instruction_194 (Nat.le_of_ble_eq_true rfl) rfl (k_firstRegister G (h.a (i := i) (A := cI7 A)) t ht) ?_
  rintro _ _ ⟨rfl, rfl⟩
  refine Rn.iaddN (pc := 197) dX6_instruction_197 ?_
  refine Rn.aload_n (pc := 198) dX6_instruction_198 rfl rfl ?_
  refine Rn.aload_n (pc := 199) dX6_instruction_199 rfl rfl ?_
  refine Rn.get_extra (pc := 200) wfX6_150 dX6_instruction_200 ?_
  rw [hX1]
  refine Rn.callV (pc := 203) (as := [_]) cvX6_146 ⟨by decide, rfl⟩ ⟨by decide, by decide⟩ dX6_instruction_203 (Nat.le_of_ble_eq_true rfl) rfl (k_memory G (h.a (i := i) (A := cI7 A)) (cFR L n t).2 (cFR_ok ht) (mnXn j)) ?_
  rintro _ _ ⟨rfl, rfl⟩
  refine Rn.iadd (pc := 206) dX6_instruction_206 ?_
  refine Rn.putI (pc := 207) (t := 0) flX6_97 rfl rfl dX6_instruction_207 ?_
  rw [show sI (wD (wA i (cI7 A) M) (cMe L n (mnXn j) (cFR L n t).2).2) 8 i 5 (nI ((mnCn j) + (cFR L n t).1) + (cMe L n (mnXn j) (cFR L n t).2).1) = wD (wA i (uNo (cI7 A) (nI ((mnCn j) + (cFR L n t).1) + (cMe L n (mnXn j) (cFR L n t).2).1)) M) (cMe L n (mnXn j) (cFR L n t).2).2 by rw [wD_8, wA_No]]
  refine Rn.goto (pc := 210) (tgt := 317) dX6_instruction_210 (by decide) ?_
  refine Rn.vret (pc := 317) rfl dX6_instruction_317 ?_
  unfold cIns; rw [if_neg (by decide), if_neg (by decide), if_neg (by decide), if_neg (by decide), if_neg (by decide), if_pos rfl]; exact ⟨rfl, rfl⟩

set_option maxRecDepth 20000 in
set_option maxHeartbeats 4000000 in
theorem k_ins_13 (G : GX) {n : Nat} {L : Nat → Nat} {M : Mem} (h : TxOK n L M) (i : Nat) (A : CR) (t : KS) (ht : cOK n t) (j : Nat) (hj : j < 49) (hf : mnFn j = 13) : MetM G yX6_instruction iX6_instruction [vR 5 0, vR 51 j, vR 8 i] (wD (wA i A M) t) (fun r M' => r = none ∧ M' = wD (wA i (cIns L n (mnFn j) (mnCn j) (mnXn j) A t).1 M) (cIns L n (mnFn j) (mnCn j) (mnXn j) A t).2) := by
  refine MetM.of (ls := [some (vR 5 0), some (vR 51 j), some (vR 8 i)]) (by decide) rfl (Nat.le_of_ble_eq_true rfl) rfl ?_
  intro hM0
  have hq2 := h.2.2.1
  have ht1 := ht.1
  have ht2 := ht.2
  obtain ⟨⟨hF1, hF2⟩, ⟨hC1, hC2⟩, hX1, hX2⟩ := mn_all j hj
  refine Rn.aload_n (pc := 0) dX6_instruction_0 rfl rfl ?_
  refine Rn.bipush (pc := 1) (v := nI 7) dX6_instruction_1 (by decide) ?_
  refine Rn.putI (pc := 3) (t := 0) flX6_91 rfl rfl dX6_instruction_3 ?_
  rw [show sI (wD (wA i A M) t) 8 i 3 (nI 7) = wD (wA i (uK A 7) M) t by rw [wD_8, wA_K]]
  refine Rn.aload_n (pc := 6) dX6_instruction_6 rfl rfl ?_
  refine Rn.iconst (pc := 7) (v := nI 2) dX6_instruction_7 (by decide) ?_
  refine Rn.putI (pc := 8) (t := 0) flX6_103 rfl rfl dX6_instruction_8 ?_
  rw [show sI (wD (wA i (uK A 7) M) t) 8 i 6 (nI 2) = wD (wA i (uBy (uK A 7) (nI 2)) M) t by rw [wD_8, wA_By]]
  rw [show uBy (uK A 7) (nI 2) = cI7 A from rfl]
  refine Rn.aload_n (pc := 11) dX6_instruction_11 rfl rfl ?_
  refine Rn.get_form (pc := 12) wfX6_50 dX6_instruction_12 ?_
  rw [hF1, hf]
  refine Rn.tableIn (pc := 15) (off := 198) (tgt := 213) dX6_instruction_15 (by decide) (by decide) rfl (by decide) ?_
  refine Rn.aload_n (pc := 213) dX6_instruction_213 rfl rfl ?_
  refine Rn.aload_n (pc := 214) dX6_instruction_214 rfl rfl ?_
  refine Rn.get_code (pc := 215) wfX6_94 dX6_instruction_215 ?_
  rw [hC1]
  refine Rn.aload_n (pc := 218) dX6_instruction_218 rfl rfl ?_
  refine Rn.ldcS (pc := 219) (j := 49) (tx := "lr") dX6_instruction_219 (by decide) (by decide) ?_
  refine Rn.callV (pc := 221) (as := [_]) cvX6_158 ⟨by decide, rfl⟩ ⟨by decide, by decide⟩ dX6_instruction_221 (Nat.le_of_ble_eq_true rfl) rfl (k_list G (h.a (i := i) (A := cI7 A)) t ht 49 (by decide)) ?_
  rintro _ _ ⟨rfl, rfl⟩
  refine Rn.iadd (pc := 224) dX6_instruction_224 ?_
  refine Rn.putI (pc := 225) (t := 0) flX6_97 rfl rfl dX6_instruction_225 ?_
  rw [show sI (wD (wA i (cI7 A) M) (cLs L n 49 t).2) 8 i 5 (nI (mnCn j) + (cLs L n 49 t).1) = wD (wA i (uNo (cI7 A) (nI (mnCn j) + (cLs L n 49 t).1)) M) (cLs L n 49 t).2 by rw [wD_8, wA_No]]
  refine Rn.goto (pc := 228) (tgt := 317) dX6_instruction_228 (by decide) ?_
  refine Rn.vret (pc := 317) rfl dX6_instruction_317 ?_
  unfold cIns; rw [if_neg (by decide), if_neg (by decide), if_neg (by decide), if_neg (by decide), if_neg (by decide), if_neg (by decide), if_pos rfl]; exact ⟨rfl, rfl⟩

set_option maxRecDepth 20000 in
set_option maxHeartbeats 4000000 in
theorem k_ins_14 (G : GX) {n : Nat} {L : Nat → Nat} {M : Mem} (h : TxOK n L M) (i : Nat) (A : CR) (t : KS) (ht : cOK n t) (j : Nat) (hj : j < 49) (hf : mnFn j = 14) : MetM G yX6_instruction iX6_instruction [vR 5 0, vR 51 j, vR 8 i] (wD (wA i A M) t) (fun r M' => r = none ∧ M' = wD (wA i (cIns L n (mnFn j) (mnCn j) (mnXn j) A t).1 M) (cIns L n (mnFn j) (mnCn j) (mnXn j) A t).2) := by
  refine MetM.of (ls := [some (vR 5 0), some (vR 51 j), some (vR 8 i)]) (by decide) rfl (Nat.le_of_ble_eq_true rfl) rfl ?_
  intro hM0
  have hq2 := h.2.2.1
  have ht1 := ht.1
  have ht2 := ht.2
  obtain ⟨⟨hF1, hF2⟩, ⟨hC1, hC2⟩, hX1, hX2⟩ := mn_all j hj
  refine Rn.aload_n (pc := 0) dX6_instruction_0 rfl rfl ?_
  refine Rn.bipush (pc := 1) (v := nI 7) dX6_instruction_1 (by decide) ?_
  refine Rn.putI (pc := 3) (t := 0) flX6_91 rfl rfl dX6_instruction_3 ?_
  rw [show sI (wD (wA i A M) t) 8 i 3 (nI 7) = wD (wA i (uK A 7) M) t by rw [wD_8, wA_K]]
  refine Rn.aload_n (pc := 6) dX6_instruction_6 rfl rfl ?_
  refine Rn.iconst (pc := 7) (v := nI 2) dX6_instruction_7 (by decide) ?_
  refine Rn.putI (pc := 8) (t := 0) flX6_103 rfl rfl dX6_instruction_8 ?_
  rw [show sI (wD (wA i (uK A 7) M) t) 8 i 6 (nI 2) = wD (wA i (uBy (uK A 7) (nI 2)) M) t by rw [wD_8, wA_By]]
  rw [show uBy (uK A 7) (nI 2) = cI7 A from rfl]
  refine Rn.aload_n (pc := 11) dX6_instruction_11 rfl rfl ?_
  refine Rn.get_form (pc := 12) wfX6_50 dX6_instruction_12 ?_
  rw [hF1, hf]
  refine Rn.tableIn (pc := 15) (off := 216) (tgt := 231) dX6_instruction_15 (by decide) (by decide) rfl (by decide) ?_
  refine Rn.aload_n (pc := 231) dX6_instruction_231 rfl rfl ?_
  refine Rn.aload_n (pc := 232) dX6_instruction_232 rfl rfl ?_
  refine Rn.get_code (pc := 233) wfX6_94 dX6_instruction_233 ?_
  rw [hC1]
  refine Rn.aload_n (pc := 236) dX6_instruction_236 rfl rfl ?_
  refine Rn.ldcS (pc := 237) (j := 50) (tx := "pc") dX6_instruction_237 (by decide) (by decide) ?_
  refine Rn.callV (pc := 239) (as := [_]) cvX6_158 ⟨by decide, rfl⟩ ⟨by decide, by decide⟩ dX6_instruction_239 (Nat.le_of_ble_eq_true rfl) rfl (k_list G (h.a (i := i) (A := cI7 A)) t ht 50 (by decide)) ?_
  rintro _ _ ⟨rfl, rfl⟩
  refine Rn.iadd (pc := 242) dX6_instruction_242 ?_
  refine Rn.putI (pc := 243) (t := 0) flX6_97 rfl rfl dX6_instruction_243 ?_
  rw [show sI (wD (wA i (cI7 A) M) (cLs L n 50 t).2) 8 i 5 (nI (mnCn j) + (cLs L n 50 t).1) = wD (wA i (uNo (cI7 A) (nI (mnCn j) + (cLs L n 50 t).1)) M) (cLs L n 50 t).2 by rw [wD_8, wA_No]]
  refine Rn.goto (pc := 246) (tgt := 317) dX6_instruction_246 (by decide) ?_
  refine Rn.vret (pc := 317) rfl dX6_instruction_317 ?_
  unfold cIns; rw [if_neg (by decide), if_neg (by decide), if_neg (by decide), if_neg (by decide), if_neg (by decide), if_neg (by decide), if_neg (by decide), if_pos rfl]; exact ⟨rfl, rfl⟩

set_option maxRecDepth 20000 in
set_option maxHeartbeats 4000000 in
theorem k_ins_15 (G : GX) {n : Nat} {L : Nat → Nat} {M : Mem} (h : TxOK n L M) (i : Nat) (A : CR) (t : KS) (ht : cOK n t) (j : Nat) (hj : j < 49) (hf : mnFn j = 15) : MetM G yX6_instruction iX6_instruction [vR 5 0, vR 51 j, vR 8 i] (wD (wA i A M) t) (fun r M' => r = none ∧ M' = wD (wA i (cIns L n (mnFn j) (mnCn j) (mnXn j) A t).1 M) (cIns L n (mnFn j) (mnCn j) (mnXn j) A t).2) := by
  refine MetM.of (ls := [some (vR 5 0), some (vR 51 j), some (vR 8 i)]) (by decide) rfl (Nat.le_of_ble_eq_true rfl) rfl ?_
  intro hM0
  have hq2 := h.2.2.1
  have ht1 := ht.1
  have ht2 := ht.2
  obtain ⟨⟨hF1, hF2⟩, ⟨hC1, hC2⟩, hX1, hX2⟩ := mn_all j hj
  refine Rn.aload_n (pc := 0) dX6_instruction_0 rfl rfl ?_
  refine Rn.bipush (pc := 1) (v := nI 7) dX6_instruction_1 (by decide) ?_
  refine Rn.putI (pc := 3) (t := 0) flX6_91 rfl rfl dX6_instruction_3 ?_
  rw [show sI (wD (wA i A M) t) 8 i 3 (nI 7) = wD (wA i (uK A 7) M) t by rw [wD_8, wA_K]]
  refine Rn.aload_n (pc := 6) dX6_instruction_6 rfl rfl ?_
  refine Rn.iconst (pc := 7) (v := nI 2) dX6_instruction_7 (by decide) ?_
  refine Rn.putI (pc := 8) (t := 0) flX6_103 rfl rfl dX6_instruction_8 ?_
  rw [show sI (wD (wA i (uK A 7) M) t) 8 i 6 (nI 2) = wD (wA i (uBy (uK A 7) (nI 2)) M) t by rw [wD_8, wA_By]]
  rw [show uBy (uK A 7) (nI 2) = cI7 A from rfl]
  refine Rn.aload_n (pc := 11) dX6_instruction_11 rfl rfl ?_
  refine Rn.get_form (pc := 12) wfX6_50 dX6_instruction_12 ?_
  rw [hF1, hf]
  refine Rn.tableIn (pc := 15) (off := 234) (tgt := 249) dX6_instruction_15 (by decide) (by decide) rfl (by decide) ?_
  refine Rn.aload_n (pc := 249) dX6_instruction_249 rfl rfl ?_
  refine Rn.aload_n (pc := 250) dX6_instruction_250 rfl rfl ?_
  refine Rn.get_code (pc := 251) wfX6_94 dX6_instruction_251 ?_
  rw [hC1]
  refine Rn.putI (pc := 254) (t := 0) flX6_97 rfl rfl dX6_instruction_254 ?_
  rw [show sI (wD (wA i (cI7 A) M) t) 8 i 5 (nI (mnCn j)) = wD (wA i (uNo (cI7 A) (nI (mnCn j))) M) t by rw [wD_8, wA_No]]
  refine Rn.aload_n (pc := 257) dX6_instruction_257 rfl rfl ?_
  refine Rn.aload_n (pc := 258) dX6_instruction_258 rfl rfl ?_
  refine Rn.get_extra (pc := 259) wfX6_150 dX6_instruction_259 ?_
  rw [hX1]
  refine Rn.putI (pc := 262) (t := 0) flX6_153 rfl rfl dX6_instruction_262 ?_
  rw [show sI (wD (wA i (uNo (cI7 A) (nI (mnCn j))) M) t) 8 i 4 (nI (mnXn j)) = wD (wA i (uRe (uNo (cI7 A) (nI (mnCn j))) (mnXn j)) M) t by rw [wD_8, wA_Re]]
  refine Rn.aload_n (pc := 265) dX6_instruction_265 rfl rfl ?_
  refine Rn.aload_n (pc := 266) dX6_instruction_266 rfl rfl ?_
  refine Rn.get_extra (pc := 267) wfX6_150 dX6_instruction_267 ?_
  rw [hX1]
  refine Rn.iconst (pc := 270) (v := nI 3) dX6_instruction_270 (by decide) ?_
  refine Rn.icmp_neN (pc := 271) (tgt := 278) dX6_instruction_271 (by decide) (by omega) (by omega) (fun c271 => ?_) (fun c271 => ?_)
  · refine Rn.iconst (pc := 278) (v := nI 2) dX6_instruction_278 (by decide) ?_
    refine Rn.putI (pc := 279) (t := 0) flX6_103 rfl rfl dX6_instruction_279 ?_
    rw [show sI (wD (wA i (uRe (uNo (cI7 A) (nI (mnCn j))) (mnXn j)) M) t) 8 i 6 (nI 2) = wD (wA i (uBy (uRe (uNo (cI7 A) (nI (mnCn j))) (mnXn j)) (nI 2)) M) t by rw [wD_8, wA_By]]
    refine Rn.aload_n (pc := 282) dX6_instruction_282 rfl rfl ?_
    refine Rn.aload_n (pc := 283) dX6_instruction_283 rfl rfl ?_
    refine Rn.callV (pc := 284) (as := [_]) cvX6_100 ⟨by decide, rfl⟩ ⟨by decide, by decide⟩ dX6_instruction_284 (Nat.le_of_ble_eq_true rfl) rfl (k_reference G h i (uBy (uRe (uNo (cI7 A) (nI (mnCn j))) (mnXn j)) (nI 2)) t ht) ?_
    rintro _ _ ⟨rfl, rfl⟩
    refine Rn.goto (pc := 287) (tgt := 317) dX6_instruction_287 (by decide) ?_
    refine Rn.vret (pc := 317) rfl dX6_instruction_317 ?_
    unfold cIns; rw [if_neg (by decide), if_neg (by decide), if_neg (by decide), if_neg (by decide), if_neg (by decide), if_neg (by decide), if_neg (by decide), if_neg (by decide), if_pos rfl, if_neg c271]; exact ⟨rfl, rfl⟩
  · refine Rn.iconst (pc := 274) (v := nI 4) dX6_instruction_274 (by decide) ?_
    refine Rn.goto (pc := 275) (tgt := 279) dX6_instruction_275 (by decide) ?_
    refine Rn.putI (pc := 279) (t := 0) flX6_103 rfl rfl dX6_instruction_279 ?_
    rw [show sI (wD (wA i (uRe (uNo (cI7 A) (nI (mnCn j))) (mnXn j)) M) t) 8 i 6 (nI 4) = wD (wA i (uBy (uRe (uNo (cI7 A) (nI (mnCn j))) (mnXn j)) (nI 4)) M) t by rw [wD_8, wA_By]]
    refine Rn.aload_n (pc := 282) dX6_instruction_282 rfl rfl ?_
    refine Rn.aload_n (pc := 283) dX6_instruction_283 rfl rfl ?_
    refine Rn.callV (pc := 284) (as := [_]) cvX6_100 ⟨by decide, rfl⟩ ⟨by decide, by decide⟩ dX6_instruction_284 (Nat.le_of_ble_eq_true rfl) rfl (k_reference G h i (uBy (uRe (uNo (cI7 A) (nI (mnCn j))) (mnXn j)) (nI 4)) t ht) ?_
    rintro _ _ ⟨rfl, rfl⟩
    refine Rn.goto (pc := 287) (tgt := 317) dX6_instruction_287 (by decide) ?_
    refine Rn.vret (pc := 317) rfl dX6_instruction_317 ?_
    unfold cIns; rw [if_neg (by decide), if_neg (by decide), if_neg (by decide), if_neg (by decide), if_neg (by decide), if_neg (by decide), if_neg (by decide), if_neg (by decide), if_pos rfl, if_pos c271]; exact ⟨rfl, rfl⟩

set_option maxRecDepth 20000 in
set_option maxHeartbeats 4000000 in
theorem k_ins_16 (G : GX) {n : Nat} {L : Nat → Nat} {M : Mem} (h : TxOK n L M) (i : Nat) (A : CR) (t : KS) (ht : cOK n t) (j : Nat) (hj : j < 49) (hf : mnFn j = 16) : MetM G yX6_instruction iX6_instruction [vR 5 0, vR 51 j, vR 8 i] (wD (wA i A M) t) (fun r M' => r = none ∧ M' = wD (wA i (cIns L n (mnFn j) (mnCn j) (mnXn j) A t).1 M) (cIns L n (mnFn j) (mnCn j) (mnXn j) A t).2) := by
  refine MetM.of (ls := [some (vR 5 0), some (vR 51 j), some (vR 8 i)]) (by decide) rfl (Nat.le_of_ble_eq_true rfl) rfl ?_
  intro hM0
  have hq2 := h.2.2.1
  have ht1 := ht.1
  have ht2 := ht.2
  obtain ⟨⟨hF1, hF2⟩, ⟨hC1, hC2⟩, hX1, hX2⟩ := mn_all j hj
  refine Rn.aload_n (pc := 0) dX6_instruction_0 rfl rfl ?_
  refine Rn.bipush (pc := 1) (v := nI 7) dX6_instruction_1 (by decide) ?_
  refine Rn.putI (pc := 3) (t := 0) flX6_91 rfl rfl dX6_instruction_3 ?_
  rw [show sI (wD (wA i A M) t) 8 i 3 (nI 7) = wD (wA i (uK A 7) M) t by rw [wD_8, wA_K]]
  refine Rn.aload_n (pc := 6) dX6_instruction_6 rfl rfl ?_
  refine Rn.iconst (pc := 7) (v := nI 2) dX6_instruction_7 (by decide) ?_
  refine Rn.putI (pc := 8) (t := 0) flX6_103 rfl rfl dX6_instruction_8 ?_
  rw [show sI (wD (wA i (uK A 7) M) t) 8 i 6 (nI 2) = wD (wA i (uBy (uK A 7) (nI 2)) M) t by rw [wD_8, wA_By]]
  rw [show uBy (uK A 7) (nI 2) = cI7 A from rfl]
  refine Rn.aload_n (pc := 11) dX6_instruction_11 rfl rfl ?_
  refine Rn.get_form (pc := 12) wfX6_50 dX6_instruction_12 ?_
  rw [hF1, hf]
  refine Rn.tableIn (pc := 15) (off := 275) (tgt := 290) dX6_instruction_15 (by decide) (by decide) rfl (by decide) ?_
  refine Rn.aload_n (pc := 290) dX6_instruction_290 rfl rfl ?_
  refine Rn.aload_n (pc := 291) dX6_instruction_291 rfl rfl ?_
  refine Rn.get_code (pc := 292) wfX6_94 dX6_instruction_292 ?_
  rw [hC1]
  refine Rn.bipush (pc := 295) (v := nI 8) dX6_instruction_295 (by decide) ?_
  refine Rn.aload_n (pc := 297) dX6_instruction_297 rfl rfl ?_
  refine Rn.callV (pc := 298) (as := []) cvX6_164 ⟨by decide, rfl⟩ ⟨by decide, by decide⟩ dX6_instruction_298 (Nat.le_of_ble_eq_true rfl) rfl (k_exchanged G (h.a (i := i) (A := cI7 A)) t ht) ?_
  rintro _ _ ⟨rfl, rfl⟩
  refine Rn.imulN (pc := 301) dX6_instruction_301 ?_
  refine Rn.iaddN (pc := 302) dX6_instruction_302 ?_
  refine Rn.putI (pc := 303) (t := 0) flX6_97 rfl rfl dX6_instruction_303 ?_
  rw [show sI (wD (wA i (cI7 A) M) (cXc L n t).2) 8 i 5 (nI ((mnCn j) + 8 * (cXc L n t).1)) = wD (wA i (uNo (cI7 A) (nI ((mnCn j) + 8 * (cXc L n t).1))) M) (cXc L n t).2 by rw [wD_8, wA_No]]
  refine Rn.goto (pc := 306) (tgt := 317) dX6_instruction_306 (by decide) ?_
  refine Rn.vret (pc := 317) rfl dX6_instruction_317 ?_
  unfold cIns; rw [if_neg (by decide), if_neg (by decide), if_neg (by decide), if_neg (by decide), if_neg (by decide), if_neg (by decide), if_neg (by decide), if_neg (by decide), if_neg (by decide), if_pos rfl]; exact ⟨rfl, rfl⟩

theorem k_directive (G : GX) {n : Nat} {L : Nat → Nat} {M : Mem} (h : TxOK n L M) (i : Nat) (A : CR) (t : KS) (ht : cOK n t) (j : Nat) (hj : j < 49) (hf : mnFn j < 6) : MetM G yX6_directive iX6_directive [vR 5 0, vR 51 j, vR 8 i] (wD (wA i A M) t) (fun r M' => r = none ∧ M' = wD (wA i (cDir L n (mnFn j) (mnCn j) A t).1 M) (cDir L n (mnFn j) (mnCn j) A t).2) := by
  rcases (show mnFn j = 0 ∨ mnFn j = 1 ∨ mnFn j = 2 ∨ mnFn j = 3 ∨ mnFn j = 4 ∨ mnFn j = 5 by omega) with e | e | e | e | e | e
  · exact k_dir_0 G h i A t ht j hj e
  · exact k_dir_1 G h i A t ht j hj e
  · exact k_dir_2 G h i A t ht j hj e
  · exact k_dir_3 G h i A t ht j hj e
  · exact k_dir_4 G h i A t ht j hj e
  · exact k_dir_5 G h i A t ht j hj e
theorem k_instruction (G : GX) {n : Nat} {L : Nat → Nat} {M : Mem} (h : TxOK n L M) (i : Nat) (A : CR) (t : KS) (ht : cOK n t) (j : Nat) (hj : j < 49) (hf : ¬ mnFn j < 6) : MetM G yX6_instruction iX6_instruction [vR 5 0, vR 51 j, vR 8 i] (wD (wA i A M) t) (fun r M' => r = none ∧ M' = wD (wA i (cIns L n (mnFn j) (mnCn j) (mnXn j) A t).1 M) (cIns L n (mnFn j) (mnCn j) (mnXn j) A t).2) := by
  have h16 := (mn_all j hj).1.2
  rcases (show mnFn j = 6 ∨ mnFn j = 7 ∨ mnFn j = 8 ∨ mnFn j = 9 ∨ mnFn j = 10 ∨ mnFn j = 11 ∨ mnFn j = 12 ∨ mnFn j = 13 ∨ mnFn j = 14 ∨ mnFn j = 15 ∨ mnFn j = 16 by omega) with e | e | e | e | e | e | e | e | e | e | e
  · exact k_ins_6 G h i A t ht j hj e
  · exact k_ins_7 G h i A t ht j hj e
  · exact k_ins_8 G h i A t ht j hj e
  · exact k_ins_9 G h i A t ht j hj e
  · exact k_ins_10 G h i A t ht j hj e
  · exact k_ins_11 G h i A t ht j hj e
  · exact k_ins_12 G h i A t ht j hj e
  · exact k_ins_13 G h i A t ht j hj e
  · exact k_ins_14 G h i A t ht j hj e
  · exact k_ins_15 G h i A t ht j hj e
  · exact k_ins_16 G h i A t ht j hj e
theorem k_atEndD (G : GX) {n : Nat} {L : Nat → Nat} {M : Mem} (h : TxOK n L M) (t : KS) (ht : cOK n t) : MetM G yX7_atEnd iX7_atEnd [vR 6 0] (wD M t) (fun r M' => r = some (vI (bI (decide (n ≤ t.1)))) ∧ M' = wD M t) := k_atEnd G h t.1 t.2.1 t.2.2.1 t.2.2.2 (Nat.le_trans ht.1 ht.2)
theorem nI_any (x : Int32) : nI x.toBitVec.toNat = x := by
  rw [← Int32.toBitVec_inj]
  apply BitVec.eq_of_toNat_eq
  rw [pk_tn x.toBitVec.isLt]
set_option maxRecDepth 20000 in
set_option maxHeartbeats 4000000 in
theorem k_begin (G : GX) {n : Nat} {L : Nat → Nat} {M : Mem} (h : Tx0 n L M) : MetM G yX7_begin iX7_begin [vR 6 0, vR 9 0] M (fun r M' => r = none ∧ M' = wD (sR M 6 0 0 0) (cT0 L n)) := by
  refine MetM.of (ls := [some (vR 6 0), some (vR 9 0)]) (by decide) rfl (Nat.le_of_ble_eq_true rfl) rfl ?_
  intro hM0
  refine Rn.aload_n (pc := 0) dX7_begin_0 rfl rfl ?_
  refine Rn.aload_n (pc := 1) dX7_begin_1 rfl rfl ?_
  refine Rn.putR (pc := 2) rfl flX7_12 rfl rfl dX7_begin_2 ?_
  refine Rn.aload_n (pc := 5) dX7_begin_5 rfl rfl ?_
  refine Rn.iconst (pc := 6) (v := nI 0) dX7_begin_6 (by decide) ?_
  refine Rn.putI (pc := 7) (t := 0) flX7_18 rfl rfl dX7_begin_7 ?_
  refine Rn.aload_n (pc := 10) dX7_begin_10 rfl rfl ?_
  refine Rn.iconst (pc := 11) (v := nI 0) dX7_begin_11 (by decide) ?_
  refine Rn.putI (pc := 12) (t := 0) flX7_22 rfl rfl dX7_begin_12 ?_
  refine Rn.aload_n (pc := 15) dX7_begin_15 rfl rfl ?_
  refine Rn.iconst (pc := 16) (v := nI 0) dX7_begin_16 (by decide) ?_
  refine Rn.putI (pc := 17) (t := 0) flX7_25 rfl rfl dX7_begin_17 ?_
  rw [show sI (sI (sI (sR M 6 0 0 0) 6 0 1 (nI 0)) 6 0 3 (nI 0)) 6 0 4 (nI 0) = wC (sR M 6 0 0 0) (mI M 6 0 2).toBitVec.toNat 0 (nI 0) (nI 0) by
    unfold wC; rw [sI_self (M := sI (sR M 6 0 0 0) 6 0 1 (nI 0)) (v := nI (mI M 6 0 2).toBitVec.toNat) (by rw [nI_any]; rfl)]]
  refine Rn.aload_n (pc := 20) dX7_begin_20 rfl rfl ?_
  refine Rn.callV (pc := 21) (as := []) cvX7_28 ⟨by decide, rfl⟩ ⟨by decide, by decide⟩ dX7_begin_21 (Nat.le_of_ble_eq_true rfl) rfl (k_step G (n := n) (L := L) (M := sR M 6 0 0 0) ⟨rfl, h.1, h.2.1, h.2.2.1, h.2.2.2⟩ (mI M 6 0 2).toBitVec.toNat 0 (nI 0) (nI 0) (Nat.zero_le _)) ?_
  rintro _ _ ⟨rfl, rfl⟩
  refine Rn.vret (pc := 24) rfl dX7_begin_24 ?_
  exact ⟨rfl, rfl⟩

theorem mnS_le {L : Nat → Nat} {b e j : Nat} : ∀ (d k : Nat), mnS L b e d k = some j → k ≤ j ∧ j < k + d
  | 0, k, h => by cases h
  | d + 1, k, h => by
    rw [mnS] at h
    split at h
    · cases h; omega
    · have := mnS_le d (k + 1) h; omega
theorem mnS_lt {L : Nat → Nat} {b e j : Nat} (h : mnS L b e 49 0 = some j) : j < 49 := by have := mnS_le _ _ h; omega
set_option maxRecDepth 20000 in
set_option maxHeartbeats 4000000 in
theorem k_parse (G : GX) {n : Nat} {L : Nat → Nat} {M : Mem} (h : Tx0 n L M) (i : Nat) : MetM G yX6_parse iX6_parse [vR 5 0, vR 9 0, vR 8 i] M (fun r M' => r = none ∧ ∃ t : KS, M' = wD (wA i (cP L n) (sR M 6 0 0 0)) t) := by
  refine MetM.of (ls := [some (vR 5 0), some (vR 9 0), some (vR 8 i), none]) (by decide) rfl (Nat.le_of_ble_eq_true rfl) rfl ?_
  intro hM0
  have h1 : TxOK n L (sR M 6 0 0 0) := ⟨rfl, h.1, h.2.1, h.2.2.1, h.2.2.2⟩
  have ht0 : cOK n (cT0 L n) := ⟨tEnd_ge (skp_le (Nat.zero_le n)), tEnd_le (skp_le (Nat.zero_le n))⟩
  have hlb : cOK n (cLb L n A0 (cT0 L n)).2 := cLb_ok ht0
  have K107 : ∀ (q : CR × KS) (x3 : Option AV), cOK n q.2 → cB1 L n (cLb L n A0 (cT0 L n)).2 (cLb L n A0 (cT0 L n)).1 = q → Rn G iX6_parse (fun r M' => r = none ∧ ∃ t : KS, M' = wD (wA i (cP L n) (sR M 6 0 0 0)) t) 107 [some (vR 5 0), some (vR 9 0), some (vR 8 i), x3] [] (wD (wA i q.1 (sR M 6 0 0 0)) q.2) := by
    intro q x3 hq hqe
    refine Rn.aload_n (pc := 107) dX6_parse_107 rfl rfl ?_
    refine Rn.getR (pc := 108) flX6_12 mu5_0 fx5_0 dX6_parse_108 ?_
    refine Rn.callV (pc := 111) (as := []) cvX6_31 ⟨by decide, rfl⟩ ⟨by decide, by decide⟩ dX6_parse_111 (Nat.le_of_ble_eq_true rfl) rfl (k_atEndD G (h1.a (i := i) (A := q.1)) q.2 hq) ?_
    rintro _ _ ⟨rfl, rfl⟩
    refine Rn.if_neB (pc := 114) (tgt := 133) dX6_parse_114 (by decide) (fun c114 => ?_) (fun c114 => ?_)
    · refine Rn.aload_n (pc := 133) dX6_parse_133 rfl rfl ?_
      refine Rn.aload_n (pc := 134) dX6_parse_134 rfl rfl ?_
      refine Rn.getR (pc := 135) flX6_12 mu5_0 fx5_0 dX6_parse_135 ?_
      refine Rn.getI (pc := 138) (t := 0) flX6_65 (show mI (wD (wA i q.1 (sR M 6 0 0 0)) q.2) 6 0 3 = q.2.2.2.1 from rfl) dX6_parse_138 ?_
      refine Rn.putI (pc := 141) (t := 0) flX6_68 rfl rfl dX6_parse_141 ?_
      rw [show sI (wD (wA i q.1 (sR M 6 0 0 0)) q.2) 8 i 11 q.2.2.2.1 = wD (wA i (uFa q.1 q.2.2.2.1) (sR M 6 0 0 0)) q.2 by rw [wD_8, wA_Fa]]
      refine Rn.aload_n (pc := 144) dX6_parse_144 rfl rfl ?_
      refine Rn.aload_n (pc := 145) dX6_parse_145 rfl rfl ?_
      refine Rn.getR (pc := 146) flX6_12 mu5_0 fx5_0 dX6_parse_146 ?_
      refine Rn.getI (pc := 149) (t := 0) flX6_69 (show mI _ 6 0 4 = q.2.2.2.2 from rfl) dX6_parse_149 ?_
      refine Rn.putI (pc := 152) (t := 0) flX6_72 rfl rfl dX6_parse_152 ?_
      rw [show sI (wD (wA i (uFa q.1 q.2.2.2.1) (sR M 6 0 0 0)) q.2) 8 i 12 q.2.2.2.2 = wD (wA i (uFP (uFa q.1 q.2.2.2.1) q.2.2.2.2) (sR M 6 0 0 0)) q.2 by rw [wD_8, wA_FP]]
      refine Rn.vret (pc := 155) rfl dX6_parse_155 ?_
      have hb2 : cB2 n q = q := by unfold cB2; rw [if_pos (of_decide_eq_true c114)]
      exact ⟨rfl, _, by rw [cP, hqe, hb2]; rfl⟩
    · refine Rn.aload_n (pc := 117) dX6_parse_117 rfl rfl ?_
      refine Rn.getR (pc := 118) flX6_12 mu5_0 fx5_0 dX6_parse_118 ?_
      refine Rn.bipush (pc := 121) (v := -3) dX6_parse_121 (by decide) ?_
      refine Rn.aload_n (pc := 123) dX6_parse_123 rfl rfl ?_
      refine Rn.getR (pc := 124) flX6_12 mu5_0 fx5_0 dX6_parse_124 ?_
      refine Rn.getI (pc := 127) (t := 0) flX6_35 (show mI (wD (wA i q.1 (sR M 6 0 0 0)) q.2) 6 0 2 = nI q.2.1 from rfl) dX6_parse_127 ?_
      refine Rn.callV (pc := 130) (as := [_, _]) cvX6_46 ⟨by decide, rfl⟩ ⟨by decide, by decide⟩ dX6_parse_130 (Nat.le_of_ble_eq_true rfl) rfl (k_failD G q.2 (-3) (nI q.2.1)) ?_
      rintro _ _ ⟨rfl, rfl⟩
      refine Rn.aload_n (pc := 133) dX6_parse_133 rfl rfl ?_
      refine Rn.aload_n (pc := 134) dX6_parse_134 rfl rfl ?_
      refine Rn.getR (pc := 135) flX6_12 mu5_0 fx5_0 dX6_parse_135 ?_
      refine Rn.getI (pc := 138) (t := 0) flX6_65 (show mI (wD (wA i q.1 (sR M 6 0 0 0)) (cFail q.2 (-3) (nI q.2.1))) 6 0 3 = (cFail q.2 (-3) (nI q.2.1)).2.2.1 from rfl) dX6_parse_138 ?_
      refine Rn.putI (pc := 141) (t := 0) flX6_68 rfl rfl dX6_parse_141 ?_
      rw [show sI (wD (wA i q.1 (sR M 6 0 0 0)) (cFail q.2 (-3) (nI q.2.1))) 8 i 11 (cFail q.2 (-3) (nI q.2.1)).2.2.1 = wD (wA i (uFa q.1 (cFail q.2 (-3) (nI q.2.1)).2.2.1) (sR M 6 0 0 0)) (cFail q.2 (-3) (nI q.2.1)) by rw [wD_8, wA_Fa]]
      refine Rn.aload_n (pc := 144) dX6_parse_144 rfl rfl ?_
      refine Rn.aload_n (pc := 145) dX6_parse_145 rfl rfl ?_
      refine Rn.getR (pc := 146) flX6_12 mu5_0 fx5_0 dX6_parse_146 ?_
      refine Rn.getI (pc := 149) (t := 0) flX6_69 (show mI _ 6 0 4 = (cFail q.2 (-3) (nI q.2.1)).2.2.2 from rfl) dX6_parse_149 ?_
      refine Rn.putI (pc := 152) (t := 0) flX6_72 rfl rfl dX6_parse_152 ?_
      rw [show sI (wD (wA i (uFa q.1 (cFail q.2 (-3) (nI q.2.1)).2.2.1) (sR M 6 0 0 0)) (cFail q.2 (-3) (nI q.2.1))) 8 i 12 (cFail q.2 (-3) (nI q.2.1)).2.2.2 = wD (wA i (uFP (uFa q.1 (cFail q.2 (-3) (nI q.2.1)).2.2.1) (cFail q.2 (-3) (nI q.2.1)).2.2.2) (sR M 6 0 0 0)) (cFail q.2 (-3) (nI q.2.1)) by rw [wD_8, wA_FP]]
      refine Rn.vret (pc := 155) rfl dX6_parse_155 ?_
      have hb2 : cB2 n q = (q.1, cFail q.2 (-3) (nI q.2.1)) := by unfold cB2; rw [if_neg (of_decide_eq_false c114)]
      exact ⟨rfl, _, by rw [cP, hqe, hb2]; rfl⟩
  refine Rn.aload_n (pc := 0) dX6_parse_0 rfl rfl ?_
  refine Rn.callV (pc := 1) (as := []) cvX6_18 ⟨by decide, rfl⟩ ⟨by decide, by decide⟩ dX6_parse_1 (Nat.le_of_ble_eq_true rfl) rfl (k_clearS G i) ?_
  rintro _ _ ⟨rfl, rfl⟩
  refine Rn.aload_n (pc := 4) dX6_parse_4 rfl rfl ?_
  refine Rn.getR (pc := 5) flX6_12 mu5_0 fx5_0 dX6_parse_5 ?_
  refine Rn.aload_n (pc := 8) dX6_parse_8 rfl rfl ?_
  refine Rn.callV (pc := 9) (as := [_]) cvX6_23 ⟨by decide, rfl⟩ ⟨by decide, by decide⟩ dX6_parse_9 (Nat.le_of_ble_eq_true rfl) rfl (k_begin G (n := n) (L := L) (M := wA i A0 M) ⟨h.1, h.2.1, h.2.2.1, h.2.2.2⟩) ?_
  rintro _ _ ⟨rfl, rfl⟩
  rw [show sR (wA i A0 M) 6 0 0 0 = wA i A0 (sR M 6 0 0 0) from rfl]
  refine Rn.aload_n (pc := 12) dX6_parse_12 rfl rfl ?_
  refine Rn.aload_n (pc := 13) dX6_parse_13 rfl rfl ?_
  refine Rn.callV (pc := 14) (as := [_]) cvX6_27 ⟨by decide, rfl⟩ ⟨by decide, by decide⟩ dX6_parse_14 (Nat.le_of_ble_eq_true rfl) rfl (k_label G h1 i A0 (cT0 L n) ht0) ?_
  rintro _ _ ⟨rfl, rfl⟩
  refine Rn.aload_n (pc := 17) dX6_parse_17 rfl rfl ?_
  refine Rn.getR (pc := 18) flX6_12 mu5_0 fx5_0 dX6_parse_18 ?_
  refine Rn.callV (pc := 21) (as := []) cvX6_31 ⟨by decide, rfl⟩ ⟨by decide, by decide⟩ dX6_parse_21 (Nat.le_of_ble_eq_true rfl) rfl (k_atEndD G (h1.a (i := i) (A := (cLb L n A0 (cT0 L n)).1)) (cLb L n A0 (cT0 L n)).2 hlb) ?_
  rintro _ _ ⟨rfl, rfl⟩
  refine Rn.if_neB (pc := 24) (tgt := 107) dX6_parse_24 (by decide) (fun c24 => ?_) (fun c24 => ?_)
  · exact K107 ((cLb L n A0 (cT0 L n)).1, (cLb L n A0 (cT0 L n)).2) _ hlb (by unfold cB1; rw [if_pos (of_decide_eq_true c24)])
  · have hne : ¬ n ≤ (cLb L n A0 (cT0 L n)).2.1 := of_decide_eq_false c24
    refine Rn.aload_n (pc := 27) dX6_parse_27 rfl rfl ?_
    refine Rn.aload_n (pc := 28) dX6_parse_28 rfl rfl ?_
    refine Rn.getR (pc := 29) flX6_12 mu5_0 fx5_0 dX6_parse_29 ?_
    refine Rn.getI (pc := 32) (t := 0) flX6_35 (show mI (wD (wA i (cLb L n A0 (cT0 L n)).1 (sR M 6 0 0 0)) (cLb L n A0 (cT0 L n)).2) 6 0 2 = nI (cLb L n A0 (cT0 L n)).2.1 from rfl) dX6_parse_32 ?_
    refine Rn.putI (pc := 35) (t := 0) flX6_39 rfl rfl dX6_parse_35 ?_
    rw [show sI (wD (wA i (cLb L n A0 (cT0 L n)).1 (sR M 6 0 0 0)) (cLb L n A0 (cT0 L n)).2) 8 i 2 (nI (cLb L n A0 (cT0 L n)).2.1) = wD (wA i (uPl (cLb L n A0 (cT0 L n)).1 (cLb L n A0 (cT0 L n)).2.1) (sR M 6 0 0 0)) (cLb L n A0 (cT0 L n)).2 by rw [wD_8, wA_Pl]]
    refine Rn.aload_n (pc := 38) dX6_parse_38 rfl rfl ?_
    refine Rn.getR (pc := 39) flX6_12 mu5_0 fx5_0 dX6_parse_39 ?_
    refine Rn.callV (pc := 42) (as := []) cvX6_42 ⟨by decide, rfl⟩ ⟨by decide, by decide⟩ dX6_parse_42 (Nat.le_of_ble_eq_true rfl) rfl (k_seenMnemonic G (h1.a (i := i) (A := (uPl (cLb L n A0 (cT0 L n)).1 (cLb L n A0 (cT0 L n)).2.1))) (cLb L n A0 (cT0 L n)).2 hlb) ?_
    rintro _ _ ⟨rfl, rfl⟩
    cases hm : mnS L (cLb L n A0 (cT0 L n)).2.1 (cLb L n A0 (cT0 L n)).2.2.1 49 0 with
    | none =>
      refine Rn.astore_nN (pc := 45) dX6_parse_45 rfl (by decide) rfl st4_3 ?_
      refine Rn.aload_nN (pc := 46) dX6_parse_46 rfl rfl ?_
      refine Rn.ifnonnullN (pc := 47) dX6_parse_47 ?_
      refine Rn.aload_n (pc := 50) dX6_parse_50 rfl rfl ?_
      refine Rn.getR (pc := 51) flX6_12 mu5_0 fx5_0 dX6_parse_51 ?_
      refine Rn.bipush (pc := 54) (v := -3) dX6_parse_54 (by decide) ?_
      refine Rn.aload_n (pc := 56) dX6_parse_56 rfl rfl ?_
      refine Rn.getR (pc := 57) flX6_12 mu5_0 fx5_0 dX6_parse_57 ?_
      refine Rn.getI (pc := 60) (t := 0) flX6_35 (show mI (wD (wA i (uPl (cLb L n A0 (cT0 L n)).1 (cLb L n A0 (cT0 L n)).2.1) (sR M 6 0 0 0)) (cLb L n A0 (cT0 L n)).2) 6 0 2 = nI (cLb L n A0 (cT0 L n)).2.1 from rfl) dX6_parse_60 ?_
      refine Rn.callV (pc := 63) (as := [_, _]) cvX6_46 ⟨by decide, rfl⟩ ⟨by decide, by decide⟩ dX6_parse_63 (Nat.le_of_ble_eq_true rfl) rfl (k_failD G (cLb L n A0 (cT0 L n)).2 (-3) (nI (cLb L n A0 (cT0 L n)).2.1)) ?_
      rintro _ _ ⟨rfl, rfl⟩
      refine Rn.goto (pc := 66) (tgt := 107) dX6_parse_66 (by decide) ?_
      exact K107 ((uPl (cLb L n A0 (cT0 L n)).1 (cLb L n A0 (cT0 L n)).2.1), cFail (cLb L n A0 (cT0 L n)).2 (-3) (nI (cLb L n A0 (cT0 L n)).2.1)) _ (cFail_ok hlb) (by unfold cB1; rw [if_neg hne, hm]; rfl)
    | some j =>
      have hj : j < 49 := mnS_lt hm
      obtain ⟨⟨hF1, hF2⟩, ⟨hC1, hC2⟩, hX1, hX2⟩ := mn_all j hj
      refine Rn.astore_n (pc := 45) (r := 51) (j := j) dX6_parse_45 rfl (by decide) rfl st4_3 ?_
      refine Rn.aload_n (pc := 46) (r := 51) (j := j) dX6_parse_46 rfl rfl ?_
      refine Rn.ifnonnull (pc := 47) (tgt := 69) dX6_parse_47 (by decide) ?_
      refine Rn.aload_n (pc := 69) dX6_parse_69 rfl rfl ?_
      refine Rn.get_form (pc := 70) wfX6_50 dX6_parse_70 ?_
      rw [hF1]
      refine Rn.bipush (pc := 73) (v := nI 6) dX6_parse_73 (by decide) ?_
      refine Rn.icmp_geN (pc := 75) (tgt := 94) dX6_parse_75 (by decide) (by omega) (by omega) (fun c75 => ?_) (fun c75 => ?_)
      · refine Rn.aload_n (pc := 94) dX6_parse_94 rfl rfl ?_
        refine Rn.getR (pc := 95) flX6_12 mu5_0 fx5_0 dX6_parse_95 ?_
        refine Rn.callV (pc := 98) (as := []) cvX6_55 ⟨by decide, rfl⟩ ⟨by decide, by decide⟩ dX6_parse_98 (Nat.le_of_ble_eq_true rfl) rfl (k_stepD G (h1.a (i := i) (A := (uPl (cLb L n A0 (cT0 L n)).1 (cLb L n A0 (cT0 L n)).2.1))) (cLb L n A0 (cT0 L n)).2 hlb) ?_
        rintro _ _ ⟨rfl, rfl⟩
        refine Rn.aload_n (pc := 101) dX6_parse_101 rfl rfl ?_
        refine Rn.aload_n (pc := 102) dX6_parse_102 rfl rfl ?_
        refine Rn.aload_n (pc := 103) dX6_parse_103 rfl rfl ?_
        refine Rn.callV (pc := 104) (as := [_, _]) cvX6_62 ⟨by decide, rfl⟩ ⟨by decide, by decide⟩ dX6_parse_104 (Nat.le_of_ble_eq_true rfl) rfl (k_instruction G h1 i (uPl (cLb L n A0 (cT0 L n)).1 (cLb L n A0 (cT0 L n)).2.1) (cStep L n (cLb L n A0 (cT0 L n)).2) (cStep_ok hlb) j hj (by omega)) ?_
        rintro _ _ ⟨rfl, rfl⟩
        exact K107 (cIns L n (mnFn j) (mnCn j) (mnXn j) (uPl (cLb L n A0 (cT0 L n)).1 (cLb L n A0 (cT0 L n)).2.1) (cStep L n (cLb L n A0 (cT0 L n)).2)) _ (cIns_ok (cStep_ok hlb)) (by unfold cB1; rw [if_neg hne, hm]; show (if mnFn j < 6 then _ else _ : CR × KS) = _; rw [if_neg (by omega)])
      · refine Rn.aload_n (pc := 78) dX6_parse_78 rfl rfl ?_
        refine Rn.getR (pc := 79) flX6_12 mu5_0 fx5_0 dX6_parse_79 ?_
        refine Rn.callV (pc := 82) (as := []) cvX6_55 ⟨by decide, rfl⟩ ⟨by decide, by decide⟩ dX6_parse_82 (Nat.le_of_ble_eq_true rfl) rfl (k_stepD G (h1.a (i := i) (A := (uPl (cLb L n A0 (cT0 L n)).1 (cLb L n A0 (cT0 L n)).2.1))) (cLb L n A0 (cT0 L n)).2 hlb) ?_
        rintro _ _ ⟨rfl, rfl⟩
        refine Rn.aload_n (pc := 85) dX6_parse_85 rfl rfl ?_
        refine Rn.aload_n (pc := 86) dX6_parse_86 rfl rfl ?_
        refine Rn.aload_n (pc := 87) dX6_parse_87 rfl rfl ?_
        refine Rn.callV (pc := 88) (as := [_, _]) cvX6_58 ⟨by decide, rfl⟩ ⟨by decide, by decide⟩ dX6_parse_88 (Nat.le_of_ble_eq_true rfl) rfl (k_directive G h1 i (uPl (cLb L n A0 (cT0 L n)).1 (cLb L n A0 (cT0 L n)).2.1) (cStep L n (cLb L n A0 (cT0 L n)).2) (cStep_ok hlb) j hj (by omega)) ?_
        rintro _ _ ⟨rfl, rfl⟩
        refine Rn.goto (pc := 91) (tgt := 107) dX6_parse_91 (by decide) ?_
        exact K107 (cDir L n (mnFn j) (mnCn j) (uPl (cLb L n A0 (cT0 L n)).1 (cLb L n A0 (cT0 L n)).2.1) (cStep L n (cLb L n A0 (cT0 L n)).2)) _ (cDir_ok (cStep_ok hlb)) (by unfold cB1; rw [if_neg hne, hm]; show (if mnFn j < 6 then _ else _ : CR × KS) = _; rw [if_pos (by omega)])

