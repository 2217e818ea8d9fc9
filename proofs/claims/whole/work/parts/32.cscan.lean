theorem nI_ne_m1 {k : Nat} (h : k < 2 ^ 31) : ¬ nI k = -1 := by
  intro e
  have h1 := congrArg Int32.toInt e
  rw [nI_toInt h] at h1
  have h2 : (-1 : Int32).toInt = -1 := by decide
  omega
/-- the scanner's state: begin, end, fault, place -/
abbrev KS : Type := Nat × Nat × Int32 × Int32
def wD (M : Mem) (t : KS) : Mem := wC M t.1 t.2.1 t.2.2.1 t.2.2.2
def cOK (n : Nat) (t : KS) : Prop := t.1 ≤ t.2.1 ∧ t.2.1 ≤ n
def cStep (L : Nat → Nat) (n : Nat) (t : KS) : KS := (skp L n t.2.1, tEnd L n (skp L n t.2.1), t.2.2)
def cFail (t : KS) (k p : Int32) : KS := (t.1, t.2.1, (if t.2.2.1 = 0 then k else t.2.2.1), (if t.2.2.1 = 0 then p else t.2.2.2))
theorem cStep_ok {L : Nat → Nat} {n : Nat} {t : KS} (h : cOK n t) : cOK n (cStep L n t) := ⟨tEnd_ge (skp_le h.2), tEnd_le (skp_le h.2)⟩
theorem cFail_ok {n : Nat} {t : KS} {k p : Int32} (h : cOK n t) : cOK n (cFail t k p) := h
theorem k_stepD (G : GX) {n : Nat} {L : Nat → Nat} {M : Mem} (h : TxOK n L M) (t : KS) (ht : cOK n t) : MetM G yX7_step iX7_step [vR 6 0] (wD M t) (fun r M' => r = none ∧ M' = wD M (cStep L n t)) := k_step G h t.1 t.2.1 t.2.2.1 t.2.2.2 ht.2
theorem k_failD (G : GX) {M : Mem} (t : KS) (k p : Int32) : MetM G yX7_fail iX7_fail [vR 6 0, vI k, vI p] (wD M t) (fun r M' => r = none ∧ M' = wD M (cFail t k p)) := k_fail G t.1 t.2.1 t.2.2.1 t.2.2.2 k p
theorem k_seesD (G : GX) {n : Nat} {L : Nat → Nat} {M : Mem} (h : TxOK n L M) (t : KS) (ht : cOK n t) (c : Nat) (hc : c < 2 ^ 31) : MetM G yX7_sees iX7_sees [vR 6 0, vI (nI c)] (wD M t) (fun r M' => r = some (vI (bI (decide (t.1 < n ∧ L t.1 = c)))) ∧ M' = wD M t) := k_sees G h t.1 t.2.1 t.2.2.1 t.2.2.2 (Nat.le_trans ht.1 ht.2) c hc
def cRg (L : Nat → Nat) (b e : Nat) : Option Nat := if isRg L b e = true then some (L (b + 1) - 48) else none
set_option maxRecDepth 20000 in
set_option maxHeartbeats 4000000 in
theorem k_seenRegister (G : GX) {n : Nat} {L : Nat → Nat} {M : Mem} (h : TxOK n L M) (t : KS) (ht : cOK n t) : MetM G yX7_seenRegister iX7_seenRegister [vR 6 0] (wD M t) (fun r M' => r = some (vI (prV (cRg L t.1 t.2.1))) ∧ M' = wD M t) := by
  refine MetM.of (ls := [some (vR 6 0), none]) (by decide) rfl (Nat.le_of_ble_eq_true rfl) rfl ?_
  intro hM0
  have hq2 := h.2.2.1
  have ht1 := ht.1
  have ht2 := ht.2
  refine Rn.aload_n (pc := 0) dX7_seenRegister_0 rfl rfl ?_
  refine Rn.getI (pc := 1) (t := 0) flX7_18 (show mI (wD M t) 6 0 1 = nI t.2.1 from rfl) dX7_seenRegister_1 ?_
  refine Rn.aload_n (pc := 4) dX7_seenRegister_4 rfl rfl ?_
  refine Rn.getI (pc := 5) (t := 0) flX7_31 (show mI (wD M t) 6 0 2 = nI t.1 from rfl) dX7_seenRegister_5 ?_
  refine Rn.isub (pc := 8) dX7_seenRegister_8 ?_
  rw [pk_sub (by omega)]
  refine Rn.iconst (pc := 9) (v := nI 2) dX7_seenRegister_9 (by decide) ?_
  refine Rn.icmp_neN (pc := 10) (tgt := 30) dX7_seenRegister_10 (by decide) (by omega) (by omega) (fun c10 => ?_) (fun c10 => ?_)
  · refine Rn.iconst (pc := 30) (v := -1) dX7_seenRegister_30 (by decide) ?_
    refine Rn.iret (pc := 31) rfl dX7_seenRegister_31 ?_
    refine ⟨?_, rfl⟩; rw [cRg, if_neg (by simp [isRg, *]; try omega)]; rfl
  · refine Rn.aload_n (pc := 13) dX7_seenRegister_13 rfl rfl ?_
    refine Rn.getRm (pc := 14) flX7_12 (show mR (wD M t) 6 0 0 = 0 from h.1) dX7_seenRegister_14 ?_
    refine Rn.getR (pc := 17) flX7_37 mu9_0 fx9_0 dX7_seenRegister_17 ?_
    refine Rn.aload_n (pc := 20) dX7_seenRegister_20 rfl rfl ?_
    refine Rn.getI (pc := 21) (t := 0) flX7_31 (show mI (wD M t) 6 0 2 = nI t.1 from rfl) dX7_seenRegister_21 ?_
    refine Rn.caldN (pc := 24) ak12 (by omega) (by decide) (show mI (wD M t) 12 0 t.1 = nI (L t.1) from h.2.2.2.1 t.1 (by omega)) dX7_seenRegister_24 ?_
    refine Rn.bipush (pc := 25) (v := nI 114) dX7_seenRegister_25 (by decide) ?_
    refine Rn.icmp_eqN (pc := 27) (tgt := 32) dX7_seenRegister_27 (by decide) (by have := h.2.2.2.2 t.1 (by omega); omega) (by decide) (fun c27 => ?_) (fun c27 => ?_)
    · refine Rn.aload_n (pc := 32) dX7_seenRegister_32 rfl rfl ?_
      refine Rn.getRm (pc := 33) flX7_12 (show mR (wD M t) 6 0 0 = 0 from h.1) dX7_seenRegister_33 ?_
      refine Rn.getR (pc := 36) flX7_37 mu9_0 fx9_0 dX7_seenRegister_36 ?_
      refine Rn.aload_n (pc := 39) dX7_seenRegister_39 rfl rfl ?_
      refine Rn.getI (pc := 40) (t := 0) flX7_31 (show mI (wD M t) 6 0 2 = nI t.1 from rfl) dX7_seenRegister_40 ?_
      refine Rn.iconst (pc := 43) (v := nI 1) dX7_seenRegister_43 (by decide) ?_
      refine Rn.iaddN (pc := 44) dX7_seenRegister_44 ?_
      refine Rn.caldN (pc := 45) ak12 (by omega) (by decide) (show mI (wD M t) 12 0 (t.1 + 1) = nI (L (t.1 + 1)) from h.2.2.2.1 (t.1 + 1) (by omega)) dX7_seenRegister_45 ?_
      refine Rn.istore_n (pc := 46) dX7_seenRegister_46 rfl (by decide) rfl st2_1 ?_
      refine Rn.iload_n (pc := 47) dX7_seenRegister_47 rfl rfl ?_
      refine Rn.bipush (pc := 48) (v := nI 48) dX7_seenRegister_48 (by decide) ?_
      refine Rn.icmp_ltN (pc := 50) (tgt := 66) dX7_seenRegister_50 (by decide) (by have := h.2.2.2.2 (t.1 + 1) (by omega); omega) (by decide) (fun c50 => ?_) (fun c50 => ?_)
      · refine Rn.iconst (pc := 66) (v := -1) dX7_seenRegister_66 (by decide) ?_
        refine Rn.iret (pc := 67) rfl dX7_seenRegister_67 ?_
        refine ⟨?_, rfl⟩; rw [cRg, if_neg (by simp [isRg, *]; try omega)]; rfl
      · refine Rn.iload_n (pc := 53) dX7_seenRegister_53 rfl rfl ?_
        refine Rn.bipush (pc := 54) (v := nI 55) dX7_seenRegister_54 (by decide) ?_
        refine Rn.icmp_gtN (pc := 56) (tgt := 66) dX7_seenRegister_56 (by decide) (by have := h.2.2.2.2 (t.1 + 1) (by omega); omega) (by decide) (fun c56 => ?_) (fun c56 => ?_)
        · refine Rn.iconst (pc := 66) (v := -1) dX7_seenRegister_66 (by decide) ?_
          refine Rn.iret (pc := 67) rfl dX7_seenRegister_67 ?_
          refine ⟨?_, rfl⟩; rw [cRg, if_neg (by simp [isRg, *]; try omega)]; rfl
        · refine Rn.iload_n (pc := 59) dX7_seenRegister_59 rfl rfl ?_
          refine Rn.bipush (pc := 60) (v := nI 48) dX7_seenRegister_60 (by decide) ?_
          refine Rn.isub (pc := 62) dX7_seenRegister_62 ?_
          rw [pk_sub (by omega)]
          refine Rn.goto (pc := 63) (tgt := 67) dX7_seenRegister_63 (by decide) ?_
          refine Rn.iret (pc := 67) rfl dX7_seenRegister_67 ?_
          refine ⟨?_, rfl⟩; rw [cRg, if_pos (by simp [isRg, *]; try omega)]; rfl
    · refine Rn.iconst (pc := 30) (v := -1) dX7_seenRegister_30 (by decide) ?_
      refine Rn.iret (pc := 31) rfl dX7_seenRegister_31 ?_
      refine ⟨?_, rfl⟩; rw [cRg, if_neg (by simp [isRg, *]; try omega)]; rfl

def cNm (L : Nat → Nat) (t : KS) : Nat := nmV L t.1 t.2.1
set_option maxRecDepth 20000 in
set_option maxHeartbeats 4000000 in
theorem k_seenName (G : GX) {n : Nat} {L : Nat → Nat} {M : Mem} (h : TxOK n L M) (t : KS) (ht : cOK n t) : MetM G yX7_seenName iX7_seenName [vR 6 0] (wD M t) (fun r M' => r = some (vJ (lN (cNm L t))) ∧ M' = wD M t) := by
  refine MetM.of (ls := [some (vR 6 0)]) (by decide) rfl (Nat.le_of_ble_eq_true rfl) rfl ?_
  intro hM0
  have hq2 := h.2.2.1
  have ht1 := ht.1
  have ht2 := ht.2
  refine Rn.aload_n (pc := 0) dX7_seenName_0 rfl rfl ?_
  refine Rn.getRm (pc := 1) flX7_12 (show mR (wD M t) 6 0 0 = 0 from h.1) dX7_seenName_1 ?_
  refine Rn.aload_n (pc := 4) dX7_seenName_4 rfl rfl ?_
  refine Rn.getI (pc := 5) (t := 0) flX7_31 (show mI (wD M t) 6 0 2 = nI t.1 from rfl) dX7_seenName_5 ?_
  refine Rn.aload_n (pc := 8) dX7_seenName_8 rfl rfl ?_
  refine Rn.getI (pc := 9) (t := 0) flX7_18 (show mI (wD M t) 6 0 1 = nI t.2.1 from rfl) dX7_seenName_9 ?_
  refine Rn.callV (pc := 12) (as := [_, _]) cvX7_71 ⟨by decide, rfl⟩ ⟨by decide, by decide⟩ dX7_seenName_12 (Nat.le_of_ble_eq_true rfl) rfl (k_nameBetween G (show Tx0 n L (wD M t) from h.2) t.1 t.2.1 ht1 ht2) ?_
  rintro _ _ ⟨rfl, rfl⟩
  refine Rn.lret (pc := 15) rfl dX7_seenName_15 ?_
  exact ⟨rfl, rfl⟩

def cSee (L : Nat → Nat) (n c : Nat) (t : KS) : Bool := decide (t.1 < n ∧ L t.1 = c)
def cAcc (L : Nat → Nat) (n c : Nat) (t : KS) : KS := if cSee L n c t = true then cStep L n t else t
def cExp (L : Nat → Nat) (n c : Nat) (t : KS) : KS := if cSee L n c t = true then cStep L n t else cFail t (-3) (nI t.1)
theorem cAcc_ok {L : Nat → Nat} {n c : Nat} {t : KS} (h : cOK n t) : cOK n (cAcc L n c t) := by
  unfold cAcc; split
  · exact cStep_ok h
  · exact h
theorem cExp_ok {L : Nat → Nat} {n c : Nat} {t : KS} (h : cOK n t) : cOK n (cExp L n c t) := by
  unfold cExp; split
  · exact cStep_ok h
  · exact h
set_option maxRecDepth 20000 in
set_option maxHeartbeats 4000000 in
theorem k_accept (G : GX) {n : Nat} {L : Nat → Nat} {M : Mem} (h : TxOK n L M) (t : KS) (ht : cOK n t) (c : Nat) (hc : c < 2 ^ 31) : MetM G yX7_accept iX7_accept [vR 6 0, vI (nI c)] (wD M t) (fun r M' => r = some (vI (bI (cSee L n c t))) ∧ M' = wD M (cAcc L n c t)) := by
  refine MetM.of (ls := [some (vR 6 0), some (vI (nI c)), none]) (by decide) rfl (Nat.le_of_ble_eq_true rfl) rfl ?_
  intro hM0
  have hq2 := h.2.2.1
  have ht1 := ht.1
  have ht2 := ht.2
  refine Rn.aload_n (pc := 0) dX7_accept_0 rfl rfl ?_
  refine Rn.iload_n (pc := 1) dX7_accept_1 rfl rfl ?_
  refine Rn.callV (pc := 2) (as := [_]) cvX7_75 ⟨by decide, rfl⟩ ⟨by decide, by decide⟩ dX7_accept_2 (Nat.le_of_ble_eq_true rfl) rfl (k_seesD G h t ht c hc) ?_
  rintro _ _ ⟨rfl, rfl⟩
  refine Rn.istore_n (pc := 5) dX7_accept_5 rfl (by decide) rfl st3_2 ?_
  refine Rn.iload_n (pc := 6) dX7_accept_6 rfl rfl ?_
  refine Rn.if_eqB (pc := 7) (tgt := 14) dX7_accept_7 (by decide) (fun c7 => ?_) (fun c7 => ?_)
  · refine Rn.iload_n (pc := 14) dX7_accept_14 rfl rfl ?_
    refine Rn.zret (pc := 15) rfl bI_n dX7_accept_15 ?_
    refine ⟨rfl, ?_⟩; rw [cAcc, if_neg (by rw [cSee, c7]; decide)]
  · refine Rn.aload_n (pc := 10) dX7_accept_10 rfl rfl ?_
    refine Rn.callV (pc := 11) (as := []) cvX7_28 ⟨by decide, rfl⟩ ⟨by decide, by decide⟩ dX7_accept_11 (Nat.le_of_ble_eq_true rfl) rfl (k_stepD G h t ht) ?_
    rintro _ _ ⟨rfl, rfl⟩
    refine Rn.iload_n (pc := 14) dX7_accept_14 rfl rfl ?_
    refine Rn.zret (pc := 15) rfl bI_n dX7_accept_15 ?_
    refine ⟨rfl, ?_⟩; rw [cAcc, if_pos (by rw [cSee, c7])]

set_option maxRecDepth 20000 in
set_option maxHeartbeats 4000000 in
theorem k_expect (G : GX) {n : Nat} {L : Nat → Nat} {M : Mem} (h : TxOK n L M) (t : KS) (ht : cOK n t) (c : Nat) (hc : c < 2 ^ 31) : MetM G yX7_expect iX7_expect [vR 6 0, vI (nI c)] (wD M t) (fun r M' => r = none ∧ M' = wD M (cExp L n c t)) := by
  refine MetM.of (ls := [some (vR 6 0), some (vI (nI c))]) (by decide) rfl (Nat.le_of_ble_eq_true rfl) rfl ?_
  intro hM0
  have hq2 := h.2.2.1
  have ht1 := ht.1
  have ht2 := ht.2
  refine Rn.aload_n (pc := 0) dX7_expect_0 rfl rfl ?_
  refine Rn.iload_n (pc := 1) dX7_expect_1 rfl rfl ?_
  refine Rn.callV (pc := 2) (as := [_]) cvX7_75 ⟨by decide, rfl⟩ ⟨by decide, by decide⟩ dX7_expect_2 (Nat.le_of_ble_eq_true rfl) rfl (k_seesD G h t ht c hc) ?_
  rintro _ _ ⟨rfl, rfl⟩
  refine Rn.if_eqB (pc := 5) (tgt := 15) dX7_expect_5 (by decide) (fun c5 => ?_) (fun c5 => ?_)
  · refine Rn.aload_n (pc := 15) dX7_expect_15 rfl rfl ?_
    refine Rn.bipush (pc := 16) (v := -3) dX7_expect_16 (by decide) ?_
    refine Rn.aload_n (pc := 18) dX7_expect_18 rfl rfl ?_
    refine Rn.getI (pc := 19) (t := 0) flX7_31 (show mI (wD M t) 6 0 2 = nI t.1 from rfl) dX7_expect_19 ?_
    refine Rn.callV (pc := 22) (as := [_, _]) cvX7_78 ⟨by decide, rfl⟩ ⟨by decide, by decide⟩ dX7_expect_22 (Nat.le_of_ble_eq_true rfl) rfl (k_failD G t (-3) (nI t.1)) ?_
    rintro _ _ ⟨rfl, rfl⟩
    refine Rn.vret (pc := 25) rfl dX7_expect_25 ?_
    refine ⟨rfl, ?_⟩; rw [cExp, if_neg (by rw [cSee, c5]; decide)]
  · refine Rn.aload_n (pc := 8) dX7_expect_8 rfl rfl ?_
    refine Rn.callV (pc := 9) (as := []) cvX7_28 ⟨by decide, rfl⟩ ⟨by decide, by decide⟩ dX7_expect_9 (Nat.le_of_ble_eq_true rfl) rfl (k_stepD G h t ht) ?_
    rintro _ _ ⟨rfl, rfl⟩
    refine Rn.goto (pc := 12) (tgt := 25) dX7_expect_12 (by decide) ?_
    refine Rn.vret (pc := 25) rfl dX7_expect_25 ?_
    refine ⟨rfl, ?_⟩; rw [cExp, if_pos (by rw [cSee, c5])]

def cReg (L : Nat → Nat) (n : Nat) (t : KS) : Nat × KS := match cRg L t.1 t.2.1 with
  | some k => (k, cStep L n t)
  | none => (0, cFail t (-3) (nI t.1))
theorem cRg_lt {L : Nat → Nat} {b e k : Nat} (h : cRg L b e = some k) : k < 8 := by
  unfold cRg at h
  split at h
  · rename_i g
    simp only [isRg, Bool.and_eq_true, decide_eq_true_eq] at g
    cases h; omega
  · cases h
theorem cReg_ok {L : Nat → Nat} {n : Nat} {t : KS} (h : cOK n t) : cOK n (cReg L n t).2 := by
  unfold cReg
  split
  · exact cStep_ok h
  · exact h
set_option maxRecDepth 20000 in
set_option maxHeartbeats 4000000 in
theorem k_register (G : GX) {n : Nat} {L : Nat → Nat} {M : Mem} (h : TxOK n L M) (t : KS) (ht : cOK n t) : MetM G yX7_register iX7_register [vR 6 0] (wD M t) (fun r M' => r = some (vI (nI (cReg L n t).1)) ∧ M' = wD M (cReg L n t).2) := by
  refine MetM.of (ls := [some (vR 6 0), none]) (by decide) rfl (Nat.le_of_ble_eq_true rfl) rfl ?_
  intro hM0
  have hq2 := h.2.2.1
  have ht1 := ht.1
  have ht2 := ht.2
  refine Rn.aload_n (pc := 0) dX7_register_0 rfl rfl ?_
  refine Rn.callV (pc := 1) (as := []) cvX7_82 ⟨by decide, rfl⟩ ⟨by decide, by decide⟩ dX7_register_1 (Nat.le_of_ble_eq_true rfl) rfl (k_seenRegister G h t ht) ?_
  rintro _ _ ⟨rfl, rfl⟩
  refine Rn.istore_n (pc := 4) dX7_register_4 rfl (by decide) rfl st2_1 ?_
  refine Rn.iload_n (pc := 5) dX7_register_5 rfl rfl ?_
  refine Rn.iconst (pc := 6) (v := -1) dX7_register_6 (by decide) ?_
  refine Rn.icmp_ne (pc := 7) (tgt := 22) dX7_register_7 (by decide) (fun c7 => ?_) (fun c7 => ?_)
  · obtain ⟨k, hq⟩ : ∃ k, cRg L t.1 t.2.1 = some k := by
      cases hq : cRg L t.1 t.2.1 with
      | none => rw [hq] at c7; exact absurd rfl c7
      | some k => exact ⟨k, rfl⟩
    rw [hq]
    refine Rn.aload_n (pc := 22) dX7_register_22 rfl rfl ?_
    refine Rn.callV (pc := 23) (as := []) cvX7_28 ⟨by decide, rfl⟩ ⟨by decide, by decide⟩ dX7_register_23 (Nat.le_of_ble_eq_true rfl) rfl (k_stepD G h t ht) ?_
    rintro _ _ ⟨rfl, rfl⟩
    refine Rn.iload_n (pc := 26) dX7_register_26 rfl rfl ?_
    refine Rn.iret (pc := 27) rfl dX7_register_27 ?_
    rw [cReg, hq]; exact ⟨rfl, rfl⟩
  · have hq : cRg L t.1 t.2.1 = none := by
      cases hq : cRg L t.1 t.2.1 with
      | none => rfl
      | some k => rw [hq] at c7; exact absurd c7 (nI_ne_m1 (by have := cRg_lt hq; omega))
    refine Rn.aload_n (pc := 10) dX7_register_10 rfl rfl ?_
    refine Rn.bipush (pc := 11) (v := -3) dX7_register_11 (by decide) ?_
    refine Rn.aload_n (pc := 13) dX7_register_13 rfl rfl ?_
    refine Rn.getI (pc := 14) (t := 0) flX7_31 (show mI (wD M t) 6 0 2 = nI t.1 from rfl) dX7_register_14 ?_
    refine Rn.callV (pc := 17) (as := [_, _]) cvX7_78 ⟨by decide, rfl⟩ ⟨by decide, by decide⟩ dX7_register_17 (Nat.le_of_ble_eq_true rfl) rfl (k_failD G t (-3) (nI t.1)) ?_
    rintro _ _ ⟨rfl, rfl⟩
    refine Rn.iconst (pc := 20) (v := nI 0) dX7_register_20 (by decide) ?_
    refine Rn.iret (pc := 21) rfl dX7_register_21 ?_
    rw [cReg, hq]; exact ⟨rfl, rfl⟩

