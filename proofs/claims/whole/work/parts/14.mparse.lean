/-! what a statement is: its kind, code, number, name (fields 13, 15, 16, 17, 18) -/
abbrev SR : Type := Int32 × Int32 × Int32 × Int32 × Int32
def stS (M : Mem) (r : SR) : Mem := sI (sI (sI (sI (sI M 11 0 13 r.1) 11 0 15 r.2.1) 11 0 16 r.2.2.1) 11 0 17 r.2.2.2.1) 11 0 18 r.2.2.2.2
theorem LnOK.st {o n : Nat} {L : Nat → Nat} {M : Mem} (h : LnOK o n L M) (r : SR) : LnOK o n L (stS M r) := h
theorem stS_13 {M : Mem} {r : SR} {v : Int32} : sI (stS M r) 11 0 13 v = stS M (v, r.2) := by
  unfold stS
  rw [sI_comm (by decide), sI_comm (s := 17) (by decide), sI_comm (s := 16) (by decide), sI_comm (s := 15) (by decide), sI_sI]
theorem stS_15 {M : Mem} {r : SR} {v : Int32} : sI (stS M r) 11 0 15 v = stS M (r.1, v, r.2.2) := by
  unfold stS
  rw [sI_comm (by decide), sI_comm (s := 17) (by decide), sI_comm (s := 16) (by decide), sI_sI]
theorem stS_16 {M : Mem} {r : SR} {v : Int32} : sI (stS M r) 11 0 16 v = stS M (r.1, r.2.1, v, r.2.2.2) := by
  unfold stS
  rw [sI_comm (by decide), sI_comm (s := 17) (by decide), sI_sI]
theorem stS_17 {M : Mem} {r : SR} {v : Int32} : sI (stS M r) 11 0 17 v = stS M (r.1, r.2.1, r.2.2.1, v, r.2.2.2.2) := by
  unfold stS
  rw [sI_comm (by decide), sI_sI]
theorem stS_18 {M : Mem} {r : SR} {v : Int32} : sI (stS M r) 11 0 18 v = stS M (r.1, r.2.1, r.2.2.1, r.2.2.2.1, v) := by
  unfold stS
  rw [sI_sI]
theorem wQ_13 {o : Nat} {M : Mem} {r : SR} {s : PS} {v : Int32} : sI (wS o (stS M r) s) 11 0 13 v = wS o (stS M (v, r.2)) s := by rw [wS_oth (by decide) (by decide) (by decide), stS_13]
theorem wQ_15 {o : Nat} {M : Mem} {r : SR} {s : PS} {v : Int32} : sI (wS o (stS M r) s) 11 0 15 v = wS o (stS M (r.1, v, r.2.2)) s := by rw [wS_oth (by decide) (by decide) (by decide), stS_15]
theorem wQ_16 {o : Nat} {M : Mem} {r : SR} {s : PS} {v : Int32} : sI (wS o (stS M r) s) 11 0 16 v = wS o (stS M (r.1, r.2.1, v, r.2.2.2)) s := by rw [wS_oth (by decide) (by decide) (by decide), stS_16]
theorem wQ_17 {o : Nat} {M : Mem} {r : SR} {s : PS} {v : Int32} : sI (wS o (stS M r) s) 11 0 17 v = wS o (stS M (r.1, r.2.1, r.2.2.1, v, r.2.2.2.2)) s := by rw [wS_oth (by decide) (by decide) (by decide), stS_17]
theorem wQ_18 {o : Nat} {M : Mem} {r : SR} {s : PS} {v : Int32} : sI (wS o (stS M r) s) 11 0 18 v = wS o (stS M (r.1, r.2.1, r.2.2.1, r.2.2.2.1, v)) s := by rw [wS_oth (by decide) (by decide) (by decide), stS_18]
def pIm (L : Nat → Nat) (n : Nat) (lo hi st : Int32) (s : PS) : Int32 × PS := pNu L n lo hi st (pWt L n 35 s)
def fNa (o : Nat) (L : Nat → Nat) (n : Nat) (r : SR) (s : PS) : SR × PS :=
  if s.2.1 = 0 ∧ isNm L (skp L n s.1) (wEnd L n (skp L n s.1)) = true then ((r.1, r.2.1, r.2.2.1, nI (o + skp L n s.1), nI (o + wEnd L n (skp L n s.1))), (wEnd L n (skp L n s.1), s.2)) else (r, pWrong (skp L n s.1, s.2) (-3) (skp L n s.1))
theorem fNa_le {o : Nat} {L : Nat → Nat} {n : Nat} {r : SR} {s : PS} (h : s.1 ≤ n) : (fNa o L n r s).2.1 ≤ n := by
  unfold fNa
  split
  · exact wEnd_le (skp_le h)
  · show (pWrong _ _ _).1 ≤ n; rw [pWrong_1]; exact skp_le h
set_option maxRecDepth 20000 in
set_option maxHeartbeats 4000000 in
theorem c_immediate (G : GX) {o n : Nat} {L : Nat → Nat} {M : Mem} (h : LnOK o n L M) (s : PS) (hs : s.1 ≤ n) (lo hi st : Int32) (hst : ¬ st = 0) : MetM G yX12_immediate iX12_immediate [vR 11 0, vI lo, vI hi, vI st] (wS o M s) (fun r M' => r = some (vI (pIm L n lo hi st s).1) ∧ M' = wS o M (pIm L n lo hi st s).2) := by
  refine MetM.of (ls := [some (vR 11 0), some (vI lo), some (vI hi), some (vI st)]) (by decide) rfl (Nat.le_of_ble_eq_true rfl) rfl ?_
  intro hM0
  have hq1 := h.2.1
  have hq2 := h.2.2.1
  refine Rn.aload_n (pc := 0) dX12_immediate_0 rfl rfl ?_
  refine Rn.bipush (pc := 1) (v := nI 35) dX12_immediate_1 (by decide) ?_
  refine Rn.callV (pc := 3) (as := [_]) cvX12_148 ⟨by decide, rfl⟩ ⟨by decide, by decide⟩ dX12_immediate_3 (Nat.le_of_ble_eq_true rfl) rfl (c_want G h s hs 35 (by decide) (by decide)) ?_
  rintro _ _ ⟨rfl, rfl⟩
  refine Rn.aload_n (pc := 6) dX12_immediate_6 rfl rfl ?_
  refine Rn.iload_n (pc := 7) dX12_immediate_7 rfl rfl ?_
  refine Rn.iload_n (pc := 8) dX12_immediate_8 rfl rfl ?_
  refine Rn.iload_n (pc := 9) dX12_immediate_9 rfl rfl ?_
  refine Rn.callV (pc := 10) (as := [_, _, _]) cvX12_152 ⟨by decide, rfl⟩ ⟨by decide, by decide⟩ dX12_immediate_10 (Nat.le_of_ble_eq_true rfl) rfl (c_readNumber G h (pWt L n 35 s) (pWt_le hs (by decide)) lo hi st hst) ?_
  rintro _ _ ⟨rfl, rfl⟩
  refine Rn.iret (pc := 13) rfl dX12_immediate_13 ?_
  exact ⟨rfl, rfl⟩

set_option maxRecDepth 20000 in
set_option maxHeartbeats 4000000 in
theorem c_plain (G : GX) {o : Nat} {M : Mem} (r : SR) (s : PS) (v : Int32) : MetM G yX12_plain iX12_plain [vR 11 0, vI v] (wS o (stS M r) s) (fun q M' => q = none ∧ M' = wS o (stS M (nI 10, v, r.2.2)) s) := by
  refine MetM.of (ls := [some (vR 11 0), some (vI v)]) (by decide) rfl (Nat.le_of_ble_eq_true rfl) rfl ?_
  intro hM0
  refine Rn.aload_n (pc := 0) dX12_plain_0 rfl rfl ?_
  refine Rn.bipush (pc := 1) (v := nI 10) dX12_plain_1 (by decide) ?_
  refine Rn.putI (pc := 3) (t := 0) flX12_156 rfl rfl dX12_plain_3 ?_
  rw [wQ_13]
  refine Rn.aload_n (pc := 6) dX12_plain_6 rfl rfl ?_
  refine Rn.iload_n (pc := 7) dX12_plain_7 rfl rfl ?_
  refine Rn.putI (pc := 8) (t := 0) flX12_159 rfl rfl dX12_plain_8 ?_
  rw [wQ_15]
  refine Rn.vret (pc := 11) rfl dX12_plain_11 ?_
  exact ⟨rfl, rfl⟩

set_option maxRecDepth 20000 in
set_option maxHeartbeats 4000000 in
theorem c_readName (G : GX) {o n : Nat} {L : Nat → Nat} {M : Mem} (h : LnOK o n L M) (r : SR) (s : PS) (hs : s.1 ≤ n) : MetM G yX12_readName iX12_readName [vR 11 0] (wS o (stS M r) s) (fun q M' => q = none ∧ M' = wS o (stS M (fNa o L n r s).1) (fNa o L n r s).2) := by
  refine MetM.of (ls := [some (vR 11 0), none]) (by decide) rfl (Nat.le_of_ble_eq_true rfl) rfl ?_
  intro hM0
  have hq1 := h.2.1
  have hq2 := h.2.2.1
  have hk1 := skp_le (L := L) hs
  have hk2 := wEnd_le (L := L) hk1
  have hk3 := wEnd_ge (L := L) hk1
  refine Rn.aload_n (pc := 0) dX12_readName_0 rfl rfl ?_
  refine Rn.callV (pc := 1) (as := []) cvX12_131 ⟨by decide, rfl⟩ ⟨by decide, by decide⟩ dX12_readName_1 (Nat.le_of_ble_eq_true rfl) rfl (c_wordEnd G (h.st r) s hs) ?_
  rintro _ _ ⟨rfl, rfl⟩
  refine Rn.istore_n (pc := 4) dX12_readName_4 rfl (by decide) rfl st2_1 ?_
  refine Rn.aload_n (pc := 5) dX12_readName_5 rfl rfl ?_
  refine Rn.getI (pc := 6) (t := 0) flX12_100 wS_f dX12_readName_6 ?_
  refine Rn.if_ne (pc := 9) (y := 0) (tgt := 24) dX12_readName_9 (by decide) (fun c9 => ?_) (fun c9 => ?_)
  · refine Rn.aload_n (pc := 24) dX12_readName_24 rfl rfl ?_
    refine Rn.bipush (pc := 25) (v := -3) dX12_readName_25 (by decide) ?_
    refine Rn.aload_n (pc := 27) dX12_readName_27 rfl rfl ?_
    refine Rn.getI (pc := 28) (t := 0) flX12_94 wS_at dX12_readName_28 ?_
    refine Rn.callV (pc := 31) (as := [_, _]) cvX12_123 ⟨by decide, rfl⟩ ⟨by decide, by decide⟩ dX12_readName_31 (Nat.le_of_ble_eq_true rfl) rfl (c_wrong G (h.st r) (skp L n s.1, s.2) (-3) (skp L n s.1) hk1) ?_
    rintro _ _ ⟨rfl, rfl⟩
    refine Rn.vret (pc := 34) rfl dX12_readName_34 ?_
    refine ⟨rfl, ?_⟩; simp only [fNa]; simp [*]
  · refine Rn.aload_n (pc := 12) dX12_readName_12 rfl rfl ?_
    refine Rn.aload_n (pc := 13) dX12_readName_13 rfl rfl ?_
    refine Rn.getI (pc := 14) (t := 0) flX12_94 wS_at dX12_readName_14 ?_
    refine Rn.iload_n (pc := 17) dX12_readName_17 rfl rfl ?_
    refine Rn.callV (pc := 18) (as := [_, _]) cvX12_138 ⟨by decide, rfl⟩ ⟨by decide, by decide⟩ dX12_readName_18 (Nat.le_of_ble_eq_true rfl) rfl (c_isName G (h.st r) (skp L n s.1, s.2) (skp L n s.1) (wEnd L n (skp L n s.1)) hk3 hk2) ?_
    rintro _ _ ⟨rfl, rfl⟩
    refine Rn.if_neB (pc := 21) (tgt := 35) dX12_readName_21 (by decide) (fun c21 => ?_) (fun c21 => ?_)
    · have hf0 : s.2.1 = 0 := c9
      refine Rn.aload_n (pc := 35) dX12_readName_35 rfl rfl ?_
      refine Rn.aload_n (pc := 36) dX12_readName_36 rfl rfl ?_
      refine Rn.getI (pc := 37) (t := 0) flX12_94 wS_at dX12_readName_37 ?_
      refine Rn.putI (pc := 40) (t := 0) flX12_142 rfl rfl dX12_readName_40 ?_
      rw [wQ_17]
      refine Rn.aload_n (pc := 43) dX12_readName_43 rfl rfl ?_
      refine Rn.iload_n (pc := 44) dX12_readName_44 rfl rfl ?_
      refine Rn.putI (pc := 45) (t := 0) flX12_145 rfl rfl dX12_readName_45 ?_
      rw [wQ_18]
      refine Rn.aload_n (pc := 48) dX12_readName_48 rfl rfl ?_
      refine Rn.iload_n (pc := 49) dX12_readName_49 rfl rfl ?_
      refine Rn.putI (pc := 50) (t := 0) flX12_94 rfl rfl dX12_readName_50 ?_
      rw [wS_s7]
      refine Rn.vret (pc := 53) rfl dX12_readName_53 ?_
      refine ⟨rfl, ?_⟩; simp only [fNa]; simp [*]
    · refine Rn.aload_n (pc := 24) dX12_readName_24 rfl rfl ?_
      refine Rn.bipush (pc := 25) (v := -3) dX12_readName_25 (by decide) ?_
      refine Rn.aload_n (pc := 27) dX12_readName_27 rfl rfl ?_
      refine Rn.getI (pc := 28) (t := 0) flX12_94 wS_at dX12_readName_28 ?_
      refine Rn.callV (pc := 31) (as := [_, _]) cvX12_123 ⟨by decide, rfl⟩ ⟨by decide, by decide⟩ dX12_readName_31 (Nat.le_of_ble_eq_true rfl) rfl (c_wrong G (h.st r) (skp L n s.1, s.2) (-3) (skp L n s.1) hk1) ?_
      rintro _ _ ⟨rfl, rfl⟩
      refine Rn.vret (pc := 34) rfl dX12_readName_34 ?_
      refine ⟨rfl, ?_⟩; simp only [fNa]; simp [*]

def fTwo (L : Nat → Nat) (n kk : Nat) (r : SR) (s : PS) : SR × PS :=
  ((nI 10, nI (16384 + 64 * kk + 8 * (pRg L n (pWt L n 44 (pRg L n s).2)).1 + (pRg L n s).1), r.2.2), (pRg L n (pWt L n 44 (pRg L n s).2)).2)
set_option maxRecDepth 20000 in
set_option maxHeartbeats 4000000 in
theorem c_two (G : GX) {o n : Nat} {L : Nat → Nat} {M : Mem} (h : LnOK o n L M) (r : SR) (s : PS) (hs : s.1 ≤ n) (kk : Nat) : MetM G yX12_two iX12_two [vR 11 0, vI (nI kk)] (wS o (stS M r) s) (fun q M' => q = none ∧ M' = wS o (stS M (fTwo L n kk r s).1) (fTwo L n kk r s).2) := by
  refine MetM.of (ls := [some (vR 11 0), some (vI (nI kk)), none]) (by decide) rfl (Nat.le_of_ble_eq_true rfl) rfl ?_
  intro hM0
  have hq1 := h.2.1
  have hq2 := h.2.2.1
  refine Rn.aload_n (pc := 0) dX12_two_0 rfl rfl ?_
  refine Rn.callV (pc := 1) (as := []) cvX12_162 ⟨by decide, rfl⟩ ⟨by decide, by decide⟩ dX12_two_1 (Nat.le_of_ble_eq_true rfl) rfl (c_register G (h.st r) s hs) ?_
  rintro _ _ ⟨rfl, rfl⟩
  refine Rn.istore_n (pc := 4) dX12_two_4 rfl (by decide) rfl st3_2 ?_
  refine Rn.aload_n (pc := 5) dX12_two_5 rfl rfl ?_
  refine Rn.bipush (pc := 6) (v := nI 44) dX12_two_6 (by decide) ?_
  refine Rn.callV (pc := 8) (as := [_]) cvX12_148 ⟨by decide, rfl⟩ ⟨by decide, by decide⟩ dX12_two_8 (Nat.le_of_ble_eq_true rfl) rfl (c_want G (h.st r) (pRg L n s).2 (pRg_le hs) 44 (by decide) (by decide)) ?_
  rintro _ _ ⟨rfl, rfl⟩
  refine Rn.aload_n (pc := 11) dX12_two_11 rfl rfl ?_
  refine Rn.sipush (pc := 12) (v := nI 16384) dX12_two_12 (by decide) ?_
  refine Rn.bipush (pc := 15) (v := nI 64) dX12_two_15 (by decide) ?_
  refine Rn.iload_n (pc := 17) dX12_two_17 rfl rfl ?_
  refine Rn.imulN (pc := 18) dX12_two_18 ?_
  refine Rn.iaddN (pc := 19) dX12_two_19 ?_
  refine Rn.bipush (pc := 20) (v := nI 8) dX12_two_20 (by decide) ?_
  refine Rn.aload_n (pc := 22) dX12_two_22 rfl rfl ?_
  refine Rn.callV (pc := 23) (as := []) cvX12_162 ⟨by decide, rfl⟩ ⟨by decide, by decide⟩ dX12_two_23 (Nat.le_of_ble_eq_true rfl) rfl (c_register G (h.st r) (pWt L n 44 (pRg L n s).2) (pWt_le (pRg_le hs) (by decide))) ?_
  rintro _ _ ⟨rfl, rfl⟩
  refine Rn.imulN (pc := 26) dX12_two_26 ?_
  refine Rn.iaddN (pc := 27) dX12_two_27 ?_
  refine Rn.iload_n (pc := 28) dX12_two_28 rfl rfl ?_
  refine Rn.iaddN (pc := 29) dX12_two_29 ?_
  refine Rn.callV (pc := 30) (as := [_]) cvX12_165 ⟨by decide, rfl⟩ ⟨by decide, by decide⟩ dX12_two_30 (Nat.le_of_ble_eq_true rfl) rfl (c_plain G r (pRg L n (pWt L n 44 (pRg L n s).2)).2 _) ?_
  rintro _ _ ⟨rfl, rfl⟩
  refine Rn.vret (pc := 33) rfl dX12_two_33 ?_
  exact ⟨rfl, rfl⟩

def fOne (L : Nat → Nat) (n wh : Nat) (k : Int32) (r : SR) (s : PS) : SR × PS :=
  if chA L n (skp L n (pWt L n 44 (pRg L n s).2).1) = 35 then
    ((nI 10, nI (wh + 256 * (pRg L n s).1) + (pIm L n (nI 0) (nI 255) (nI 1) (skp L n (pWt L n 44 (pRg L n s).2).1, (pWt L n 44 (pRg L n s).2).2)).1, r.2.2), (pIm L n (nI 0) (nI 255) (nI 1) (skp L n (pWt L n 44 (pRg L n s).2).1, (pWt L n 44 (pRg L n s).2).2)).2)
  else
    ((nI 10, (if k < 0 then nI (8 * (pRg L n (skp L n (pWt L n 44 (pRg L n s).2).1, (pWt L n 44 (pRg L n s).2).2)).1 + (pRg L n s).1) else nI 16384 + nI 64 * k + nI (8 * (pRg L n (skp L n (pWt L n 44 (pRg L n s).2).1, (pWt L n 44 (pRg L n s).2).2)).1) + nI (pRg L n s).1), r.2.2), (pRg L n (skp L n (pWt L n 44 (pRg L n s).2).1, (pWt L n 44 (pRg L n s).2).2)).2)
set_option maxRecDepth 20000 in
set_option maxHeartbeats 4000000 in
theorem c_oneOrNumber (G : GX) {o n : Nat} {L : Nat → Nat} {M : Mem} (h : LnOK o n L M) (r : SR) (s : PS) (hs : s.1 ≤ n) (wh : Nat) (k : Int32) : MetM G yX12_oneOrNumber iX12_oneOrNumber [vR 11 0, vI (nI wh), vI k] (wS o (stS M r) s) (fun q M' => q = none ∧ M' = wS o (stS M (fOne L n wh k r s).1) (fOne L n wh k r s).2) := by
  refine MetM.of (ls := [some (vR 11 0), some (vI (nI wh)), some (vI k), none, none]) (by decide) rfl (Nat.le_of_ble_eq_true rfl) rfl ?_
  intro hM0
  have hq1 := h.2.1
  have hq2 := h.2.2.1
  refine Rn.aload_n (pc := 0) dX12_oneOrNumber_0 rfl rfl ?_
  refine Rn.callV (pc := 1) (as := []) cvX12_162 ⟨by decide, rfl⟩ ⟨by decide, by decide⟩ dX12_oneOrNumber_1 (Nat.le_of_ble_eq_true rfl) rfl (c_register G (h.st r) s hs) ?_
  rintro _ _ ⟨rfl, rfl⟩
  refine Rn.istore_n (pc := 4) dX12_oneOrNumber_4 rfl (by decide) rfl st5_3 ?_
  refine Rn.aload_n (pc := 5) dX12_oneOrNumber_5 rfl rfl ?_
  refine Rn.bipush (pc := 6) (v := nI 44) dX12_oneOrNumber_6 (by decide) ?_
  refine Rn.callV (pc := 8) (as := [_]) cvX12_148 ⟨by decide, rfl⟩ ⟨by decide, by decide⟩ dX12_oneOrNumber_8 (Nat.le_of_ble_eq_true rfl) rfl (c_want G (h.st r) (pRg L n s).2 (pRg_le hs) 44 (by decide) (by decide)) ?_
  rintro _ _ ⟨rfl, rfl⟩
  refine Rn.aload_n (pc := 11) dX12_oneOrNumber_11 rfl rfl ?_
  refine Rn.callV (pc := 12) (as := []) cvX12_116 ⟨by decide, rfl⟩ ⟨by decide, by decide⟩ dX12_oneOrNumber_12 (Nat.le_of_ble_eq_true rfl) rfl (c_next G (h.st r) (pWt L n 44 (pRg L n s).2).1 (pWt_le (pRg_le hs) (by decide)) (pWt L n 44 (pRg L n s).2).2.1 (pWt L n 44 (pRg L n s).2).2.2) ?_
  rintro _ _ ⟨rfl, rfl⟩
  rw [show wP o (stS M r) (skp L n (pWt L n 44 (pRg L n s).2).1) (pWt L n 44 (pRg L n s).2).2.1 (pWt L n 44 (pRg L n s).2).2.2 = wS o (stS M r) (skp L n (pWt L n 44 (pRg L n s).2).1, (pWt L n 44 (pRg L n s).2).2) from rfl]
  refine Rn.bipush (pc := 15) (v := nI 35) dX12_oneOrNumber_15 (by decide) ?_
  refine Rn.icmp_neN (pc := 17) (tgt := 44) dX12_oneOrNumber_17 (by decide) (by have := chA_lt h (skp L n (pWt L n 44 (pRg L n s).2).1); omega) (by decide) (fun c17 => ?_) (fun c17 => ?_)
  · refine Rn.aload_n (pc := 44) dX12_oneOrNumber_44 rfl rfl ?_
    refine Rn.callV (pc := 45) (as := []) cvX12_162 ⟨by decide, rfl⟩ ⟨by decide, by decide⟩ dX12_oneOrNumber_45 (Nat.le_of_ble_eq_true rfl) rfl (c_register G (h.st r) (skp L n (pWt L n 44 (pRg L n s).2).1, (pWt L n 44 (pRg L n s).2).2) (skp_le (pWt_le (pRg_le hs) (by decide)))) ?_
    rintro _ _ ⟨rfl, rfl⟩
    refine Rn.istore (pc := 48) dX12_oneOrNumber_48 (by decide) rfl st5_4 ?_
    refine Rn.aload_n (pc := 50) dX12_oneOrNumber_50 rfl rfl ?_
    refine Rn.iload_n (pc := 51) dX12_oneOrNumber_51 rfl rfl ?_
    refine Rn.if_ge (pc := 52) (y := 0) (tgt := 65) dX12_oneOrNumber_52 (by decide) (fun c52 => ?_) (fun c52 => ?_)
    · refine Rn.sipush (pc := 65) (v := nI 16384) dX12_oneOrNumber_65 (by decide) ?_
      refine Rn.bipush (pc := 68) (v := nI 64) dX12_oneOrNumber_68 (by decide) ?_
      refine Rn.iload_n (pc := 70) dX12_oneOrNumber_70 rfl rfl ?_
      refine Rn.imul (pc := 71) dX12_oneOrNumber_71 ?_
      refine Rn.iadd (pc := 72) dX12_oneOrNumber_72 ?_
      refine Rn.bipush (pc := 73) (v := nI 8) dX12_oneOrNumber_73 (by decide) ?_
      refine Rn.iload (pc := 75) dX12_oneOrNumber_75 rfl ?_
      refine Rn.imulN (pc := 77) dX12_oneOrNumber_77 ?_
      refine Rn.iadd (pc := 78) dX12_oneOrNumber_78 ?_
      refine Rn.iload_n (pc := 79) dX12_oneOrNumber_79 rfl rfl ?_
      refine Rn.iadd (pc := 80) dX12_oneOrNumber_80 ?_
      refine Rn.callV (pc := 81) (as := [_]) cvX12_165 ⟨by decide, rfl⟩ ⟨by decide, by decide⟩ dX12_oneOrNumber_81 (Nat.le_of_ble_eq_true rfl) rfl (c_plain G r (pRg L n (skp L n (pWt L n 44 (pRg L n s).2).1, (pWt L n 44 (pRg L n s).2).2)).2 _) ?_
      rintro _ _ ⟨rfl, rfl⟩
      refine Rn.vret (pc := 84) rfl dX12_oneOrNumber_84 ?_
      refine ⟨rfl, ?_⟩; rw [fOne, if_neg c17, if_neg (by simpa using c52)]
    · refine Rn.bipush (pc := 55) (v := nI 8) dX12_oneOrNumber_55 (by decide) ?_
      refine Rn.iload (pc := 57) dX12_oneOrNumber_57 rfl ?_
      refine Rn.imulN (pc := 59) dX12_oneOrNumber_59 ?_
      refine Rn.iload_n (pc := 60) dX12_oneOrNumber_60 rfl rfl ?_
      refine Rn.iaddN (pc := 61) dX12_oneOrNumber_61 ?_
      refine Rn.goto (pc := 62) (tgt := 81) dX12_oneOrNumber_62 (by decide) ?_
      refine Rn.callV (pc := 81) (as := [_]) cvX12_165 ⟨by decide, rfl⟩ ⟨by decide, by decide⟩ dX12_oneOrNumber_81 (Nat.le_of_ble_eq_true rfl) rfl (c_plain G r (pRg L n (skp L n (pWt L n 44 (pRg L n s).2).1, (pWt L n 44 (pRg L n s).2).2)).2 _) ?_
      rintro _ _ ⟨rfl, rfl⟩
      refine Rn.vret (pc := 84) rfl dX12_oneOrNumber_84 ?_
      refine ⟨rfl, ?_⟩; rw [fOne, if_neg c17, if_pos (by simpa using c52)]
  · refine Rn.aload_n (pc := 20) dX12_oneOrNumber_20 rfl rfl ?_
    refine Rn.iload_n (pc := 21) dX12_oneOrNumber_21 rfl rfl ?_
    refine Rn.sipush (pc := 22) (v := nI 256) dX12_oneOrNumber_22 (by decide) ?_
    refine Rn.iload_n (pc := 25) dX12_oneOrNumber_25 rfl rfl ?_
    refine Rn.imulN (pc := 26) dX12_oneOrNumber_26 ?_
    refine Rn.iaddN (pc := 27) dX12_oneOrNumber_27 ?_
    refine Rn.aload_n (pc := 28) dX12_oneOrNumber_28 rfl rfl ?_
    refine Rn.iconst (pc := 29) (v := nI 0) dX12_oneOrNumber_29 (by decide) ?_
    refine Rn.sipush (pc := 30) (v := nI 255) dX12_oneOrNumber_30 (by decide) ?_
    refine Rn.iconst (pc := 33) (v := nI 1) dX12_oneOrNumber_33 (by decide) ?_
    refine Rn.callV (pc := 34) (as := [_, _, _]) cvX12_168 ⟨by decide, rfl⟩ ⟨by decide, by decide⟩ dX12_oneOrNumber_34 (Nat.le_of_ble_eq_true rfl) rfl (c_immediate G (h.st r) (skp L n (pWt L n 44 (pRg L n s).2).1, (pWt L n 44 (pRg L n s).2).2) (skp_le (pWt_le (pRg_le hs) (by decide))) (nI 0) (nI 255) (nI 1) (by decide)) ?_
    rintro _ _ ⟨rfl, rfl⟩
    refine Rn.iadd (pc := 37) dX12_oneOrNumber_37 ?_
    refine Rn.callV (pc := 38) (as := [_]) cvX12_165 ⟨by decide, rfl⟩ ⟨by decide, by decide⟩ dX12_oneOrNumber_38 (Nat.le_of_ble_eq_true rfl) rfl (c_plain G r (pIm L n (nI 0) (nI 255) (nI 1) (skp L n (pWt L n 44 (pRg L n s).2).1, (pWt L n 44 (pRg L n s).2).2)).2 _) ?_
    rintro _ _ ⟨rfl, rfl⟩
    refine Rn.goto (pc := 41) (tgt := 84) dX12_oneOrNumber_41 (by decide) ?_
    refine Rn.vret (pc := 84) rfl dX12_oneOrNumber_84 ?_
    refine ⟨rfl, ?_⟩; rw [fOne, if_pos c17]

