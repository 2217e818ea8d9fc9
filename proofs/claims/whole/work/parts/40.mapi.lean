set_option maxRecDepth 20000 in
set_option maxHeartbeats 4000000 in
theorem c_thrown (G : GX) {M : Mem} : MetM G yX12_thrown iX12_thrown [vR 11 0] M (fun r M' => r = some (vI (mI M 11 0 0)) ∧ M' = M) := by
  refine MetM.of (ls := [some (vR 11 0)]) (by decide) rfl (Nat.le_of_ble_eq_true rfl) rfl ?_
  intro hM0
  refine Rn.aload_n (pc := 0) dX12_thrown_0 rfl rfl ?_
  refine Rn.getI (pc := 1) (t := 0) flX12_72 rfl dX12_thrown_1 ?_
  refine Rn.iret (pc := 4) rfl dX12_thrown_4 ?_
  exact ⟨rfl, rfl⟩

set_option maxRecDepth 20000 in
set_option maxHeartbeats 4000000 in
theorem c_refused (G : GX) {M : Mem} (k : Int32) : MetM G yX12_refused iX12_refused [vR 11 0, vI k] M (fun r M' => r = some (vI (bI (decide (¬ k ≤ 0)))) ∧ M' = sI M 11 0 0 k) := by
  refine MetM.of (ls := [some (vR 11 0), some (vI k)]) (by decide) rfl (Nat.le_of_ble_eq_true rfl) rfl ?_
  intro hM0
  refine Rn.aload_n (pc := 0) dX12_refused_0 rfl rfl ?_
  refine Rn.iload_n (pc := 1) dX12_refused_1 rfl rfl ?_
  refine Rn.putI (pc := 2) (t := 0) flX12_72 rfl rfl dX12_refused_2 ?_
  refine Rn.iload_n (pc := 5) dX12_refused_5 rfl rfl ?_
  refine Rn.if_le (pc := 6) (y := 0) (tgt := 13) dX12_refused_6 (by decide) (fun c6 => ?_) (fun c6 => ?_)
  · refine Rn.iconst (pc := 13) (v := nI 0) dX12_refused_13 (by decide) ?_
    refine Rn.zret (pc := 14) rfl rfl dX12_refused_14 ?_
    refine ⟨?_, rfl⟩; rw [decide_eq_false (fun q => q c6)]; rfl
  · refine Rn.iconst (pc := 9) (v := nI 1) dX12_refused_9 (by decide) ?_
    refine Rn.goto (pc := 10) (tgt := 14) dX12_refused_10 (by decide) ?_
    refine Rn.zret (pc := 14) rfl rfl dX12_refused_14 ?_
    refine ⟨?_, rfl⟩; rw [decide_eq_true c6]; rfl

set_option maxRecDepth 20000 in
set_option maxHeartbeats 4000000 in
theorem c_isIn (G : GX) {M : Mem} (v lo hi : Int32) : MetM G yX12_isIn iX12_isIn [vI v, vI lo, vI hi] M (fun r M' => r = some (vI (bI (decide (¬ v < lo ∧ ¬ hi < v)))) ∧ M' = M) := by
  refine MetM.of (ls := [some (vI v), some (vI lo), some (vI hi)]) (by decide) rfl (Nat.le_of_ble_eq_true rfl) rfl ?_
  intro hM0
  refine Rn.iload_n (pc := 0) dX12_isIn_0 rfl rfl ?_
  refine Rn.iload_n (pc := 1) dX12_isIn_1 rfl rfl ?_
  refine Rn.icmp_lt (pc := 2) (tgt := 14) dX12_isIn_2 (by decide) (fun c2 => ?_) (fun c2 => ?_)
  · refine Rn.iconst (pc := 14) (v := nI 0) dX12_isIn_14 (by decide) ?_
    refine Rn.zret (pc := 15) rfl rfl dX12_isIn_15 ?_
    refine ⟨?_, rfl⟩; rw [decide_eq_false (fun q => q.1 c2)]; rfl
  · refine Rn.iload_n (pc := 5) dX12_isIn_5 rfl rfl ?_
    refine Rn.iload_n (pc := 6) dX12_isIn_6 rfl rfl ?_
    refine Rn.icmp_gt (pc := 7) (tgt := 14) dX12_isIn_7 (by decide) (fun c7 => ?_) (fun c7 => ?_)
    · refine Rn.iconst (pc := 14) (v := nI 0) dX12_isIn_14 (by decide) ?_
      refine Rn.zret (pc := 15) rfl rfl dX12_isIn_15 ?_
      refine ⟨?_, rfl⟩; rw [decide_eq_false (fun q => q.2 c7)]; rfl
    · refine Rn.iconst (pc := 10) (v := nI 1) dX12_isIn_10 (by decide) ?_
      refine Rn.goto (pc := 11) (tgt := 15) dX12_isIn_11 (by decide) ?_
      refine Rn.zret (pc := 15) rfl rfl dX12_isIn_15 ?_
      refine ⟨?_, rfl⟩; rw [decide_eq_true ⟨c2, c7⟩]; rfl

set_option maxRecDepth 20000 in
set_option maxHeartbeats 4000000 in
theorem c_isModule (G : GX) {M : Mem} (v : Int32) : MetM G yX12_isModule iX12_isModule [vI v] M (fun r M' => r = some (vI (bI (decide (¬ v < 0 ∧ ¬ nI 4 ≤ v)))) ∧ M' = M) := by
  refine MetM.of (ls := [some (vI v)]) (by decide) rfl (Nat.le_of_ble_eq_true rfl) rfl ?_
  intro hM0
  refine Rn.iload_n (pc := 0) dX12_isModule_0 rfl rfl ?_
  refine Rn.if_lt (pc := 1) (y := 0) (tgt := 13) dX12_isModule_1 (by decide) (fun c1 => ?_) (fun c1 => ?_)
  · refine Rn.iconst (pc := 13) (v := nI 0) dX12_isModule_13 (by decide) ?_
    refine Rn.zret (pc := 14) rfl rfl dX12_isModule_14 ?_
    refine ⟨?_, rfl⟩; rw [decide_eq_false (fun q => q.1 c1)]; rfl
  · refine Rn.iload_n (pc := 4) dX12_isModule_4 rfl rfl ?_
    refine Rn.iconst (pc := 5) (v := nI 4) dX12_isModule_5 (by decide) ?_
    refine Rn.icmp_ge (pc := 6) (tgt := 13) dX12_isModule_6 (by decide) (fun c6 => ?_) (fun c6 => ?_)
    · refine Rn.iconst (pc := 13) (v := nI 0) dX12_isModule_13 (by decide) ?_
      refine Rn.zret (pc := 14) rfl rfl dX12_isModule_14 ?_
      refine ⟨?_, rfl⟩; rw [decide_eq_false (fun q => q.2 c6)]; rfl
    · refine Rn.iconst (pc := 9) (v := nI 1) dX12_isModule_9 (by decide) ?_
      refine Rn.goto (pc := 10) (tgt := 14) dX12_isModule_10 (by decide) ?_
      refine Rn.zret (pc := 14) rfl rfl dX12_isModule_14 ?_
      refine ⟨?_, rfl⟩; rw [decide_eq_true ⟨c1, c6⟩]; rfl

set_option maxRecDepth 20000 in
set_option maxHeartbeats 4000000 in
theorem c_erase (G : GX) {M : Mem} : MetM G yX12_erase iX12_erase [vR 11 0] M (fun r M' => r = some (vI (mI M 11 0 2)) ∧ M' = sI (sI M 11 0 0 (nI 0)) 11 0 2 (nI 0)) := by
  refine MetM.of (ls := [some (vR 11 0), none]) (by decide) rfl (Nat.le_of_ble_eq_true rfl) rfl ?_
  intro hM0
  refine Rn.aload_n (pc := 0) dX12_erase_0 rfl rfl ?_
  refine Rn.iconst (pc := 1) (v := nI 0) dX12_erase_1 (by decide) ?_
  refine Rn.putI (pc := 2) (t := 0) flX12_72 rfl rfl dX12_erase_2 ?_
  refine Rn.aload_n (pc := 5) dX12_erase_5 rfl rfl ?_
  refine Rn.getI (pc := 6) (t := 0) flX12_76 (show mI (sI M 11 0 0 (nI 0)) 11 0 2 = mI M 11 0 2 from rfl) dX12_erase_6 ?_
  refine Rn.istore_n (pc := 9) dX12_erase_9 rfl (by decide) rfl st2_1 ?_
  refine Rn.aload_n (pc := 10) dX12_erase_10 rfl rfl ?_
  refine Rn.iconst (pc := 11) (v := nI 0) dX12_erase_11 (by decide) ?_
  refine Rn.putI (pc := 12) (t := 0) flX12_76 rfl rfl dX12_erase_12 ?_
  refine Rn.iload_n (pc := 15) dX12_erase_15 rfl rfl ?_
  refine Rn.iret (pc := 16) rfl dX12_erase_16 ?_
  exact ⟨rfl, rfl⟩

theorem in_N {j lo hi : Nat} (h1 : lo ≤ j) (h2 : j ≤ hi) (hj : hi < 2 ^ 31) : decide (¬ nI j < nI lo ∧ ¬ nI hi < nI j) = true := decide_eq_true ⟨nI_nlt h1 (by omega), nI_nlt h2 (by omega)⟩
theorem mod_N {j : Nat} (h : j < 4) : decide (¬ nI j < 0 ∧ ¬ nI 4 ≤ nI j) = true := decide_eq_true ⟨nI_pos (by omega), nI_ge (by omega) (by decide)⟩
theorem ref_0 : decide (¬ nI 0 ≤ (0 : Int32)) = false := by decide
theorem ref_1 : decide (¬ nI 1 ≤ (0 : Int32)) = true := by decide
theorem ref_2 : decide (¬ nI 2 ≤ (0 : Int32)) = true := by decide
set_option maxRecDepth 20000 in
set_option maxHeartbeats 4000000 in
theorem c_octet_in (G : GX) {M : Mem} (j z : Nat) (hz : mI M 11 0 34 = nI z) (hj : j < z) (hz2 : z ≤ 2048) : MetM G yX12_octet iX12_octet [vR 11 0, vI (nI j)] M (fun r M' => r = some (vI (mI M 37 0 j)) ∧ M' = sI M 11 0 0 (nI 0)) := by
  refine MetM.of (ls := [some (vR 11 0), some (vI (nI j))]) (by decide) rfl (Nat.le_of_ble_eq_true rfl) rfl ?_
  intro hM0
  refine Rn.aload_n (pc := 0) dX12_octet_0 rfl rfl ?_
  refine Rn.iconst (pc := 1) (v := nI 0) dX12_octet_1 (by decide) ?_
  refine Rn.putI (pc := 2) (t := 0) flX12_72 rfl rfl dX12_octet_2 ?_
  refine Rn.iload_n (pc := 5) dX12_octet_5 rfl rfl ?_
  refine Rn.iconst (pc := 6) (v := nI 0) dX12_octet_6 (by decide) ?_
  refine Rn.aload_n (pc := 7) dX12_octet_7 rfl rfl ?_
  refine Rn.getI (pc := 8) (t := 0) flX12_393 (show mI (sI M 11 0 0 (nI 0)) 11 0 34 = nI z from hz) dX12_octet_8 ?_
  refine Rn.iconst (pc := 11) (v := nI 1) dX12_octet_11 (by decide) ?_
  refine Rn.isub (pc := 12) dX12_octet_12 ?_
  rw [pk_sub (by omega)]
  refine Rn.callS (pc := 13) (as := [_, _, _]) csX12_415 ⟨by decide, by decide⟩ dX12_octet_13 (Nat.le_of_ble_eq_true rfl) rfl (c_isIn G (nI j) (nI 0) (nI (z - 1))) ?_
  rintro _ _ ⟨rfl, rfl⟩
  rw [in_N (Nat.zero_le _) (by omega) (by omega)]
  refine Rn.if_eqB (pc := 16) (tgt := 28) dX12_octet_16 (by decide) (fun c16 => ?_) (fun c16 => ?_)
  · cases c16
  · refine Rn.aload_n (pc := 19) dX12_octet_19 rfl rfl ?_
    refine Rn.getR (pc := 20) flX12_57 mu11_33 fx11_33 dX12_octet_20 ?_
    refine Rn.iload_n (pc := 23) dX12_octet_23 rfl rfl ?_
    refine Rn.ialdN (pc := 24) ak37 (by omega) (by decide) rfl dX12_octet_24 ?_
    refine Rn.goto (pc := 25) (tgt := 29) dX12_octet_25 (by decide) ?_
    refine Rn.iret (pc := 29) rfl dX12_octet_29 ?_
    exact ⟨rfl, rfl⟩

set_option maxRecDepth 20000 in
set_option maxHeartbeats 4000000 in
theorem c_octet_no (G : GX) {M : Mem} (x : Int32) (hx : decide (¬ x < nI 0 ∧ ¬ mI M 11 0 34 - nI 1 < x) = false) : MetM G yX12_octet iX12_octet [vR 11 0, vI x] M (fun r M' => r = some (vI (-1)) ∧ M' = sI M 11 0 0 (nI 0)) := by
  refine MetM.of (ls := [some (vR 11 0), some (vI x)]) (by decide) rfl (Nat.le_of_ble_eq_true rfl) rfl ?_
  intro hM0
  refine Rn.aload_n (pc := 0) dX12_octet_0 rfl rfl ?_
  refine Rn.iconst (pc := 1) (v := nI 0) dX12_octet_1 (by decide) ?_
  refine Rn.putI (pc := 2) (t := 0) flX12_72 rfl rfl dX12_octet_2 ?_
  refine Rn.iload_n (pc := 5) dX12_octet_5 rfl rfl ?_
  refine Rn.iconst (pc := 6) (v := nI 0) dX12_octet_6 (by decide) ?_
  refine Rn.aload_n (pc := 7) dX12_octet_7 rfl rfl ?_
  refine Rn.getI (pc := 8) (t := 0) flX12_393 (show mI (sI M 11 0 0 (nI 0)) 11 0 34 = mI M 11 0 34 from rfl) dX12_octet_8 ?_
  refine Rn.iconst (pc := 11) (v := nI 1) dX12_octet_11 (by decide) ?_
  refine Rn.isub (pc := 12) dX12_octet_12 ?_
  refine Rn.callS (pc := 13) (as := [_, _, _]) csX12_415 ⟨by decide, by decide⟩ dX12_octet_13 (Nat.le_of_ble_eq_true rfl) rfl (c_isIn G x (nI 0) (mI M 11 0 34 - nI 1)) ?_
  rintro _ _ ⟨rfl, rfl⟩
  rw [hx]
  refine Rn.if_eqB (pc := 16) (tgt := 28) dX12_octet_16 (by decide) (fun c16 => ?_) (fun c16 => ?_)
  · refine Rn.iconst (pc := 28) (v := -1) dX12_octet_28 (by decide) ?_
    refine Rn.iret (pc := 29) rfl dX12_octet_29 ?_
    exact ⟨rfl, rfl⟩
  · cases c16

set_option maxRecDepth 20000 in
set_option maxHeartbeats 4000000 in
theorem c_hex_in (G : GX) {M : Mem} (j z : Nat) (hz : mI M 11 0 37 = nI z) (hj : j < z) (hz2 : z ≤ 6400) (c : Nat) (hc : c < 65536) (hm : mI M 39 0 j = nI c) : MetM G yX12_hex iX12_hex [vR 11 0, vI (nI j)] M (fun r M' => r = some (vI (nI c)) ∧ M' = sI M 11 0 0 (nI 0)) := by
  refine MetM.of (ls := [some (vR 11 0), some (vI (nI j))]) (by decide) rfl (Nat.le_of_ble_eq_true rfl) rfl ?_
  intro hM0
  refine Rn.aload_n (pc := 0) dX12_hex_0 rfl rfl ?_
  refine Rn.iconst (pc := 1) (v := nI 0) dX12_hex_1 (by decide) ?_
  refine Rn.putI (pc := 2) (t := 0) flX12_72 rfl rfl dX12_hex_2 ?_
  refine Rn.iload_n (pc := 5) dX12_hex_5 rfl rfl ?_
  refine Rn.iconst (pc := 6) (v := nI 0) dX12_hex_6 (by decide) ?_
  refine Rn.aload_n (pc := 7) dX12_hex_7 rfl rfl ?_
  refine Rn.getI (pc := 8) (t := 0) flX12_405 (show mI (sI M 11 0 0 (nI 0)) 11 0 37 = nI z from hz) dX12_hex_8 ?_
  refine Rn.iconst (pc := 11) (v := nI 1) dX12_hex_11 (by decide) ?_
  refine Rn.isub (pc := 12) dX12_hex_12 ?_
  rw [pk_sub (by omega)]
  refine Rn.callS (pc := 13) (as := [_, _, _]) csX12_415 ⟨by decide, by decide⟩ dX12_hex_13 (Nat.le_of_ble_eq_true rfl) rfl (c_isIn G (nI j) (nI 0) (nI (z - 1))) ?_
  rintro _ _ ⟨rfl, rfl⟩
  rw [in_N (Nat.zero_le _) (by omega) (by omega)]
  refine Rn.if_eqB (pc := 16) (tgt := 28) dX12_hex_16 (by decide) (fun c16 => ?_) (fun c16 => ?_)
  · cases c16
  · refine Rn.aload_n (pc := 19) dX12_hex_19 rfl rfl ?_
    refine Rn.getR (pc := 20) flX12_63 mu11_36 fx11_36 dX12_hex_20 ?_
    refine Rn.iload_n (pc := 23) dX12_hex_23 rfl rfl ?_
    refine Rn.caldN (pc := 24) ak39 (by omega) (by decide) hm dX12_hex_24 ?_
    refine Rn.goto (pc := 25) (tgt := 30) dX12_hex_25 (by decide) ?_
    refine Rn.zret (pc := 30) rfl (nI_ch hc) dX12_hex_30 ?_
    exact ⟨rfl, rfl⟩

set_option maxRecDepth 20000 in
set_option maxHeartbeats 4000000 in
theorem c_hex_no (G : GX) {M : Mem} (x : Int32) (hx : decide (¬ x < nI 0 ∧ ¬ mI M 11 0 37 - nI 1 < x) = false) : MetM G yX12_hex iX12_hex [vR 11 0, vI x] M (fun r M' => r = some (vI (nI 32)) ∧ M' = sI M 11 0 0 (nI 0)) := by
  refine MetM.of (ls := [some (vR 11 0), some (vI x)]) (by decide) rfl (Nat.le_of_ble_eq_true rfl) rfl ?_
  intro hM0
  refine Rn.aload_n (pc := 0) dX12_hex_0 rfl rfl ?_
  refine Rn.iconst (pc := 1) (v := nI 0) dX12_hex_1 (by decide) ?_
  refine Rn.putI (pc := 2) (t := 0) flX12_72 rfl rfl dX12_hex_2 ?_
  refine Rn.iload_n (pc := 5) dX12_hex_5 rfl rfl ?_
  refine Rn.iconst (pc := 6) (v := nI 0) dX12_hex_6 (by decide) ?_
  refine Rn.aload_n (pc := 7) dX12_hex_7 rfl rfl ?_
  refine Rn.getI (pc := 8) (t := 0) flX12_405 (show mI (sI M 11 0 0 (nI 0)) 11 0 37 = mI M 11 0 37 from rfl) dX12_hex_8 ?_
  refine Rn.iconst (pc := 11) (v := nI 1) dX12_hex_11 (by decide) ?_
  refine Rn.isub (pc := 12) dX12_hex_12 ?_
  refine Rn.callS (pc := 13) (as := [_, _, _]) csX12_415 ⟨by decide, by decide⟩ dX12_hex_13 (Nat.le_of_ble_eq_true rfl) rfl (c_isIn G x (nI 0) (mI M 11 0 37 - nI 1)) ?_
  rintro _ _ ⟨rfl, rfl⟩
  rw [hx]
  refine Rn.if_eqB (pc := 16) (tgt := 28) dX12_hex_16 (by decide) (fun c16 => ?_) (fun c16 => ?_)
  · refine Rn.bipush (pc := 28) (v := nI 32) dX12_hex_28 (by decide) ?_
    refine Rn.zret (pc := 30) rfl rfl dX12_hex_30 ?_
    exact ⟨rfl, rfl⟩
  · cases c16

set_option maxRecDepth 20000 in
set_option maxHeartbeats 4000000 in
theorem c_fault_in (G : GX) {M : Mem} (j : Nat) (hj : j < 3) : MetM G yX12_fault iX12_fault [vR 11 0, vI (nI j)] M (fun r M' => r = some (vI (mI M 38 0 j)) ∧ M' = sI M 11 0 0 (nI 0)) := by
  refine MetM.of (ls := [some (vR 11 0), some (vI (nI j))]) (by decide) rfl (Nat.le_of_ble_eq_true rfl) rfl ?_
  intro hM0
  refine Rn.aload_n (pc := 0) dX12_fault_0 rfl rfl ?_
  refine Rn.iload_n (pc := 1) dX12_fault_1 rfl rfl ?_
  refine Rn.iconst (pc := 2) (v := nI 0) dX12_fault_2 (by decide) ?_
  refine Rn.iconst (pc := 3) (v := nI 2) dX12_fault_3 (by decide) ?_
  refine Rn.callS (pc := 4) (as := [_, _, _]) csX12_415 ⟨by decide, by decide⟩ dX12_fault_4 (Nat.le_of_ble_eq_true rfl) rfl (c_isIn G (nI j) (nI 0) (nI 2)) ?_
  rintro _ M9 ⟨rfl, h9⟩
  rw [h9]
  rw [in_N (Nat.zero_le _) (by omega) (by decide)]
  refine Rn.if_eqB (pc := 7) (tgt := 14) dX12_fault_7 (by decide) (fun c7 => ?_) (fun c7 => ?_)
  · cases c7
  · refine Rn.iconst (pc := 10) (v := nI 0) dX12_fault_10 (by decide) ?_
    refine Rn.goto (pc := 11) (tgt := 15) dX12_fault_11 (by decide) ?_
    refine Rn.callV (pc := 15) (as := [_]) cvX12_83 ⟨by decide, rfl⟩ ⟨by decide, by decide⟩ dX12_fault_15 (Nat.le_of_ble_eq_true rfl) rfl (c_refused G (nI 0)) ?_
    rintro _ _ ⟨rfl, rfl⟩
    rw [ref_0]
    refine Rn.if_eqB (pc := 18) (tgt := 23) dX12_fault_18 (by decide) (fun c18 => ?_) (fun c18 => ?_)
    · refine Rn.aload_n (pc := 23) dX12_fault_23 rfl rfl ?_
      refine Rn.getR (pc := 24) flX12_60 mu11_35 fx11_35 dX12_fault_24 ?_
      refine Rn.iload_n (pc := 27) dX12_fault_27 rfl rfl ?_
      refine Rn.ialdN (pc := 28) ak38 (by omega) (by decide) rfl dX12_fault_28 ?_
      refine Rn.iret (pc := 29) rfl dX12_fault_29 ?_
      exact ⟨rfl, rfl⟩
    · cases c18

set_option maxRecDepth 20000 in
set_option maxHeartbeats 4000000 in
theorem c_fault_no (G : GX) {M : Mem} (x : Int32) (hx : decide (¬ x < nI 0 ∧ ¬ nI 2 < x) = false) : MetM G yX12_fault iX12_fault [vR 11 0, vI x] M (fun r M' => r = some (vI (nI 0)) ∧ M' = sI M 11 0 0 (nI 1)) := by
  refine MetM.of (ls := [some (vR 11 0), some (vI x)]) (by decide) rfl (Nat.le_of_ble_eq_true rfl) rfl ?_
  intro hM0
  refine Rn.aload_n (pc := 0) dX12_fault_0 rfl rfl ?_
  refine Rn.iload_n (pc := 1) dX12_fault_1 rfl rfl ?_
  refine Rn.iconst (pc := 2) (v := nI 0) dX12_fault_2 (by decide) ?_
  refine Rn.iconst (pc := 3) (v := nI 2) dX12_fault_3 (by decide) ?_
  refine Rn.callS (pc := 4) (as := [_, _, _]) csX12_415 ⟨by decide, by decide⟩ dX12_fault_4 (Nat.le_of_ble_eq_true rfl) rfl (c_isIn G x (nI 0) (nI 2)) ?_
  rintro _ M9 ⟨rfl, h9⟩
  rw [h9]
  rw [hx]
  refine Rn.if_eqB (pc := 7) (tgt := 14) dX12_fault_7 (by decide) (fun c7 => ?_) (fun c7 => ?_)
  · refine Rn.iconst (pc := 14) (v := nI 1) dX12_fault_14 (by decide) ?_
    refine Rn.callV (pc := 15) (as := [_]) cvX12_83 ⟨by decide, rfl⟩ ⟨by decide, by decide⟩ dX12_fault_15 (Nat.le_of_ble_eq_true rfl) rfl (c_refused G (nI 1)) ?_
    rintro _ _ ⟨rfl, rfl⟩
    rw [ref_1]
    refine Rn.if_eqB (pc := 18) (tgt := 23) dX12_fault_18 (by decide) (fun c18 => ?_) (fun c18 => ?_)
    · cases c18
    · refine Rn.iconst (pc := 21) (v := nI 0) dX12_fault_21 (by decide) ?_
      refine Rn.iret (pc := 22) rfl dX12_fault_22 ?_
      exact ⟨rfl, rfl⟩
  · cases c7

set_option maxRecDepth 20000 in
set_option maxHeartbeats 4000000 in
theorem c_size_in (G : GX) {M : Mem} (m j : Nat) (hm : m < 4) (hj : j < 3) : MetM G yX12_size iX12_size [vR 11 0, vI (nI m), vI (nI j)] M (fun r M' => r = some (vI (mI M 35 0 (3 * m + j))) ∧ M' = sI M 11 0 0 (nI 0)) := by
  refine MetM.of (ls := [some (vR 11 0), some (vI (nI m)), some (vI (nI j))]) (by decide) rfl (Nat.le_of_ble_eq_true rfl) rfl ?_
  intro hM0
  refine Rn.aload_n (pc := 0) dX12_size_0 rfl rfl ?_
  refine Rn.iload_n (pc := 1) dX12_size_1 rfl rfl ?_
  refine Rn.callS (pc := 2) (as := [_]) csX12_87 ⟨by decide, by decide⟩ dX12_size_2 (Nat.le_of_ble_eq_true rfl) rfl (c_isModule G (nI m)) ?_
  rintro _ M9 ⟨rfl, h9⟩
  rw [h9]
  rw [mod_N hm]
  refine Rn.if_eqB (pc := 5) (tgt := 21) dX12_size_5 (by decide) (fun c5 => ?_) (fun c5 => ?_)
  · cases c5
  · refine Rn.iload_n (pc := 8) dX12_size_8 rfl rfl ?_
    refine Rn.iconst (pc := 9) (v := nI 0) dX12_size_9 (by decide) ?_
    refine Rn.iconst (pc := 10) (v := nI 2) dX12_size_10 (by decide) ?_
    refine Rn.callS (pc := 11) (as := [_, _, _]) csX12_415 ⟨by decide, by decide⟩ dX12_size_11 (Nat.le_of_ble_eq_true rfl) rfl (c_isIn G (nI j) (nI 0) (nI 2)) ?_
    rintro _ M9 ⟨rfl, h9⟩
    rw [h9]
    rw [in_N (Nat.zero_le _) (by omega) (by decide)]
    refine Rn.if_eqB (pc := 14) (tgt := 21) dX12_size_14 (by decide) (fun c14 => ?_) (fun c14 => ?_)
    · cases c14
    · refine Rn.iconst (pc := 17) (v := nI 0) dX12_size_17 (by decide) ?_
      refine Rn.goto (pc := 18) (tgt := 22) dX12_size_18 (by decide) ?_
      refine Rn.callV (pc := 22) (as := [_]) cvX12_83 ⟨by decide, rfl⟩ ⟨by decide, by decide⟩ dX12_size_22 (Nat.le_of_ble_eq_true rfl) rfl (c_refused G (nI 0)) ?_
      rintro _ _ ⟨rfl, rfl⟩
      rw [ref_0]
      refine Rn.if_eqB (pc := 25) (tgt := 30) dX12_size_25 (by decide) (fun c25 => ?_) (fun c25 => ?_)
      · refine Rn.aload_n (pc := 30) dX12_size_30 rfl rfl ?_
        refine Rn.getR (pc := 31) flX12_51 mu11_31 fx11_31 dX12_size_31 ?_
        refine Rn.iconst (pc := 34) (v := nI 3) dX12_size_34 (by decide) ?_
        refine Rn.iload_n (pc := 35) dX12_size_35 rfl rfl ?_
        refine Rn.imulN (pc := 36) dX12_size_36 ?_
        refine Rn.iload_n (pc := 37) dX12_size_37 rfl rfl ?_
        refine Rn.iaddN (pc := 38) dX12_size_38 ?_
        refine Rn.ialdN (pc := 39) ak35 (by omega) (by decide) rfl dX12_size_39 ?_
        refine Rn.iret (pc := 40) rfl dX12_size_40 ?_
        exact ⟨rfl, rfl⟩
      · cases c25

set_option maxRecDepth 20000 in
set_option maxHeartbeats 4000000 in
theorem c_size_no1 (G : GX) {M : Mem} (x y : Int32) (hx : decide (¬ x < 0 ∧ ¬ nI 4 ≤ x) = false) : MetM G yX12_size iX12_size [vR 11 0, vI x, vI y] M (fun r M' => r = some (vI (nI 0)) ∧ M' = sI M 11 0 0 (nI 1)) := by
  refine MetM.of (ls := [some (vR 11 0), some (vI x), some (vI y)]) (by decide) rfl (Nat.le_of_ble_eq_true rfl) rfl ?_
  intro hM0
  refine Rn.aload_n (pc := 0) dX12_size_0 rfl rfl ?_
  refine Rn.iload_n (pc := 1) dX12_size_1 rfl rfl ?_
  refine Rn.callS (pc := 2) (as := [_]) csX12_87 ⟨by decide, by decide⟩ dX12_size_2 (Nat.le_of_ble_eq_true rfl) rfl (c_isModule G x) ?_
  rintro _ M9 ⟨rfl, h9⟩
  rw [h9]
  rw [hx]
  refine Rn.if_eqB (pc := 5) (tgt := 21) dX12_size_5 (by decide) (fun c5 => ?_) (fun c5 => ?_)
  · refine Rn.iconst (pc := 21) (v := nI 1) dX12_size_21 (by decide) ?_
    refine Rn.callV (pc := 22) (as := [_]) cvX12_83 ⟨by decide, rfl⟩ ⟨by decide, by decide⟩ dX12_size_22 (Nat.le_of_ble_eq_true rfl) rfl (c_refused G (nI 1)) ?_
    rintro _ _ ⟨rfl, rfl⟩
    rw [ref_1]
    refine Rn.if_eqB (pc := 25) (tgt := 30) dX12_size_25 (by decide) (fun c25 => ?_) (fun c25 => ?_)
    · cases c25
    · refine Rn.iconst (pc := 28) (v := nI 0) dX12_size_28 (by decide) ?_
      refine Rn.iret (pc := 29) rfl dX12_size_29 ?_
      exact ⟨rfl, rfl⟩
  · cases c5

set_option maxRecDepth 20000 in
set_option maxHeartbeats 4000000 in
theorem c_size_no2 (G : GX) {M : Mem} (m : Nat) (y : Int32) (hm : m < 4) (hy : decide (¬ y < nI 0 ∧ ¬ nI 2 < y) = false) : MetM G yX12_size iX12_size [vR 11 0, vI (nI m), vI y] M (fun r M' => r = some (vI (nI 0)) ∧ M' = sI M 11 0 0 (nI 1)) := by
  refine MetM.of (ls := [some (vR 11 0), some (vI (nI m)), some (vI y)]) (by decide) rfl (Nat.le_of_ble_eq_true rfl) rfl ?_
  intro hM0
  refine Rn.aload_n (pc := 0) dX12_size_0 rfl rfl ?_
  refine Rn.iload_n (pc := 1) dX12_size_1 rfl rfl ?_
  refine Rn.callS (pc := 2) (as := [_]) csX12_87 ⟨by decide, by decide⟩ dX12_size_2 (Nat.le_of_ble_eq_true rfl) rfl (c_isModule G (nI m)) ?_
  rintro _ M9 ⟨rfl, h9⟩
  rw [h9]
  rw [mod_N hm]
  refine Rn.if_eqB (pc := 5) (tgt := 21) dX12_size_5 (by decide) (fun c5 => ?_) (fun c5 => ?_)
  · cases c5
  · refine Rn.iload_n (pc := 8) dX12_size_8 rfl rfl ?_
    refine Rn.iconst (pc := 9) (v := nI 0) dX12_size_9 (by decide) ?_
    refine Rn.iconst (pc := 10) (v := nI 2) dX12_size_10 (by decide) ?_
    refine Rn.callS (pc := 11) (as := [_, _, _]) csX12_415 ⟨by decide, by decide⟩ dX12_size_11 (Nat.le_of_ble_eq_true rfl) rfl (c_isIn G y (nI 0) (nI 2)) ?_
    rintro _ M9 ⟨rfl, h9⟩
    rw [h9]
    rw [hy]
    refine Rn.if_eqB (pc := 14) (tgt := 21) dX12_size_14 (by decide) (fun c14 => ?_) (fun c14 => ?_)
    · refine Rn.iconst (pc := 21) (v := nI 1) dX12_size_21 (by decide) ?_
      refine Rn.callV (pc := 22) (as := [_]) cvX12_83 ⟨by decide, rfl⟩ ⟨by decide, by decide⟩ dX12_size_22 (Nat.le_of_ble_eq_true rfl) rfl (c_refused G (nI 1)) ?_
      rintro _ _ ⟨rfl, rfl⟩
      rw [ref_1]
      refine Rn.if_eqB (pc := 25) (tgt := 30) dX12_size_25 (by decide) (fun c25 => ?_) (fun c25 => ?_)
      · cases c25
      · refine Rn.iconst (pc := 28) (v := nI 0) dX12_size_28 (by decide) ?_
        refine Rn.iret (pc := 29) rfl dX12_size_29 ?_
        exact ⟨rfl, rfl⟩
    · cases c14

set_option maxRecDepth 20000 in
set_option maxHeartbeats 4000000 in
theorem c_drop_in (G : GX) {M : Mem} (m : Nat) (hm : m < 4) : MetM G yX12_drop iX12_drop [vR 11 0, vI (nI m)] M (fun r M' => r = some (vI (mI M 23 0 m)) ∧ M' = sI (sI M 11 0 0 (nI 0)) 23 0 m (nI 0)) := by
  refine MetM.of (ls := [some (vR 11 0), some (vI (nI m)), none]) (by decide) rfl (Nat.le_of_ble_eq_true rfl) rfl ?_
  intro hM0
  refine Rn.aload_n (pc := 0) dX12_drop_0 rfl rfl ?_
  refine Rn.iload_n (pc := 1) dX12_drop_1 rfl rfl ?_
  refine Rn.callS (pc := 2) (as := [_]) csX12_87 ⟨by decide, by decide⟩ dX12_drop_2 (Nat.le_of_ble_eq_true rfl) rfl (c_isModule G (nI m)) ?_
  rintro _ M9 ⟨rfl, h9⟩
  rw [h9]
  rw [mod_N hm]
  refine Rn.if_eqB (pc := 5) (tgt := 12) dX12_drop_5 (by decide) (fun c5 => ?_) (fun c5 => ?_)
  · cases c5
  · refine Rn.iconst (pc := 8) (v := nI 0) dX12_drop_8 (by decide) ?_
    refine Rn.goto (pc := 9) (tgt := 13) dX12_drop_9 (by decide) ?_
    refine Rn.callV (pc := 13) (as := [_]) cvX12_83 ⟨by decide, rfl⟩ ⟨by decide, by decide⟩ dX12_drop_13 (Nat.le_of_ble_eq_true rfl) rfl (c_refused G (nI 0)) ?_
    rintro _ _ ⟨rfl, rfl⟩
    rw [ref_0]
    refine Rn.if_eqB (pc := 16) (tgt := 21) dX12_drop_16 (by decide) (fun c16 => ?_) (fun c16 => ?_)
    · refine Rn.aload_n (pc := 21) dX12_drop_21 rfl rfl ?_
      refine Rn.getR (pc := 22) flX12_13 mu11_3 fx11_3 dX12_drop_22 ?_
      refine Rn.iload_n (pc := 25) dX12_drop_25 rfl rfl ?_
      refine Rn.ialdN (pc := 26) ak23 (by omega) (by decide) (show mI (sI M 11 0 0 (nI 0)) 23 0 m = mI M 23 0 m from rfl) dX12_drop_26 ?_
      refine Rn.istore_n (pc := 27) dX12_drop_27 rfl (by decide) rfl st3_2 ?_
      refine Rn.aload_n (pc := 28) dX12_drop_28 rfl rfl ?_
      refine Rn.getR (pc := 29) flX12_13 mu11_3 fx11_3 dX12_drop_29 ?_
      refine Rn.iload_n (pc := 32) dX12_drop_32 rfl rfl ?_
      refine Rn.iconst (pc := 33) (v := nI 0) dX12_drop_33 (by decide) ?_
      refine Rn.iastN (pc := 34) ak23 (by omega) (by decide) dX12_drop_34 ?_
      refine Rn.iload_n (pc := 35) dX12_drop_35 rfl rfl ?_
      refine Rn.iret (pc := 36) rfl dX12_drop_36 ?_
      exact ⟨rfl, rfl⟩
    · cases c16

set_option maxRecDepth 20000 in
set_option maxHeartbeats 4000000 in
theorem c_drop_no (G : GX) {M : Mem} (x : Int32) (hx : decide (¬ x < 0 ∧ ¬ nI 4 ≤ x) = false) : MetM G yX12_drop iX12_drop [vR 11 0, vI x] M (fun r M' => r = some (vI (nI 0)) ∧ M' = sI M 11 0 0 (nI 1)) := by
  refine MetM.of (ls := [some (vR 11 0), some (vI x), none]) (by decide) rfl (Nat.le_of_ble_eq_true rfl) rfl ?_
  intro hM0
  refine Rn.aload_n (pc := 0) dX12_drop_0 rfl rfl ?_
  refine Rn.iload_n (pc := 1) dX12_drop_1 rfl rfl ?_
  refine Rn.callS (pc := 2) (as := [_]) csX12_87 ⟨by decide, by decide⟩ dX12_drop_2 (Nat.le_of_ble_eq_true rfl) rfl (c_isModule G x) ?_
  rintro _ M9 ⟨rfl, h9⟩
  rw [h9]
  rw [hx]
  refine Rn.if_eqB (pc := 5) (tgt := 12) dX12_drop_5 (by decide) (fun c5 => ?_) (fun c5 => ?_)
  · refine Rn.iconst (pc := 12) (v := nI 1) dX12_drop_12 (by decide) ?_
    refine Rn.callV (pc := 13) (as := [_]) cvX12_83 ⟨by decide, rfl⟩ ⟨by decide, by decide⟩ dX12_drop_13 (Nat.le_of_ble_eq_true rfl) rfl (c_refused G (nI 1)) ?_
    rintro _ _ ⟨rfl, rfl⟩
    rw [ref_1]
    refine Rn.if_eqB (pc := 16) (tgt := 21) dX12_drop_16 (by decide) (fun c16 => ?_) (fun c16 => ?_)
    · cases c16
    · refine Rn.iconst (pc := 19) (v := nI 0) dX12_drop_19 (by decide) ?_
      refine Rn.iret (pc := 20) rfl dX12_drop_20 ?_
      exact ⟨rfl, rfl⟩
  · cases c5

