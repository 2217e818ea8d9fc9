abbrev PS : Type := Nat × Int32 × Int32
def wS (o : Nat) (M : Mem) (s : PS) : Mem := wP o M s.1 s.2.1 s.2.2
theorem wS_at {o : Nat} {M : Mem} {s : PS} : mI (wS o M s) 11 0 7 = nI (o + s.1) := rfl
theorem wS_f {o : Nat} {M : Mem} {s : PS} : mI (wS o M s) 11 0 9 = s.2.1 := rfl
theorem wS_end {o n : Nat} {L : Nat → Nat} {M : Mem} (h : LnOK o n L M) {s : PS} : mI (wS o M s) 11 0 8 = nI (o + n) := h.1
theorem wS_ln {o : Nat} {M : Mem} {s : PS} {x : Int32} (h : mI M 11 0 6 = x) : mI (wS o M s) 11 0 6 = x := h
theorem wS_tx {o n : Nat} {L : Nat → Nat} {M : Mem} (h : LnOK o n L M) {s : PS} (i : Nat) (hi : i < n) : mI (wS o M s) 25 0 (o + i) = nI (L i) := h.2.2.2.1 i hi
theorem wS_s7 {o : Nat} {M : Mem} {s : PS} {b : Nat} : sI (wS o M s) 11 0 7 (nI (o + b)) = wS o M (b, s.2) := wP_s7
theorem wS_s9 {o : Nat} {M : Mem} {s : PS} {g : Int32} : sI (wS o M s) 11 0 9 g = wS o M (s.1, g, s.2.2) := wP_s9
theorem wS_s10 {o : Nat} {M : Mem} {s : PS} {g : Int32} : sI (wS o M s) 11 0 10 g = wS o M (s.1, s.2.1, g) := wP_s10
theorem wS_oth {o : Nat} {M : Mem} {s : PS} {q : Nat} {g : Int32} (h7 : q ≠ 7) (h9 : q ≠ 9) (h10 : q ≠ 10) : sI (wS o M s) 11 0 q g = wS o (sI M 11 0 q g) s := by
  unfold wS wP
  rw [sI_comm (fun e => h10 e.2.2.symm), sI_comm (k := 11) (j := 0) (s := 9) (fun e => h9 e.2.2.symm), sI_comm (k := 11) (j := 0) (s := 7) (fun e => h7 e.2.2.symm)]
def pWrong (s : PS) (k : Int32) (p : Nat) : PS := if s.2.1 = 0 then (s.1, k, nI p) else s
def pTk (L : Nat → Nat) (n c : Nat) (s : PS) : Bool × PS := if s.2.1 = 0 then (if chA L n (skp L n s.1) = c then (true, skp L n s.1 + 1, s.2) else (false, skp L n s.1, s.2)) else (false, s)
def pWt (L : Nat → Nat) (n c : Nat) (s : PS) : PS := if (pTk L n c s).1 then (pTk L n c s).2 else pWrong (pTk L n c s).2 (-3) (pTk L n c s).2.1
theorem skp_le {L : Nat → Nat} {n a : Nat} (h : a ≤ n) : skp L n a ≤ n := run_le h
theorem skp_ge {L : Nat → Nat} {n a : Nat} (h : a ≤ n) : a ≤ skp L n a := run_ge h
theorem chA_pos {L : Nat → Nat} {n a c : Nat} (h : chA L n a = c) (hc : 0 < c) : a < n := by
  unfold chA at h
  split at h
  · assumption
  · omega
theorem chA_lt {o n : Nat} {L : Nat → Nat} {M : Mem} (h : LnOK o n L M) (a : Nat) : chA L n a < 256 := by
  unfold chA
  split
  · exact (h.2.2.2.2.1 a (by assumption)).2
  · decide
theorem pTk_le {L : Nat → Nat} {n c : Nat} {s : PS} (h : s.1 ≤ n) (hc : 0 < c) : (pTk L n c s).2.1 ≤ n := by
  unfold pTk
  split
  · split
    · rename_i h2; exact chA_pos h2 hc
    · exact skp_le h
  · exact h
theorem pWrong_1 {s : PS} {k : Int32} {p : Nat} : (pWrong s k p).1 = s.1 := by unfold pWrong; split <;> rfl
theorem pWt_le {L : Nat → Nat} {n c : Nat} {s : PS} (h : s.1 ≤ n) (hc : 0 < c) : (pWt L n c s).1 ≤ n := by
  unfold pWt
  split
  · exact pTk_le h hc
  · rw [pWrong_1]; exact pTk_le h hc
theorem wS_ext {o : Nat} {M M1 : Mem} {s s1 : PS} (h : M = wS o M1 s) (e : s = s1) : M = wS o M1 s1 := e ▸ h
set_option maxRecDepth 20000 in
set_option maxHeartbeats 4000000 in
theorem c_wrong (G : GX) {o n : Nat} {L : Nat → Nat} {M : Mem} (h : LnOK o n L M) (s : PS) (k : Int32) (p : Nat) (hp : p ≤ n) : MetM G yX12_wrong iX12_wrong [vR 11 0, vI k, vI (nI (o + p))] (wS o M s) (fun r M' => r = none ∧ M' = wS o M (pWrong s k p)) := by
  refine MetM.of (ls := [some (vR 11 0), some (vI k), some (vI (nI (o + p)))]) (by decide) rfl (Nat.le_of_ble_eq_true rfl) rfl ?_
  intro hM0
  have hq1 := h.2.1
  have hq2 := h.2.2.1
  obtain ⟨l, hl1, hl2⟩ := h.2.2.2.2.2
  refine Rn.aload_n (pc := 0) dX12_wrong_0 rfl rfl ?_
  refine Rn.getI (pc := 1) (t := 0) flX12_100 wS_f dX12_wrong_1 ?_
  refine Rn.if_ne (pc := 4) (y := 0) (tgt := 25) dX12_wrong_4 (by decide) (fun c4 => ?_) (fun c4 => ?_)
  · refine Rn.vret (pc := 25) rfl dX12_wrong_25 ?_
    refine ⟨rfl, ?_⟩; simp [pWrong, *]
  · refine Rn.aload_n (pc := 7) dX12_wrong_7 rfl rfl ?_
    refine Rn.iload_n (pc := 8) dX12_wrong_8 rfl rfl ?_
    refine Rn.putI (pc := 9) (t := 0) flX12_100 rfl rfl dX12_wrong_9 ?_
    rw [wS_s9]
    refine Rn.aload_n (pc := 12) dX12_wrong_12 rfl rfl ?_
    refine Rn.iload_n (pc := 13) dX12_wrong_13 rfl rfl ?_
    refine Rn.bipush (pc := 14) (v := nI 48) dX12_wrong_14 (by decide) ?_
    refine Rn.aload_n (pc := 16) dX12_wrong_16 rfl rfl ?_
    refine Rn.getI (pc := 17) (t := 0) flX12_103 (wS_ln hl2) dX12_wrong_17 ?_
    refine Rn.imulN (pc := 20) dX12_wrong_20 ?_
    refine Rn.isub (pc := 21) dX12_wrong_21 ?_
    rw [show nI (o + p) - nI (48 * l) = nI p by rw [pk_sub (by omega)]; congr 1; omega]
    refine Rn.putI (pc := 22) (t := 0) flX12_106 rfl rfl dX12_wrong_22 ?_
    rw [wS_s10]
    refine Rn.vret (pc := 25) rfl dX12_wrong_25 ?_
    refine ⟨rfl, ?_⟩; simp [pWrong, *]

set_option maxRecDepth 20000 in
set_option maxHeartbeats 4000000 in
theorem c_takes (G : GX) {o n : Nat} {L : Nat → Nat} {M : Mem} (h : LnOK o n L M) (s : PS) (hs : s.1 ≤ n) (c : Nat) (hc : 0 < c) (hc2 : c < 2 ^ 31) : MetM G yX12_takes iX12_takes [vR 11 0, vI (nI c)] (wS o M s) (fun r M' => r = some (vI (bI (pTk L n c s).1)) ∧ M' = wS o M (pTk L n c s).2) := by
  refine MetM.of (ls := [some (vR 11 0), some (vI (nI c))]) (by decide) rfl (Nat.le_of_ble_eq_true rfl) rfl ?_
  intro hM0
  have hq1 := h.2.1
  have hq2 := h.2.2.1
  refine Rn.aload_n (pc := 0) dX12_takes_0 rfl rfl ?_
  refine Rn.getI (pc := 1) (t := 0) flX12_100 wS_f dX12_takes_1 ?_
  refine Rn.if_ne (pc := 4) (y := 0) (tgt := 15) dX12_takes_4 (by decide) (fun c4 => ?_) (fun c4 => ?_)
  · refine Rn.iconst (pc := 15) (v := nI 0) dX12_takes_15 (by decide) ?_
    refine Rn.zret (pc := 16) rfl rfl dX12_takes_16 ?_
    simp only [pTk]; simp [*, wS, bI]
  · refine Rn.aload_n (pc := 7) dX12_takes_7 rfl rfl ?_
    refine Rn.callV (pc := 8) (as := []) cvX12_116 ⟨by decide, rfl⟩ ⟨by decide, by decide⟩ dX12_takes_8 (Nat.le_of_ble_eq_true rfl) rfl (c_next G h s.1 hs s.2.1 s.2.2) ?_
    rintro _ _ ⟨rfl, rfl⟩
    refine Rn.iload_n (pc := 11) dX12_takes_11 rfl rfl ?_
    refine Rn.icmp_eqN (pc := 12) (tgt := 17) dX12_takes_12 (by decide) (by have := chA_lt h (skp L n s.1); omega) hc2 (fun c12 => ?_) (fun c12 => ?_)
    · have hlt := chA_pos c12 hc
      refine Rn.aload_n (pc := 17) dX12_takes_17 rfl rfl ?_
      refine Rn.dupR (pc := 18) (x := 0) (y := 0) dX12_takes_18 ?_
      refine Rn.getI (pc := 19) (t := 0) flX12_94 wP_at dX12_takes_19 ?_
      refine Rn.iconst (pc := 22) (v := nI 1) dX12_takes_22 (by decide) ?_
      refine Rn.iaddN (pc := 23) dX12_takes_23 ?_
      refine Rn.putI (pc := 24) (t := 0) flX12_94 rfl rfl dX12_takes_24 ?_
      rw [show sI (wP o M (skp L n s.1) s.2.1 s.2.2) 11 0 7 (nI (o + skp L n s.1 + 1)) = wS o M (skp L n s.1 + 1, s.2) from wP_s7 (b := skp L n s.1 + 1)]
      refine Rn.iconst (pc := 27) (v := nI 1) dX12_takes_27 (by decide) ?_
      refine Rn.zret (pc := 28) rfl rfl dX12_takes_28 ?_
      simp only [pTk]; simp [*, wS, bI]
    · refine Rn.iconst (pc := 15) (v := nI 0) dX12_takes_15 (by decide) ?_
      refine Rn.zret (pc := 16) rfl rfl dX12_takes_16 ?_
      simp only [pTk]; simp [*, wS, bI]

set_option maxRecDepth 20000 in
set_option maxHeartbeats 4000000 in
theorem c_want (G : GX) {o n : Nat} {L : Nat → Nat} {M : Mem} (h : LnOK o n L M) (s : PS) (hs : s.1 ≤ n) (c : Nat) (hc : 0 < c) (hc2 : c < 2 ^ 31) : MetM G yX12_want iX12_want [vR 11 0, vI (nI c)] (wS o M s) (fun r M' => r = none ∧ M' = wS o M (pWt L n c s)) := by
  refine MetM.of (ls := [some (vR 11 0), some (vI (nI c))]) (by decide) rfl (Nat.le_of_ble_eq_true rfl) rfl ?_
  intro hM0
  have hq1 := h.2.1
  have hq2 := h.2.2.1
  refine Rn.aload_n (pc := 0) dX12_want_0 rfl rfl ?_
  refine Rn.iload_n (pc := 1) dX12_want_1 rfl rfl ?_
  refine Rn.callV (pc := 2) (as := [_]) cvX12_120 ⟨by decide, rfl⟩ ⟨by decide, by decide⟩ dX12_want_2 (Nat.le_of_ble_eq_true rfl) rfl (c_takes G h s hs c hc hc2) ?_
  rintro _ _ ⟨rfl, rfl⟩
  refine Rn.if_neB (pc := 5) (tgt := 18) dX12_want_5 (by decide) (fun c5 => ?_) (fun c5 => ?_)
  · refine Rn.vret (pc := 18) rfl dX12_want_18 ?_
    refine ⟨rfl, ?_⟩; simp [pWt, *]
  · refine Rn.aload_n (pc := 8) dX12_want_8 rfl rfl ?_
    refine Rn.bipush (pc := 9) (v := -3) dX12_want_9 (by decide) ?_
    refine Rn.aload_n (pc := 11) dX12_want_11 rfl rfl ?_
    refine Rn.getI (pc := 12) (t := 0) flX12_94 wS_at dX12_want_12 ?_
    refine Rn.callV (pc := 15) (as := [_, _]) cvX12_123 ⟨by decide, rfl⟩ ⟨by decide, by decide⟩ dX12_want_15 (Nat.le_of_ble_eq_true rfl) rfl (c_wrong G h (pTk L n c s).2 (-3) (pTk L n c s).2.1 (pTk_le hs hc)) ?_
    rintro _ _ ⟨rfl, rfl⟩
    refine Rn.vret (pc := 18) rfl dX12_want_18 ?_
    refine ⟨rfl, ?_⟩; simp [pWt, *]

set_option maxRecDepth 20000 in
set_option maxHeartbeats 4000000 in
theorem c_wordEnd (G : GX) {o n : Nat} {L : Nat → Nat} {M : Mem} (h : LnOK o n L M) (s : PS) (hs : s.1 ≤ n) : MetM G yX12_wordEnd iX12_wordEnd [vR 11 0] (wS o M s) (fun r M' => r = some (vI (nI (o + wEnd L n (skp L n s.1)))) ∧ M' = wS o M (skp L n s.1, s.2)) := by
  refine MetM.of (ls := [some (vR 11 0), none]) (by decide) rfl (Nat.le_of_ble_eq_true rfl) rfl ?_
  intro hM0
  have hq1 := h.2.1
  have hq2 := h.2.2.1
  have hk1 := skp_le (L := L) hs
  have loopA : ∀ (d k : Nat), k ≤ n → n - k = d → wEnd L n (skp L n s.1) = run isLow L n k → Rn G iX12_wordEnd (fun r M' => r = some (vI (nI (o + wEnd L n (skp L n s.1)))) ∧ M' = wS o M (skp L n s.1, s.2)) 32 [some (vR 11 0), some (vI (nI (o + k)))] [] (wS o M (skp L n s.1, s.2)) := by
    intro d
    induction d using Nat.strongRecOn with
    | ind d ih =>
      intro k hk hd hw
      refine Rn.iload_n (pc := 32) dX12_wordEnd_32 rfl rfl ?_
      refine Rn.aload_n (pc := 33) dX12_wordEnd_33 rfl rfl ?_
      refine Rn.getI (pc := 34) (t := 0) flX12_97 (wS_end h) dX12_wordEnd_34 ?_
      refine Rn.icmp_geN (pc := 37) (tgt := 58) dX12_wordEnd_37 (by decide) (by omega) (by omega) (fun c37 => ?_) (fun c37 => ?_)
      · refine Rn.iload_n (pc := 58) dX12_wordEnd_58 rfl rfl ?_
        refine Rn.iret (pc := 59) rfl dX12_wordEnd_59 ?_
        refine ⟨?_, rfl⟩; rw [hw]; congr 3; first | rw [run_end (by omega)] | rw [run_no (by omega) c49]
      · refine Rn.aload_n (pc := 40) dX12_wordEnd_40 rfl rfl ?_
        refine Rn.getR (pc := 41) flX12_20 mu11_5 fx11_5 dX12_wordEnd_41 ?_
        refine Rn.iload_n (pc := 44) dX12_wordEnd_44 rfl rfl ?_
        refine Rn.caldN (pc := 45) ak25 (by omega) (by decide) (wS_tx h k (by omega)) dX12_wordEnd_45 ?_
        refine Rn.callS (pc := 46) (as := [_]) csX12_109 ⟨by decide, by decide⟩ dX12_wordEnd_46 (Nat.le_of_ble_eq_true rfl) rfl (c_isSmall G (L k) (by have := h.2.2.2.2.1 k (by omega); omega)) ?_
        rintro _ _ ⟨rfl, rfl⟩
        refine Rn.if_eqB (pc := 49) (tgt := 58) dX12_wordEnd_49 (by decide) (fun c49 => ?_) (fun c49 => ?_)
        · refine Rn.iload_n (pc := 58) dX12_wordEnd_58 rfl rfl ?_
          refine Rn.iret (pc := 59) rfl dX12_wordEnd_59 ?_
          refine ⟨?_, rfl⟩; rw [hw]; congr 3; first | rw [run_end (by omega)] | rw [run_no (by omega) c49]
        · refine Rn.iincN (pc := 52) (n := 1) dX12_wordEnd_52 rfl (by decide) (by decide) rfl st2_1 ?_
          refine Rn.goto (pc := 55) (tgt := 32) dX12_wordEnd_55 (by decide) ?_
          rw [run_yes (by omega) c49] at hw
          exact ih (n - (k + 1)) (by omega) (k + 1) (by omega) rfl hw
  have loopB : ∀ (d k : Nat), k ≤ n → n - k = d → wEnd L n (skp L n s.1) = run isWs L n k → Rn G iX12_wordEnd (fun r M' => r = some (vI (nI (o + wEnd L n (skp L n s.1)))) ∧ M' = wS o M (skp L n s.1, s.2)) 60 [some (vR 11 0), some (vI (nI (o + k)))] [] (wS o M (skp L n s.1, s.2)) := by
    intro d
    induction d using Nat.strongRecOn with
    | ind d ih =>
      intro k hk hd hw
      refine Rn.iload_n (pc := 60) dX12_wordEnd_60 rfl rfl ?_
      refine Rn.aload_n (pc := 61) dX12_wordEnd_61 rfl rfl ?_
      refine Rn.getI (pc := 62) (t := 0) flX12_97 (wS_end h) dX12_wordEnd_62 ?_
      refine Rn.icmp_geN (pc := 65) (tgt := 86) dX12_wordEnd_65 (by decide) (by omega) (by omega) (fun c65 => ?_) (fun c65 => ?_)
      · refine Rn.iload_n (pc := 86) dX12_wordEnd_86 rfl rfl ?_
        refine Rn.iret (pc := 87) rfl dX12_wordEnd_87 ?_
        refine ⟨?_, rfl⟩; rw [hw]; congr 3; first | rw [run_end (by omega)] | rw [run_no (by omega) c77]
      · refine Rn.aload_n (pc := 68) dX12_wordEnd_68 rfl rfl ?_
        refine Rn.getR (pc := 69) flX12_20 mu11_5 fx11_5 dX12_wordEnd_69 ?_
        refine Rn.iload_n (pc := 72) dX12_wordEnd_72 rfl rfl ?_
        refine Rn.caldN (pc := 73) ak25 (by omega) (by decide) (wS_tx h k (by omega)) dX12_wordEnd_73 ?_
        refine Rn.callS (pc := 74) (as := [_]) csX12_126 ⟨by decide, by decide⟩ dX12_wordEnd_74 (Nat.le_of_ble_eq_true rfl) rfl (c_isWordSign G (L k) (by have := h.2.2.2.2.1 k (by omega); omega)) ?_
        rintro _ _ ⟨rfl, rfl⟩
        refine Rn.if_eqB (pc := 77) (tgt := 86) dX12_wordEnd_77 (by decide) (fun c77 => ?_) (fun c77 => ?_)
        · refine Rn.iload_n (pc := 86) dX12_wordEnd_86 rfl rfl ?_
          refine Rn.iret (pc := 87) rfl dX12_wordEnd_87 ?_
          refine ⟨?_, rfl⟩; rw [hw]; congr 3; first | rw [run_end (by omega)] | rw [run_no (by omega) c77]
        · refine Rn.iincN (pc := 80) (n := 1) dX12_wordEnd_80 rfl (by decide) (by decide) rfl st2_1 ?_
          refine Rn.goto (pc := 83) (tgt := 60) dX12_wordEnd_83 (by decide) ?_
          rw [run_yes (by omega) c77] at hw
          exact ih (n - (k + 1)) (by omega) (k + 1) (by omega) rfl hw
  refine Rn.aload_n (pc := 0) dX12_wordEnd_0 rfl rfl ?_
  refine Rn.callV (pc := 1) (as := []) cvX12_116 ⟨by decide, rfl⟩ ⟨by decide, by decide⟩ dX12_wordEnd_1 (Nat.le_of_ble_eq_true rfl) rfl (c_next G h s.1 hs s.2.1 s.2.2) ?_
  rintro _ _ ⟨rfl, rfl⟩
  rw [show wP o M (skp L n s.1) s.2.1 s.2.2 = wS o M (skp L n s.1, s.2) from rfl]
  refine Rn.popI (pc := 4) (y := 0) (r := 0) (j := 0) dX12_wordEnd_4 ?_
  refine Rn.aload_n (pc := 5) dX12_wordEnd_5 rfl rfl ?_
  refine Rn.getI (pc := 6) (t := 0) flX12_94 wS_at dX12_wordEnd_6 ?_
  refine Rn.istore_n (pc := 9) dX12_wordEnd_9 rfl (by decide) rfl st2_1 ?_
  refine Rn.iload_n (pc := 10) dX12_wordEnd_10 rfl rfl ?_
  refine Rn.aload_n (pc := 11) dX12_wordEnd_11 rfl rfl ?_
  refine Rn.getI (pc := 12) (t := 0) flX12_97 (wS_end h) dX12_wordEnd_12 ?_
  refine Rn.icmp_geN (pc := 15) (tgt := 60) dX12_wordEnd_15 (by decide) (by omega) (by omega) (fun c15 => ?_) (fun c15 => ?_)
  · exact loopB _ (skp L n s.1) (by omega) rfl (if_neg (by omega))
  · refine Rn.aload_n (pc := 18) dX12_wordEnd_18 rfl rfl ?_
    refine Rn.getR (pc := 19) flX12_20 mu11_5 fx11_5 dX12_wordEnd_19 ?_
    refine Rn.iload_n (pc := 22) dX12_wordEnd_22 rfl rfl ?_
    refine Rn.caldN (pc := 23) ak25 (by omega) (by decide) (wS_tx h (skp L n s.1) (by omega)) dX12_wordEnd_23 ?_
    refine Rn.bipush (pc := 24) (v := nI 46) dX12_wordEnd_24 (by decide) ?_
    refine Rn.icmp_neN (pc := 26) (tgt := 60) dX12_wordEnd_26 (by decide) (by have := h.2.2.2.2.1 (skp L n s.1) (by omega); omega) (by decide) (fun c26 => ?_) (fun c26 => ?_)
    · exact loopB _ (skp L n s.1) (by omega) rfl (if_neg (by omega))
    · refine Rn.iincN (pc := 29) (n := 1) dX12_wordEnd_29 rfl (by decide) (by decide) rfl st2_1 ?_
      exact loopA _ (skp L n s.1 + 1) (by omega) rfl (if_pos ⟨by omega, c26⟩)

theorem wEnd_le {L : Nat → Nat} {n a : Nat} (h : a ≤ n) : wEnd L n a ≤ n := by
  unfold wEnd
  split
  · rename_i q; exact run_le q.1
  · exact run_le h
theorem wEnd_ge {L : Nat → Nat} {n a : Nat} (h : a ≤ n) : a ≤ wEnd L n a := by
  unfold wEnd
  split
  · rename_i q; exact Nat.le_trans (Nat.le_succ a) (run_ge q.1)
  · exact run_ge h
def allWs (L : Nat → Nat) (a e : Nat) : Bool := decide (run isWs L e a = e)
def isNm (L : Nat → Nat) (a e : Nat) : Bool := (decide (1 ≤ e - a) && decide (e - a ≤ 6) && isLow (L a)) && allWs L a e
