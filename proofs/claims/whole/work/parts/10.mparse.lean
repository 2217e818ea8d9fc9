/-! THE MODEL'S PARSER: a line at the place o of its text, n characters L; position a (from o), fault f, its place fp -/
def wP (o : Nat) (M : Mem) (a : Nat) (f fp : Int32) : Mem := sI (sI (sI M 11 0 7 (nI (o + a))) 11 0 9 f) 11 0 10 fp
theorem wP_at {o : Nat} {M : Mem} {a : Nat} {f fp : Int32} : mI (wP o M a f fp) 11 0 7 = nI (o + a) := rfl
theorem wP_f {o : Nat} {M : Mem} {a : Nat} {f fp : Int32} : mI (wP o M a f fp) 11 0 9 = f := rfl
theorem wP_s7 {o : Nat} {M : Mem} {a b : Nat} {f fp : Int32} : sI (wP o M a f fp) 11 0 7 (nI (o + b)) = wP o M b f fp := by
  unfold wP
  rw [sI_comm (by decide), sI_comm (k := 11) (j := 0) (s := 9) (by decide), sI_sI]
theorem wP_s9 {o : Nat} {M : Mem} {a : Nat} {f g fp : Int32} : sI (wP o M a f fp) 11 0 9 g = wP o M a g fp := by
  unfold wP
  rw [sI_comm (by decide), sI_sI]
theorem wP_s10 {o : Nat} {M : Mem} {a : Nat} {f fp gp : Int32} : sI (wP o M a f fp) 11 0 10 gp = wP o M a f gp := by
  unfold wP
  rw [sI_sI]
/-- a line of the model's text -/
def LnOK (o n : Nat) (L : Nat → Nat) (M : Mem) : Prop := mI M 11 0 8 = nI (o + n) ∧ o + n ≤ 4608 ∧ n ≤ 48 ∧ (∀ i, i < n → mI M 25 0 (o + i) = nI (L i)) ∧ (∀ i, i < n → 0 < L i ∧ L i < 256) ∧ ∃ l : Nat, o = 48 * l ∧ mI M 11 0 6 = nI l
theorem wP_end {o n : Nat} {L : Nat → Nat} {M : Mem} (h : LnOK o n L M) {a : Nat} {f fp : Int32} : mI (wP o M a f fp) 11 0 8 = nI (o + n) := h.1
theorem wP_ln {o : Nat} {M : Mem} {a : Nat} {f fp x : Int32} (h : mI M 11 0 6 = x) : mI (wP o M a f fp) 11 0 6 = x := h
theorem wP_tx {o n : Nat} {L : Nat → Nat} {M : Mem} (h : LnOK o n L M) {a : Nat} {f fp : Int32} (i : Nat) (hi : i < n) : mI (wP o M a f fp) 25 0 (o + i) = nI (L i) := h.2.2.2.1 i hi
set_option maxRecDepth 20000 in
set_option maxHeartbeats 4000000 in
theorem c_isSmall (G : GX) {M : Mem} (x : Nat) (hx : x < 2 ^ 31) : MetM G yX12_isSmall iX12_isSmall [vI (nI x)] M (fun r M' => r = some (vI (bI (isLow x))) ∧ M' = M) := by
  refine MetM.of (ls := [some (vI (nI x))]) (by decide) rfl (Nat.le_of_ble_eq_true rfl) rfl ?_
  intro hM0
  refine Rn.iload_n (pc := 0) dX12_isSmall_0 rfl rfl ?_
  refine Rn.bipush (pc := 1) (v := nI 97) dX12_isSmall_1 (by decide) ?_
  refine Rn.icmp_ltN (pc := 3) (tgt := 16) dX12_isSmall_3 (by decide) hx (by decide) (fun c3 => ?_) (fun c3 => ?_)
  · refine Rn.iconst (pc := 16) (v := nI 0) dX12_isSmall_16 (by decide) ?_
    refine Rn.zret (pc := 17) rfl rfl dX12_isSmall_17 ?_
    refine ⟨?_, rfl⟩; simp [isLow, bI, *]; try omega
  · refine Rn.iload_n (pc := 6) dX12_isSmall_6 rfl rfl ?_
    refine Rn.bipush (pc := 7) (v := nI 122) dX12_isSmall_7 (by decide) ?_
    refine Rn.icmp_gtN (pc := 9) (tgt := 16) dX12_isSmall_9 (by decide) hx (by decide) (fun c9 => ?_) (fun c9 => ?_)
    · refine Rn.iconst (pc := 16) (v := nI 0) dX12_isSmall_16 (by decide) ?_
      refine Rn.zret (pc := 17) rfl rfl dX12_isSmall_17 ?_
      refine ⟨?_, rfl⟩; simp [isLow, bI, *]; try omega
    · refine Rn.iconst (pc := 12) (v := nI 1) dX12_isSmall_12 (by decide) ?_
      refine Rn.goto (pc := 13) (tgt := 17) dX12_isSmall_13 (by decide) ?_
      refine Rn.zret (pc := 17) rfl rfl dX12_isSmall_17 ?_
      refine ⟨?_, rfl⟩; simp [isLow, bI, *]; try omega

set_option maxRecDepth 20000 in
set_option maxHeartbeats 4000000 in
theorem c_isDigit (G : GX) {M : Mem} (x : Nat) (hx : x < 2 ^ 31) : MetM G yX12_isDigit iX12_isDigit [vI (nI x)] M (fun r M' => r = some (vI (bI (isDig x))) ∧ M' = M) := by
  refine MetM.of (ls := [some (vI (nI x))]) (by decide) rfl (Nat.le_of_ble_eq_true rfl) rfl ?_
  intro hM0
  refine Rn.iload_n (pc := 0) dX12_isDigit_0 rfl rfl ?_
  refine Rn.bipush (pc := 1) (v := nI 48) dX12_isDigit_1 (by decide) ?_
  refine Rn.icmp_ltN (pc := 3) (tgt := 16) dX12_isDigit_3 (by decide) hx (by decide) (fun c3 => ?_) (fun c3 => ?_)
  · refine Rn.iconst (pc := 16) (v := nI 0) dX12_isDigit_16 (by decide) ?_
    refine Rn.zret (pc := 17) rfl rfl dX12_isDigit_17 ?_
    refine ⟨?_, rfl⟩; simp [isDig, bI, *]; try omega
  · refine Rn.iload_n (pc := 6) dX12_isDigit_6 rfl rfl ?_
    refine Rn.bipush (pc := 7) (v := nI 57) dX12_isDigit_7 (by decide) ?_
    refine Rn.icmp_gtN (pc := 9) (tgt := 16) dX12_isDigit_9 (by decide) hx (by decide) (fun c9 => ?_) (fun c9 => ?_)
    · refine Rn.iconst (pc := 16) (v := nI 0) dX12_isDigit_16 (by decide) ?_
      refine Rn.zret (pc := 17) rfl rfl dX12_isDigit_17 ?_
      refine ⟨?_, rfl⟩; simp [isDig, bI, *]; try omega
    · refine Rn.iconst (pc := 12) (v := nI 1) dX12_isDigit_12 (by decide) ?_
      refine Rn.goto (pc := 13) (tgt := 17) dX12_isDigit_13 (by decide) ?_
      refine Rn.zret (pc := 17) rfl rfl dX12_isDigit_17 ?_
      refine ⟨?_, rfl⟩; simp [isDig, bI, *]; try omega

theorem bI_t : bI true = nI 1 := rfl
theorem bI_f : bI false = nI 0 := rfl
set_option maxRecDepth 20000 in
set_option maxHeartbeats 4000000 in
theorem c_isWordSign (G : GX) {M : Mem} (x : Nat) (hx : x < 2 ^ 31) : MetM G yX12_isWordSign iX12_isWordSign [vI (nI x)] M (fun r M' => r = some (vI (bI (isWs x))) ∧ M' = M) := by
  refine MetM.of (ls := [some (vI (nI x))]) (by decide) rfl (Nat.le_of_ble_eq_true rfl) rfl ?_
  intro hM0
  refine Rn.iload_n (pc := 0) dX12_isWordSign_0 rfl rfl ?_
  refine Rn.callS (pc := 1) (as := [_]) csX12_109 ⟨by decide, by decide⟩ dX12_isWordSign_1 (Nat.le_of_ble_eq_true rfl) rfl (c_isSmall G x hx) ?_
  rintro _ _ ⟨rfl, rfl⟩
  refine Rn.if_neB (pc := 4) (tgt := 14) dX12_isWordSign_4 (by decide) (fun c4 => ?_) (fun c4 => ?_)
  · refine Rn.iconst (pc := 14) (v := nI 1) dX12_isWordSign_14 (by decide) ?_
    refine Rn.goto (pc := 15) (tgt := 19) dX12_isWordSign_15 (by decide) ?_
    refine Rn.zret (pc := 19) rfl rfl dX12_isWordSign_19 ?_
    refine ⟨?_, rfl⟩; simp [isWs, bI, *]
  · refine Rn.iload_n (pc := 7) dX12_isWordSign_7 rfl rfl ?_
    refine Rn.callS (pc := 8) (as := [_]) csX12_113 ⟨by decide, by decide⟩ dX12_isWordSign_8 (Nat.le_of_ble_eq_true rfl) rfl (c_isDigit G x hx) ?_
    rintro _ _ ⟨rfl, rfl⟩
    refine Rn.if_eqB (pc := 11) (tgt := 18) dX12_isWordSign_11 (by decide) (fun c11 => ?_) (fun c11 => ?_)
    · refine Rn.iconst (pc := 18) (v := nI 0) dX12_isWordSign_18 (by decide) ?_
      refine Rn.zret (pc := 19) rfl rfl dX12_isWordSign_19 ?_
      refine ⟨?_, rfl⟩; simp [isWs, bI, *]
    · refine Rn.iconst (pc := 14) (v := nI 1) dX12_isWordSign_14 (by decide) ?_
      refine Rn.goto (pc := 15) (tgt := 19) dX12_isWordSign_15 (by decide) ?_
      refine Rn.zret (pc := 19) rfl rfl dX12_isWordSign_19 ?_
      refine ⟨?_, rfl⟩; simp [isWs, bI, *]

set_option maxRecDepth 20000 in
set_option maxHeartbeats 4000000 in
theorem c_next (G : GX) {o n : Nat} {L : Nat → Nat} {M : Mem} (h : LnOK o n L M) (a : Nat) (ha : a ≤ n) (f fp : Int32) : MetM G yX12_next iX12_next [vR 11 0] (wP o M a f fp) (fun r M' => r = some (vI (nI (chA L n (skp L n a)))) ∧ M' = wP o M (skp L n a) f fp) := by
  refine MetM.of (ls := [some (vR 11 0)]) (by decide) rfl (Nat.le_of_ble_eq_true rfl) rfl ?_
  intro hM0
  have loop : ∀ (d a : Nat), a ≤ n → n - a = d → Rn G iX12_next (fun r M' => r = some (vI (nI (chA L n (skp L n a)))) ∧ M' = wP o M (skp L n a) f fp) 0 [some (vR 11 0)] [] (wP o M a f fp) := by
    intro d
    induction d using Nat.strongRecOn with
    | ind d ih =>
      intro a ha hd
      refine Rn.aload_n (pc := 0) dX12_next_0 rfl rfl ?_
      refine Rn.getI (pc := 1) (t := 0) flX12_94 wP_at dX12_next_1 ?_
      refine Rn.aload_n (pc := 4) dX12_next_4 rfl rfl ?_
      refine Rn.getI (pc := 5) (t := 0) flX12_97 (wP_end h) dX12_next_5 ?_
      refine Rn.icmp_geN (pc := 8) (tgt := 38) dX12_next_8 (by decide) (by have := h.2.1; omega) (by have := h.2.1; omega) (fun c8 => ?_) (fun c8 => ?_)
      · refine Rn.aload_n (pc := 38) dX12_next_38 rfl rfl ?_
        refine Rn.getI (pc := 39) (t := 0) flX12_94 wP_at dX12_next_39 ?_
        refine Rn.aload_n (pc := 42) dX12_next_42 rfl rfl ?_
        refine Rn.getI (pc := 43) (t := 0) flX12_97 (wP_end h) dX12_next_43 ?_
        refine Rn.icmp_geN (pc := 46) (tgt := 61) dX12_next_46 (by decide) (by have := h.2.1; omega) (by have := h.2.1; omega) (fun c46 => ?_) (fun c46 => ?_)
        · refine Rn.iconst (pc := 61) (v := nI 0) dX12_next_61 (by decide) ?_
          refine Rn.zret (pc := 62) rfl (by first | exact nI_ch (by have := h.2.2.2.2.1 a (by omega); omega) | rfl) dX12_next_62 ?_
          have hs : skp L n a = a := by first | exact run_end (by omega) | exact run_no (by omega) (by simp [isBl]; omega)
          rw [hs]
          first | (exfalso; omega) | exact ⟨by rw [chA, if_pos (by omega)], rfl⟩ | exact ⟨by rw [chA, if_neg (by omega)], rfl⟩
        · refine Rn.aload_n (pc := 49) dX12_next_49 rfl rfl ?_
          refine Rn.getR (pc := 50) flX12_20 mu11_5 fx11_5 dX12_next_50 ?_
          refine Rn.aload_n (pc := 53) dX12_next_53 rfl rfl ?_
          refine Rn.getI (pc := 54) (t := 0) flX12_94 wP_at dX12_next_54 ?_
          refine Rn.caldN (pc := 57) ak25 (by have := h.2.1; omega) (by decide) (wP_tx h a (by omega)) dX12_next_57 ?_
          refine Rn.goto (pc := 58) (tgt := 62) dX12_next_58 (by decide) ?_
          refine Rn.zret (pc := 62) rfl (by first | exact nI_ch (by have := h.2.2.2.2.1 a (by omega); omega) | rfl) dX12_next_62 ?_
          have hs : skp L n a = a := by first | exact run_end (by omega) | exact run_no (by omega) (by simp [isBl]; omega)
          rw [hs]
          first | (exfalso; omega) | exact ⟨by rw [chA, if_pos (by omega)], rfl⟩ | exact ⟨by rw [chA, if_neg (by omega)], rfl⟩
      · refine Rn.aload_n (pc := 11) dX12_next_11 rfl rfl ?_
        refine Rn.getR (pc := 12) flX12_20 mu11_5 fx11_5 dX12_next_12 ?_
        refine Rn.aload_n (pc := 15) dX12_next_15 rfl rfl ?_
        refine Rn.getI (pc := 16) (t := 0) flX12_94 wP_at dX12_next_16 ?_
        refine Rn.caldN (pc := 19) ak25 (by have := h.2.1; omega) (by decide) (wP_tx h a (by omega)) dX12_next_19 ?_
        refine Rn.bipush (pc := 20) (v := nI 32) dX12_next_20 (by decide) ?_
        refine Rn.icmp_neN (pc := 22) (tgt := 38) dX12_next_22 (by decide) (by have := h.2.2.2.2.1 a (by omega); omega) (by decide) (fun c22 => ?_) (fun c22 => ?_)
        · refine Rn.aload_n (pc := 38) dX12_next_38 rfl rfl ?_
          refine Rn.getI (pc := 39) (t := 0) flX12_94 wP_at dX12_next_39 ?_
          refine Rn.aload_n (pc := 42) dX12_next_42 rfl rfl ?_
          refine Rn.getI (pc := 43) (t := 0) flX12_97 (wP_end h) dX12_next_43 ?_
          refine Rn.icmp_geN (pc := 46) (tgt := 61) dX12_next_46 (by decide) (by have := h.2.1; omega) (by have := h.2.1; omega) (fun c46 => ?_) (fun c46 => ?_)
          · refine Rn.iconst (pc := 61) (v := nI 0) dX12_next_61 (by decide) ?_
            refine Rn.zret (pc := 62) rfl (by first | exact nI_ch (by have := h.2.2.2.2.1 a (by omega); omega) | rfl) dX12_next_62 ?_
            have hs : skp L n a = a := by first | exact run_end (by omega) | exact run_no (by omega) (by simp [isBl]; omega)
            rw [hs]
            first | (exfalso; omega) | exact ⟨by rw [chA, if_pos (by omega)], rfl⟩ | exact ⟨by rw [chA, if_neg (by omega)], rfl⟩
          · refine Rn.aload_n (pc := 49) dX12_next_49 rfl rfl ?_
            refine Rn.getR (pc := 50) flX12_20 mu11_5 fx11_5 dX12_next_50 ?_
            refine Rn.aload_n (pc := 53) dX12_next_53 rfl rfl ?_
            refine Rn.getI (pc := 54) (t := 0) flX12_94 wP_at dX12_next_54 ?_
            refine Rn.caldN (pc := 57) ak25 (by have := h.2.1; omega) (by decide) (wP_tx h a (by omega)) dX12_next_57 ?_
            refine Rn.goto (pc := 58) (tgt := 62) dX12_next_58 (by decide) ?_
            refine Rn.zret (pc := 62) rfl (by first | exact nI_ch (by have := h.2.2.2.2.1 a (by omega); omega) | rfl) dX12_next_62 ?_
            have hs : skp L n a = a := by first | exact run_end (by omega) | exact run_no (by omega) (by simp [isBl]; omega)
            rw [hs]
            first | (exfalso; omega) | exact ⟨by rw [chA, if_pos (by omega)], rfl⟩ | exact ⟨by rw [chA, if_neg (by omega)], rfl⟩
        · refine Rn.aload_n (pc := 25) dX12_next_25 rfl rfl ?_
          refine Rn.dupR (pc := 26) (x := 0) (y := 0) dX12_next_26 ?_
          refine Rn.getI (pc := 27) (t := 0) flX12_94 wP_at dX12_next_27 ?_
          refine Rn.iconst (pc := 30) (v := nI 1) dX12_next_30 (by decide) ?_
          refine Rn.iaddN (pc := 31) dX12_next_31 ?_
          refine Rn.putI (pc := 32) (t := 0) flX12_94 rfl rfl dX12_next_32 ?_
          have e9 : sI (wP o M a f fp) 11 0 7 (nI (o + a + 1)) = wP o M (a + 1) f fp := wP_s7 (b := a + 1)
          rw [e9]
          refine Rn.goto (pc := 35) (tgt := 0) dX12_next_35 (by decide) ?_
          have hs : skp L n a = skp L n (a + 1) := run_yes (by omega) (by simp [isBl, c22])
          rw [hs]
          exact ih (n - (a + 1)) (by omega) (a + 1) (by omega) rfl
  exact loop _ a ha rfl

