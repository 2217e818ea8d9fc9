def dv (L : Nat → Nat) (a : Nat) : Nat → Nat
  | 0 => 0
  | m + 1 => 10 * dv L a m + (L (a + m) - 48)
def isDg (L : Nat → Nat) (a e : Nat) : Bool := (decide (a < e) && decide (e - a ≤ 4)) && decide (run isDig L e a = e)
def pDg (L : Nat → Nat) (n : Nat) (s : PS) : Nat × PS := if s.2.1 = 0 ∧ isDg L (skp L n s.1) (wEnd L n (skp L n s.1)) = true then (dv L (skp L n s.1) (wEnd L n (skp L n s.1) - skp L n s.1), wEnd L n (skp L n s.1), s.2) else (0, pWrong (skp L n s.1, s.2) (-3) (skp L n s.1))
theorem pDg_le {L : Nat → Nat} {n : Nat} {s : PS} (h : s.1 ≤ n) : (pDg L n s).2.1 ≤ n := by
  unfold pDg
  split
  · exact wEnd_le (skp_le h)
  · rw [pWrong_1]; exact skp_le h
theorem isDig_iff {c : Nat} : isDig c = true ↔ 48 ≤ c ∧ c ≤ 57 := by simp [isDig]
theorem dv_lt {L : Nat → Nat} {a : Nat} : ∀ (m : Nat), (∀ i, i < m → isDig (L (a + i)) = true) → dv L a m < 10 ^ m
  | 0, _ => by show 0 < 1; decide
  | m + 1, h => by
    have h1 := dv_lt m (fun i hi => h i (by omega))
    have h2 := isDig_iff.mp (h m (by omega))
    show 10 * dv L a m + (L (a + m) - 48) < 10 ^ (m + 1)
    rw [Nat.pow_succ]
    omega
theorem isDg_all {L : Nat → Nat} {a e : Nat} (h : isDg L a e = true) : a < e ∧ e - a ≤ 4 ∧ ∀ i, i < e - a → isDig (L (a + i)) = true := by
  simp only [isDg, Bool.and_eq_true, decide_eq_true_eq] at h
  exact ⟨h.1.1, h.1.2, fun i hi => run_all (n := e) (a := a) (by omega) (a + i) (by omega) (by rw [h.2]; omega)⟩
theorem pDg_lt {L : Nat → Nat} {n : Nat} {s : PS} : (pDg L n s).1 < 10000 := by
  unfold pDg
  split
  · rename_i h
    obtain ⟨h1, h2, h3⟩ := isDg_all h.2
    have h4 := dv_lt _ h3
    have h5 : 10 ^ (wEnd L n (skp L n s.1) - skp L n s.1) ≤ 10 ^ 4 := Nat.pow_le_pow_right (by decide) h2
    show dv _ _ _ < 10000
    omega
  · show 0 < 10000; decide
set_option maxRecDepth 20000 in
set_option maxHeartbeats 4000000 in
theorem c_digits (G : GX) {o n : Nat} {L : Nat → Nat} {M : Mem} (h : LnOK o n L M) (s : PS) (hs : s.1 ≤ n) : MetM G yX12_digits iX12_digits [vR 11 0] (wS o M s) (fun r M' => r = some (vI (nI (pDg L n s).1)) ∧ M' = wS o M (pDg L n s).2) := by
  refine MetM.of (ls := [some (vR 11 0), none, none, none, none]) (by decide) rfl (Nat.le_of_ble_eq_true rfl) rfl ?_
  intro hM0
  have hq1 := h.2.1
  have hq2 := h.2.2.1
  have hk1 := skp_le (L := L) hs
  have hk2 := wEnd_le (L := L) hk1
  have hk3 := wEnd_ge (L := L) hk1
  have K : ∀ {k : Nat} (b : Bool) (v : Int32), isDg L (skp L n s.1) (wEnd L n (skp L n s.1)) = b → (b = true → v = nI (dv L (skp L n s.1) (wEnd L n (skp L n s.1) - skp L n s.1))) → Rn G iX12_digits (fun r M' => r = some (vI (nI (pDg L n s).1)) ∧ M' = wS o M (pDg L n s).2) 80 [some (vR 11 0), some (vI (nI (o + wEnd L n (skp L n s.1)))), some (vI (bI b)), some (vI v), some (vI (nI (o + k)))] [] (wS o M (skp L n s.1, s.2)) := by
    intro k b v hb hv
    refine Rn.aload_n (pc := 80) dX12_digits_80 rfl rfl ?_
    refine Rn.getI (pc := 81) (t := 0) flX12_100 wS_f dX12_digits_81 ?_
    refine Rn.if_ne (pc := 84) (y := 0) (tgt := 91) dX12_digits_84 (by decide) (fun c84 => ?_) (fun c84 => ?_)
    · refine Rn.aload_n (pc := 91) dX12_digits_91 rfl rfl ?_
      refine Rn.bipush (pc := 92) (v := -3) dX12_digits_92 (by decide) ?_
      refine Rn.aload_n (pc := 94) dX12_digits_94 rfl rfl ?_
      refine Rn.getI (pc := 95) (t := 0) flX12_94 wS_at dX12_digits_95 ?_
      refine Rn.callV (pc := 98) (as := [_, _]) cvX12_123 ⟨by decide, rfl⟩ ⟨by decide, by decide⟩ dX12_digits_98 (Nat.le_of_ble_eq_true rfl) rfl (c_wrong G h (skp L n s.1, s.2) (-3) (skp L n s.1) hk1) ?_
      rintro _ _ ⟨rfl, rfl⟩
      refine Rn.iconst (pc := 101) (v := nI 0) dX12_digits_101 (by decide) ?_
      refine Rn.iret (pc := 102) rfl dX12_digits_102 ?_
      simp only [pDg]; simp [*]
    · refine Rn.iload_n (pc := 87) dX12_digits_87 rfl rfl ?_
      refine Rn.if_neB (pc := 88) (tgt := 103) dX12_digits_88 (by decide) (fun c88 => ?_) (fun c88 => ?_)
      · have hf0 : s.2.1 = 0 := c84
        have hv1 := hv c88
        subst hv1
        refine Rn.aload_n (pc := 103) dX12_digits_103 rfl rfl ?_
        refine Rn.iload_n (pc := 104) dX12_digits_104 rfl rfl ?_
        refine Rn.putI (pc := 105) (t := 0) flX12_94 rfl rfl dX12_digits_105 ?_
        rw [wS_s7]
        refine Rn.iload_n (pc := 108) dX12_digits_108 rfl rfl ?_
        refine Rn.iret (pc := 109) rfl dX12_digits_109 ?_
        simp only [pDg]; simp [*]
      · refine Rn.aload_n (pc := 91) dX12_digits_91 rfl rfl ?_
        refine Rn.bipush (pc := 92) (v := -3) dX12_digits_92 (by decide) ?_
        refine Rn.aload_n (pc := 94) dX12_digits_94 rfl rfl ?_
        refine Rn.getI (pc := 95) (t := 0) flX12_94 wS_at dX12_digits_95 ?_
        refine Rn.callV (pc := 98) (as := [_, _]) cvX12_123 ⟨by decide, rfl⟩ ⟨by decide, by decide⟩ dX12_digits_98 (Nat.le_of_ble_eq_true rfl) rfl (c_wrong G h (skp L n s.1, s.2) (-3) (skp L n s.1) hk1) ?_
        rintro _ _ ⟨rfl, rfl⟩
        refine Rn.iconst (pc := 101) (v := nI 0) dX12_digits_101 (by decide) ?_
        refine Rn.iret (pc := 102) rfl dX12_digits_102 ?_
        simp only [pDg]; simp [*]
  have loop : ∀ (d k : Nat) (b : Bool) (v : Int32), skp L n s.1 ≤ k → k ≤ wEnd L n (skp L n s.1) → wEnd L n (skp L n s.1) - k = d → isDg L (skp L n s.1) (wEnd L n (skp L n s.1)) = (b && decide (run isDig L (wEnd L n (skp L n s.1)) k = wEnd L n (skp L n s.1))) → (b = true → v = nI (dv L (skp L n s.1) (k - skp L n s.1))) → Rn G iX12_digits (fun r M' => r = some (vI (nI (pDg L n s).1)) ∧ M' = wS o M (pDg L n s).2) 37 [some (vR 11 0), some (vI (nI (o + wEnd L n (skp L n s.1)))), some (vI (bI b)), some (vI v), some (vI (nI (o + k)))] [] (wS o M (skp L n s.1, s.2)) := by
    intro d
    induction d using Nat.strongRecOn with
    | ind d ih =>
      intro k b v hk hk9 hd hw hv
      refine Rn.iload (pc := 37) dX12_digits_37 rfl ?_
      refine Rn.iload_n (pc := 39) dX12_digits_39 rfl rfl ?_
      refine Rn.icmp_geN (pc := 40) (tgt := 80) dX12_digits_40 (by decide) (by omega) (by omega) (fun c40 => ?_) (fun c40 => ?_)
      · refine K b v (by first | (rw [hw, run_end (by omega), show k = wEnd L n (skp L n s.1) by omega]; simp; done) | (rw [hw, c44]; rfl)) ?_
        intro hb9
        first | (rw [c44] at hb9; cases hb9; done) | (rw [hv hb9]; congr 2; omega)
      · refine Rn.iload_n (pc := 43) dX12_digits_43 rfl rfl ?_
        refine Rn.if_eqB (pc := 44) (tgt := 80) dX12_digits_44 (by decide) (fun c44 => ?_) (fun c44 => ?_)
        · refine K b v (by first | (rw [hw, run_end (by omega), show k = wEnd L n (skp L n s.1) by omega]; simp; done) | (rw [hw, c44]; rfl)) ?_
          intro hb9
          first | (rw [c44] at hb9; cases hb9; done) | (rw [hv hb9]; congr 2; omega)
        · have hv1 := hv c44
          subst hv1
          refine Rn.aload_n (pc := 47) dX12_digits_47 rfl rfl ?_
          refine Rn.getR (pc := 48) flX12_20 mu11_5 fx11_5 dX12_digits_48 ?_
          refine Rn.iload (pc := 51) dX12_digits_51 rfl ?_
          refine Rn.caldN (pc := 53) ak25 (by omega) (by decide) (wS_tx h k (by omega)) dX12_digits_53 ?_
          refine Rn.callS (pc := 54) (as := [_]) csX12_113 ⟨by decide, by decide⟩ dX12_digits_54 (Nat.le_of_ble_eq_true rfl) rfl (c_isDigit G (L k) (by have := h.2.2.2.2.1 k (by omega); omega)) ?_
          rintro _ _ ⟨rfl, rfl⟩
          refine Rn.istore_n (pc := 57) dX12_digits_57 rfl (by decide) rfl st5_2 ?_
          refine Rn.bipush (pc := 58) (v := nI 10) dX12_digits_58 (by decide) ?_
          refine Rn.iload_n (pc := 60) dX12_digits_60 rfl rfl ?_
          refine Rn.imulN (pc := 61) dX12_digits_61 ?_
          refine Rn.aload_n (pc := 62) dX12_digits_62 rfl rfl ?_
          refine Rn.getR (pc := 63) flX12_20 mu11_5 fx11_5 dX12_digits_63 ?_
          refine Rn.iload (pc := 66) dX12_digits_66 rfl ?_
          refine Rn.caldN (pc := 68) ak25 (by omega) (by decide) (wS_tx h k (by omega)) dX12_digits_68 ?_
          refine Rn.iaddN (pc := 69) dX12_digits_69 ?_
          refine Rn.bipush (pc := 70) (v := nI 48) dX12_digits_70 (by decide) ?_
          refine Rn.isub (pc := 72) dX12_digits_72 ?_
          refine Rn.istore_n (pc := 73) dX12_digits_73 rfl (by decide) rfl st5_3 ?_
          refine Rn.iincN (pc := 74) (n := 1) dX12_digits_74 rfl (by decide) (by decide) rfl st5_4 ?_
          refine Rn.goto (pc := 77) (tgt := 37) dX12_digits_77 (by decide) ?_
          refine ih (wEnd L n (skp L n s.1) - (k + 1)) (by omega) (k + 1) (isDig (L k)) _ (by omega) (by omega) rfl ?_ ?_
          · rw [hw, c44]
            cases hd9 : isDig (L k) with
            | true => rw [run_yes (by omega) hd9]
            | false => rw [run_no (by omega) hd9]; simp; omega
          · intro hd9
            have hd8 := isDig_iff.mp hd9
            rw [show k + 1 - skp L n s.1 = (k - skp L n s.1) + 1 by omega, dv, show skp L n s.1 + (k - skp L n s.1) = k by omega, pk_sub (by omega)]
            congr 1; omega
  refine Rn.aload_n (pc := 0) dX12_digits_0 rfl rfl ?_
  refine Rn.callV (pc := 1) (as := []) cvX12_131 ⟨by decide, rfl⟩ ⟨by decide, by decide⟩ dX12_digits_1 (Nat.le_of_ble_eq_true rfl) rfl (c_wordEnd G h s hs) ?_
  rintro _ _ ⟨rfl, rfl⟩
  refine Rn.istore_n (pc := 4) dX12_digits_4 rfl (by decide) rfl st5_1 ?_
  refine Rn.iload_n (pc := 5) dX12_digits_5 rfl rfl ?_
  refine Rn.aload_n (pc := 6) dX12_digits_6 rfl rfl ?_
  refine Rn.getI (pc := 7) (t := 0) flX12_94 wS_at dX12_digits_7 ?_
  refine Rn.icmp_leN (pc := 10) (tgt := 27) dX12_digits_10 (by decide) (by omega) (by omega) (fun c10 => ?_) (fun c10 => ?_)
  · refine Rn.iconst (pc := 27) (v := nI 0) dX12_digits_27 (by decide) ?_
    refine Rn.istore_n (pc := 28) dX12_digits_28 rfl (by decide) rfl st5_2 ?_
    refine Rn.iconst (pc := 29) (v := nI 0) dX12_digits_29 (by decide) ?_
    refine Rn.istore_n (pc := 30) dX12_digits_30 rfl (by decide) rfl st5_3 ?_
    refine Rn.aload_n (pc := 31) dX12_digits_31 rfl rfl ?_
    refine Rn.getI (pc := 32) (t := 0) flX12_94 wS_at dX12_digits_32 ?_
    refine Rn.istore (pc := 35) dX12_digits_35 (by decide) rfl st5_4 ?_
    first
      | exact loop _ (skp L n s.1) true (nI 0) (by omega) (by omega) rfl (by simp [isDg, *]; try omega) (fun _ => by rw [Nat.sub_self]; rfl)
      | exact loop _ (skp L n s.1) false (nI 0) (by omega) (by omega) rfl (by simp [isDg, *]; try omega) (fun _ => by rw [Nat.sub_self]; rfl)
  · refine Rn.iload_n (pc := 13) dX12_digits_13 rfl rfl ?_
    refine Rn.aload_n (pc := 14) dX12_digits_14 rfl rfl ?_
    refine Rn.getI (pc := 15) (t := 0) flX12_94 wS_at dX12_digits_15 ?_
    refine Rn.isub (pc := 18) dX12_digits_18 ?_
    rw [pk_sub (by omega), show o + wEnd L n (skp L n s.1) - (o + skp L n s.1) = wEnd L n (skp L n s.1) - skp L n s.1 by omega]
    refine Rn.iconst (pc := 19) (v := nI 4) dX12_digits_19 (by decide) ?_
    refine Rn.icmp_gtN (pc := 20) (tgt := 27) dX12_digits_20 (by decide) (by omega) (by omega) (fun c20 => ?_) (fun c20 => ?_)
    · refine Rn.iconst (pc := 27) (v := nI 0) dX12_digits_27 (by decide) ?_
      refine Rn.istore_n (pc := 28) dX12_digits_28 rfl (by decide) rfl st5_2 ?_
      refine Rn.iconst (pc := 29) (v := nI 0) dX12_digits_29 (by decide) ?_
      refine Rn.istore_n (pc := 30) dX12_digits_30 rfl (by decide) rfl st5_3 ?_
      refine Rn.aload_n (pc := 31) dX12_digits_31 rfl rfl ?_
      refine Rn.getI (pc := 32) (t := 0) flX12_94 wS_at dX12_digits_32 ?_
      refine Rn.istore (pc := 35) dX12_digits_35 (by decide) rfl st5_4 ?_
      first
        | exact loop _ (skp L n s.1) true (nI 0) (by omega) (by omega) rfl (by simp [isDg, *]; try omega) (fun _ => by rw [Nat.sub_self]; rfl)
        | exact loop _ (skp L n s.1) false (nI 0) (by omega) (by omega) rfl (by simp [isDg, *]; try omega) (fun _ => by rw [Nat.sub_self]; rfl)
    · refine Rn.iconst (pc := 23) (v := nI 1) dX12_digits_23 (by decide) ?_
      refine Rn.goto (pc := 24) (tgt := 28) dX12_digits_24 (by decide) ?_
      refine Rn.istore_n (pc := 28) dX12_digits_28 rfl (by decide) rfl st5_2 ?_
      refine Rn.iconst (pc := 29) (v := nI 0) dX12_digits_29 (by decide) ?_
      refine Rn.istore_n (pc := 30) dX12_digits_30 rfl (by decide) rfl st5_3 ?_
      refine Rn.aload_n (pc := 31) dX12_digits_31 rfl rfl ?_
      refine Rn.getI (pc := 32) (t := 0) flX12_94 wS_at dX12_digits_32 ?_
      refine Rn.istore (pc := 35) dX12_digits_35 (by decide) rfl st5_4 ?_
      first
        | exact loop _ (skp L n s.1) true (nI 0) (by omega) (by omega) rfl (by simp [isDg, *]; try omega) (fun _ => by rw [Nat.sub_self]; rfl)
        | exact loop _ (skp L n s.1) false (nI 0) (by omega) (by omega) rfl (by simp [isDg, *]; try omega) (fun _ => by rw [Nat.sub_self]; rfl)

def pNu (L : Nat → Nat) (n : Nat) (lo hi st : Int32) (s : PS) : Int32 × PS :=
  if s.2.1 = 0 then
    ((if chA L n (skp L n s.1) = 45 then -(nI (pDg L n (skp L n s.1 + 1, s.2)).1) else nI (pDg L n (skp L n s.1, s.2)).1),
     if chA L n (skp L n s.1) = 45 then
       (if (pDg L n (skp L n s.1 + 1, s.2)).2.2.1 = 0 ∧ (-(nI (pDg L n (skp L n s.1 + 1, s.2)).1) < lo ∨ hi < -(nI (pDg L n (skp L n s.1 + 1, s.2)).1) ∨ ¬ (-(nI (pDg L n (skp L n s.1 + 1, s.2)).1) - -(nI (pDg L n (skp L n s.1 + 1, s.2)).1) / st * st = 0)) then pWrong (pDg L n (skp L n s.1 + 1, s.2)).2 (-4) (skp L n s.1) else (pDg L n (skp L n s.1 + 1, s.2)).2)
     else
       (if (pDg L n (skp L n s.1, s.2)).2.2.1 = 0 ∧ (nI (pDg L n (skp L n s.1, s.2)).1 < lo ∨ hi < nI (pDg L n (skp L n s.1, s.2)).1 ∨ ¬ (nI (pDg L n (skp L n s.1, s.2)).1 - nI (pDg L n (skp L n s.1, s.2)).1 / st * st = 0)) then pWrong (pDg L n (skp L n s.1, s.2)).2 (-4) (skp L n s.1) else (pDg L n (skp L n s.1, s.2)).2))
  else (0, s)
theorem pNu_le {L : Nat → Nat} {n : Nat} {lo hi st : Int32} {s : PS} (h : s.1 ≤ n) : (pNu L n lo hi st s).2.1 ≤ n := by
  have hk := skp_le (L := L) h
  unfold pNu
  split
  · show (if _ then _ else _ : PS).1 ≤ n
    split
    · rename_i h45
      have hlt := chA_pos h45 (by decide)
      split
      · rw [pWrong_1]; exact pDg_le (s := (skp L n s.1 + 1, s.2)) hlt
      · exact pDg_le (s := (skp L n s.1 + 1, s.2)) hlt
    · split
      · rw [pWrong_1]; exact pDg_le (s := (skp L n s.1, s.2)) hk
      · exact pDg_le (s := (skp L n s.1, s.2)) hk
  · exact h
set_option maxRecDepth 20000 in
set_option maxHeartbeats 4000000 in
theorem c_readNumber (G : GX) {o n : Nat} {L : Nat → Nat} {M : Mem} (h : LnOK o n L M) (s : PS) (hs : s.1 ≤ n) (lo hi st : Int32) (hst : ¬ st = 0) : MetM G yX12_readNumber iX12_readNumber [vR 11 0, vI lo, vI hi, vI st] (wS o M s) (fun r M' => r = some (vI (pNu L n lo hi st s).1) ∧ M' = wS o M (pNu L n lo hi st s).2) := by
  refine MetM.of (ls := [some (vR 11 0), some (vI lo), some (vI hi), some (vI st), none, none, none]) (by decide) rfl (Nat.le_of_ble_eq_true rfl) rfl ?_
  intro hM0
  have hq1 := h.2.1
  have hq2 := h.2.2.1
  have hk1 := skp_le (L := L) hs
  have TA : s.2.1 = 0 → chA L n (skp L n s.1) = 45 → Rn G iX12_readNumber (fun r M' => r = some (vI (pNu L n lo hi st s).1) ∧ M' = wS o M (pNu L n lo hi st s).2) 61 [some (vR 11 0), some (vI lo), some (vI hi), some (vI st), some (vI (nI (chA L n (skp L n s.1)))), some (vI (nI (o + skp L n s.1))), some (vI (-(nI (pDg L n (skp L n s.1 + 1, s.2)).1)))] [] (wS o M (pDg L n (skp L n s.1 + 1, s.2)).2) := by
    intro hf0 hch
    refine Rn.aload_n (pc := 61) dX12_readNumber_61 rfl rfl ?_
    refine Rn.getI (pc := 62) (t := 0) flX12_100 wS_f dX12_readNumber_62 ?_
    refine Rn.if_ne (pc := 65) (y := 0) (tgt := 95) dX12_readNumber_65 (by decide) (fun c65 => ?_) (fun c65 => ?_)
    · refine Rn.iload (pc := 95) dX12_readNumber_95 rfl ?_
      refine Rn.iret (pc := 97) rfl dX12_readNumber_97 ?_
      simp only [pNu]; simp [*]; try omega
    · refine Rn.iload (pc := 68) dX12_readNumber_68 rfl ?_
      refine Rn.iload_n (pc := 70) dX12_readNumber_70 rfl rfl ?_
      refine Rn.icmp_lt (pc := 71) (tgt := 87) dX12_readNumber_71 (by decide) (fun c71 => ?_) (fun c71 => ?_)
      · refine Rn.aload_n (pc := 87) dX12_readNumber_87 rfl rfl ?_
        refine Rn.bipush (pc := 88) (v := -4) dX12_readNumber_88 (by decide) ?_
        refine Rn.iload (pc := 90) dX12_readNumber_90 rfl ?_
        refine Rn.callV (pc := 92) (as := [_, _]) cvX12_123 ⟨by decide, rfl⟩ ⟨by decide, by decide⟩ dX12_readNumber_92 (Nat.le_of_ble_eq_true rfl) rfl (c_wrong G h (pDg L n (skp L n s.1 + 1, s.2)).2 (-4) (skp L n s.1) hk1) ?_
        rintro _ _ ⟨rfl, rfl⟩
        refine Rn.iload (pc := 95) dX12_readNumber_95 rfl ?_
        refine Rn.iret (pc := 97) rfl dX12_readNumber_97 ?_
        simp only [pNu]; simp [*]; try omega
      · refine Rn.iload (pc := 74) dX12_readNumber_74 rfl ?_
        refine Rn.iload_n (pc := 76) dX12_readNumber_76 rfl rfl ?_
        refine Rn.icmp_gt (pc := 77) (tgt := 87) dX12_readNumber_77 (by decide) (fun c77 => ?_) (fun c77 => ?_)
        · refine Rn.aload_n (pc := 87) dX12_readNumber_87 rfl rfl ?_
          refine Rn.bipush (pc := 88) (v := -4) dX12_readNumber_88 (by decide) ?_
          refine Rn.iload (pc := 90) dX12_readNumber_90 rfl ?_
          refine Rn.callV (pc := 92) (as := [_, _]) cvX12_123 ⟨by decide, rfl⟩ ⟨by decide, by decide⟩ dX12_readNumber_92 (Nat.le_of_ble_eq_true rfl) rfl (c_wrong G h (pDg L n (skp L n s.1 + 1, s.2)).2 (-4) (skp L n s.1) hk1) ?_
          rintro _ _ ⟨rfl, rfl⟩
          refine Rn.iload (pc := 95) dX12_readNumber_95 rfl ?_
          refine Rn.iret (pc := 97) rfl dX12_readNumber_97 ?_
          simp only [pNu]; simp [*]; try omega
        · refine Rn.iload (pc := 80) dX12_readNumber_80 rfl ?_
          refine Rn.iload_n (pc := 82) dX12_readNumber_82 rfl rfl ?_
          refine Rn.irem (pc := 83) dX12_readNumber_83 hst ?_
          refine Rn.if_eq (pc := 84) (y := 0) (tgt := 95) dX12_readNumber_84 (by decide) (fun c84 => ?_) (fun c84 => ?_)
          · refine Rn.iload (pc := 95) dX12_readNumber_95 rfl ?_
            refine Rn.iret (pc := 97) rfl dX12_readNumber_97 ?_
            simp only [pNu]; simp [*]; try omega
          · refine Rn.aload_n (pc := 87) dX12_readNumber_87 rfl rfl ?_
            refine Rn.bipush (pc := 88) (v := -4) dX12_readNumber_88 (by decide) ?_
            refine Rn.iload (pc := 90) dX12_readNumber_90 rfl ?_
            refine Rn.callV (pc := 92) (as := [_, _]) cvX12_123 ⟨by decide, rfl⟩ ⟨by decide, by decide⟩ dX12_readNumber_92 (Nat.le_of_ble_eq_true rfl) rfl (c_wrong G h (pDg L n (skp L n s.1 + 1, s.2)).2 (-4) (skp L n s.1) hk1) ?_
            rintro _ _ ⟨rfl, rfl⟩
            refine Rn.iload (pc := 95) dX12_readNumber_95 rfl ?_
            refine Rn.iret (pc := 97) rfl dX12_readNumber_97 ?_
            simp only [pNu]; simp [*]; try omega
  have TB : s.2.1 = 0 → ¬ chA L n (skp L n s.1) = 45 → Rn G iX12_readNumber (fun r M' => r = some (vI (pNu L n lo hi st s).1) ∧ M' = wS o M (pNu L n lo hi st s).2) 61 [some (vR 11 0), some (vI lo), some (vI hi), some (vI st), some (vI (nI (chA L n (skp L n s.1)))), some (vI (nI (o + skp L n s.1))), some (vI ((nI (pDg L n (skp L n s.1, s.2)).1)))] [] (wS o M (pDg L n (skp L n s.1, s.2)).2) := by
    intro hf0 hch
    refine Rn.aload_n (pc := 61) dX12_readNumber_61 rfl rfl ?_
    refine Rn.getI (pc := 62) (t := 0) flX12_100 wS_f dX12_readNumber_62 ?_
    refine Rn.if_ne (pc := 65) (y := 0) (tgt := 95) dX12_readNumber_65 (by decide) (fun c65 => ?_) (fun c65 => ?_)
    · refine Rn.iload (pc := 95) dX12_readNumber_95 rfl ?_
      refine Rn.iret (pc := 97) rfl dX12_readNumber_97 ?_
      simp only [pNu]; simp [*]; try omega
    · refine Rn.iload (pc := 68) dX12_readNumber_68 rfl ?_
      refine Rn.iload_n (pc := 70) dX12_readNumber_70 rfl rfl ?_
      refine Rn.icmp_lt (pc := 71) (tgt := 87) dX12_readNumber_71 (by decide) (fun c71 => ?_) (fun c71 => ?_)
      · refine Rn.aload_n (pc := 87) dX12_readNumber_87 rfl rfl ?_
        refine Rn.bipush (pc := 88) (v := -4) dX12_readNumber_88 (by decide) ?_
        refine Rn.iload (pc := 90) dX12_readNumber_90 rfl ?_
        refine Rn.callV (pc := 92) (as := [_, _]) cvX12_123 ⟨by decide, rfl⟩ ⟨by decide, by decide⟩ dX12_readNumber_92 (Nat.le_of_ble_eq_true rfl) rfl (c_wrong G h (pDg L n (skp L n s.1, s.2)).2 (-4) (skp L n s.1) hk1) ?_
        rintro _ _ ⟨rfl, rfl⟩
        refine Rn.iload (pc := 95) dX12_readNumber_95 rfl ?_
        refine Rn.iret (pc := 97) rfl dX12_readNumber_97 ?_
        simp only [pNu]; simp [*]; try omega
      · refine Rn.iload (pc := 74) dX12_readNumber_74 rfl ?_
        refine Rn.iload_n (pc := 76) dX12_readNumber_76 rfl rfl ?_
        refine Rn.icmp_gt (pc := 77) (tgt := 87) dX12_readNumber_77 (by decide) (fun c77 => ?_) (fun c77 => ?_)
        · refine Rn.aload_n (pc := 87) dX12_readNumber_87 rfl rfl ?_
          refine Rn.bipush (pc := 88) (v := -4) dX12_readNumber_88 (by decide) ?_
          refine Rn.iload (pc := 90) dX12_readNumber_90 rfl ?_
          refine Rn.callV (pc := 92) (as := [_, _]) cvX12_123 ⟨by decide, rfl⟩ ⟨by decide, by decide⟩ dX12_readNumber_92 (Nat.le_of_ble_eq_true rfl) rfl (c_wrong G h (pDg L n (skp L n s.1, s.2)).2 (-4) (skp L n s.1) hk1) ?_
          rintro _ _ ⟨rfl, rfl⟩
          refine Rn.iload (pc := 95) dX12_readNumber_95 rfl ?_
          refine Rn.iret (pc := 97) rfl dX12_readNumber_97 ?_
          simp only [pNu]; simp [*]; try omega
        · refine Rn.iload (pc := 80) dX12_readNumber_80 rfl ?_
          refine Rn.iload_n (pc := 82) dX12_readNumber_82 rfl rfl ?_
          refine Rn.irem (pc := 83) dX12_readNumber_83 hst ?_
          refine Rn.if_eq (pc := 84) (y := 0) (tgt := 95) dX12_readNumber_84 (by decide) (fun c84 => ?_) (fun c84 => ?_)
          · refine Rn.iload (pc := 95) dX12_readNumber_95 rfl ?_
            refine Rn.iret (pc := 97) rfl dX12_readNumber_97 ?_
            simp only [pNu]; simp [*]; try omega
          · refine Rn.aload_n (pc := 87) dX12_readNumber_87 rfl rfl ?_
            refine Rn.bipush (pc := 88) (v := -4) dX12_readNumber_88 (by decide) ?_
            refine Rn.iload (pc := 90) dX12_readNumber_90 rfl ?_
            refine Rn.callV (pc := 92) (as := [_, _]) cvX12_123 ⟨by decide, rfl⟩ ⟨by decide, by decide⟩ dX12_readNumber_92 (Nat.le_of_ble_eq_true rfl) rfl (c_wrong G h (pDg L n (skp L n s.1, s.2)).2 (-4) (skp L n s.1) hk1) ?_
            rintro _ _ ⟨rfl, rfl⟩
            refine Rn.iload (pc := 95) dX12_readNumber_95 rfl ?_
            refine Rn.iret (pc := 97) rfl dX12_readNumber_97 ?_
            simp only [pNu]; simp [*]; try omega
  refine Rn.aload_n (pc := 0) dX12_readNumber_0 rfl rfl ?_
  refine Rn.getI (pc := 1) (t := 0) flX12_100 wS_f dX12_readNumber_1 ?_
  refine Rn.if_eq (pc := 4) (y := 0) (tgt := 9) dX12_readNumber_4 (by decide) (fun c4 => ?_) (fun c4 => ?_)
  · refine Rn.aload_n (pc := 9) dX12_readNumber_9 rfl rfl ?_
    refine Rn.callV (pc := 10) (as := []) cvX12_116 ⟨by decide, rfl⟩ ⟨by decide, by decide⟩ dX12_readNumber_10 (Nat.le_of_ble_eq_true rfl) rfl (c_next G h s.1 hs s.2.1 s.2.2) ?_
    rintro _ _ ⟨rfl, rfl⟩
    rw [show wP o M (skp L n s.1) s.2.1 s.2.2 = wS o M (skp L n s.1, s.2) from rfl]
    refine Rn.istore (pc := 13) dX12_readNumber_13 (by decide) rfl st7_4 ?_
    refine Rn.aload_n (pc := 15) dX12_readNumber_15 rfl rfl ?_
    refine Rn.getI (pc := 16) (t := 0) flX12_94 wS_at dX12_readNumber_16 ?_
    refine Rn.istore (pc := 19) dX12_readNumber_19 (by decide) rfl st7_5 ?_
    refine Rn.iload (pc := 21) dX12_readNumber_21 rfl ?_
    refine Rn.bipush (pc := 23) (v := nI 45) dX12_readNumber_23 (by decide) ?_
    refine Rn.icmp_neN (pc := 25) (tgt := 38) dX12_readNumber_25 (by decide) (by have := chA_lt h (skp L n s.1); omega) (by decide) (fun c25 => ?_) (fun c25 => ?_)
    · refine Rn.aload_n (pc := 38) dX12_readNumber_38 rfl rfl ?_
      first | refine Rn.callV (pc := 39) (as := []) cvX12_135 ⟨by decide, rfl⟩ ⟨by decide, by decide⟩ dX12_readNumber_39 (Nat.le_of_ble_eq_true rfl) rfl (c_digits G h (skp L n s.1, s.2) hk1) ?_ | refine Rn.callV (pc := 39) (as := []) cvX12_135 ⟨by decide, rfl⟩ ⟨by decide, by decide⟩ dX12_readNumber_39 (Nat.le_of_ble_eq_true rfl) rfl (c_digits G h (skp L n s.1 + 1, s.2) (chA_pos c25 (by decide))) ?_
      rintro _ _ ⟨rfl, rfl⟩
      refine Rn.istore (pc := 42) dX12_readNumber_42 (by decide) rfl st7_6 ?_
      refine Rn.iload (pc := 44) dX12_readNumber_44 rfl ?_
      refine Rn.bipush (pc := 46) (v := nI 45) dX12_readNumber_46 (by decide) ?_
      refine Rn.icmp_neN (pc := 48) (tgt := 57) dX12_readNumber_48 (by decide) (by have := chA_lt h (skp L n s.1); omega) (by decide) (fun c48 => ?_) (fun c48 => ?_)
      · refine Rn.iload (pc := 57) dX12_readNumber_57 rfl ?_
        refine Rn.istore (pc := 59) dX12_readNumber_59 (by decide) rfl st7_6 ?_
        first | exact TA c4 c25 | exact TB c4 c25 | (exfalso; omega)
      · refine Rn.iload (pc := 51) dX12_readNumber_51 rfl ?_
        refine Rn.ineg (pc := 53) dX12_readNumber_53 ?_
        refine Rn.goto (pc := 54) (tgt := 59) dX12_readNumber_54 (by decide) ?_
        refine Rn.istore (pc := 59) dX12_readNumber_59 (by decide) rfl st7_6 ?_
        first | exact TA c4 c25 | exact TB c4 c25 | (exfalso; omega)
    · have hlt := chA_pos c25 (by decide)
      refine Rn.aload_n (pc := 28) dX12_readNumber_28 rfl rfl ?_
      refine Rn.dupR (pc := 29) (x := 0) (y := 0) dX12_readNumber_29 ?_
      refine Rn.getI (pc := 30) (t := 0) flX12_94 wS_at dX12_readNumber_30 ?_
      refine Rn.iconst (pc := 33) (v := nI 1) dX12_readNumber_33 (by decide) ?_
      refine Rn.iaddN (pc := 34) dX12_readNumber_34 ?_
      refine Rn.putI (pc := 35) (t := 0) flX12_94 rfl rfl dX12_readNumber_35 ?_
      rw [show sI (wS o M (skp L n s.1, s.2)) 11 0 7 (nI (o + skp L n s.1 + 1)) = wS o M (skp L n s.1 + 1, s.2) from wS_s7 (b := skp L n s.1 + 1)]
      refine Rn.aload_n (pc := 38) dX12_readNumber_38 rfl rfl ?_
      first | refine Rn.callV (pc := 39) (as := []) cvX12_135 ⟨by decide, rfl⟩ ⟨by decide, by decide⟩ dX12_readNumber_39 (Nat.le_of_ble_eq_true rfl) rfl (c_digits G h (skp L n s.1, s.2) hk1) ?_ | refine Rn.callV (pc := 39) (as := []) cvX12_135 ⟨by decide, rfl⟩ ⟨by decide, by decide⟩ dX12_readNumber_39 (Nat.le_of_ble_eq_true rfl) rfl (c_digits G h (skp L n s.1 + 1, s.2) (chA_pos c25 (by decide))) ?_
      rintro _ _ ⟨rfl, rfl⟩
      refine Rn.istore (pc := 42) dX12_readNumber_42 (by decide) rfl st7_6 ?_
      refine Rn.iload (pc := 44) dX12_readNumber_44 rfl ?_
      refine Rn.bipush (pc := 46) (v := nI 45) dX12_readNumber_46 (by decide) ?_
      refine Rn.icmp_neN (pc := 48) (tgt := 57) dX12_readNumber_48 (by decide) (by have := chA_lt h (skp L n s.1); omega) (by decide) (fun c48 => ?_) (fun c48 => ?_)
      · refine Rn.iload (pc := 57) dX12_readNumber_57 rfl ?_
        refine Rn.istore (pc := 59) dX12_readNumber_59 (by decide) rfl st7_6 ?_
        first | exact TA c4 c25 | exact TB c4 c25 | (exfalso; omega)
      · refine Rn.iload (pc := 51) dX12_readNumber_51 rfl ?_
        refine Rn.ineg (pc := 53) dX12_readNumber_53 ?_
        refine Rn.goto (pc := 54) (tgt := 59) dX12_readNumber_54 (by decide) ?_
        refine Rn.istore (pc := 59) dX12_readNumber_59 (by decide) rfl st7_6 ?_
        first | exact TA c4 c25 | exact TB c4 c25 | (exfalso; omega)
  · refine Rn.iconst (pc := 7) (v := nI 0) dX12_readNumber_7 (by decide) ?_
    refine Rn.iret (pc := 8) rfl dX12_readNumber_8 ?_
    simp only [pNu]; simp [*]; try rfl

