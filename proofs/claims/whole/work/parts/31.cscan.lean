theorem wb_mod (n : Nat) : lN n = lN (n % 2 ^ 64) := wb_inj (by rw [wb_tb, wb_tb]; apply BitVec.eq_of_toNat_eq; rw [BitVec.toNat_ofNat, BitVec.toNat_ofNat, Nat.mod_mod])
theorem wb_shl (n : Nat) {k : Nat} (hk : k < 64) : lN n <<< ((nI k).toInt64 &&& 63) = lN (n * 2 ^ k) := by
  rw [wb_c k hk]
  apply wb_inj
  rw [Int64.toBitVec_shiftLeft, wb_tb, wb_tb, wb_tb, wb_sm k hk]
  apply BitVec.eq_of_toNat_eq
  rw [BitVec.shiftLeft_eq', BitVec.toNat_shiftLeft, BitVec.toNat_ofNat, BitVec.toNat_ofNat, BitVec.toNat_ofNat, Nat.mod_eq_of_lt (show k < 2 ^ 64 by omega), Nat.shiftLeft_eq, Nat.mul_mod, Nat.mod_mod, ← Nat.mul_mod]
theorem wb_or {a b : Nat} (ha : a < 2 ^ 64) (hb : b < 2 ^ 64) : lN a ||| lN b = lN (a ||| b) := by
  apply wb_inj
  rw [Int64.toBitVec_or, wb_tb, wb_tb, wb_tb]
  apply BitVec.eq_of_toNat_eq
  rw [BitVec.toNat_or, BitVec.toNat_ofNat, BitVec.toNat_ofNat, BitVec.toNat_ofNat, Nat.mod_eq_of_lt ha, Nat.mod_eq_of_lt hb, Nat.mod_eq_of_lt (Nat.or_lt_two_pow ha hb)]
theorem u_tn {n : Nat} (h : n < 2 ^ 64) : (UInt64.ofNat n).toNat = n := Nat.mod_eq_of_lt h
theorem g_or {k p a b : Nat} (hp : 2 ^ k = p) (ha : a < p) (h : b * p + a < 2 ^ 64) : lN (b * p) ||| lN a = lN (b * p + a) := by
  subst hp
  have h1 : b * 2 ^ k ||| a = b * 2 ^ k + a := by rw [← Nat.shiftLeft_eq, Nat.shiftLeft_add_eq_or_of_lt ha]
  have h3 : UInt64.ofNat (b * 2 ^ k) ||| UInt64.ofNat a = UInt64.ofNat (b * 2 ^ k + a) := UInt64.toNat_inj.mp (by rw [UInt64.toNat_or, u_tn (by omega), u_tn (by omega), u_tn h, h1])
  have h2 := congrArg UInt64.toInt64 h3
  exact h2
def pkN (L : Nat → Nat) (a : Nat) : Nat → Nat
  | 0 => 0
  | m + 1 => pkN L a m * 256 + L (a + m)
def nmV (L : Nat → Nat) (a e : Nat) : Nat := if isNm L a e = true then pkN L a (e - a) else 0
def Tx0 (n : Nat) (L : Nat → Nat) (M : Mem) : Prop := mI M 9 0 1 = nI n ∧ n ≤ 48 ∧ (∀ i, i < n → mI M 12 0 i = nI (L i)) ∧ ∀ i, i < n → 0 < L i ∧ L i < 256
theorem pkN_lt {L : Nat → Nat} {a : Nat} : ∀ (m : Nat), (∀ i, i < m → L (a + i) < 256) → pkN L a m < 256 ^ m
  | 0, _ => by show 0 < 1; decide
  | m + 1, h => by
    have h1 := pkN_lt m (fun i hi => h i (by omega))
    have h2 := h m (by omega)
    show pkN L a m * 256 + L (a + m) < 256 ^ (m + 1)
    rw [Nat.pow_succ]
    omega
set_option maxRecDepth 20000 in
set_option maxHeartbeats 4000000 in
theorem k_nameBetween (G : GX) {n : Nat} {L : Nat → Nat} {M : Mem} (h : Tx0 n L M) (a e : Nat) (ha : a ≤ e) (he : e ≤ n) : MetM G yX10_nameBetween iX10_nameBetween [vR 9 0, vI (nI a), vI (nI e)] M (fun r M' => r = some (vJ (lN (nmV L a e))) ∧ M' = M) := by
  refine MetM.of (ls := [some (vR 9 0), some (vI (nI a)), some (vI (nI e)), none, none, none]) (by decide) rfl (Nat.le_of_ble_eq_true rfl) rfl ?_
  intro hM0
  have hq2 := h.2.1
  have loop : e - a ≤ 6 → ∀ (d k : Nat), a ≤ k → k ≤ e → e - k = d → isNm L a e = allWs L k e → Rn G iX10_nameBetween (fun r M' => r = some (vJ (lN (nmV L a e))) ∧ M' = M) 44 [some (vR 9 0), some (vI (nI a)), some (vI (nI e)), some (vJ (lN (pkN L a (k - a)))), none, some (vI (nI k))] [] M := by
    intro h6 d
    induction d using Nat.strongRecOn with
    | ind d ih =>
      intro k hk hk2 hd hw
      refine Rn.iload (pc := 44) dX10_nameBetween_44 rfl ?_
      refine Rn.iload_n (pc := 46) dX10_nameBetween_46 rfl rfl ?_
      refine Rn.icmp_geN (pc := 47) (tgt := 98) dX10_nameBetween_47 (by decide) (by omega) (by omega) (fun c47 => ?_) (fun c47 => ?_)
      · refine Rn.lload_n (pc := 98) dX10_nameBetween_98 rfl rfl ?_
        refine Rn.lret (pc := 99) rfl dX10_nameBetween_99 ?_
        refine ⟨?_, rfl⟩; rw [nmV, if_pos (by rw [hw, allWs, run_end (by omega)]; simp; omega), show k = e by omega]
      · refine Rn.aload_n (pc := 50) dX10_nameBetween_50 rfl rfl ?_
        refine Rn.getR (pc := 51) flX10_9 mu9_0 fx9_0 dX10_nameBetween_51 ?_
        refine Rn.iload (pc := 54) dX10_nameBetween_54 rfl ?_
        refine Rn.caldN (pc := 56) ak12 (by omega) (by decide) (h.2.2.1 k (by omega)) dX10_nameBetween_56 ?_
        refine Rn.callN (pc := 57) (as := [_]) cnX10_19 ⟨by decide, by decide⟩ dX10_nameBetween_57 (Nat.le_of_ble_eq_true rfl) rfl (k_isLetter G (L k) (by have := h.2.2.2 k (by omega); omega)) ?_
        rintro _ M9 ⟨rfl, h9⟩
        rw [h9]
        refine Rn.if_neB (pc := 60) (tgt := 78) dX10_nameBetween_60 (by decide) (fun c60 => ?_) (fun c60 => ?_)
        · have hp6 : pkN L a (k - a) < 256 ^ 6 := Nat.lt_of_lt_of_le (pkN_lt (k - a) (fun i hi => (h.2.2.2 (a + i) (by omega)).2)) (Nat.pow_le_pow_right (by decide) (by omega))
          have hpk : pkN L a (k - a) * 256 + L k = pkN L a (k + 1 - a) := by rw [show k + 1 - a = (k - a) + 1 by omega, pkN, show a + (k - a) = k by omega]
          refine Rn.lload_n (pc := 78) dX10_nameBetween_78 rfl rfl ?_
          refine Rn.bipush (pc := 79) (v := nI 8) dX10_nameBetween_79 (by decide) ?_
          refine Rn.lshl (pc := 81) dX10_nameBetween_81 ?_
          rw [wb_shl _ (by decide)]
          refine Rn.aload_n (pc := 82) dX10_nameBetween_82 rfl rfl ?_
          refine Rn.getR (pc := 83) flX10_9 mu9_0 fx9_0 dX10_nameBetween_83 ?_
          refine Rn.iload (pc := 86) dX10_nameBetween_86 rfl ?_
          refine Rn.caldN (pc := 88) ak12 (by omega) (by decide) (h.2.2.1 k (by omega)) dX10_nameBetween_88 ?_
          refine Rn.i2l (pc := 89) dX10_nameBetween_89 ?_
          rw [nI_l (by have := h.2.2.2 k (by omega); omega)]
          refine Rn.lor (pc := 90) dX10_nameBetween_90 ?_
          rw [show pkN L a (k - a) * 2 ^ 8 = pkN L a (k - a) * 256 from rfl, g_or (k := 8) rfl (h.2.2.2 k (by omega)).2 (by have := (h.2.2.2 k (by omega)).2; omega), hpk]
          refine Rn.lstore_n (pc := 91) dX10_nameBetween_91 rfl (by decide) rfl sl6_3 ?_
          refine Rn.iincN (pc := 92) (n := 1) dX10_nameBetween_92 rfl (by decide) (by decide) rfl st6_5 ?_
          refine Rn.goto (pc := 95) (tgt := 44) dX10_nameBetween_95 (by decide) ?_
          exact ih (e - (k + 1)) (by omega) (k + 1) (by omega) (by omega) rfl (by rw [hw, allWs, allWs, run_yes (by omega) (by simp [isWs, *])])
        · refine Rn.aload_n (pc := 63) dX10_nameBetween_63 rfl rfl ?_
          refine Rn.getR (pc := 64) flX10_9 mu9_0 fx9_0 dX10_nameBetween_64 ?_
          refine Rn.iload (pc := 67) dX10_nameBetween_67 rfl ?_
          refine Rn.caldN (pc := 69) ak12 (by omega) (by decide) (h.2.2.1 k (by omega)) dX10_nameBetween_69 ?_
          refine Rn.callN (pc := 70) (as := [_]) cnX10_23 ⟨by decide, by decide⟩ dX10_nameBetween_70 (Nat.le_of_ble_eq_true rfl) rfl (k_isDigit G (L k) (by have := h.2.2.2 k (by omega); omega)) ?_
          rintro _ M9 ⟨rfl, h9⟩
          rw [h9]
          refine Rn.if_neB (pc := 73) (tgt := 78) dX10_nameBetween_73 (by decide) (fun c73 => ?_) (fun c73 => ?_)
          · have hp6 : pkN L a (k - a) < 256 ^ 6 := Nat.lt_of_lt_of_le (pkN_lt (k - a) (fun i hi => (h.2.2.2 (a + i) (by omega)).2)) (Nat.pow_le_pow_right (by decide) (by omega))
            have hpk : pkN L a (k - a) * 256 + L k = pkN L a (k + 1 - a) := by rw [show k + 1 - a = (k - a) + 1 by omega, pkN, show a + (k - a) = k by omega]
            refine Rn.lload_n (pc := 78) dX10_nameBetween_78 rfl rfl ?_
            refine Rn.bipush (pc := 79) (v := nI 8) dX10_nameBetween_79 (by decide) ?_
            refine Rn.lshl (pc := 81) dX10_nameBetween_81 ?_
            rw [wb_shl _ (by decide)]
            refine Rn.aload_n (pc := 82) dX10_nameBetween_82 rfl rfl ?_
            refine Rn.getR (pc := 83) flX10_9 mu9_0 fx9_0 dX10_nameBetween_83 ?_
            refine Rn.iload (pc := 86) dX10_nameBetween_86 rfl ?_
            refine Rn.caldN (pc := 88) ak12 (by omega) (by decide) (h.2.2.1 k (by omega)) dX10_nameBetween_88 ?_
            refine Rn.i2l (pc := 89) dX10_nameBetween_89 ?_
            rw [nI_l (by have := h.2.2.2 k (by omega); omega)]
            refine Rn.lor (pc := 90) dX10_nameBetween_90 ?_
            rw [show pkN L a (k - a) * 2 ^ 8 = pkN L a (k - a) * 256 from rfl, g_or (k := 8) rfl (h.2.2.2 k (by omega)).2 (by have := (h.2.2.2 k (by omega)).2; omega), hpk]
            refine Rn.lstore_n (pc := 91) dX10_nameBetween_91 rfl (by decide) rfl sl6_3 ?_
            refine Rn.iincN (pc := 92) (n := 1) dX10_nameBetween_92 rfl (by decide) (by decide) rfl st6_5 ?_
            refine Rn.goto (pc := 95) (tgt := 44) dX10_nameBetween_95 (by decide) ?_
            exact ih (e - (k + 1)) (by omega) (k + 1) (by omega) (by omega) rfl (by rw [hw, allWs, allWs, run_yes (by omega) (by simp [isWs, *])])
          · refine Rn.lconst (pc := 76) (v := lN 0) dX10_nameBetween_76 (by decide) ?_
            refine Rn.lret (pc := 77) rfl dX10_nameBetween_77 ?_
            refine ⟨?_, rfl⟩; rw [nmV, if_neg (by rw [hw, allWs, run_no (by omega) (by simp [isWs, *])]; simp; omega)]
  refine Rn.iload_n (pc := 0) dX10_nameBetween_0 rfl rfl ?_
  refine Rn.if_lt (pc := 1) (y := 0) (tgt := 37) dX10_nameBetween_1 (by decide) (fun c1 => ?_) (fun c1 => ?_)
  · exact absurd c1 (nI_pos (by omega))
  · refine Rn.iload_n (pc := 4) dX10_nameBetween_4 rfl rfl ?_
    refine Rn.aload_n (pc := 5) dX10_nameBetween_5 rfl rfl ?_
    refine Rn.getI (pc := 6) (t := 0) flX10_15 h.1 dX10_nameBetween_6 ?_
    refine Rn.icmp_gtN (pc := 9) (tgt := 37) dX10_nameBetween_9 (by decide) (by omega) (by omega) (fun c9 => ?_) (fun c9 => ?_)
    · exact absurd c9 (by omega)
    · refine Rn.iload_n (pc := 12) dX10_nameBetween_12 rfl rfl ?_
      refine Rn.iload_n (pc := 13) dX10_nameBetween_13 rfl rfl ?_
      refine Rn.icmp_leN (pc := 14) (tgt := 37) dX10_nameBetween_14 (by decide) (by omega) (by omega) (fun c14 => ?_) (fun c14 => ?_)
      · refine Rn.lconst (pc := 37) (v := lN 0) dX10_nameBetween_37 (by decide) ?_
        refine Rn.lret (pc := 38) rfl dX10_nameBetween_38 ?_
        refine ⟨?_, rfl⟩; rw [nmV, if_neg (by simp [isNm, *]; try omega)]
      · refine Rn.iload_n (pc := 17) dX10_nameBetween_17 rfl rfl ?_
        refine Rn.iload_n (pc := 18) dX10_nameBetween_18 rfl rfl ?_
        refine Rn.isub (pc := 19) dX10_nameBetween_19 ?_
        rw [pk_sub (by omega)]
        refine Rn.bipush (pc := 20) (v := nI 6) dX10_nameBetween_20 (by decide) ?_
        refine Rn.icmp_gtN (pc := 22) (tgt := 37) dX10_nameBetween_22 (by decide) (by omega) (by omega) (fun c22 => ?_) (fun c22 => ?_)
        · refine Rn.lconst (pc := 37) (v := lN 0) dX10_nameBetween_37 (by decide) ?_
          refine Rn.lret (pc := 38) rfl dX10_nameBetween_38 ?_
          refine ⟨?_, rfl⟩; rw [nmV, if_neg (by simp [isNm, *]; try omega)]
        · refine Rn.aload_n (pc := 25) dX10_nameBetween_25 rfl rfl ?_
          refine Rn.getR (pc := 26) flX10_9 mu9_0 fx9_0 dX10_nameBetween_26 ?_
          refine Rn.iload_n (pc := 29) dX10_nameBetween_29 rfl rfl ?_
          refine Rn.caldN (pc := 30) ak12 (by omega) (by decide) (h.2.2.1 a (by omega)) dX10_nameBetween_30 ?_
          refine Rn.callN (pc := 31) (as := [_]) cnX10_19 ⟨by decide, by decide⟩ dX10_nameBetween_31 (Nat.le_of_ble_eq_true rfl) rfl (k_isLetter G (L a) (by have := h.2.2.2 a (by omega); omega)) ?_
          rintro _ M9 ⟨rfl, h9⟩
          rw [h9]
          refine Rn.if_neB (pc := 34) (tgt := 39) dX10_nameBetween_34 (by decide) (fun c34 => ?_) (fun c34 => ?_)
          · refine Rn.lconst (pc := 39) (v := lN 0) dX10_nameBetween_39 (by decide) ?_
            refine Rn.lstore_n (pc := 40) dX10_nameBetween_40 rfl (by decide) rfl sl6_3 ?_
            refine Rn.iload_n (pc := 41) dX10_nameBetween_41 rfl rfl ?_
            refine Rn.istore (pc := 42) dX10_nameBetween_42 (by decide) rfl st6_5 ?_
            have h0 := loop (by omega) _ a (Nat.le_refl _) ha rfl (by simp [isNm, *]; omega)
            rw [Nat.sub_self] at h0
            exact h0
          · refine Rn.lconst (pc := 37) (v := lN 0) dX10_nameBetween_37 (by decide) ?_
            refine Rn.lret (pc := 38) rfl dX10_nameBetween_38 ?_
            refine ⟨?_, rfl⟩; rw [nmV, if_neg (by simp [isNm, *]; try omega)]

