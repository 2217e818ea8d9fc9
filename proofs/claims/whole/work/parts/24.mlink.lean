def pB (M : Mem) (sec z : Nat) (v : Int32) : Mem := sI (if z < 1024 then sI M 34 0 (1024 * sec + z) (v &&& nI 255) else M) 31 0 sec (nI (z + 1))
theorem pB_z {M : Mem} {sec z : Nat} {v : Int32} : mI (pB M sec z v) 31 0 sec = nI (z + 1) := by
  unfold pB; rw [mI_sI, if_pos ⟨rfl, rfl, rfl⟩]
set_option maxRecDepth 20000 in
set_option maxHeartbeats 4000000 in
theorem c_putByte (G : GX) {M : Mem} (sec z : Nat) (v : Int32) (hsec : sec < 12) (hz : mI M 31 0 sec = nI z) (hz2 : z < 2 ^ 30) : MetM G yX12_putByte iX12_putByte [vR 11 0, vI (nI sec), vI v] M (fun q M' => q = none ∧ M' = pB M sec z v) := by
  refine MetM.of (ls := [some (vR 11 0), some (vI (nI sec)), some (vI v)]) (by decide) rfl (Nat.le_of_ble_eq_true rfl) rfl ?_
  intro hM0
  refine Rn.aload_n (pc := 0) dX12_putByte_0 rfl rfl ?_
  refine Rn.getR (pc := 1) flX12_39 mu11_26 fx11_26 dX12_putByte_1 ?_
  refine Rn.iload_n (pc := 4) dX12_putByte_4 rfl rfl ?_
  refine Rn.ialdN (pc := 5) ak31 (by omega) (by decide) hz dX12_putByte_5 ?_
  refine Rn.sipush (pc := 6) (v := nI 1024) dX12_putByte_6 (by decide) ?_
  refine Rn.icmp_geN (pc := 9) (tgt := 34) dX12_putByte_9 (by decide) (by omega) (by omega) (fun c9 => ?_) (fun c9 => ?_)
  · have hz9 := hz
    refine Rn.aload_n (pc := 34) dX12_putByte_34 rfl rfl ?_
    refine Rn.getR (pc := 35) flX12_39 mu11_26 fx11_26 dX12_putByte_35 ?_
    refine Rn.iload_n (pc := 38) dX12_putByte_38 rfl rfl ?_
    refine Rn.dup2IR (pc := 39) (y := 0) dX12_putByte_39 ?_
    refine Rn.ialdN (pc := 40) ak31 (by omega) (by decide) hz9 dX12_putByte_40 ?_
    refine Rn.iconst (pc := 41) (v := nI 1) dX12_putByte_41 (by decide) ?_
    refine Rn.iaddN (pc := 42) dX12_putByte_42 ?_
    refine Rn.iastN (pc := 43) ak31 (by omega) (by decide) dX12_putByte_43 ?_
    refine Rn.vret (pc := 44) rfl dX12_putByte_44 ?_
    refine ⟨rfl, ?_⟩; rw [pB, if_neg (by omega)]
  · refine Rn.aload_n (pc := 12) dX12_putByte_12 rfl rfl ?_
    refine Rn.getR (pc := 13) flX12_48 mu11_29 fx11_29 dX12_putByte_13 ?_
    refine Rn.sipush (pc := 16) (v := nI 1024) dX12_putByte_16 (by decide) ?_
    refine Rn.iload_n (pc := 19) dX12_putByte_19 rfl rfl ?_
    refine Rn.imulN (pc := 20) dX12_putByte_20 ?_
    refine Rn.aload_n (pc := 21) dX12_putByte_21 rfl rfl ?_
    refine Rn.getR (pc := 22) flX12_39 mu11_26 fx11_26 dX12_putByte_22 ?_
    refine Rn.iload_n (pc := 25) dX12_putByte_25 rfl rfl ?_
    refine Rn.ialdN (pc := 26) ak31 (by omega) (by decide) hz dX12_putByte_26 ?_
    refine Rn.iaddN (pc := 27) dX12_putByte_27 ?_
    refine Rn.iload_n (pc := 28) dX12_putByte_28 rfl rfl ?_
    refine Rn.sipush (pc := 29) (v := nI 255) dX12_putByte_29 (by decide) ?_
    refine Rn.iand (pc := 32) dX12_putByte_32 ?_
    refine Rn.iastN (pc := 33) ak34 (by omega) (by decide) dX12_putByte_33 ?_
    have hz9 : mI (sI M 34 0 (1024 * sec + z) (v &&& nI 255)) 31 0 sec = nI z := hz
    refine Rn.aload_n (pc := 34) dX12_putByte_34 rfl rfl ?_
    refine Rn.getR (pc := 35) flX12_39 mu11_26 fx11_26 dX12_putByte_35 ?_
    refine Rn.iload_n (pc := 38) dX12_putByte_38 rfl rfl ?_
    refine Rn.dup2IR (pc := 39) (y := 0) dX12_putByte_39 ?_
    refine Rn.ialdN (pc := 40) ak31 (by omega) (by decide) hz9 dX12_putByte_40 ?_
    refine Rn.iconst (pc := 41) (v := nI 1) dX12_putByte_41 (by decide) ?_
    refine Rn.iaddN (pc := 42) dX12_putByte_42 ?_
    refine Rn.iastN (pc := 43) ak31 (by omega) (by decide) dX12_putByte_43 ?_
    refine Rn.vret (pc := 44) rfl dX12_putByte_44 ?_
    refine ⟨rfl, ?_⟩; rw [pB, if_pos (by omega)]

def pMF (sec : Nat) (v : Int32) : Nat → Nat → Nat → Mem → Mem
  | 0, _, _, M => M
  | d + 1, k, z, M => pMF sec v d (k + 1) (z + 1) (pB M sec z (v >>> (nI (8 * k) &&& 31)))
set_option maxRecDepth 20000 in
set_option maxHeartbeats 4000000 in
theorem c_putMany (G : GX) {M : Mem} (sec z n : Nat) (v : Int32) (hsec : sec < 12) (hz : mI M 31 0 sec = nI z) (hz2 : z + n < 2 ^ 30) : MetM G yX12_putMany iX12_putMany [vR 11 0, vI (nI sec), vI v, vI (nI n)] M (fun q M' => q = none ∧ M' = pMF sec v n 0 z M) := by
  refine MetM.of (ls := [some (vR 11 0), some (vI (nI sec)), some (vI v), some (vI (nI n)), none]) (by decide) rfl (Nat.le_of_ble_eq_true rfl) rfl ?_
  intro hM0
  have loop : ∀ (d k u : Nat) (N : Mem), k ≤ n → n - k ≤ d → mI N 31 0 sec = nI u → pMF sec v n 0 z M = pMF sec v (n - k) k u N → u + (n - k) < 2 ^ 30 → Rn G iX12_putMany (fun q M' => q = none ∧ M' = pMF sec v n 0 z M) 3 [some (vR 11 0), some (vI (nI sec)), some (vI v), some (vI (nI n)), some (vI (nI k))] [] N := by
    intro d
    induction d using Nat.strongRecOn with
    | ind d0 ih =>
      intro k u N hk hd hu hR hub
      rcases Nat.eq_zero_or_pos (n - k) with h0 | h0
      · have hnk : n ≤ k := by omega
        refine Rn.iload (pc := 3) dX12_putMany_3 rfl ?_
        refine Rn.iload_n (pc := 5) dX12_putMany_5 rfl rfl ?_
        refine Rn.icmp_geN (pc := 6) (tgt := 27) dX12_putMany_6 (by decide) (by omega) (by omega) (fun c6 => ?_) (fun c6 => absurd c6 (by omega))
        refine Rn.vret (pc := 27) rfl dX12_putMany_27 ?_
        refine ⟨rfl, ?_⟩; rw [hR, h0, pMF]
      · obtain ⟨d, rfl⟩ : ∃ d, d0 = d + 1 := ⟨d0 - 1, by omega⟩
        refine Rn.iload (pc := 3) dX12_putMany_3 rfl ?_
        refine Rn.iload_n (pc := 5) dX12_putMany_5 rfl rfl ?_
        refine Rn.icmp_geN (pc := 6) (tgt := 27) dX12_putMany_6 (by decide) (by omega) (by omega) (fun c6 => ?_) (fun c6 => ?_)
        · refine Rn.vret (pc := 27) rfl dX12_putMany_27 ?_
          refine ⟨rfl, ?_⟩; rw [hR, show n - k = 0 by omega, pMF]
        · refine Rn.aload_n (pc := 9) dX12_putMany_9 rfl rfl ?_
          refine Rn.iload_n (pc := 10) dX12_putMany_10 rfl rfl ?_
          refine Rn.iload_n (pc := 11) dX12_putMany_11 rfl rfl ?_
          refine Rn.bipush (pc := 12) (v := nI 8) dX12_putMany_12 (by decide) ?_
          refine Rn.iload (pc := 14) dX12_putMany_14 rfl ?_
          refine Rn.imulN (pc := 16) dX12_putMany_16 ?_
          refine Rn.ishr (pc := 17) dX12_putMany_17 ?_
          refine Rn.callV (pc := 18) (as := [_, _]) cvX12_328 ⟨by decide, rfl⟩ ⟨by decide, by decide⟩ dX12_putMany_18 (Nat.le_of_ble_eq_true rfl) rfl (c_putByte G sec u (v >>> (nI (8 * k) &&& 31)) hsec hu (by omega)) ?_
          rintro _ _ ⟨rfl, rfl⟩
          refine Rn.iincN (pc := 21) (n := 1) dX12_putMany_21 rfl (by decide) (by decide) rfl st5_4 ?_
          refine Rn.goto (pc := 24) (tgt := 3) dX12_putMany_24 (by decide) ?_
          exact ih d (by omega) (k + 1) (u + 1) _ (by omega) (by omega) pB_z (by rw [hR, show n - k = (n - (k + 1)) + 1 by omega, pMF]) (by omega)
  refine Rn.iconst (pc := 0) (v := nI 0) dX12_putMany_0 (by decide) ?_
  refine Rn.istore (pc := 1) dX12_putMany_1 (by decide) rfl st5_4 ?_
  exact loop n 0 z M (by omega) (by omega) hz rfl (by omega)

set_option maxRecDepth 20000 in
set_option maxHeartbeats 4000000 in
theorem c_report (G : GX) {M : Mem} (k x y z : Int32) : MetM G yX12_report iX12_report [vR 11 0, vI k, vI x, vI y, vI z] M (fun q M' => q = some (vI k) ∧ M' = sI (sI (sI M 38 0 0 x) 38 0 1 y) 38 0 2 z) := by
  refine MetM.of (ls := [some (vR 11 0), some (vI k), some (vI x), some (vI y), some (vI z)]) (by decide) rfl (Nat.le_of_ble_eq_true rfl) rfl ?_
  intro hM0
  refine Rn.aload_n (pc := 0) dX12_report_0 rfl rfl ?_
  refine Rn.getR (pc := 1) flX12_60 mu11_35 fx11_35 dX12_report_1 ?_
  refine Rn.iconst (pc := 4) (v := nI 0) dX12_report_4 (by decide) ?_
  refine Rn.iload_n (pc := 5) dX12_report_5 rfl rfl ?_
  refine Rn.iastN (pc := 6) ak38 (by omega) (by decide) dX12_report_6 ?_
  refine Rn.aload_n (pc := 7) dX12_report_7 rfl rfl ?_
  refine Rn.getR (pc := 8) flX12_60 mu11_35 fx11_35 dX12_report_8 ?_
  refine Rn.iconst (pc := 11) (v := nI 1) dX12_report_11 (by decide) ?_
  refine Rn.iload_n (pc := 12) dX12_report_12 rfl rfl ?_
  refine Rn.iastN (pc := 13) ak38 (by omega) (by decide) dX12_report_13 ?_
  refine Rn.aload_n (pc := 14) dX12_report_14 rfl rfl ?_
  refine Rn.getR (pc := 15) flX12_60 mu11_35 fx11_35 dX12_report_15 ?_
  refine Rn.iconst (pc := 18) (v := nI 2) dX12_report_18 (by decide) ?_
  refine Rn.iload (pc := 19) dX12_report_19 rfl ?_
  refine Rn.iastN (pc := 21) ak38 (by omega) (by decide) dX12_report_21 ?_
  refine Rn.iload_n (pc := 22) dX12_report_22 rfl rfl ?_
  refine Rn.iret (pc := 23) rfl dX12_report_23 ?_
  exact ⟨rfl, rfl⟩

def nmS (M : Mem) (k : Nat) (T : Nat → Nat) : Nat → Nat → Mem
  | 0, _ => M
  | d + 1, i => nmS (sI M 26 0 (6 * k + i) (nI (T i))) k T d (i + 1)
def aL (M : Mem) (k : Nat) (m nw z : Int32) (T : Nat → Nat) : Mem := sI (nmS (sI (sI (sI (sI M 27 0 k m) 28 0 k nw) 29 0 k z) 30 0 k (nI 0)) k T 6 0) 11 0 19 (nI (k + 1))
theorem nmS_oth {k : Nat} {T : Nat → Nat} {a b c : Nat} (h : a ≠ 26) : ∀ (d i : Nat) (M : Mem), mI (nmS M k T d i) a b c = mI M a b c
  | 0, _, _ => rfl
  | d + 1, i, M => by rw [nmS, nmS_oth h d, mI_sI, if_neg (fun q => h q.1)]
set_option maxRecDepth 20000 in
set_option maxHeartbeats 4000000 in
theorem c_addLabel (G : GX) {o : Nat} {L : Nat → Nat} {M : Mem} (mm k nw z a e : Nat) (hmm : mm < 4) (hk : mI M 11 0 19 = nI k) (hk9 : k < 96) (hnw : mI M 11 0 30 = nI nw) (hnw2 : nw < 3) (hz : mI M 31 0 (3 * mm + nw) = nI z) (ha : a ≤ e) (hoe : o + e ≤ 4608) (htx : ∀ i, a ≤ i → i < e → mI M 25 0 (o + i) = nI (L i)) (hLt : ∀ i, a ≤ i → i < e → L i < 256) (hlf : mI M 11 0 11 = nI (o + a)) (hlt : mI M 11 0 12 = nI (o + e)) : MetM G yX12_addLabel iX12_addLabel [vR 11 0, vI (nI mm)] M (fun q M' => q = none ∧ M' = aL M k (nI mm) (nI nw) (nI z) (tch L a e)) := by
  refine MetM.of (ls := [some (vR 11 0), some (vI (nI mm)), none]) (by decide) rfl (Nat.le_of_ble_eq_true rfl) rfl ?_
  intro hM0
  have loop : ∀ (d i : Nat) (N : Mem), i ≤ 6 → 6 - i = d → mI N 11 0 19 = nI k → mI N 11 0 11 = nI (o + a) → mI N 11 0 12 = nI (o + e) → (∀ i, a ≤ i → i < e → mI N 25 0 (o + i) = nI (L i)) → nmS (sI (sI (sI (sI M 27 0 k (nI mm)) 28 0 k (nI nw)) 29 0 k (nI z)) 30 0 k (nI 0)) k (tch L a e) 6 0 = nmS N k (tch L a e) (6 - i) i → Rn G iX12_addLabel (fun q M' => q = none ∧ M' = aL M k (nI mm) (nI nw) (nI z) (tch L a e)) 57 [some (vR 11 0), some (vI (nI mm)), some (vI (nI i))] [] N := by
    intro d
    induction d using Nat.strongRecOn with
    | ind d ih =>
      intro i N hi hd hN1 hN2 hN3 hNt hR
      refine Rn.iload_n (pc := 57) dX12_addLabel_57 rfl rfl ?_
      refine Rn.bipush (pc := 58) (v := nI 6) dX12_addLabel_58 (by decide) ?_
      refine Rn.icmp_geN (pc := 60) (tgt := 111) dX12_addLabel_60 (by decide) (by omega) (by omega) (fun c60 => ?_) (fun c60 => ?_)
      · refine Rn.aload_n (pc := 111) dX12_addLabel_111 rfl rfl ?_
        refine Rn.dupR (pc := 112) (x := 0) (y := 0) dX12_addLabel_112 ?_
        refine Rn.getI (pc := 113) (t := 0) flX12_319 (show mI N 11 0 19 = nI k from hN1) dX12_addLabel_113 ?_
        refine Rn.iconst (pc := 116) (v := nI 1) dX12_addLabel_116 (by decide) ?_
        refine Rn.iaddN (pc := 117) dX12_addLabel_117 ?_
        refine Rn.putI (pc := 118) (t := 0) flX12_319 rfl rfl dX12_addLabel_118 ?_
        refine Rn.vret (pc := 121) rfl dX12_addLabel_121 ?_
        refine ⟨rfl, ?_⟩; rw [aL, hR, show 6 - i = 0 by omega, nmS]
      · refine Rn.aload_n (pc := 63) dX12_addLabel_63 rfl rfl ?_
        refine Rn.getR (pc := 64) flX12_23 mu11_21 fx11_21 dX12_addLabel_64 ?_
        refine Rn.bipush (pc := 67) (v := nI 6) dX12_addLabel_67 (by decide) ?_
        refine Rn.aload_n (pc := 69) dX12_addLabel_69 rfl rfl ?_
        refine Rn.getI (pc := 70) (t := 0) flX12_319 (show mI N 11 0 19 = nI k from hN1) dX12_addLabel_70 ?_
        refine Rn.imulN (pc := 73) dX12_addLabel_73 ?_
        refine Rn.iload_n (pc := 74) dX12_addLabel_74 rfl rfl ?_
        refine Rn.iaddN (pc := 75) dX12_addLabel_75 ?_
        refine Rn.aload_n (pc := 76) dX12_addLabel_76 rfl rfl ?_
        refine Rn.getI (pc := 77) (t := 0) flX12_294 (show mI N 11 0 11 = nI (o + a) from hN2) dX12_addLabel_77 ?_
        refine Rn.iload_n (pc := 80) dX12_addLabel_80 rfl rfl ?_
        refine Rn.iaddN (pc := 81) dX12_addLabel_81 ?_
        rw [Nat.add_assoc]
        refine Rn.aload_n (pc := 82) dX12_addLabel_82 rfl rfl ?_
        refine Rn.getI (pc := 83) (t := 0) flX12_297 (show mI N 11 0 12 = nI (o + e) from hN3) dX12_addLabel_83 ?_
        refine Rn.icmp_geN (pc := 86) (tgt := 103) dX12_addLabel_86 (by decide) (by omega) (by omega) (fun c86 => ?_) (fun c86 => ?_)
        · refine Rn.iconst (pc := 103) (v := nI 0) dX12_addLabel_103 (by decide) ?_
          refine Rn.castN (pc := 104) ak26 (by omega) (by decide) (show vp_nar .char (nI 0) = nI 0 by decide) dX12_addLabel_104 ?_
          refine Rn.iincN (pc := 105) (n := 1) dX12_addLabel_105 rfl (by decide) (by decide) rfl st3_2 ?_
          refine Rn.goto (pc := 108) (tgt := 57) dX12_addLabel_108 (by decide) ?_
          refine ih (6 - (i + 1)) (by omega) (i + 1) _ (by omega) rfl hN1 hN2 hN3 hNt ?_
          rw [hR, show 6 - i = (6 - (i + 1)) + 1 by omega, nmS, tch, if_neg (by omega)]
        · refine Rn.aload_n (pc := 89) dX12_addLabel_89 rfl rfl ?_
          refine Rn.getR (pc := 90) flX12_20 mu11_5 fx11_5 dX12_addLabel_90 ?_
          refine Rn.aload_n (pc := 93) dX12_addLabel_93 rfl rfl ?_
          refine Rn.getI (pc := 94) (t := 0) flX12_294 (show mI N 11 0 11 = nI (o + a) from hN2) dX12_addLabel_94 ?_
          refine Rn.iload_n (pc := 97) dX12_addLabel_97 rfl rfl ?_
          refine Rn.iaddN (pc := 98) dX12_addLabel_98 ?_
          rw [Nat.add_assoc]
          refine Rn.caldN (pc := 99) ak25 (by omega) (by decide) (hNt (a + i) (by omega) (by omega)) dX12_addLabel_99 ?_
          refine Rn.goto (pc := 100) (tgt := 104) dX12_addLabel_100 (by decide) ?_
          refine Rn.castN (pc := 104) ak26 (by omega) (by decide) (vnc (by have := hLt (a + i) (by omega) (by omega); omega)) dX12_addLabel_104 ?_
          refine Rn.iincN (pc := 105) (n := 1) dX12_addLabel_105 rfl (by decide) (by decide) rfl st3_2 ?_
          refine Rn.goto (pc := 108) (tgt := 57) dX12_addLabel_108 (by decide) ?_
          refine ih (6 - (i + 1)) (by omega) (i + 1) _ (by omega) rfl hN1 hN2 hN3 hNt ?_
          rw [hR, show 6 - i = (6 - (i + 1)) + 1 by omega, nmS, tch, if_pos (by omega)]
  refine Rn.aload_n (pc := 0) dX12_addLabel_0 rfl rfl ?_
  refine Rn.getR (pc := 1) flX12_26 mu11_22 fx11_22 dX12_addLabel_1 ?_
  refine Rn.aload_n (pc := 4) dX12_addLabel_4 rfl rfl ?_
  refine Rn.getI (pc := 5) (t := 0) flX12_319 (show mI _ 11 0 19 = nI k from hk) dX12_addLabel_5 ?_
  refine Rn.iload_n (pc := 8) dX12_addLabel_8 rfl rfl ?_
  refine Rn.iastN (pc := 9) ak27 (by omega) (by decide) dX12_addLabel_9 ?_
  refine Rn.aload_n (pc := 10) dX12_addLabel_10 rfl rfl ?_
  refine Rn.getR (pc := 11) flX12_29 mu11_23 fx11_23 dX12_addLabel_11 ?_
  refine Rn.aload_n (pc := 14) dX12_addLabel_14 rfl rfl ?_
  refine Rn.getI (pc := 15) (t := 0) flX12_319 (show mI _ 11 0 19 = nI k from hk) dX12_addLabel_15 ?_
  refine Rn.aload_n (pc := 18) dX12_addLabel_18 rfl rfl ?_
  refine Rn.getI (pc := 19) (t := 0) flX12_325 (show mI _ 11 0 30 = nI nw from hnw) dX12_addLabel_19 ?_
  refine Rn.iastN (pc := 22) ak28 (by omega) (by decide) dX12_addLabel_22 ?_
  refine Rn.aload_n (pc := 23) dX12_addLabel_23 rfl rfl ?_
  refine Rn.getR (pc := 24) flX12_32 mu11_24 fx11_24 dX12_addLabel_24 ?_
  refine Rn.aload_n (pc := 27) dX12_addLabel_27 rfl rfl ?_
  refine Rn.getI (pc := 28) (t := 0) flX12_319 (show mI _ 11 0 19 = nI k from hk) dX12_addLabel_28 ?_
  refine Rn.aload_n (pc := 31) dX12_addLabel_31 rfl rfl ?_
  refine Rn.getR (pc := 32) flX12_39 mu11_26 fx11_26 dX12_addLabel_32 ?_
  refine Rn.iconst (pc := 35) (v := nI 3) dX12_addLabel_35 (by decide) ?_
  refine Rn.iload_n (pc := 36) dX12_addLabel_36 rfl rfl ?_
  refine Rn.imulN (pc := 37) dX12_addLabel_37 ?_
  refine Rn.aload_n (pc := 38) dX12_addLabel_38 rfl rfl ?_
  refine Rn.getI (pc := 39) (t := 0) flX12_325 (show mI _ 11 0 30 = nI nw from hnw) dX12_addLabel_39 ?_
  refine Rn.iaddN (pc := 42) dX12_addLabel_42 ?_
  refine Rn.ialdN (pc := 43) ak31 (by omega) (by decide) hz dX12_addLabel_43 ?_
  refine Rn.iastN (pc := 44) ak29 (by omega) (by decide) dX12_addLabel_44 ?_
  refine Rn.aload_n (pc := 45) dX12_addLabel_45 rfl rfl ?_
  refine Rn.getR (pc := 46) flX12_35 mu11_25 fx11_25 dX12_addLabel_46 ?_
  refine Rn.aload_n (pc := 49) dX12_addLabel_49 rfl rfl ?_
  refine Rn.getI (pc := 50) (t := 0) flX12_319 (show mI _ 11 0 19 = nI k from hk) dX12_addLabel_50 ?_
  refine Rn.iconst (pc := 53) (v := nI 0) dX12_addLabel_53 (by decide) ?_
  refine Rn.zastN (pc := 54) ak30 (by omega) (by decide) (show vp_nar .boolean (nI 0) = nI 0 by decide) dX12_addLabel_54 ?_
  refine Rn.iconst (pc := 55) (v := nI 0) dX12_addLabel_55 (by decide) ?_
  refine Rn.istore_n (pc := 56) dX12_addLabel_56 rfl (by decide) rfl st3_2 ?_
  exact loop _ 0 _ (by omega) rfl hk hlf hlt htx rfl

