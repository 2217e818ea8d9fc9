def tch (L : Nat → Nat) (a e i : Nat) : Nat := if a + i < e then L (a + i) else 0
def allc (M : Mem) (k : Nat) (T : Nat → Nat) : Nat → Nat → Bool
  | 0, _ => true
  | d + 1, i => decide (mI M 26 0 (6 * k + i) = nI (T i)) && allc M k T d (i + 1)
def mtc (M : Mem) (m : Int32) (T : Nat → Nat) (k : Nat) : Bool := decide (mI M 27 0 k = m) && allc M k T 6 0
def lfF (M : Mem) (m : Int32) (T : Nat → Nat) : Nat → Nat → Option Nat
  | 0, _ => none
  | d + 1, k => if mtc M m T k = true then some k else lfF M m T d (k + 1)
theorem prV_n : prV none = -1 := rfl
theorem prV_s {k : Nat} : prV (some k) = nI k := rfl
set_option maxRecDepth 20000 in
set_option maxHeartbeats 4000000 in
theorem c_labelOf (G : GX) {o : Nat} {L : Nat → Nat} {M : Mem} (m : Int32) (a e rows c : Nat) (ha : a ≤ e) (hoe : o + e ≤ 4608) (htx : ∀ i, a ≤ i → i < e → mI M 25 0 (o + i) = nI (L i)) (hrc : (rows = 0 ∧ mI M 11 0 19 = nI c) ∨ (rows = 96 ∧ mI M 11 0 20 = nI c)) (hc : c ≤ 96) : MetM G yX12_labelOf iX12_labelOf [vR 11 0, vI m, vI (nI (o + a)), vI (nI (o + e)), vI (nI rows)] M (fun r M' => r = some (vI (prV (lfF M m (tch L a e) c rows))) ∧ M' = M) := by
  refine MetM.of (ls := [some (vR 11 0), some (vI m), some (vI (nI (o + a))), some (vI (nI (o + e))), some (vI (nI rows)), none, none, none, none]) (by decide) rfl (Nat.le_of_ble_eq_true rfl) rfl ?_
  intro hM0
  have hr9 : rows ≤ 96 := by rcases hrc with q | q <;> omega
  have inner : ∀ (k : Nat), k < 192 → ∀ (bb : Bool), (∀ (b : Bool) (x8 : Option AV), bb = b → Rn G iX12_labelOf (fun r M' => r = some (vI (prV (lfF M m (tch L a e) c rows))) ∧ M' = M) 115 [some (vR 11 0), some (vI m), some (vI (nI (o + a))), some (vI (nI (o + e))), some (vI (nI rows)), some (vI (nI c)), some (vI (nI k)), some (vI (bI b)), x8] [] M) → ∀ (d i : Nat) (b : Bool), i ≤ 6 → 6 - i = d → bb = (b && allc M k (tch L a e) (6 - i) i) → Rn G iX12_labelOf (fun r M' => r = some (vI (prV (lfF M m (tch L a e) c rows))) ∧ M' = M) 53 [some (vR 11 0), some (vI m), some (vI (nI (o + a))), some (vI (nI (o + e))), some (vI (nI rows)), some (vI (nI c)), some (vI (nI k)), some (vI (bI b)), some (vI (nI i))] [] M := by
    intro k hk bb K d
    induction d using Nat.strongRecOn with
    | ind d ih =>
      intro i b hi hd hb
      have K115 : ∀ (b : Bool) (x8 : Option AV), bb = b → Rn G iX12_labelOf (fun r M' => r = some (vI (prV (lfF M m (tch L a e) c rows))) ∧ M' = M) 115 [some (vR 11 0), some (vI m), some (vI (nI (o + a))), some (vI (nI (o + e))), some (vI (nI rows)), some (vI (nI c)), some (vI (nI k)), some (vI (bI b)), x8] [] M := K
      refine Rn.iload (pc := 53) dX12_labelOf_53 rfl ?_
      refine Rn.bipush (pc := 55) (v := nI 6) dX12_labelOf_55 (by decide) ?_
      refine Rn.icmp_geN (pc := 57) (tgt := 115) dX12_labelOf_57 (by decide) (by omega) (by omega) (fun c57 => ?_) (fun c57 => ?_)
      · exact K115 b _ (by rw [hb, show 6 - i = 0 by omega, allc, Bool.and_true])
      · refine Rn.iload (pc := 60) dX12_labelOf_60 rfl ?_
        refine Rn.if_eqB (pc := 62) (tgt := 115) dX12_labelOf_62 (by decide) (fun c62 => ?_) (fun c62 => ?_)
        · exact K115 b _ (by rw [hb, c62]; rfl)
        · refine Rn.aload_n (pc := 65) dX12_labelOf_65 rfl rfl ?_
          refine Rn.getR (pc := 66) flX12_23 mu11_21 fx11_21 dX12_labelOf_66 ?_
          refine Rn.bipush (pc := 69) (v := nI 6) dX12_labelOf_69 (by decide) ?_
          refine Rn.iload (pc := 71) dX12_labelOf_71 rfl ?_
          refine Rn.imulN (pc := 73) dX12_labelOf_73 ?_
          refine Rn.iload (pc := 74) dX12_labelOf_74 rfl ?_
          refine Rn.iaddN (pc := 76) dX12_labelOf_76 ?_
          refine Rn.caldN (pc := 77) ak26 (by omega) (by decide) rfl dX12_labelOf_77 ?_
          refine Rn.iload_n (pc := 78) dX12_labelOf_78 rfl rfl ?_
          refine Rn.iload (pc := 79) dX12_labelOf_79 rfl ?_
          refine Rn.iaddN (pc := 81) dX12_labelOf_81 ?_
          rw [Nat.add_assoc]
          refine Rn.iload_n (pc := 82) dX12_labelOf_82 rfl rfl ?_
          refine Rn.icmp_geN (pc := 83) (tgt := 98) dX12_labelOf_83 (by decide) (by omega) (by omega) (fun c83 => ?_) (fun c83 => ?_)
          · refine Rn.iconst (pc := 98) (v := nI 0) dX12_labelOf_98 (by decide) ?_
            refine Rn.icmp_ne (pc := 99) (tgt := 106) dX12_labelOf_99 (by decide) (fun c99 => ?_) (fun c99 => ?_)
            · refine Rn.iconst (pc := 106) (v := nI 0) dX12_labelOf_106 (by decide) ?_
              refine Rn.istore (pc := 107) dX12_labelOf_107 (by decide) rfl st9_7 ?_
              refine Rn.iincN (pc := 109) (n := 1) dX12_labelOf_109 rfl (by decide) (by decide) rfl st9_8 ?_
              refine Rn.goto (pc := 112) (tgt := 53) dX12_labelOf_112 (by decide) ?_
              exact ih (6 - (i + 1)) (by omega) (i + 1) false (by omega) rfl (by rw [hb, c62, show 6 - i = (6 - (i + 1)) + 1 by omega, allc, tch, if_neg (by omega)]; simp [c99])
            · refine Rn.iconst (pc := 102) (v := nI 1) dX12_labelOf_102 (by decide) ?_
              refine Rn.goto (pc := 103) (tgt := 107) dX12_labelOf_103 (by decide) ?_
              refine Rn.istore (pc := 107) dX12_labelOf_107 (by decide) rfl st9_7 ?_
              refine Rn.iincN (pc := 109) (n := 1) dX12_labelOf_109 rfl (by decide) (by decide) rfl st9_8 ?_
              refine Rn.goto (pc := 112) (tgt := 53) dX12_labelOf_112 (by decide) ?_
              exact ih (6 - (i + 1)) (by omega) (i + 1) true (by omega) rfl (by rw [hb, c62, show 6 - i = (6 - (i + 1)) + 1 by omega, allc, tch, if_neg (by omega)]; simp [c99])
          · refine Rn.aload_n (pc := 86) dX12_labelOf_86 rfl rfl ?_
            refine Rn.getR (pc := 87) flX12_20 mu11_5 fx11_5 dX12_labelOf_87 ?_
            refine Rn.iload_n (pc := 90) dX12_labelOf_90 rfl rfl ?_
            refine Rn.iload (pc := 91) dX12_labelOf_91 rfl ?_
            refine Rn.iaddN (pc := 93) dX12_labelOf_93 ?_
            rw [Nat.add_assoc]
            refine Rn.caldN (pc := 94) ak25 (by omega) (by decide) (htx (a + i) (by omega) (by omega)) dX12_labelOf_94 ?_
            refine Rn.goto (pc := 95) (tgt := 99) dX12_labelOf_95 (by decide) ?_
            refine Rn.icmp_ne (pc := 99) (tgt := 106) dX12_labelOf_99 (by decide) (fun c99 => ?_) (fun c99 => ?_)
            · refine Rn.iconst (pc := 106) (v := nI 0) dX12_labelOf_106 (by decide) ?_
              refine Rn.istore (pc := 107) dX12_labelOf_107 (by decide) rfl st9_7 ?_
              refine Rn.iincN (pc := 109) (n := 1) dX12_labelOf_109 rfl (by decide) (by decide) rfl st9_8 ?_
              refine Rn.goto (pc := 112) (tgt := 53) dX12_labelOf_112 (by decide) ?_
              exact ih (6 - (i + 1)) (by omega) (i + 1) false (by omega) rfl (by rw [hb, c62, show 6 - i = (6 - (i + 1)) + 1 by omega, allc, tch, if_pos (by omega)]; simp [c99])
            · refine Rn.iconst (pc := 102) (v := nI 1) dX12_labelOf_102 (by decide) ?_
              refine Rn.goto (pc := 103) (tgt := 107) dX12_labelOf_103 (by decide) ?_
              refine Rn.istore (pc := 107) dX12_labelOf_107 (by decide) rfl st9_7 ?_
              refine Rn.iincN (pc := 109) (n := 1) dX12_labelOf_109 rfl (by decide) (by decide) rfl st9_8 ?_
              refine Rn.goto (pc := 112) (tgt := 53) dX12_labelOf_112 (by decide) ?_
              exact ih (6 - (i + 1)) (by omega) (i + 1) true (by omega) rfl (by rw [hb, c62, show 6 - i = (6 - (i + 1)) + 1 by omega, allc, tch, if_pos (by omega)]; simp [c99])
  have loop : ∀ (d k : Nat) (x7 x8 : Option AV), rows ≤ k → k ≤ rows + c → rows + c - k = d → lfF M m (tch L a e) c rows = lfF M m (tch L a e) (rows + c - k) k → Rn G iX12_labelOf (fun r M' => r = some (vI (prV (lfF M m (tch L a e) c rows))) ∧ M' = M) 22 [some (vR 11 0), some (vI m), some (vI (nI (o + a))), some (vI (nI (o + e))), some (vI (nI rows)), some (vI (nI c)), some (vI (nI k)), x7, x8] [] M := by
    intro d
    induction d using Nat.strongRecOn with
    | ind d ih =>
      intro k x7 x8 hk hk2 hd hw
      refine Rn.iload (pc := 22) dX12_labelOf_22 rfl ?_
      refine Rn.iload (pc := 24) dX12_labelOf_24 rfl ?_
      refine Rn.iload (pc := 26) dX12_labelOf_26 rfl ?_
      refine Rn.iaddN (pc := 28) dX12_labelOf_28 ?_
      refine Rn.icmp_geN (pc := 29) (tgt := 129) dX12_labelOf_29 (by decide) (by omega) (by omega) (fun c29 => ?_) (fun c29 => ?_)
      · refine Rn.iconst (pc := 129) (v := -1) dX12_labelOf_129 (by decide) ?_
        refine Rn.iret (pc := 130) rfl dX12_labelOf_130 ?_
        refine ⟨?_, rfl⟩; rw [hw, show rows + c - k = 0 by omega, lfF]; rfl
      · refine Rn.aload_n (pc := 32) dX12_labelOf_32 rfl rfl ?_
        refine Rn.getR (pc := 33) flX12_26 mu11_22 fx11_22 dX12_labelOf_33 ?_
        refine Rn.iload (pc := 36) dX12_labelOf_36 rfl ?_
        refine Rn.ialdN (pc := 38) ak27 (by omega) (by decide) rfl dX12_labelOf_38 ?_
        refine Rn.iload_n (pc := 39) dX12_labelOf_39 rfl rfl ?_
        refine Rn.icmp_ne (pc := 40) (tgt := 47) dX12_labelOf_40 (by decide) (fun c40 => ?_) (fun c40 => ?_)
        · refine Rn.iconst (pc := 47) (v := nI 0) dX12_labelOf_47 (by decide) ?_
          refine Rn.istore (pc := 48) dX12_labelOf_48 (by decide) rfl st9_7 ?_
          refine Rn.iconst (pc := 50) (v := nI 0) dX12_labelOf_50 (by decide) ?_
          refine Rn.istore (pc := 51) dX12_labelOf_51 (by decide) rfl st9_8 ?_
          refine inner k (by omega) (mtc M m (tch L a e) k) ?_ _ 0 false (by omega) rfl (by rw [mtc]; simp [c40])
          intro b x8 hb
          refine Rn.iload (pc := 115) dX12_labelOf_115 rfl ?_
          refine Rn.if_eqB (pc := 117) (tgt := 123) dX12_labelOf_117 (by decide) (fun c117 => ?_) (fun c117 => ?_)
          · refine Rn.iincN (pc := 123) (n := 1) dX12_labelOf_123 rfl (by decide) (by decide) rfl st9_6 ?_
            refine Rn.goto (pc := 126) (tgt := 22) dX12_labelOf_126 (by decide) ?_
            exact ih (rows + c - (k + 1)) (by omega) (k + 1) _ _ (by omega) (by omega) rfl (by rw [hw, show rows + c - k = (rows + c - (k + 1)) + 1 by omega, lfF, if_neg (by rw [hb, c117]; decide)])
          · refine Rn.iload (pc := 120) dX12_labelOf_120 rfl ?_
            refine Rn.iret (pc := 122) rfl dX12_labelOf_122 ?_
            refine ⟨?_, rfl⟩; rw [hw, show rows + c - k = (rows + c - (k + 1)) + 1 by omega, lfF, if_pos (by rw [hb, c117])]; rfl
        · refine Rn.iconst (pc := 43) (v := nI 1) dX12_labelOf_43 (by decide) ?_
          refine Rn.goto (pc := 44) (tgt := 48) dX12_labelOf_44 (by decide) ?_
          refine Rn.istore (pc := 48) dX12_labelOf_48 (by decide) rfl st9_7 ?_
          refine Rn.iconst (pc := 50) (v := nI 0) dX12_labelOf_50 (by decide) ?_
          refine Rn.istore (pc := 51) dX12_labelOf_51 (by decide) rfl st9_8 ?_
          refine inner k (by omega) (mtc M m (tch L a e) k) ?_ _ 0 true (by omega) rfl (by rw [mtc]; simp [c40])
          intro b x8 hb
          refine Rn.iload (pc := 115) dX12_labelOf_115 rfl ?_
          refine Rn.if_eqB (pc := 117) (tgt := 123) dX12_labelOf_117 (by decide) (fun c117 => ?_) (fun c117 => ?_)
          · refine Rn.iincN (pc := 123) (n := 1) dX12_labelOf_123 rfl (by decide) (by decide) rfl st9_6 ?_
            refine Rn.goto (pc := 126) (tgt := 22) dX12_labelOf_126 (by decide) ?_
            exact ih (rows + c - (k + 1)) (by omega) (k + 1) _ _ (by omega) (by omega) rfl (by rw [hw, show rows + c - k = (rows + c - (k + 1)) + 1 by omega, lfF, if_neg (by rw [hb, c117]; decide)])
          · refine Rn.iload (pc := 120) dX12_labelOf_120 rfl ?_
            refine Rn.iret (pc := 122) rfl dX12_labelOf_122 ?_
            refine ⟨?_, rfl⟩; rw [hw, show rows + c - k = (rows + c - (k + 1)) + 1 by omega, lfF, if_pos (by rw [hb, c117])]; rfl
  refine Rn.iload (pc := 0) dX12_labelOf_0 rfl ?_
  refine Rn.if_ne (pc := 2) (y := 0) (tgt := 12) dX12_labelOf_2 (by decide) (fun c2 => ?_) (fun c2 => ?_)
  · have hgood : mI M 11 0 20 = nI c := by rcases hrc with q | q; exact absurd (by rw [q.1]; rfl) c2; exact q.2
    refine Rn.aload_n (pc := 12) dX12_labelOf_12 rfl rfl ?_
    refine Rn.getI (pc := 13) (t := 0) flX12_322 hgood dX12_labelOf_13 ?_
    refine Rn.istore (pc := 16) dX12_labelOf_16 (by decide) rfl st9_5 ?_
    refine Rn.iload (pc := 18) dX12_labelOf_18 rfl ?_
    refine Rn.istore (pc := 20) dX12_labelOf_20 (by decide) rfl st9_6 ?_
    exact loop _ rows _ _ (Nat.le_refl _) (by omega) rfl (by rw [Nat.add_sub_cancel_left])
  · have hlab : mI M 11 0 19 = nI c := by rcases hrc with q | q; exact q.2; exact absurd c2 (by rw [q.1]; decide)
    refine Rn.aload_n (pc := 5) dX12_labelOf_5 rfl rfl ?_
    refine Rn.getI (pc := 6) (t := 0) flX12_319 hlab dX12_labelOf_6 ?_
    refine Rn.goto (pc := 9) (tgt := 16) dX12_labelOf_9 (by decide) ?_
    refine Rn.istore (pc := 16) dX12_labelOf_16 (by decide) rfl st9_5 ?_
    refine Rn.iload (pc := 18) dX12_labelOf_18 rfl ?_
    refine Rn.istore (pc := 20) dX12_labelOf_20 (by decide) rfl st9_6 ?_
    exact loop _ rows _ _ (Nat.le_refl _) (by omega) rfl (by rw [Nat.add_sub_cancel_left])

theorem allc_congr {M M' : Mem} (h : ∀ x, mI M' 26 0 x = mI M 26 0 x) {k : Nat} {T : Nat → Nat} : ∀ (d i : Nat), allc M' k T d i = allc M k T d i
  | 0, _ => rfl
  | d + 1, i => by rw [allc, allc, h, allc_congr h d]
theorem lfF_congr {M M' : Mem} (h : ∀ x, mI M' 26 0 x = mI M 26 0 x) (h2 : ∀ x, mI M' 27 0 x = mI M 27 0 x) {m : Int32} {T : Nat → Nat} : ∀ (d k : Nat), lfF M' m T d k = lfF M m T d k
  | 0, _ => rfl
  | d + 1, k => by rw [lfF, lfF, mtc, mtc, allc_congr h, h2, lfF_congr h h2 d]
theorem lfF_lt {M : Mem} {m : Int32} {T : Nat → Nat} {q : Nat} : ∀ (d k : Nat), lfF M m T d k = some q → k ≤ q ∧ q < k + d ∧ mtc M m T q = true
  | 0, _, h => by cases h
  | d + 1, k, h => by
    rw [lfF] at h
    split at h
    · cases h; rename_i g; exact ⟨by omega, by omega, g⟩
    · obtain ⟨h1, h2, h3⟩ := lfF_lt d (k + 1) h; exact ⟨by omega, by omega, h3⟩
set_option maxRecDepth 20000 in
set_option maxHeartbeats 4000000 in
theorem c_isTwice (G : GX) {o : Nat} {L : Nat → Nat} {M : Mem} (m : Int32) (a e c : Nat) (ha : a ≤ e) (hoe : o + e ≤ 4608) (htx : ∀ i, a ≤ i → i < e → mI M 25 0 (o + i) = nI (L i)) (hlab : mI M 11 0 19 = nI c) (hc : c ≤ 96) (hlf : mI M 11 0 11 = nI (o + a)) (hlt : mI M 11 0 12 = nI (o + e)) : MetM G yX12_isTwice iX12_isTwice [vR 11 0, vI m] M (fun r M' => r = some (vI (bI (lfF M m (tch L a e) c 0).isSome)) ∧ M' = M) := by
  refine MetM.of (ls := [some (vR 11 0), some (vI m)]) (by decide) rfl (Nat.le_of_ble_eq_true rfl) rfl ?_
  intro hM0
  refine Rn.aload_n (pc := 0) dX12_isTwice_0 rfl rfl ?_
  refine Rn.iload_n (pc := 1) dX12_isTwice_1 rfl rfl ?_
  refine Rn.aload_n (pc := 2) dX12_isTwice_2 rfl rfl ?_
  refine Rn.getI (pc := 3) (t := 0) flX12_294 hlf dX12_isTwice_3 ?_
  refine Rn.aload_n (pc := 6) dX12_isTwice_6 rfl rfl ?_
  refine Rn.getI (pc := 7) (t := 0) flX12_297 hlt dX12_isTwice_7 ?_
  refine Rn.iconst (pc := 10) (v := nI 0) dX12_isTwice_10 (by decide) ?_
  refine Rn.callV (pc := 11) (as := [_, _, _, _]) cvX12_300 ⟨by decide, rfl⟩ ⟨by decide, by decide⟩ dX12_isTwice_11 (Nat.le_of_ble_eq_true rfl) rfl (c_labelOf G m a e 0 c ha hoe htx (Or.inl ⟨rfl, hlab⟩) hc) ?_
  rintro _ M9 ⟨rfl, h9⟩
  rw [h9]
  refine Rn.if_lt (pc := 14) (y := 0) (tgt := 21) dX12_isTwice_14 (by decide) (fun c14 => ?_) (fun c14 => ?_)
  · refine Rn.iconst (pc := 21) (v := nI 0) dX12_isTwice_21 (by decide) ?_
    refine Rn.zret (pc := 22) rfl rfl dX12_isTwice_22 ?_
    refine ⟨?_, rfl⟩
    cases hq : lfF M m (tch L a e) c 0 with
    | none => rfl
    | some q => rw [hq] at c14; exact absurd c14 (Int32.not_lt.mpr (nI_pos' (by have := lfF_lt _ _ hq; omega)))
  · refine Rn.iconst (pc := 17) (v := nI 1) dX12_isTwice_17 (by decide) ?_
    refine Rn.goto (pc := 18) (tgt := 22) dX12_isTwice_18 (by decide) ?_
    refine Rn.zret (pc := 22) rfl rfl dX12_isTwice_22 ?_
    refine ⟨?_, rfl⟩
    cases hq : lfF M m (tch L a e) c 0 with
    | none => rw [hq] at c14; exact absurd (by decide) c14
    | some q => rfl

