theorem pB_oth {M : Mem} {sec z a b c : Nat} {v : Int32} (h : a ≠ 31 ∧ a ≠ 34) : mI (pB M sec z v) a b c = mI M a b c := by
  unfold pB
  rw [mI_sI, if_neg (fun q => h.1 q.1)]
  split
  · rw [mI_sI, if_neg (fun q => h.2 q.1)]
  · rfl
theorem pB_osz {M : Mem} {sec z c : Nat} {v : Int32} (h : c ≠ sec) : mI (pB M sec z v) 31 0 c = mI M 31 0 c := by
  unfold pB
  rw [mI_sI, if_neg (fun q => h q.2.2)]
  split
  · rfl
  · rfl
def zF (sec : Nat) : Nat → Nat → Mem → Mem
  | 0, _, M => M
  | d + 1, z, M => zF sec d (z + 1) (pB M sec z (nI 0))
theorem pMF_oth {sec : Nat} {v : Int32} {a b c : Nat} (h : a ≠ 31 ∧ a ≠ 34) : ∀ (d k z : Nat) (M : Mem), mI (pMF sec v d k z M) a b c = mI M a b c
  | 0, _, _, _ => rfl
  | d + 1, k, z, M => by rw [pMF, pMF_oth h d, pB_oth h]
theorem pMF_z {sec : Nat} {v : Int32} : ∀ (d k z : Nat) (M : Mem), mI M 31 0 sec = nI z → mI (pMF sec v d k z M) 31 0 sec = nI (z + d)
  | 0, _, _, _, h => h
  | d + 1, k, z, M, h => by rw [pMF, pMF_z d (k + 1) (z + 1) _ pB_z]; congr 1; omega
theorem zF_oth {sec a b c : Nat} (h : a ≠ 31 ∧ a ≠ 34) : ∀ (d z : Nat) (M : Mem), mI (zF sec d z M) a b c = mI M a b c
  | 0, _, _ => rfl
  | d + 1, z, M => by rw [zF, zF_oth h d, pB_oth h]
theorem zF_z {sec : Nat} : ∀ (d z : Nat) (M : Mem), mI M 31 0 sec = nI z → mI (zF sec d z M) 31 0 sec = nI (z + d)
  | 0, _, _, h => h
  | d + 1, z, M, h => by rw [zF, zF_z d (z + 1) _ pB_z]; congr 1; omega
/-- how many bytes a statement of kind st lays behind z -/
def lyN (st z num : Nat) : Nat := if st = 9 then (4 - z % 4) % 4 else if st = 8 then num else if st = 7 then 1 else if st = 5 ∨ st = 6 then 4 else if st = 13 then 4 else 2
def lyM (sec st z num : Nat) (vn vc : Int32) (M : Mem) : Mem := if st = 9 then zF sec ((4 - z % 4) % 4) z M else if st = 8 then zF sec num z M else if st = 7 then pB M sec z vn else if st = 5 ∨ st = 6 then pMF sec vn 4 0 z M else pMF sec vc (if st = 13 then 4 else 2) 0 z M
def lyF (sec st nw z num : Nat) (vn vc : Int32) (M : Mem) : Int32 × Mem :=
  if 1 ≤ st ∧ st < 4 then (nI 0, sI M 11 0 30 (nI (st - 1)))
  else if st = 0 ∨ st = 4 then (nI 0, M)
  else if (10 ≤ st ∧ nw ≠ 0) ∨ (st < 10 ∧ nw = 2 ∧ ¬ (st = 8 ∨ st = 9)) then (-5, M)
  else if (10 ≤ st ∧ z % 2 ≠ 0) ∨ ((st = 5 ∨ st = 6) ∧ z % 4 ≠ 0) then (-6, M)
  else ((if 1024 < z + lyN st z num then -7 else nI 0), lyM sec st z num vn vc M)
theorem lyF_K {sec st nw z num : Nat} {vn vc : Int32} {M : Mem} (h1 : ¬ (1 ≤ st ∧ st < 4)) (h2 : ¬ (st = 0 ∨ st = 4)) (h3 : (10 ≤ st ∧ nw ≠ 0) ∨ (st < 10 ∧ nw = 2 ∧ ¬ (st = 8 ∨ st = 9))) : lyF sec st nw z num vn vc M = (-5, M) := by
  unfold lyF; rw [if_neg h1, if_neg h2, if_pos h3]
theorem lyF_A {sec st nw z num : Nat} {vn vc : Int32} {M : Mem} (h1 : ¬ (1 ≤ st ∧ st < 4)) (h2 : ¬ (st = 0 ∨ st = 4)) (h3 : ¬ ((10 ≤ st ∧ nw ≠ 0) ∨ (st < 10 ∧ nw = 2 ∧ ¬ (st = 8 ∨ st = 9)))) (h4 : (10 ≤ st ∧ z % 2 ≠ 0) ∨ ((st = 5 ∨ st = 6) ∧ z % 4 ≠ 0)) : lyF sec st nw z num vn vc M = (-6, M) := by
  unfold lyF; rw [if_neg h1, if_neg h2, if_neg h3, if_pos h4]
theorem lyF_O {sec st nw z num : Nat} {vn vc : Int32} {M : Mem} (h1 : ¬ (1 ≤ st ∧ st < 4)) (h2 : ¬ (st = 0 ∨ st = 4)) (h3 : ¬ ((10 ≤ st ∧ nw ≠ 0) ∨ (st < 10 ∧ nw = 2 ∧ ¬ (st = 8 ∨ st = 9)))) (h4 : ¬ ((10 ≤ st ∧ z % 2 ≠ 0) ∨ ((st = 5 ∨ st = 6) ∧ z % 4 ≠ 0))) : lyF sec st nw z num vn vc M = ((if 1024 < z + lyN st z num then -7 else nI 0), lyM sec st z num vn vc M) := by
  unfold lyF; rw [if_neg h1, if_neg h2, if_neg h3, if_neg h4]
theorem rem_N {a d : Nat} (ha : a < 2 ^ 31) (h0 : 0 < d) (hd : d < 2 ^ 31) : nI a - nI a / nI d * nI d = nI (a % d) := pk_rem ha h0 hd
theorem rem_z {a : Nat} (h : a < 2 ^ 31) (e : nI a = 0) : a = 0 := (nI_eq h (by decide)).mp e
theorem lay_309 (G : GX) {Post : Option AV → Mem → Prop} {M : Mem} (x3 x4 x5 x6 : Option AV) (mm sec u : Nat) (hs : sec < 12) (hu : mI M 31 0 sec = nI u) (hb : u < 2 ^ 31) (k : Post (some (vI (if 1024 < u then -7 else nI 0))) M) : Rn G iX12_lay Post 309 [some (vR 11 0), some (vI (nI mm)), some (vI (nI sec)), x3, x4, x5, x6] [] M := by
  refine Rn.aload_n (pc := 309) dX12_lay_309 rfl rfl ?_
  refine Rn.getR (pc := 310) flX12_39 mu11_26 fx11_26 dX12_lay_310 ?_
  refine Rn.iload_n (pc := 313) dX12_lay_313 rfl rfl ?_
  refine Rn.ialdN (pc := 314) ak31 (by omega) (by decide) hu dX12_lay_314 ?_
  refine Rn.sipush (pc := 315) (v := nI 1024) dX12_lay_315 (by decide) ?_
  refine Rn.icmp_leN (pc := 318) (tgt := 326) dX12_lay_318 (by decide) (by omega) (by omega) (fun c318 => ?_) (fun c318 => ?_)
  · refine Rn.iconst (pc := 326) (v := nI 0) dX12_lay_326 (by decide) ?_
    refine Rn.iret (pc := 327) rfl dX12_lay_327 ?_
    rw [if_neg (by omega)] at k; exact k
  · refine Rn.bipush (pc := 321) (v := -7) dX12_lay_321 (by decide) ?_
    refine Rn.goto (pc := 323) (tgt := 327) dX12_lay_323 (by decide) ?_
    refine Rn.iret (pc := 327) rfl dX12_lay_327 ?_
    rw [if_pos (by omega)] at k; exact k
set_option maxRecDepth 20000 in
set_option maxHeartbeats 4000000 in
theorem c_lay_0 (G : GX) {M : Mem} (mm nw z num : Nat) (vn vc : Int32) (hmm : mm < 4) (hst : mI M 11 0 13 = nI 0) (hnw : mI M 11 0 30 = nI nw) (hnw3 : nw < 3) (hz : mI M 31 0 (3 * mm + nw) = nI z) (hz2 : z ≤ 1024) (hvn : mI M 11 0 16 = vn) (hvc : mI M 11 0 15 = vc) : MetM G yX12_lay iX12_lay [vR 11 0, vI (nI mm)] M (fun q M' => q = some (vI (lyF (3 * mm + nw) 0 nw z num vn vc M).1) ∧ M' = (lyF (3 * mm + nw) 0 nw z num vn vc M).2) := by
  refine MetM.of (ls := [some (vR 11 0), some (vI (nI mm)), none, none, none, none, none]) (by decide) rfl (Nat.le_of_ble_eq_true rfl) rfl ?_
  intro hM0
  have hsec : 3 * mm + nw < 12 := by omega
  refine Rn.aload_n (pc := 0) dX12_lay_0 rfl rfl ?_
  refine Rn.getI (pc := 1) (t := 0) flX12_156 (show mI M 11 0 13 = nI 0 from hst) dX12_lay_1 ?_
  refine Rn.iconst (pc := 4) (v := nI 1) dX12_lay_4 (by decide) ?_
  refine Rn.icmp_ltN (pc := 5) (tgt := 28) dX12_lay_5 (by decide) (by omega) (by omega) (fun c5 => ?_) (fun c5 => ?_)
  · refine Rn.aload_n (pc := 28) dX12_lay_28 rfl rfl ?_
    refine Rn.getI (pc := 29) (t := 0) flX12_156 (show mI M 11 0 13 = nI 0 from hst) dX12_lay_29 ?_
    refine Rn.if_eq (pc := 32) (y := 0) (tgt := 43) dX12_lay_32 (by decide) (fun c32 => ?_) (fun c32 => ?_)
    · refine Rn.iconst (pc := 43) (v := nI 0) dX12_lay_43 (by decide) ?_
      refine Rn.iret (pc := 44) rfl dX12_lay_44 ?_
      exact ⟨rfl, rfl⟩
    · exact absurd c32 (by decide)
  · exact absurd c5 (by decide)

set_option maxRecDepth 20000 in
set_option maxHeartbeats 4000000 in
theorem c_lay_1 (G : GX) {M : Mem} (mm nw z num : Nat) (vn vc : Int32) (hmm : mm < 4) (hst : mI M 11 0 13 = nI 1) (hnw : mI M 11 0 30 = nI nw) (hnw3 : nw < 3) (hz : mI M 31 0 (3 * mm + nw) = nI z) (hz2 : z ≤ 1024) (hvn : mI M 11 0 16 = vn) (hvc : mI M 11 0 15 = vc) : MetM G yX12_lay iX12_lay [vR 11 0, vI (nI mm)] M (fun q M' => q = some (vI (lyF (3 * mm + nw) 1 nw z num vn vc M).1) ∧ M' = (lyF (3 * mm + nw) 1 nw z num vn vc M).2) := by
  refine MetM.of (ls := [some (vR 11 0), some (vI (nI mm)), none, none, none, none, none]) (by decide) rfl (Nat.le_of_ble_eq_true rfl) rfl ?_
  intro hM0
  have hsec : 3 * mm + nw < 12 := by omega
  refine Rn.aload_n (pc := 0) dX12_lay_0 rfl rfl ?_
  refine Rn.getI (pc := 1) (t := 0) flX12_156 (show mI M 11 0 13 = nI 1 from hst) dX12_lay_1 ?_
  refine Rn.iconst (pc := 4) (v := nI 1) dX12_lay_4 (by decide) ?_
  refine Rn.icmp_ltN (pc := 5) (tgt := 28) dX12_lay_5 (by decide) (by omega) (by omega) (fun c5 => ?_) (fun c5 => ?_)
  · exact absurd c5 (by decide)
  · refine Rn.aload_n (pc := 8) dX12_lay_8 rfl rfl ?_
    refine Rn.getI (pc := 9) (t := 0) flX12_156 (show mI M 11 0 13 = nI 1 from hst) dX12_lay_9 ?_
    refine Rn.iconst (pc := 12) (v := nI 4) dX12_lay_12 (by decide) ?_
    refine Rn.icmp_geN (pc := 13) (tgt := 28) dX12_lay_13 (by decide) (by omega) (by omega) (fun c13 => ?_) (fun c13 => ?_)
    · exact absurd c13 (by decide)
    · refine Rn.aload_n (pc := 16) dX12_lay_16 rfl rfl ?_
      refine Rn.aload_n (pc := 17) dX12_lay_17 rfl rfl ?_
      refine Rn.getI (pc := 18) (t := 0) flX12_156 (show mI M 11 0 13 = nI 1 from hst) dX12_lay_18 ?_
      refine Rn.iconst (pc := 21) (v := nI 1) dX12_lay_21 (by decide) ?_
      refine Rn.isub (pc := 22) dX12_lay_22 ?_
      rw [pk_sub (by decide)]
      refine Rn.putI (pc := 23) (t := 0) flX12_325 rfl rfl dX12_lay_23 ?_
      refine Rn.iconst (pc := 26) (v := nI 0) dX12_lay_26 (by decide) ?_
      refine Rn.iret (pc := 27) rfl dX12_lay_27 ?_
      exact ⟨rfl, rfl⟩

set_option maxRecDepth 20000 in
set_option maxHeartbeats 4000000 in
theorem c_lay_2 (G : GX) {M : Mem} (mm nw z num : Nat) (vn vc : Int32) (hmm : mm < 4) (hst : mI M 11 0 13 = nI 2) (hnw : mI M 11 0 30 = nI nw) (hnw3 : nw < 3) (hz : mI M 31 0 (3 * mm + nw) = nI z) (hz2 : z ≤ 1024) (hvn : mI M 11 0 16 = vn) (hvc : mI M 11 0 15 = vc) : MetM G yX12_lay iX12_lay [vR 11 0, vI (nI mm)] M (fun q M' => q = some (vI (lyF (3 * mm + nw) 2 nw z num vn vc M).1) ∧ M' = (lyF (3 * mm + nw) 2 nw z num vn vc M).2) := by
  refine MetM.of (ls := [some (vR 11 0), some (vI (nI mm)), none, none, none, none, none]) (by decide) rfl (Nat.le_of_ble_eq_true rfl) rfl ?_
  intro hM0
  have hsec : 3 * mm + nw < 12 := by omega
  refine Rn.aload_n (pc := 0) dX12_lay_0 rfl rfl ?_
  refine Rn.getI (pc := 1) (t := 0) flX12_156 (show mI M 11 0 13 = nI 2 from hst) dX12_lay_1 ?_
  refine Rn.iconst (pc := 4) (v := nI 1) dX12_lay_4 (by decide) ?_
  refine Rn.icmp_ltN (pc := 5) (tgt := 28) dX12_lay_5 (by decide) (by omega) (by omega) (fun c5 => ?_) (fun c5 => ?_)
  · exact absurd c5 (by decide)
  · refine Rn.aload_n (pc := 8) dX12_lay_8 rfl rfl ?_
    refine Rn.getI (pc := 9) (t := 0) flX12_156 (show mI M 11 0 13 = nI 2 from hst) dX12_lay_9 ?_
    refine Rn.iconst (pc := 12) (v := nI 4) dX12_lay_12 (by decide) ?_
    refine Rn.icmp_geN (pc := 13) (tgt := 28) dX12_lay_13 (by decide) (by omega) (by omega) (fun c13 => ?_) (fun c13 => ?_)
    · exact absurd c13 (by decide)
    · refine Rn.aload_n (pc := 16) dX12_lay_16 rfl rfl ?_
      refine Rn.aload_n (pc := 17) dX12_lay_17 rfl rfl ?_
      refine Rn.getI (pc := 18) (t := 0) flX12_156 (show mI M 11 0 13 = nI 2 from hst) dX12_lay_18 ?_
      refine Rn.iconst (pc := 21) (v := nI 1) dX12_lay_21 (by decide) ?_
      refine Rn.isub (pc := 22) dX12_lay_22 ?_
      rw [pk_sub (by decide)]
      refine Rn.putI (pc := 23) (t := 0) flX12_325 rfl rfl dX12_lay_23 ?_
      refine Rn.iconst (pc := 26) (v := nI 0) dX12_lay_26 (by decide) ?_
      refine Rn.iret (pc := 27) rfl dX12_lay_27 ?_
      exact ⟨rfl, rfl⟩

set_option maxRecDepth 20000 in
set_option maxHeartbeats 4000000 in
theorem c_lay_3 (G : GX) {M : Mem} (mm nw z num : Nat) (vn vc : Int32) (hmm : mm < 4) (hst : mI M 11 0 13 = nI 3) (hnw : mI M 11 0 30 = nI nw) (hnw3 : nw < 3) (hz : mI M 31 0 (3 * mm + nw) = nI z) (hz2 : z ≤ 1024) (hvn : mI M 11 0 16 = vn) (hvc : mI M 11 0 15 = vc) : MetM G yX12_lay iX12_lay [vR 11 0, vI (nI mm)] M (fun q M' => q = some (vI (lyF (3 * mm + nw) 3 nw z num vn vc M).1) ∧ M' = (lyF (3 * mm + nw) 3 nw z num vn vc M).2) := by
  refine MetM.of (ls := [some (vR 11 0), some (vI (nI mm)), none, none, none, none, none]) (by decide) rfl (Nat.le_of_ble_eq_true rfl) rfl ?_
  intro hM0
  have hsec : 3 * mm + nw < 12 := by omega
  refine Rn.aload_n (pc := 0) dX12_lay_0 rfl rfl ?_
  refine Rn.getI (pc := 1) (t := 0) flX12_156 (show mI M 11 0 13 = nI 3 from hst) dX12_lay_1 ?_
  refine Rn.iconst (pc := 4) (v := nI 1) dX12_lay_4 (by decide) ?_
  refine Rn.icmp_ltN (pc := 5) (tgt := 28) dX12_lay_5 (by decide) (by omega) (by omega) (fun c5 => ?_) (fun c5 => ?_)
  · exact absurd c5 (by decide)
  · refine Rn.aload_n (pc := 8) dX12_lay_8 rfl rfl ?_
    refine Rn.getI (pc := 9) (t := 0) flX12_156 (show mI M 11 0 13 = nI 3 from hst) dX12_lay_9 ?_
    refine Rn.iconst (pc := 12) (v := nI 4) dX12_lay_12 (by decide) ?_
    refine Rn.icmp_geN (pc := 13) (tgt := 28) dX12_lay_13 (by decide) (by omega) (by omega) (fun c13 => ?_) (fun c13 => ?_)
    · exact absurd c13 (by decide)
    · refine Rn.aload_n (pc := 16) dX12_lay_16 rfl rfl ?_
      refine Rn.aload_n (pc := 17) dX12_lay_17 rfl rfl ?_
      refine Rn.getI (pc := 18) (t := 0) flX12_156 (show mI M 11 0 13 = nI 3 from hst) dX12_lay_18 ?_
      refine Rn.iconst (pc := 21) (v := nI 1) dX12_lay_21 (by decide) ?_
      refine Rn.isub (pc := 22) dX12_lay_22 ?_
      rw [pk_sub (by decide)]
      refine Rn.putI (pc := 23) (t := 0) flX12_325 rfl rfl dX12_lay_23 ?_
      refine Rn.iconst (pc := 26) (v := nI 0) dX12_lay_26 (by decide) ?_
      refine Rn.iret (pc := 27) rfl dX12_lay_27 ?_
      exact ⟨rfl, rfl⟩

set_option maxRecDepth 20000 in
set_option maxHeartbeats 4000000 in
theorem c_lay_4 (G : GX) {M : Mem} (mm nw z num : Nat) (vn vc : Int32) (hmm : mm < 4) (hst : mI M 11 0 13 = nI 4) (hnw : mI M 11 0 30 = nI nw) (hnw3 : nw < 3) (hz : mI M 31 0 (3 * mm + nw) = nI z) (hz2 : z ≤ 1024) (hvn : mI M 11 0 16 = vn) (hvc : mI M 11 0 15 = vc) : MetM G yX12_lay iX12_lay [vR 11 0, vI (nI mm)] M (fun q M' => q = some (vI (lyF (3 * mm + nw) 4 nw z num vn vc M).1) ∧ M' = (lyF (3 * mm + nw) 4 nw z num vn vc M).2) := by
  refine MetM.of (ls := [some (vR 11 0), some (vI (nI mm)), none, none, none, none, none]) (by decide) rfl (Nat.le_of_ble_eq_true rfl) rfl ?_
  intro hM0
  have hsec : 3 * mm + nw < 12 := by omega
  refine Rn.aload_n (pc := 0) dX12_lay_0 rfl rfl ?_
  refine Rn.getI (pc := 1) (t := 0) flX12_156 (show mI M 11 0 13 = nI 4 from hst) dX12_lay_1 ?_
  refine Rn.iconst (pc := 4) (v := nI 1) dX12_lay_4 (by decide) ?_
  refine Rn.icmp_ltN (pc := 5) (tgt := 28) dX12_lay_5 (by decide) (by omega) (by omega) (fun c5 => ?_) (fun c5 => ?_)
  · exact absurd c5 (by decide)
  · refine Rn.aload_n (pc := 8) dX12_lay_8 rfl rfl ?_
    refine Rn.getI (pc := 9) (t := 0) flX12_156 (show mI M 11 0 13 = nI 4 from hst) dX12_lay_9 ?_
    refine Rn.iconst (pc := 12) (v := nI 4) dX12_lay_12 (by decide) ?_
    refine Rn.icmp_geN (pc := 13) (tgt := 28) dX12_lay_13 (by decide) (by omega) (by omega) (fun c13 => ?_) (fun c13 => ?_)
    · refine Rn.aload_n (pc := 28) dX12_lay_28 rfl rfl ?_
      refine Rn.getI (pc := 29) (t := 0) flX12_156 (show mI M 11 0 13 = nI 4 from hst) dX12_lay_29 ?_
      refine Rn.if_eq (pc := 32) (y := 0) (tgt := 43) dX12_lay_32 (by decide) (fun c32 => ?_) (fun c32 => ?_)
      · exact absurd c32 (by decide)
      · refine Rn.aload_n (pc := 35) dX12_lay_35 rfl rfl ?_
        refine Rn.getI (pc := 36) (t := 0) flX12_156 (show mI M 11 0 13 = nI 4 from hst) dX12_lay_36 ?_
        refine Rn.iconst (pc := 39) (v := nI 4) dX12_lay_39 (by decide) ?_
        refine Rn.icmp_neN (pc := 40) (tgt := 45) dX12_lay_40 (by decide) (by omega) (by omega) (fun c40 => ?_) (fun c40 => ?_)
        · exact absurd c40 (by decide)
        · refine Rn.iconst (pc := 43) (v := nI 0) dX12_lay_43 (by decide) ?_
          refine Rn.iret (pc := 44) rfl dX12_lay_44 ?_
          exact ⟨rfl, rfl⟩
    · exact absurd c13 (by decide)

set_option maxRecDepth 20000 in
set_option maxHeartbeats 4000000 in
theorem c_lay_5 (G : GX) {M : Mem} (mm nw z num : Nat) (vn vc : Int32) (hmm : mm < 4) (hst : mI M 11 0 13 = nI 5) (hnw : mI M 11 0 30 = nI nw) (hnw3 : nw < 3) (hz : mI M 31 0 (3 * mm + nw) = nI z) (hz2 : z ≤ 1024) (hvn : mI M 11 0 16 = vn) (hvc : mI M 11 0 15 = vc) : MetM G yX12_lay iX12_lay [vR 11 0, vI (nI mm)] M (fun q M' => q = some (vI (lyF (3 * mm + nw) 5 nw z num vn vc M).1) ∧ M' = (lyF (3 * mm + nw) 5 nw z num vn vc M).2) := by
  refine MetM.of (ls := [some (vR 11 0), some (vI (nI mm)), none, none, none, none, none]) (by decide) rfl (Nat.le_of_ble_eq_true rfl) rfl ?_
  intro hM0
  have hsec : 3 * mm + nw < 12 := by omega
  refine Rn.aload_n (pc := 0) dX12_lay_0 rfl rfl ?_
  refine Rn.getI (pc := 1) (t := 0) flX12_156 (show mI M 11 0 13 = nI 5 from hst) dX12_lay_1 ?_
  refine Rn.iconst (pc := 4) (v := nI 1) dX12_lay_4 (by decide) ?_
  refine Rn.icmp_ltN (pc := 5) (tgt := 28) dX12_lay_5 (by decide) (by omega) (by omega) (fun c5 => ?_) (fun c5 => ?_)
  · exact absurd c5 (by decide)
  · refine Rn.aload_n (pc := 8) dX12_lay_8 rfl rfl ?_
    refine Rn.getI (pc := 9) (t := 0) flX12_156 (show mI M 11 0 13 = nI 5 from hst) dX12_lay_9 ?_
    refine Rn.iconst (pc := 12) (v := nI 4) dX12_lay_12 (by decide) ?_
    refine Rn.icmp_geN (pc := 13) (tgt := 28) dX12_lay_13 (by decide) (by omega) (by omega) (fun c13 => ?_) (fun c13 => ?_)
    · refine Rn.aload_n (pc := 28) dX12_lay_28 rfl rfl ?_
      refine Rn.getI (pc := 29) (t := 0) flX12_156 (show mI M 11 0 13 = nI 5 from hst) dX12_lay_29 ?_
      refine Rn.if_eq (pc := 32) (y := 0) (tgt := 43) dX12_lay_32 (by decide) (fun c32 => ?_) (fun c32 => ?_)
      · exact absurd c32 (by decide)
      · refine Rn.aload_n (pc := 35) dX12_lay_35 rfl rfl ?_
        refine Rn.getI (pc := 36) (t := 0) flX12_156 (show mI M 11 0 13 = nI 5 from hst) dX12_lay_36 ?_
        refine Rn.iconst (pc := 39) (v := nI 4) dX12_lay_39 (by decide) ?_
        refine Rn.icmp_neN (pc := 40) (tgt := 45) dX12_lay_40 (by decide) (by omega) (by omega) (fun c40 => ?_) (fun c40 => ?_)
        · refine Rn.iconst (pc := 45) (v := nI 3) dX12_lay_45 (by decide) ?_
          refine Rn.iload_n (pc := 46) dX12_lay_46 rfl rfl ?_
          refine Rn.imulN (pc := 47) dX12_lay_47 ?_
          refine Rn.aload_n (pc := 48) dX12_lay_48 rfl rfl ?_
          refine Rn.getI (pc := 49) (t := 0) flX12_325 hnw dX12_lay_49 ?_
          refine Rn.iaddN (pc := 52) dX12_lay_52 ?_
          refine Rn.istore_n (pc := 53) dX12_lay_53 rfl (by decide) rfl st7_2 ?_
          refine Rn.aload_n (pc := 54) dX12_lay_54 rfl rfl ?_
          refine Rn.getI (pc := 55) (t := 0) flX12_156 (show mI M 11 0 13 = nI 5 from hst) dX12_lay_55 ?_
          refine Rn.bipush (pc := 58) (v := nI 10) dX12_lay_58 (by decide) ?_
          refine Rn.icmp_ltN (pc := 60) (tgt := 67) dX12_lay_60 (by decide) (by omega) (by omega) (fun c60 => ?_) (fun c60 => ?_)
          · refine Rn.iconst (pc := 67) (v := nI 0) dX12_lay_67 (by decide) ?_
            refine Rn.istore_n (pc := 68) dX12_lay_68 rfl (by decide) rfl st7_3 ?_
            refine Rn.aload_n (pc := 69) dX12_lay_69 rfl rfl ?_
            refine Rn.getI (pc := 70) (t := 0) flX12_156 (show mI M 11 0 13 = nI 5 from hst) dX12_lay_70 ?_
            refine Rn.bipush (pc := 73) (v := nI 8) dX12_lay_73 (by decide) ?_
            refine Rn.icmp_eqN (pc := 75) (tgt := 87) dX12_lay_75 (by decide) (by omega) (by omega) (fun c75 => ?_) (fun c75 => ?_)
            · exact absurd c75 (by decide)
            · refine Rn.aload_n (pc := 78) dX12_lay_78 rfl rfl ?_
              refine Rn.getI (pc := 79) (t := 0) flX12_156 (show mI M 11 0 13 = nI 5 from hst) dX12_lay_79 ?_
              refine Rn.bipush (pc := 82) (v := nI 9) dX12_lay_82 (by decide) ?_
              refine Rn.icmp_neN (pc := 84) (tgt := 91) dX12_lay_84 (by decide) (by omega) (by omega) (fun c84 => ?_) (fun c84 => ?_)
              · refine Rn.iconst (pc := 91) (v := nI 0) dX12_lay_91 (by decide) ?_
                refine Rn.istore (pc := 92) dX12_lay_92 (by decide) rfl st7_4 ?_
                refine Rn.iload_n (pc := 94) dX12_lay_94 rfl rfl ?_
                refine Rn.if_eq (pc := 95) (y := 0) (tgt := 108) dX12_lay_95 (by decide) (fun c95 => ?_) (fun c95 => ?_)
                · refine Rn.aload_n (pc := 108) dX12_lay_108 rfl rfl ?_
                  refine Rn.getI (pc := 109) (t := 0) flX12_325 hnw dX12_lay_109 ?_
                  refine Rn.iconst (pc := 112) (v := nI 2) dX12_lay_112 (by decide) ?_
                  refine Rn.icmp_neN (pc := 113) (tgt := 124) dX12_lay_113 (by decide) (by omega) (by omega) (fun c113 => ?_) (fun c113 => ?_)
                  · refine Rn.aload_n (pc := 124) dX12_lay_124 rfl rfl ?_
                    refine Rn.getI (pc := 125) (t := 0) flX12_156 (show mI M 11 0 13 = nI 5 from hst) dX12_lay_125 ?_
                    refine Rn.iconst (pc := 128) (v := nI 5) dX12_lay_128 (by decide) ?_
                    refine Rn.icmp_eqN (pc := 129) (tgt := 141) dX12_lay_129 (by decide) (by omega) (by omega) (fun c129 => ?_) (fun c129 => ?_)
                    · refine Rn.iconst (pc := 141) (v := nI 1) dX12_lay_141 (by decide) ?_
                      refine Rn.goto (pc := 142) (tgt := 146) dX12_lay_142 (by decide) ?_
                      refine Rn.istore (pc := 146) dX12_lay_146 (by decide) rfl st7_5 ?_
                      refine Rn.iload_n (pc := 148) dX12_lay_148 rfl rfl ?_
                      refine Rn.if_eq (pc := 149) (y := 0) (tgt := 163) dX12_lay_149 (by decide) (fun c149 => ?_) (fun c149 => ?_)
                      · refine Rn.iload (pc := 163) dX12_lay_163 rfl ?_
                        refine Rn.if_eq (pc := 165) (y := 0) (tgt := 182) dX12_lay_165 (by decide) (fun c165 => ?_) (fun c165 => ?_)
                        · exact absurd c165 (by decide)
                        · refine Rn.aload_n (pc := 168) dX12_lay_168 rfl rfl ?_
                          refine Rn.getR (pc := 169) flX12_39 mu11_26 fx11_26 dX12_lay_169 ?_
                          refine Rn.iload_n (pc := 172) dX12_lay_172 rfl rfl ?_
                          refine Rn.ialdN (pc := 173) ak31 (by omega) (by decide) hz dX12_lay_173 ?_
                          refine Rn.iconst (pc := 174) (v := nI 4) dX12_lay_174 (by decide) ?_
                          refine Rn.irem (pc := 175) dX12_lay_175 (by decide) ?_
                          rw [rem_N (by omega) (by decide) (by decide)]
                          refine Rn.if_eq (pc := 176) (y := 0) (tgt := 182) dX12_lay_176 (by decide) (fun c176 => ?_) (fun c176 => ?_)
                          · refine Rn.aload_n (pc := 182) dX12_lay_182 rfl rfl ?_
                            refine Rn.getI (pc := 183) (t := 0) flX12_156 (show mI M 11 0 13 = nI 5 from hst) dX12_lay_183 ?_
                            refine Rn.bipush (pc := 186) (v := nI 9) dX12_lay_186 (by decide) ?_
                            refine Rn.icmp_neN (pc := 188) (tgt := 211) dX12_lay_188 (by decide) (by omega) (by omega) (fun c188 => ?_) (fun c188 => ?_)
                            · refine Rn.aload_n (pc := 211) dX12_lay_211 rfl rfl ?_
                              refine Rn.getI (pc := 212) (t := 0) flX12_156 (show mI M 11 0 13 = nI 5 from hst) dX12_lay_212 ?_
                              refine Rn.bipush (pc := 215) (v := nI 8) dX12_lay_215 (by decide) ?_
                              refine Rn.icmp_neN (pc := 217) (tgt := 247) dX12_lay_217 (by decide) (by omega) (by omega) (fun c217 => ?_) (fun c217 => ?_)
                              · refine Rn.aload_n (pc := 247) dX12_lay_247 rfl rfl ?_
                                refine Rn.getI (pc := 248) (t := 0) flX12_156 (show mI M 11 0 13 = nI 5 from hst) dX12_lay_248 ?_
                                refine Rn.bipush (pc := 251) (v := nI 7) dX12_lay_251 (by decide) ?_
                                refine Rn.icmp_neN (pc := 253) (tgt := 268) dX12_lay_253 (by decide) (by omega) (by omega) (fun c253 => ?_) (fun c253 => ?_)
                                · refine Rn.iload (pc := 268) dX12_lay_268 rfl ?_
                                  refine Rn.if_eq (pc := 270) (y := 0) (tgt := 286) dX12_lay_270 (by decide) (fun c270 => ?_) (fun c270 => ?_)
                                  · exact absurd c270 (by decide)
                                  · refine Rn.aload_n (pc := 273) dX12_lay_273 rfl rfl ?_
                                    refine Rn.iload_n (pc := 274) dX12_lay_274 rfl rfl ?_
                                    refine Rn.aload_n (pc := 275) dX12_lay_275 rfl rfl ?_
                                    refine Rn.getI (pc := 276) (t := 0) flX12_193 hvn dX12_lay_276 ?_
                                    refine Rn.iconst (pc := 279) (v := nI 4) dX12_lay_279 (by decide) ?_
                                    refine Rn.callV (pc := 280) (as := [_, _, _]) cvX12_331 ⟨by decide, rfl⟩ ⟨by decide, by decide⟩ dX12_lay_280 (Nat.le_of_ble_eq_true rfl) rfl (c_putMany G (3 * mm + nw) z 4 vn hsec hz (by omega)) ?_
                                    rintro _ _ ⟨rfl, rfl⟩
                                    refine Rn.goto (pc := 283) (tgt := 309) dX12_lay_283 (by decide) ?_
                                    refine lay_309 G _ _ _ _ mm _ (z + 4) hsec (pMF_z _ _ _ _ hz) (by omega) ?_
                                    rw [lyF_O (by decide) (by decide) (by omega) (by have h9 := rem_z (by omega) c176; omega)]
                                    exact ⟨rfl, rfl⟩
                                · exact absurd c253 (by decide)
                              · exact absurd c217 (by decide)
                            · exact absurd c188 (by decide)
                          · refine Rn.bipush (pc := 179) (v := -6) dX12_lay_179 (by decide) ?_
                            refine Rn.iret (pc := 181) rfl dX12_lay_181 ?_
                            rw [lyF_A (by decide) (by decide) (by omega) (Or.inr ⟨by decide, fun e => c176 (by rw [e]; rfl)⟩)]; exact ⟨rfl, rfl⟩
                      · exact absurd c149 (by decide)
                    · exact absurd c129 (by decide)
                  · refine Rn.iload (pc := 116) dX12_lay_116 rfl ?_
                    refine Rn.if_ne (pc := 118) (y := 0) (tgt := 124) dX12_lay_118 (by decide) (fun c118 => ?_) (fun c118 => ?_)
                    · exact absurd c118 (by decide)
                    · refine Rn.bipush (pc := 121) (v := -5) dX12_lay_121 (by decide) ?_
                      refine Rn.iret (pc := 123) rfl dX12_lay_123 ?_
                      rw [lyF_K (by decide) (by decide) (Or.inr ⟨by decide, by omega, by decide⟩)]; exact ⟨rfl, rfl⟩
                · exact absurd c95 (by decide)
              · exact absurd c84 (by decide)
          · exact absurd c60 (by decide)
        · exact absurd c40 (by decide)
    · exact absurd c13 (by decide)

set_option maxRecDepth 20000 in
set_option maxHeartbeats 4000000 in
theorem c_lay_6 (G : GX) {M : Mem} (mm nw z num : Nat) (vn vc : Int32) (hmm : mm < 4) (hst : mI M 11 0 13 = nI 6) (hnw : mI M 11 0 30 = nI nw) (hnw3 : nw < 3) (hz : mI M 31 0 (3 * mm + nw) = nI z) (hz2 : z ≤ 1024) (hvn : mI M 11 0 16 = vn) (hvc : mI M 11 0 15 = vc) : MetM G yX12_lay iX12_lay [vR 11 0, vI (nI mm)] M (fun q M' => q = some (vI (lyF (3 * mm + nw) 6 nw z num vn vc M).1) ∧ M' = (lyF (3 * mm + nw) 6 nw z num vn vc M).2) := by
  refine MetM.of (ls := [some (vR 11 0), some (vI (nI mm)), none, none, none, none, none]) (by decide) rfl (Nat.le_of_ble_eq_true rfl) rfl ?_
  intro hM0
  have hsec : 3 * mm + nw < 12 := by omega
  refine Rn.aload_n (pc := 0) dX12_lay_0 rfl rfl ?_
  refine Rn.getI (pc := 1) (t := 0) flX12_156 (show mI M 11 0 13 = nI 6 from hst) dX12_lay_1 ?_
  refine Rn.iconst (pc := 4) (v := nI 1) dX12_lay_4 (by decide) ?_
  refine Rn.icmp_ltN (pc := 5) (tgt := 28) dX12_lay_5 (by decide) (by omega) (by omega) (fun c5 => ?_) (fun c5 => ?_)
  · exact absurd c5 (by decide)
  · refine Rn.aload_n (pc := 8) dX12_lay_8 rfl rfl ?_
    refine Rn.getI (pc := 9) (t := 0) flX12_156 (show mI M 11 0 13 = nI 6 from hst) dX12_lay_9 ?_
    refine Rn.iconst (pc := 12) (v := nI 4) dX12_lay_12 (by decide) ?_
    refine Rn.icmp_geN (pc := 13) (tgt := 28) dX12_lay_13 (by decide) (by omega) (by omega) (fun c13 => ?_) (fun c13 => ?_)
    · refine Rn.aload_n (pc := 28) dX12_lay_28 rfl rfl ?_
      refine Rn.getI (pc := 29) (t := 0) flX12_156 (show mI M 11 0 13 = nI 6 from hst) dX12_lay_29 ?_
      refine Rn.if_eq (pc := 32) (y := 0) (tgt := 43) dX12_lay_32 (by decide) (fun c32 => ?_) (fun c32 => ?_)
      · exact absurd c32 (by decide)
      · refine Rn.aload_n (pc := 35) dX12_lay_35 rfl rfl ?_
        refine Rn.getI (pc := 36) (t := 0) flX12_156 (show mI M 11 0 13 = nI 6 from hst) dX12_lay_36 ?_
        refine Rn.iconst (pc := 39) (v := nI 4) dX12_lay_39 (by decide) ?_
        refine Rn.icmp_neN (pc := 40) (tgt := 45) dX12_lay_40 (by decide) (by omega) (by omega) (fun c40 => ?_) (fun c40 => ?_)
        · refine Rn.iconst (pc := 45) (v := nI 3) dX12_lay_45 (by decide) ?_
          refine Rn.iload_n (pc := 46) dX12_lay_46 rfl rfl ?_
          refine Rn.imulN (pc := 47) dX12_lay_47 ?_
          refine Rn.aload_n (pc := 48) dX12_lay_48 rfl rfl ?_
          refine Rn.getI (pc := 49) (t := 0) flX12_325 hnw dX12_lay_49 ?_
          refine Rn.iaddN (pc := 52) dX12_lay_52 ?_
          refine Rn.istore_n (pc := 53) dX12_lay_53 rfl (by decide) rfl st7_2 ?_
          refine Rn.aload_n (pc := 54) dX12_lay_54 rfl rfl ?_
          refine Rn.getI (pc := 55) (t := 0) flX12_156 (show mI M 11 0 13 = nI 6 from hst) dX12_lay_55 ?_
          refine Rn.bipush (pc := 58) (v := nI 10) dX12_lay_58 (by decide) ?_
          refine Rn.icmp_ltN (pc := 60) (tgt := 67) dX12_lay_60 (by decide) (by omega) (by omega) (fun c60 => ?_) (fun c60 => ?_)
          · refine Rn.iconst (pc := 67) (v := nI 0) dX12_lay_67 (by decide) ?_
            refine Rn.istore_n (pc := 68) dX12_lay_68 rfl (by decide) rfl st7_3 ?_
            refine Rn.aload_n (pc := 69) dX12_lay_69 rfl rfl ?_
            refine Rn.getI (pc := 70) (t := 0) flX12_156 (show mI M 11 0 13 = nI 6 from hst) dX12_lay_70 ?_
            refine Rn.bipush (pc := 73) (v := nI 8) dX12_lay_73 (by decide) ?_
            refine Rn.icmp_eqN (pc := 75) (tgt := 87) dX12_lay_75 (by decide) (by omega) (by omega) (fun c75 => ?_) (fun c75 => ?_)
            · exact absurd c75 (by decide)
            · refine Rn.aload_n (pc := 78) dX12_lay_78 rfl rfl ?_
              refine Rn.getI (pc := 79) (t := 0) flX12_156 (show mI M 11 0 13 = nI 6 from hst) dX12_lay_79 ?_
              refine Rn.bipush (pc := 82) (v := nI 9) dX12_lay_82 (by decide) ?_
              refine Rn.icmp_neN (pc := 84) (tgt := 91) dX12_lay_84 (by decide) (by omega) (by omega) (fun c84 => ?_) (fun c84 => ?_)
              · refine Rn.iconst (pc := 91) (v := nI 0) dX12_lay_91 (by decide) ?_
                refine Rn.istore (pc := 92) dX12_lay_92 (by decide) rfl st7_4 ?_
                refine Rn.iload_n (pc := 94) dX12_lay_94 rfl rfl ?_
                refine Rn.if_eq (pc := 95) (y := 0) (tgt := 108) dX12_lay_95 (by decide) (fun c95 => ?_) (fun c95 => ?_)
                · refine Rn.aload_n (pc := 108) dX12_lay_108 rfl rfl ?_
                  refine Rn.getI (pc := 109) (t := 0) flX12_325 hnw dX12_lay_109 ?_
                  refine Rn.iconst (pc := 112) (v := nI 2) dX12_lay_112 (by decide) ?_
                  refine Rn.icmp_neN (pc := 113) (tgt := 124) dX12_lay_113 (by decide) (by omega) (by omega) (fun c113 => ?_) (fun c113 => ?_)
                  · refine Rn.aload_n (pc := 124) dX12_lay_124 rfl rfl ?_
                    refine Rn.getI (pc := 125) (t := 0) flX12_156 (show mI M 11 0 13 = nI 6 from hst) dX12_lay_125 ?_
                    refine Rn.iconst (pc := 128) (v := nI 5) dX12_lay_128 (by decide) ?_
                    refine Rn.icmp_eqN (pc := 129) (tgt := 141) dX12_lay_129 (by decide) (by omega) (by omega) (fun c129 => ?_) (fun c129 => ?_)
                    · exact absurd c129 (by decide)
                    · refine Rn.aload_n (pc := 132) dX12_lay_132 rfl rfl ?_
                      refine Rn.getI (pc := 133) (t := 0) flX12_156 (show mI M 11 0 13 = nI 6 from hst) dX12_lay_133 ?_
                      refine Rn.bipush (pc := 136) (v := nI 6) dX12_lay_136 (by decide) ?_
                      refine Rn.icmp_neN (pc := 138) (tgt := 145) dX12_lay_138 (by decide) (by omega) (by omega) (fun c138 => ?_) (fun c138 => ?_)
                      · exact absurd c138 (by decide)
                      · refine Rn.iconst (pc := 141) (v := nI 1) dX12_lay_141 (by decide) ?_
                        refine Rn.goto (pc := 142) (tgt := 146) dX12_lay_142 (by decide) ?_
                        refine Rn.istore (pc := 146) dX12_lay_146 (by decide) rfl st7_5 ?_
                        refine Rn.iload_n (pc := 148) dX12_lay_148 rfl rfl ?_
                        refine Rn.if_eq (pc := 149) (y := 0) (tgt := 163) dX12_lay_149 (by decide) (fun c149 => ?_) (fun c149 => ?_)
                        · refine Rn.iload (pc := 163) dX12_lay_163 rfl ?_
                          refine Rn.if_eq (pc := 165) (y := 0) (tgt := 182) dX12_lay_165 (by decide) (fun c165 => ?_) (fun c165 => ?_)
                          · exact absurd c165 (by decide)
                          · refine Rn.aload_n (pc := 168) dX12_lay_168 rfl rfl ?_
                            refine Rn.getR (pc := 169) flX12_39 mu11_26 fx11_26 dX12_lay_169 ?_
                            refine Rn.iload_n (pc := 172) dX12_lay_172 rfl rfl ?_
                            refine Rn.ialdN (pc := 173) ak31 (by omega) (by decide) hz dX12_lay_173 ?_
                            refine Rn.iconst (pc := 174) (v := nI 4) dX12_lay_174 (by decide) ?_
                            refine Rn.irem (pc := 175) dX12_lay_175 (by decide) ?_
                            rw [rem_N (by omega) (by decide) (by decide)]
                            refine Rn.if_eq (pc := 176) (y := 0) (tgt := 182) dX12_lay_176 (by decide) (fun c176 => ?_) (fun c176 => ?_)
                            · refine Rn.aload_n (pc := 182) dX12_lay_182 rfl rfl ?_
                              refine Rn.getI (pc := 183) (t := 0) flX12_156 (show mI M 11 0 13 = nI 6 from hst) dX12_lay_183 ?_
                              refine Rn.bipush (pc := 186) (v := nI 9) dX12_lay_186 (by decide) ?_
                              refine Rn.icmp_neN (pc := 188) (tgt := 211) dX12_lay_188 (by decide) (by omega) (by omega) (fun c188 => ?_) (fun c188 => ?_)
                              · refine Rn.aload_n (pc := 211) dX12_lay_211 rfl rfl ?_
                                refine Rn.getI (pc := 212) (t := 0) flX12_156 (show mI M 11 0 13 = nI 6 from hst) dX12_lay_212 ?_
                                refine Rn.bipush (pc := 215) (v := nI 8) dX12_lay_215 (by decide) ?_
                                refine Rn.icmp_neN (pc := 217) (tgt := 247) dX12_lay_217 (by decide) (by omega) (by omega) (fun c217 => ?_) (fun c217 => ?_)
                                · refine Rn.aload_n (pc := 247) dX12_lay_247 rfl rfl ?_
                                  refine Rn.getI (pc := 248) (t := 0) flX12_156 (show mI M 11 0 13 = nI 6 from hst) dX12_lay_248 ?_
                                  refine Rn.bipush (pc := 251) (v := nI 7) dX12_lay_251 (by decide) ?_
                                  refine Rn.icmp_neN (pc := 253) (tgt := 268) dX12_lay_253 (by decide) (by omega) (by omega) (fun c253 => ?_) (fun c253 => ?_)
                                  · refine Rn.iload (pc := 268) dX12_lay_268 rfl ?_
                                    refine Rn.if_eq (pc := 270) (y := 0) (tgt := 286) dX12_lay_270 (by decide) (fun c270 => ?_) (fun c270 => ?_)
                                    · exact absurd c270 (by decide)
                                    · refine Rn.aload_n (pc := 273) dX12_lay_273 rfl rfl ?_
                                      refine Rn.iload_n (pc := 274) dX12_lay_274 rfl rfl ?_
                                      refine Rn.aload_n (pc := 275) dX12_lay_275 rfl rfl ?_
                                      refine Rn.getI (pc := 276) (t := 0) flX12_193 hvn dX12_lay_276 ?_
                                      refine Rn.iconst (pc := 279) (v := nI 4) dX12_lay_279 (by decide) ?_
                                      refine Rn.callV (pc := 280) (as := [_, _, _]) cvX12_331 ⟨by decide, rfl⟩ ⟨by decide, by decide⟩ dX12_lay_280 (Nat.le_of_ble_eq_true rfl) rfl (c_putMany G (3 * mm + nw) z 4 vn hsec hz (by omega)) ?_
                                      rintro _ _ ⟨rfl, rfl⟩
                                      refine Rn.goto (pc := 283) (tgt := 309) dX12_lay_283 (by decide) ?_
                                      refine lay_309 G _ _ _ _ mm _ (z + 4) hsec (pMF_z _ _ _ _ hz) (by omega) ?_
                                      rw [lyF_O (by decide) (by decide) (by omega) (by have h9 := rem_z (by omega) c176; omega)]
                                      exact ⟨rfl, rfl⟩
                                  · exact absurd c253 (by decide)
                                · exact absurd c217 (by decide)
                              · exact absurd c188 (by decide)
                            · refine Rn.bipush (pc := 179) (v := -6) dX12_lay_179 (by decide) ?_
                              refine Rn.iret (pc := 181) rfl dX12_lay_181 ?_
                              rw [lyF_A (by decide) (by decide) (by omega) (Or.inr ⟨by decide, fun e => c176 (by rw [e]; rfl)⟩)]; exact ⟨rfl, rfl⟩
                        · exact absurd c149 (by decide)
                  · refine Rn.iload (pc := 116) dX12_lay_116 rfl ?_
                    refine Rn.if_ne (pc := 118) (y := 0) (tgt := 124) dX12_lay_118 (by decide) (fun c118 => ?_) (fun c118 => ?_)
                    · exact absurd c118 (by decide)
                    · refine Rn.bipush (pc := 121) (v := -5) dX12_lay_121 (by decide) ?_
                      refine Rn.iret (pc := 123) rfl dX12_lay_123 ?_
                      rw [lyF_K (by decide) (by decide) (Or.inr ⟨by decide, by omega, by decide⟩)]; exact ⟨rfl, rfl⟩
                · exact absurd c95 (by decide)
              · exact absurd c84 (by decide)
          · exact absurd c60 (by decide)
        · exact absurd c40 (by decide)
    · exact absurd c13 (by decide)

set_option maxRecDepth 20000 in
set_option maxHeartbeats 4000000 in
theorem c_lay_7 (G : GX) {M : Mem} (mm nw z num : Nat) (vn vc : Int32) (hmm : mm < 4) (hst : mI M 11 0 13 = nI 7) (hnw : mI M 11 0 30 = nI nw) (hnw3 : nw < 3) (hz : mI M 31 0 (3 * mm + nw) = nI z) (hz2 : z ≤ 1024) (hvn : mI M 11 0 16 = vn) (hvc : mI M 11 0 15 = vc) : MetM G yX12_lay iX12_lay [vR 11 0, vI (nI mm)] M (fun q M' => q = some (vI (lyF (3 * mm + nw) 7 nw z num vn vc M).1) ∧ M' = (lyF (3 * mm + nw) 7 nw z num vn vc M).2) := by
  refine MetM.of (ls := [some (vR 11 0), some (vI (nI mm)), none, none, none, none, none]) (by decide) rfl (Nat.le_of_ble_eq_true rfl) rfl ?_
  intro hM0
  have hsec : 3 * mm + nw < 12 := by omega
  refine Rn.aload_n (pc := 0) dX12_lay_0 rfl rfl ?_
  refine Rn.getI (pc := 1) (t := 0) flX12_156 (show mI M 11 0 13 = nI 7 from hst) dX12_lay_1 ?_
  refine Rn.iconst (pc := 4) (v := nI 1) dX12_lay_4 (by decide) ?_
  refine Rn.icmp_ltN (pc := 5) (tgt := 28) dX12_lay_5 (by decide) (by omega) (by omega) (fun c5 => ?_) (fun c5 => ?_)
  · exact absurd c5 (by decide)
  · refine Rn.aload_n (pc := 8) dX12_lay_8 rfl rfl ?_
    refine Rn.getI (pc := 9) (t := 0) flX12_156 (show mI M 11 0 13 = nI 7 from hst) dX12_lay_9 ?_
    refine Rn.iconst (pc := 12) (v := nI 4) dX12_lay_12 (by decide) ?_
    refine Rn.icmp_geN (pc := 13) (tgt := 28) dX12_lay_13 (by decide) (by omega) (by omega) (fun c13 => ?_) (fun c13 => ?_)
    · refine Rn.aload_n (pc := 28) dX12_lay_28 rfl rfl ?_
      refine Rn.getI (pc := 29) (t := 0) flX12_156 (show mI M 11 0 13 = nI 7 from hst) dX12_lay_29 ?_
      refine Rn.if_eq (pc := 32) (y := 0) (tgt := 43) dX12_lay_32 (by decide) (fun c32 => ?_) (fun c32 => ?_)
      · exact absurd c32 (by decide)
      · refine Rn.aload_n (pc := 35) dX12_lay_35 rfl rfl ?_
        refine Rn.getI (pc := 36) (t := 0) flX12_156 (show mI M 11 0 13 = nI 7 from hst) dX12_lay_36 ?_
        refine Rn.iconst (pc := 39) (v := nI 4) dX12_lay_39 (by decide) ?_
        refine Rn.icmp_neN (pc := 40) (tgt := 45) dX12_lay_40 (by decide) (by omega) (by omega) (fun c40 => ?_) (fun c40 => ?_)
        · refine Rn.iconst (pc := 45) (v := nI 3) dX12_lay_45 (by decide) ?_
          refine Rn.iload_n (pc := 46) dX12_lay_46 rfl rfl ?_
          refine Rn.imulN (pc := 47) dX12_lay_47 ?_
          refine Rn.aload_n (pc := 48) dX12_lay_48 rfl rfl ?_
          refine Rn.getI (pc := 49) (t := 0) flX12_325 hnw dX12_lay_49 ?_
          refine Rn.iaddN (pc := 52) dX12_lay_52 ?_
          refine Rn.istore_n (pc := 53) dX12_lay_53 rfl (by decide) rfl st7_2 ?_
          refine Rn.aload_n (pc := 54) dX12_lay_54 rfl rfl ?_
          refine Rn.getI (pc := 55) (t := 0) flX12_156 (show mI M 11 0 13 = nI 7 from hst) dX12_lay_55 ?_
          refine Rn.bipush (pc := 58) (v := nI 10) dX12_lay_58 (by decide) ?_
          refine Rn.icmp_ltN (pc := 60) (tgt := 67) dX12_lay_60 (by decide) (by omega) (by omega) (fun c60 => ?_) (fun c60 => ?_)
          · refine Rn.iconst (pc := 67) (v := nI 0) dX12_lay_67 (by decide) ?_
            refine Rn.istore_n (pc := 68) dX12_lay_68 rfl (by decide) rfl st7_3 ?_
            refine Rn.aload_n (pc := 69) dX12_lay_69 rfl rfl ?_
            refine Rn.getI (pc := 70) (t := 0) flX12_156 (show mI M 11 0 13 = nI 7 from hst) dX12_lay_70 ?_
            refine Rn.bipush (pc := 73) (v := nI 8) dX12_lay_73 (by decide) ?_
            refine Rn.icmp_eqN (pc := 75) (tgt := 87) dX12_lay_75 (by decide) (by omega) (by omega) (fun c75 => ?_) (fun c75 => ?_)
            · exact absurd c75 (by decide)
            · refine Rn.aload_n (pc := 78) dX12_lay_78 rfl rfl ?_
              refine Rn.getI (pc := 79) (t := 0) flX12_156 (show mI M 11 0 13 = nI 7 from hst) dX12_lay_79 ?_
              refine Rn.bipush (pc := 82) (v := nI 9) dX12_lay_82 (by decide) ?_
              refine Rn.icmp_neN (pc := 84) (tgt := 91) dX12_lay_84 (by decide) (by omega) (by omega) (fun c84 => ?_) (fun c84 => ?_)
              · refine Rn.iconst (pc := 91) (v := nI 0) dX12_lay_91 (by decide) ?_
                refine Rn.istore (pc := 92) dX12_lay_92 (by decide) rfl st7_4 ?_
                refine Rn.iload_n (pc := 94) dX12_lay_94 rfl rfl ?_
                refine Rn.if_eq (pc := 95) (y := 0) (tgt := 108) dX12_lay_95 (by decide) (fun c95 => ?_) (fun c95 => ?_)
                · refine Rn.aload_n (pc := 108) dX12_lay_108 rfl rfl ?_
                  refine Rn.getI (pc := 109) (t := 0) flX12_325 hnw dX12_lay_109 ?_
                  refine Rn.iconst (pc := 112) (v := nI 2) dX12_lay_112 (by decide) ?_
                  refine Rn.icmp_neN (pc := 113) (tgt := 124) dX12_lay_113 (by decide) (by omega) (by omega) (fun c113 => ?_) (fun c113 => ?_)
                  · refine Rn.aload_n (pc := 124) dX12_lay_124 rfl rfl ?_
                    refine Rn.getI (pc := 125) (t := 0) flX12_156 (show mI M 11 0 13 = nI 7 from hst) dX12_lay_125 ?_
                    refine Rn.iconst (pc := 128) (v := nI 5) dX12_lay_128 (by decide) ?_
                    refine Rn.icmp_eqN (pc := 129) (tgt := 141) dX12_lay_129 (by decide) (by omega) (by omega) (fun c129 => ?_) (fun c129 => ?_)
                    · exact absurd c129 (by decide)
                    · refine Rn.aload_n (pc := 132) dX12_lay_132 rfl rfl ?_
                      refine Rn.getI (pc := 133) (t := 0) flX12_156 (show mI M 11 0 13 = nI 7 from hst) dX12_lay_133 ?_
                      refine Rn.bipush (pc := 136) (v := nI 6) dX12_lay_136 (by decide) ?_
                      refine Rn.icmp_neN (pc := 138) (tgt := 145) dX12_lay_138 (by decide) (by omega) (by omega) (fun c138 => ?_) (fun c138 => ?_)
                      · refine Rn.iconst (pc := 145) (v := nI 0) dX12_lay_145 (by decide) ?_
                        refine Rn.istore (pc := 146) dX12_lay_146 (by decide) rfl st7_5 ?_
                        refine Rn.iload_n (pc := 148) dX12_lay_148 rfl rfl ?_
                        refine Rn.if_eq (pc := 149) (y := 0) (tgt := 163) dX12_lay_149 (by decide) (fun c149 => ?_) (fun c149 => ?_)
                        · refine Rn.iload (pc := 163) dX12_lay_163 rfl ?_
                          refine Rn.if_eq (pc := 165) (y := 0) (tgt := 182) dX12_lay_165 (by decide) (fun c165 => ?_) (fun c165 => ?_)
                          · refine Rn.aload_n (pc := 182) dX12_lay_182 rfl rfl ?_
                            refine Rn.getI (pc := 183) (t := 0) flX12_156 (show mI M 11 0 13 = nI 7 from hst) dX12_lay_183 ?_
                            refine Rn.bipush (pc := 186) (v := nI 9) dX12_lay_186 (by decide) ?_
                            refine Rn.icmp_neN (pc := 188) (tgt := 211) dX12_lay_188 (by decide) (by omega) (by omega) (fun c188 => ?_) (fun c188 => ?_)
                            · refine Rn.aload_n (pc := 211) dX12_lay_211 rfl rfl ?_
                              refine Rn.getI (pc := 212) (t := 0) flX12_156 (show mI M 11 0 13 = nI 7 from hst) dX12_lay_212 ?_
                              refine Rn.bipush (pc := 215) (v := nI 8) dX12_lay_215 (by decide) ?_
                              refine Rn.icmp_neN (pc := 217) (tgt := 247) dX12_lay_217 (by decide) (by omega) (by omega) (fun c217 => ?_) (fun c217 => ?_)
                              · refine Rn.aload_n (pc := 247) dX12_lay_247 rfl rfl ?_
                                refine Rn.getI (pc := 248) (t := 0) flX12_156 (show mI M 11 0 13 = nI 7 from hst) dX12_lay_248 ?_
                                refine Rn.bipush (pc := 251) (v := nI 7) dX12_lay_251 (by decide) ?_
                                refine Rn.icmp_neN (pc := 253) (tgt := 268) dX12_lay_253 (by decide) (by omega) (by omega) (fun c253 => ?_) (fun c253 => ?_)
                                · exact absurd c253 (by decide)
                                · refine Rn.aload_n (pc := 256) dX12_lay_256 rfl rfl ?_
                                  refine Rn.iload_n (pc := 257) dX12_lay_257 rfl rfl ?_
                                  refine Rn.aload_n (pc := 258) dX12_lay_258 rfl rfl ?_
                                  refine Rn.getI (pc := 259) (t := 0) flX12_193 hvn dX12_lay_259 ?_
                                  refine Rn.callV (pc := 262) (as := [_, _]) cvX12_328 ⟨by decide, rfl⟩ ⟨by decide, by decide⟩ dX12_lay_262 (Nat.le_of_ble_eq_true rfl) rfl (c_putByte G (3 * mm + nw) z vn hsec hz (by omega)) ?_
                                  rintro _ _ ⟨rfl, rfl⟩
                                  refine Rn.goto (pc := 265) (tgt := 309) dX12_lay_265 (by decide) ?_
                                  refine lay_309 G _ _ _ _ mm _ (z + 1) hsec (pB_z) (by omega) ?_
                                  rw [lyF_O (by decide) (by decide) (by omega) (by omega)]
                                  exact ⟨rfl, rfl⟩
                              · exact absurd c217 (by decide)
                            · exact absurd c188 (by decide)
                          · exact absurd c165 (by decide)
                        · exact absurd c149 (by decide)
                      · exact absurd c138 (by decide)
                  · refine Rn.iload (pc := 116) dX12_lay_116 rfl ?_
                    refine Rn.if_ne (pc := 118) (y := 0) (tgt := 124) dX12_lay_118 (by decide) (fun c118 => ?_) (fun c118 => ?_)
                    · exact absurd c118 (by decide)
                    · refine Rn.bipush (pc := 121) (v := -5) dX12_lay_121 (by decide) ?_
                      refine Rn.iret (pc := 123) rfl dX12_lay_123 ?_
                      rw [lyF_K (by decide) (by decide) (Or.inr ⟨by decide, by omega, by decide⟩)]; exact ⟨rfl, rfl⟩
                · exact absurd c95 (by decide)
              · exact absurd c84 (by decide)
          · exact absurd c60 (by decide)
        · exact absurd c40 (by decide)
    · exact absurd c13 (by decide)

set_option maxRecDepth 20000 in
set_option maxHeartbeats 4000000 in
theorem c_lay_8 (G : GX) {M : Mem} (mm nw z num : Nat) (vn vc : Int32) (hmm : mm < 4) (hst : mI M 11 0 13 = nI 8) (hnw : mI M 11 0 30 = nI nw) (hnw3 : nw < 3) (hz : mI M 31 0 (3 * mm + nw) = nI z) (hz2 : z ≤ 1024) (hvn : mI M 11 0 16 = vn) (hvc : mI M 11 0 15 = vc) (h8 : vn = nI num) (h512 : num ≤ 512) : MetM G yX12_lay iX12_lay [vR 11 0, vI (nI mm)] M (fun q M' => q = some (vI (lyF (3 * mm + nw) 8 nw z num vn vc M).1) ∧ M' = (lyF (3 * mm + nw) 8 nw z num vn vc M).2) := by
  refine MetM.of (ls := [some (vR 11 0), some (vI (nI mm)), none, none, none, none, none]) (by decide) rfl (Nat.le_of_ble_eq_true rfl) rfl ?_
  intro hM0
  have hsec : 3 * mm + nw < 12 := by omega
  refine Rn.aload_n (pc := 0) dX12_lay_0 rfl rfl ?_
  refine Rn.getI (pc := 1) (t := 0) flX12_156 (show mI M 11 0 13 = nI 8 from hst) dX12_lay_1 ?_
  refine Rn.iconst (pc := 4) (v := nI 1) dX12_lay_4 (by decide) ?_
  refine Rn.icmp_ltN (pc := 5) (tgt := 28) dX12_lay_5 (by decide) (by omega) (by omega) (fun c5 => ?_) (fun c5 => ?_)
  · exact absurd c5 (by decide)
  · refine Rn.aload_n (pc := 8) dX12_lay_8 rfl rfl ?_
    refine Rn.getI (pc := 9) (t := 0) flX12_156 (show mI M 11 0 13 = nI 8 from hst) dX12_lay_9 ?_
    refine Rn.iconst (pc := 12) (v := nI 4) dX12_lay_12 (by decide) ?_
    refine Rn.icmp_geN (pc := 13) (tgt := 28) dX12_lay_13 (by decide) (by omega) (by omega) (fun c13 => ?_) (fun c13 => ?_)
    · refine Rn.aload_n (pc := 28) dX12_lay_28 rfl rfl ?_
      refine Rn.getI (pc := 29) (t := 0) flX12_156 (show mI M 11 0 13 = nI 8 from hst) dX12_lay_29 ?_
      refine Rn.if_eq (pc := 32) (y := 0) (tgt := 43) dX12_lay_32 (by decide) (fun c32 => ?_) (fun c32 => ?_)
      · exact absurd c32 (by decide)
      · refine Rn.aload_n (pc := 35) dX12_lay_35 rfl rfl ?_
        refine Rn.getI (pc := 36) (t := 0) flX12_156 (show mI M 11 0 13 = nI 8 from hst) dX12_lay_36 ?_
        refine Rn.iconst (pc := 39) (v := nI 4) dX12_lay_39 (by decide) ?_
        refine Rn.icmp_neN (pc := 40) (tgt := 45) dX12_lay_40 (by decide) (by omega) (by omega) (fun c40 => ?_) (fun c40 => ?_)
        · refine Rn.iconst (pc := 45) (v := nI 3) dX12_lay_45 (by decide) ?_
          refine Rn.iload_n (pc := 46) dX12_lay_46 rfl rfl ?_
          refine Rn.imulN (pc := 47) dX12_lay_47 ?_
          refine Rn.aload_n (pc := 48) dX12_lay_48 rfl rfl ?_
          refine Rn.getI (pc := 49) (t := 0) flX12_325 hnw dX12_lay_49 ?_
          refine Rn.iaddN (pc := 52) dX12_lay_52 ?_
          refine Rn.istore_n (pc := 53) dX12_lay_53 rfl (by decide) rfl st7_2 ?_
          refine Rn.aload_n (pc := 54) dX12_lay_54 rfl rfl ?_
          refine Rn.getI (pc := 55) (t := 0) flX12_156 (show mI M 11 0 13 = nI 8 from hst) dX12_lay_55 ?_
          refine Rn.bipush (pc := 58) (v := nI 10) dX12_lay_58 (by decide) ?_
          refine Rn.icmp_ltN (pc := 60) (tgt := 67) dX12_lay_60 (by decide) (by omega) (by omega) (fun c60 => ?_) (fun c60 => ?_)
          · refine Rn.iconst (pc := 67) (v := nI 0) dX12_lay_67 (by decide) ?_
            refine Rn.istore_n (pc := 68) dX12_lay_68 rfl (by decide) rfl st7_3 ?_
            refine Rn.aload_n (pc := 69) dX12_lay_69 rfl rfl ?_
            refine Rn.getI (pc := 70) (t := 0) flX12_156 (show mI M 11 0 13 = nI 8 from hst) dX12_lay_70 ?_
            refine Rn.bipush (pc := 73) (v := nI 8) dX12_lay_73 (by decide) ?_
            refine Rn.icmp_eqN (pc := 75) (tgt := 87) dX12_lay_75 (by decide) (by omega) (by omega) (fun c75 => ?_) (fun c75 => ?_)
            · refine Rn.iconst (pc := 87) (v := nI 1) dX12_lay_87 (by decide) ?_
              refine Rn.goto (pc := 88) (tgt := 92) dX12_lay_88 (by decide) ?_
              refine Rn.istore (pc := 92) dX12_lay_92 (by decide) rfl st7_4 ?_
              refine Rn.iload_n (pc := 94) dX12_lay_94 rfl rfl ?_
              refine Rn.if_eq (pc := 95) (y := 0) (tgt := 108) dX12_lay_95 (by decide) (fun c95 => ?_) (fun c95 => ?_)
              · refine Rn.aload_n (pc := 108) dX12_lay_108 rfl rfl ?_
                refine Rn.getI (pc := 109) (t := 0) flX12_325 hnw dX12_lay_109 ?_
                refine Rn.iconst (pc := 112) (v := nI 2) dX12_lay_112 (by decide) ?_
                refine Rn.icmp_neN (pc := 113) (tgt := 124) dX12_lay_113 (by decide) (by omega) (by omega) (fun c113 => ?_) (fun c113 => ?_)
                · refine Rn.aload_n (pc := 124) dX12_lay_124 rfl rfl ?_
                  refine Rn.getI (pc := 125) (t := 0) flX12_156 (show mI M 11 0 13 = nI 8 from hst) dX12_lay_125 ?_
                  refine Rn.iconst (pc := 128) (v := nI 5) dX12_lay_128 (by decide) ?_
                  refine Rn.icmp_eqN (pc := 129) (tgt := 141) dX12_lay_129 (by decide) (by omega) (by omega) (fun c129 => ?_) (fun c129 => ?_)
                  · exact absurd c129 (by decide)
                  · refine Rn.aload_n (pc := 132) dX12_lay_132 rfl rfl ?_
                    refine Rn.getI (pc := 133) (t := 0) flX12_156 (show mI M 11 0 13 = nI 8 from hst) dX12_lay_133 ?_
                    refine Rn.bipush (pc := 136) (v := nI 6) dX12_lay_136 (by decide) ?_
                    refine Rn.icmp_neN (pc := 138) (tgt := 145) dX12_lay_138 (by decide) (by omega) (by omega) (fun c138 => ?_) (fun c138 => ?_)
                    · refine Rn.iconst (pc := 145) (v := nI 0) dX12_lay_145 (by decide) ?_
                      refine Rn.istore (pc := 146) dX12_lay_146 (by decide) rfl st7_5 ?_
                      refine Rn.iload_n (pc := 148) dX12_lay_148 rfl rfl ?_
                      refine Rn.if_eq (pc := 149) (y := 0) (tgt := 163) dX12_lay_149 (by decide) (fun c149 => ?_) (fun c149 => ?_)
                      · refine Rn.iload (pc := 163) dX12_lay_163 rfl ?_
                        refine Rn.if_eq (pc := 165) (y := 0) (tgt := 182) dX12_lay_165 (by decide) (fun c165 => ?_) (fun c165 => ?_)
                        · refine Rn.aload_n (pc := 182) dX12_lay_182 rfl rfl ?_
                          refine Rn.getI (pc := 183) (t := 0) flX12_156 (show mI M 11 0 13 = nI 8 from hst) dX12_lay_183 ?_
                          refine Rn.bipush (pc := 186) (v := nI 9) dX12_lay_186 (by decide) ?_
                          refine Rn.icmp_neN (pc := 188) (tgt := 211) dX12_lay_188 (by decide) (by omega) (by omega) (fun c188 => ?_) (fun c188 => ?_)
                          · refine Rn.aload_n (pc := 211) dX12_lay_211 rfl rfl ?_
                            refine Rn.getI (pc := 212) (t := 0) flX12_156 (show mI M 11 0 13 = nI 8 from hst) dX12_lay_212 ?_
                            refine Rn.bipush (pc := 215) (v := nI 8) dX12_lay_215 (by decide) ?_
                            refine Rn.icmp_neN (pc := 217) (tgt := 247) dX12_lay_217 (by decide) (by omega) (by omega) (fun c217 => ?_) (fun c217 => ?_)
                            · exact absurd c217 (by decide)
                            · refine Rn.iconst (pc := 220) (v := nI 0) dX12_lay_220 (by decide) ?_
                              refine Rn.istore (pc := 221) dX12_lay_221 (by decide) rfl st7_6 ?_
                              have loop : ∀ (d k u : Nat) (N : Mem), num - k = d → k ≤ num → mI N 11 0 16 = nI num → mI N 31 0 (3 * mm + nw) = nI u → zF (3 * mm + nw) num z M = zF (3 * mm + nw) d u N → u + d = z + num → Rn G iX12_lay (fun q M' => q = some (vI (lyF (3 * mm + nw) 8 nw z num vn vc M).1) ∧ M' = (lyF (3 * mm + nw) 8 nw z num vn vc M).2) 223 [some (vR 11 0), some (vI (nI mm)), some (vI (nI (3 * mm + nw))), some (vI (nI 0)), some (vI (nI 1)), some (vI (nI 0)), some (vI (nI k))] [] N := by
                                intro d
                                induction d with
                                | zero =>
                                  intro k u N hd hk hn hu hR hb
                                  refine Rn.iload (pc := 223) dX12_lay_223 rfl ?_
                                  refine Rn.aload_n (pc := 225) dX12_lay_225 rfl rfl ?_
                                  refine Rn.getI (pc := 226) (t := 0) flX12_193 hn dX12_lay_226 ?_
                                  refine Rn.icmp_geN (pc := 229) (tgt := 244) dX12_lay_229 (by decide) (by omega) (by omega) (fun c229 => ?_) (fun c229 => ?_)
                                  · refine Rn.goto (pc := 244) (tgt := 309) dX12_lay_244 (by decide) ?_
                                    refine lay_309 G _ _ _ _ mm _ u hsec hu (by omega) ?_
                                    rw [lyF_O (by decide) (by decide) (by omega) (by omega)]
                                    dsimp only
                                    rw [show lyN 8 z num = num from rfl, show lyM (3 * mm + nw) 8 z num vn vc M = zF (3 * mm + nw) num z M from rfl, ← hb, hR, zF]
                                    exact ⟨rfl, rfl⟩
                                  · exact absurd c229 (by omega)
                                | succ d ih =>
                                  intro k u N hd hk hn hu hR hb
                                  refine Rn.iload (pc := 223) dX12_lay_223 rfl ?_
                                  refine Rn.aload_n (pc := 225) dX12_lay_225 rfl rfl ?_
                                  refine Rn.getI (pc := 226) (t := 0) flX12_193 hn dX12_lay_226 ?_
                                  refine Rn.icmp_geN (pc := 229) (tgt := 244) dX12_lay_229 (by decide) (by omega) (by omega) (fun c229 => ?_) (fun c229 => ?_)
                                  · exact absurd c229 (by omega)
                                  · refine Rn.aload_n (pc := 232) dX12_lay_232 rfl rfl ?_
                                    refine Rn.iload_n (pc := 233) dX12_lay_233 rfl rfl ?_
                                    refine Rn.iconst (pc := 234) (v := nI 0) dX12_lay_234 (by decide) ?_
                                    refine Rn.callV (pc := 235) (as := [_, _]) cvX12_328 ⟨by decide, rfl⟩ ⟨by decide, by decide⟩ dX12_lay_235 (Nat.le_of_ble_eq_true rfl) rfl (c_putByte G (3 * mm + nw) u (nI 0) hsec hu (by omega)) ?_
                                    rintro _ _ ⟨rfl, rfl⟩
                                    refine Rn.iincN (pc := 238) (n := 1) dX12_lay_238 rfl (by decide) (by decide) rfl st7_6 ?_
                                    refine Rn.goto (pc := 241) (tgt := 223) dX12_lay_241 (by decide) ?_
                                    exact ih (k + 1) (u + 1) _ (by omega) (by omega) (by rw [pB_oth (by decide)]; exact hn) pB_z (by rw [hR, zF]) (by omega)
                              exact loop _ 0 z M rfl (Nat.zero_le _) (by rw [hvn, h8]) hz rfl rfl
                          · exact absurd c188 (by decide)
                        · exact absurd c165 (by decide)
                      · exact absurd c149 (by decide)
                    · exact absurd c138 (by decide)
                · refine Rn.iload (pc := 116) dX12_lay_116 rfl ?_
                  refine Rn.if_ne (pc := 118) (y := 0) (tgt := 124) dX12_lay_118 (by decide) (fun c118 => ?_) (fun c118 => ?_)
                  · refine Rn.aload_n (pc := 124) dX12_lay_124 rfl rfl ?_
                    refine Rn.getI (pc := 125) (t := 0) flX12_156 (show mI M 11 0 13 = nI 8 from hst) dX12_lay_125 ?_
                    refine Rn.iconst (pc := 128) (v := nI 5) dX12_lay_128 (by decide) ?_
                    refine Rn.icmp_eqN (pc := 129) (tgt := 141) dX12_lay_129 (by decide) (by omega) (by omega) (fun c129 => ?_) (fun c129 => ?_)
                    · exact absurd c129 (by decide)
                    · refine Rn.aload_n (pc := 132) dX12_lay_132 rfl rfl ?_
                      refine Rn.getI (pc := 133) (t := 0) flX12_156 (show mI M 11 0 13 = nI 8 from hst) dX12_lay_133 ?_
                      refine Rn.bipush (pc := 136) (v := nI 6) dX12_lay_136 (by decide) ?_
                      refine Rn.icmp_neN (pc := 138) (tgt := 145) dX12_lay_138 (by decide) (by omega) (by omega) (fun c138 => ?_) (fun c138 => ?_)
                      · refine Rn.iconst (pc := 145) (v := nI 0) dX12_lay_145 (by decide) ?_
                        refine Rn.istore (pc := 146) dX12_lay_146 (by decide) rfl st7_5 ?_
                        refine Rn.iload_n (pc := 148) dX12_lay_148 rfl rfl ?_
                        refine Rn.if_eq (pc := 149) (y := 0) (tgt := 163) dX12_lay_149 (by decide) (fun c149 => ?_) (fun c149 => ?_)
                        · refine Rn.iload (pc := 163) dX12_lay_163 rfl ?_
                          refine Rn.if_eq (pc := 165) (y := 0) (tgt := 182) dX12_lay_165 (by decide) (fun c165 => ?_) (fun c165 => ?_)
                          · refine Rn.aload_n (pc := 182) dX12_lay_182 rfl rfl ?_
                            refine Rn.getI (pc := 183) (t := 0) flX12_156 (show mI M 11 0 13 = nI 8 from hst) dX12_lay_183 ?_
                            refine Rn.bipush (pc := 186) (v := nI 9) dX12_lay_186 (by decide) ?_
                            refine Rn.icmp_neN (pc := 188) (tgt := 211) dX12_lay_188 (by decide) (by omega) (by omega) (fun c188 => ?_) (fun c188 => ?_)
                            · refine Rn.aload_n (pc := 211) dX12_lay_211 rfl rfl ?_
                              refine Rn.getI (pc := 212) (t := 0) flX12_156 (show mI M 11 0 13 = nI 8 from hst) dX12_lay_212 ?_
                              refine Rn.bipush (pc := 215) (v := nI 8) dX12_lay_215 (by decide) ?_
                              refine Rn.icmp_neN (pc := 217) (tgt := 247) dX12_lay_217 (by decide) (by omega) (by omega) (fun c217 => ?_) (fun c217 => ?_)
                              · exact absurd c217 (by decide)
                              · refine Rn.iconst (pc := 220) (v := nI 0) dX12_lay_220 (by decide) ?_
                                refine Rn.istore (pc := 221) dX12_lay_221 (by decide) rfl st7_6 ?_
                                have loop : ∀ (d k u : Nat) (N : Mem), num - k = d → k ≤ num → mI N 11 0 16 = nI num → mI N 31 0 (3 * mm + nw) = nI u → zF (3 * mm + nw) num z M = zF (3 * mm + nw) d u N → u + d = z + num → Rn G iX12_lay (fun q M' => q = some (vI (lyF (3 * mm + nw) 8 nw z num vn vc M).1) ∧ M' = (lyF (3 * mm + nw) 8 nw z num vn vc M).2) 223 [some (vR 11 0), some (vI (nI mm)), some (vI (nI (3 * mm + nw))), some (vI (nI 0)), some (vI (nI 1)), some (vI (nI 0)), some (vI (nI k))] [] N := by
                                  intro d
                                  induction d with
                                  | zero =>
                                    intro k u N hd hk hn hu hR hb
                                    refine Rn.iload (pc := 223) dX12_lay_223 rfl ?_
                                    refine Rn.aload_n (pc := 225) dX12_lay_225 rfl rfl ?_
                                    refine Rn.getI (pc := 226) (t := 0) flX12_193 hn dX12_lay_226 ?_
                                    refine Rn.icmp_geN (pc := 229) (tgt := 244) dX12_lay_229 (by decide) (by omega) (by omega) (fun c229 => ?_) (fun c229 => ?_)
                                    · refine Rn.goto (pc := 244) (tgt := 309) dX12_lay_244 (by decide) ?_
                                      refine lay_309 G _ _ _ _ mm _ u hsec hu (by omega) ?_
                                      rw [lyF_O (by decide) (by decide) (by omega) (by omega)]
                                      dsimp only
                                      rw [show lyN 8 z num = num from rfl, show lyM (3 * mm + nw) 8 z num vn vc M = zF (3 * mm + nw) num z M from rfl, ← hb, hR, zF]
                                      exact ⟨rfl, rfl⟩
                                    · exact absurd c229 (by omega)
                                  | succ d ih =>
                                    intro k u N hd hk hn hu hR hb
                                    refine Rn.iload (pc := 223) dX12_lay_223 rfl ?_
                                    refine Rn.aload_n (pc := 225) dX12_lay_225 rfl rfl ?_
                                    refine Rn.getI (pc := 226) (t := 0) flX12_193 hn dX12_lay_226 ?_
                                    refine Rn.icmp_geN (pc := 229) (tgt := 244) dX12_lay_229 (by decide) (by omega) (by omega) (fun c229 => ?_) (fun c229 => ?_)
                                    · exact absurd c229 (by omega)
                                    · refine Rn.aload_n (pc := 232) dX12_lay_232 rfl rfl ?_
                                      refine Rn.iload_n (pc := 233) dX12_lay_233 rfl rfl ?_
                                      refine Rn.iconst (pc := 234) (v := nI 0) dX12_lay_234 (by decide) ?_
                                      refine Rn.callV (pc := 235) (as := [_, _]) cvX12_328 ⟨by decide, rfl⟩ ⟨by decide, by decide⟩ dX12_lay_235 (Nat.le_of_ble_eq_true rfl) rfl (c_putByte G (3 * mm + nw) u (nI 0) hsec hu (by omega)) ?_
                                      rintro _ _ ⟨rfl, rfl⟩
                                      refine Rn.iincN (pc := 238) (n := 1) dX12_lay_238 rfl (by decide) (by decide) rfl st7_6 ?_
                                      refine Rn.goto (pc := 241) (tgt := 223) dX12_lay_241 (by decide) ?_
                                      exact ih (k + 1) (u + 1) _ (by omega) (by omega) (by rw [pB_oth (by decide)]; exact hn) pB_z (by rw [hR, zF]) (by omega)
                                exact loop _ 0 z M rfl (Nat.zero_le _) (by rw [hvn, h8]) hz rfl rfl
                            · exact absurd c188 (by decide)
                          · exact absurd c165 (by decide)
                        · exact absurd c149 (by decide)
                      · exact absurd c138 (by decide)
                  · exact absurd c118 (by decide)
              · exact absurd c95 (by decide)
            · exact absurd c75 (by decide)
          · exact absurd c60 (by decide)
        · exact absurd c40 (by decide)
    · exact absurd c13 (by decide)

set_option maxRecDepth 20000 in
set_option maxHeartbeats 4000000 in
theorem c_lay_9 (G : GX) {M : Mem} (mm nw z num : Nat) (vn vc : Int32) (hmm : mm < 4) (hst : mI M 11 0 13 = nI 9) (hnw : mI M 11 0 30 = nI nw) (hnw3 : nw < 3) (hz : mI M 31 0 (3 * mm + nw) = nI z) (hz2 : z ≤ 1024) (hvn : mI M 11 0 16 = vn) (hvc : mI M 11 0 15 = vc) : MetM G yX12_lay iX12_lay [vR 11 0, vI (nI mm)] M (fun q M' => q = some (vI (lyF (3 * mm + nw) 9 nw z num vn vc M).1) ∧ M' = (lyF (3 * mm + nw) 9 nw z num vn vc M).2) := by
  refine MetM.of (ls := [some (vR 11 0), some (vI (nI mm)), none, none, none, none, none]) (by decide) rfl (Nat.le_of_ble_eq_true rfl) rfl ?_
  intro hM0
  have hsec : 3 * mm + nw < 12 := by omega
  refine Rn.aload_n (pc := 0) dX12_lay_0 rfl rfl ?_
  refine Rn.getI (pc := 1) (t := 0) flX12_156 (show mI M 11 0 13 = nI 9 from hst) dX12_lay_1 ?_
  refine Rn.iconst (pc := 4) (v := nI 1) dX12_lay_4 (by decide) ?_
  refine Rn.icmp_ltN (pc := 5) (tgt := 28) dX12_lay_5 (by decide) (by omega) (by omega) (fun c5 => ?_) (fun c5 => ?_)
  · exact absurd c5 (by decide)
  · refine Rn.aload_n (pc := 8) dX12_lay_8 rfl rfl ?_
    refine Rn.getI (pc := 9) (t := 0) flX12_156 (show mI M 11 0 13 = nI 9 from hst) dX12_lay_9 ?_
    refine Rn.iconst (pc := 12) (v := nI 4) dX12_lay_12 (by decide) ?_
    refine Rn.icmp_geN (pc := 13) (tgt := 28) dX12_lay_13 (by decide) (by omega) (by omega) (fun c13 => ?_) (fun c13 => ?_)
    · refine Rn.aload_n (pc := 28) dX12_lay_28 rfl rfl ?_
      refine Rn.getI (pc := 29) (t := 0) flX12_156 (show mI M 11 0 13 = nI 9 from hst) dX12_lay_29 ?_
      refine Rn.if_eq (pc := 32) (y := 0) (tgt := 43) dX12_lay_32 (by decide) (fun c32 => ?_) (fun c32 => ?_)
      · exact absurd c32 (by decide)
      · refine Rn.aload_n (pc := 35) dX12_lay_35 rfl rfl ?_
        refine Rn.getI (pc := 36) (t := 0) flX12_156 (show mI M 11 0 13 = nI 9 from hst) dX12_lay_36 ?_
        refine Rn.iconst (pc := 39) (v := nI 4) dX12_lay_39 (by decide) ?_
        refine Rn.icmp_neN (pc := 40) (tgt := 45) dX12_lay_40 (by decide) (by omega) (by omega) (fun c40 => ?_) (fun c40 => ?_)
        · refine Rn.iconst (pc := 45) (v := nI 3) dX12_lay_45 (by decide) ?_
          refine Rn.iload_n (pc := 46) dX12_lay_46 rfl rfl ?_
          refine Rn.imulN (pc := 47) dX12_lay_47 ?_
          refine Rn.aload_n (pc := 48) dX12_lay_48 rfl rfl ?_
          refine Rn.getI (pc := 49) (t := 0) flX12_325 hnw dX12_lay_49 ?_
          refine Rn.iaddN (pc := 52) dX12_lay_52 ?_
          refine Rn.istore_n (pc := 53) dX12_lay_53 rfl (by decide) rfl st7_2 ?_
          refine Rn.aload_n (pc := 54) dX12_lay_54 rfl rfl ?_
          refine Rn.getI (pc := 55) (t := 0) flX12_156 (show mI M 11 0 13 = nI 9 from hst) dX12_lay_55 ?_
          refine Rn.bipush (pc := 58) (v := nI 10) dX12_lay_58 (by decide) ?_
          refine Rn.icmp_ltN (pc := 60) (tgt := 67) dX12_lay_60 (by decide) (by omega) (by omega) (fun c60 => ?_) (fun c60 => ?_)
          · refine Rn.iconst (pc := 67) (v := nI 0) dX12_lay_67 (by decide) ?_
            refine Rn.istore_n (pc := 68) dX12_lay_68 rfl (by decide) rfl st7_3 ?_
            refine Rn.aload_n (pc := 69) dX12_lay_69 rfl rfl ?_
            refine Rn.getI (pc := 70) (t := 0) flX12_156 (show mI M 11 0 13 = nI 9 from hst) dX12_lay_70 ?_
            refine Rn.bipush (pc := 73) (v := nI 8) dX12_lay_73 (by decide) ?_
            refine Rn.icmp_eqN (pc := 75) (tgt := 87) dX12_lay_75 (by decide) (by omega) (by omega) (fun c75 => ?_) (fun c75 => ?_)
            · exact absurd c75 (by decide)
            · refine Rn.aload_n (pc := 78) dX12_lay_78 rfl rfl ?_
              refine Rn.getI (pc := 79) (t := 0) flX12_156 (show mI M 11 0 13 = nI 9 from hst) dX12_lay_79 ?_
              refine Rn.bipush (pc := 82) (v := nI 9) dX12_lay_82 (by decide) ?_
              refine Rn.icmp_neN (pc := 84) (tgt := 91) dX12_lay_84 (by decide) (by omega) (by omega) (fun c84 => ?_) (fun c84 => ?_)
              · exact absurd c84 (by decide)
              · refine Rn.iconst (pc := 87) (v := nI 1) dX12_lay_87 (by decide) ?_
                refine Rn.goto (pc := 88) (tgt := 92) dX12_lay_88 (by decide) ?_
                refine Rn.istore (pc := 92) dX12_lay_92 (by decide) rfl st7_4 ?_
                refine Rn.iload_n (pc := 94) dX12_lay_94 rfl rfl ?_
                refine Rn.if_eq (pc := 95) (y := 0) (tgt := 108) dX12_lay_95 (by decide) (fun c95 => ?_) (fun c95 => ?_)
                · refine Rn.aload_n (pc := 108) dX12_lay_108 rfl rfl ?_
                  refine Rn.getI (pc := 109) (t := 0) flX12_325 hnw dX12_lay_109 ?_
                  refine Rn.iconst (pc := 112) (v := nI 2) dX12_lay_112 (by decide) ?_
                  refine Rn.icmp_neN (pc := 113) (tgt := 124) dX12_lay_113 (by decide) (by omega) (by omega) (fun c113 => ?_) (fun c113 => ?_)
                  · refine Rn.aload_n (pc := 124) dX12_lay_124 rfl rfl ?_
                    refine Rn.getI (pc := 125) (t := 0) flX12_156 (show mI M 11 0 13 = nI 9 from hst) dX12_lay_125 ?_
                    refine Rn.iconst (pc := 128) (v := nI 5) dX12_lay_128 (by decide) ?_
                    refine Rn.icmp_eqN (pc := 129) (tgt := 141) dX12_lay_129 (by decide) (by omega) (by omega) (fun c129 => ?_) (fun c129 => ?_)
                    · exact absurd c129 (by decide)
                    · refine Rn.aload_n (pc := 132) dX12_lay_132 rfl rfl ?_
                      refine Rn.getI (pc := 133) (t := 0) flX12_156 (show mI M 11 0 13 = nI 9 from hst) dX12_lay_133 ?_
                      refine Rn.bipush (pc := 136) (v := nI 6) dX12_lay_136 (by decide) ?_
                      refine Rn.icmp_neN (pc := 138) (tgt := 145) dX12_lay_138 (by decide) (by omega) (by omega) (fun c138 => ?_) (fun c138 => ?_)
                      · refine Rn.iconst (pc := 145) (v := nI 0) dX12_lay_145 (by decide) ?_
                        refine Rn.istore (pc := 146) dX12_lay_146 (by decide) rfl st7_5 ?_
                        refine Rn.iload_n (pc := 148) dX12_lay_148 rfl rfl ?_
                        refine Rn.if_eq (pc := 149) (y := 0) (tgt := 163) dX12_lay_149 (by decide) (fun c149 => ?_) (fun c149 => ?_)
                        · refine Rn.iload (pc := 163) dX12_lay_163 rfl ?_
                          refine Rn.if_eq (pc := 165) (y := 0) (tgt := 182) dX12_lay_165 (by decide) (fun c165 => ?_) (fun c165 => ?_)
                          · refine Rn.aload_n (pc := 182) dX12_lay_182 rfl rfl ?_
                            refine Rn.getI (pc := 183) (t := 0) flX12_156 (show mI M 11 0 13 = nI 9 from hst) dX12_lay_183 ?_
                            refine Rn.bipush (pc := 186) (v := nI 9) dX12_lay_186 (by decide) ?_
                            refine Rn.icmp_neN (pc := 188) (tgt := 211) dX12_lay_188 (by decide) (by omega) (by omega) (fun c188 => ?_) (fun c188 => ?_)
                            · exact absurd c188 (by decide)
                            · have loop : ∀ (d u : Nat) (N : Mem), (4 - u % 4) % 4 = d → mI N 31 0 (3 * mm + nw) = nI u → zF (3 * mm + nw) ((4 - z % 4) % 4) z M = zF (3 * mm + nw) d u N → u + d = z + (4 - z % 4) % 4 → Rn G iX12_lay (fun q M' => q = some (vI (lyF (3 * mm + nw) 9 nw z num vn vc M).1) ∧ M' = (lyF (3 * mm + nw) 9 nw z num vn vc M).2) 191 [some (vR 11 0), some (vI (nI mm)), some (vI (nI (3 * mm + nw))), some (vI (nI 0)), some (vI (nI 1)), some (vI (nI 0)), none] [] N := by
                                intro d
                                induction d with
                                | zero =>
                                  intro u N hd hu hR hb
                                  refine Rn.aload_n (pc := 191) dX12_lay_191 rfl rfl ?_
                                  refine Rn.getR (pc := 192) flX12_39 mu11_26 fx11_26 dX12_lay_192 ?_
                                  refine Rn.iload_n (pc := 195) dX12_lay_195 rfl rfl ?_
                                  refine Rn.ialdN (pc := 196) ak31 (by omega) (by decide) hu dX12_lay_196 ?_
                                  refine Rn.iconst (pc := 197) (v := nI 4) dX12_lay_197 (by decide) ?_
                                  refine Rn.irem (pc := 198) dX12_lay_198 (by decide) ?_
                                  rw [rem_N (by omega) (by decide) (by decide)]
                                  refine Rn.if_eq (pc := 199) (y := 0) (tgt := 309) dX12_lay_199 (by decide) (fun c199 => ?_) (fun c199 => ?_)
                                  · refine lay_309 G _ _ _ _ mm _ u hsec hu (by omega) ?_
                                    rw [lyF_O (by decide) (by decide) (by omega) (by omega)]
                                    dsimp only
                                    rw [lyN, lyM, if_pos rfl, if_pos rfl, ← hb, hR, zF]
                                    exact ⟨rfl, rfl⟩
                                  · exact absurd (show nI (u % 4) = 0 by rw [show u % 4 = 0 by omega]; rfl) c199
                                | succ d ih =>
                                  intro u N hd hu hR hb
                                  refine Rn.aload_n (pc := 191) dX12_lay_191 rfl rfl ?_
                                  refine Rn.getR (pc := 192) flX12_39 mu11_26 fx11_26 dX12_lay_192 ?_
                                  refine Rn.iload_n (pc := 195) dX12_lay_195 rfl rfl ?_
                                  refine Rn.ialdN (pc := 196) ak31 (by omega) (by decide) hu dX12_lay_196 ?_
                                  refine Rn.iconst (pc := 197) (v := nI 4) dX12_lay_197 (by decide) ?_
                                  refine Rn.irem (pc := 198) dX12_lay_198 (by decide) ?_
                                  rw [rem_N (by omega) (by decide) (by decide)]
                                  refine Rn.if_eq (pc := 199) (y := 0) (tgt := 309) dX12_lay_199 (by decide) (fun c199 => ?_) (fun c199 => ?_)
                                  · exact absurd (rem_z (by omega) c199) (by omega)
                                  · refine Rn.aload_n (pc := 202) dX12_lay_202 rfl rfl ?_
                                    refine Rn.iload_n (pc := 203) dX12_lay_203 rfl rfl ?_
                                    refine Rn.iconst (pc := 204) (v := nI 0) dX12_lay_204 (by decide) ?_
                                    refine Rn.callV (pc := 205) (as := [_, _]) cvX12_328 ⟨by decide, rfl⟩ ⟨by decide, by decide⟩ dX12_lay_205 (Nat.le_of_ble_eq_true rfl) rfl (c_putByte G (3 * mm + nw) u (nI 0) hsec hu (by omega)) ?_
                                    rintro _ _ ⟨rfl, rfl⟩
                                    refine Rn.goto (pc := 208) (tgt := 191) dX12_lay_208 (by decide) ?_
                                    exact ih (u + 1) _ (by omega) pB_z (by rw [hR, zF]) (by omega)
                              exact loop _ z M rfl hz rfl rfl
                          · exact absurd c165 (by decide)
                        · exact absurd c149 (by decide)
                      · exact absurd c138 (by decide)
                  · refine Rn.iload (pc := 116) dX12_lay_116 rfl ?_
                    refine Rn.if_ne (pc := 118) (y := 0) (tgt := 124) dX12_lay_118 (by decide) (fun c118 => ?_) (fun c118 => ?_)
                    · refine Rn.aload_n (pc := 124) dX12_lay_124 rfl rfl ?_
                      refine Rn.getI (pc := 125) (t := 0) flX12_156 (show mI M 11 0 13 = nI 9 from hst) dX12_lay_125 ?_
                      refine Rn.iconst (pc := 128) (v := nI 5) dX12_lay_128 (by decide) ?_
                      refine Rn.icmp_eqN (pc := 129) (tgt := 141) dX12_lay_129 (by decide) (by omega) (by omega) (fun c129 => ?_) (fun c129 => ?_)
                      · exact absurd c129 (by decide)
                      · refine Rn.aload_n (pc := 132) dX12_lay_132 rfl rfl ?_
                        refine Rn.getI (pc := 133) (t := 0) flX12_156 (show mI M 11 0 13 = nI 9 from hst) dX12_lay_133 ?_
                        refine Rn.bipush (pc := 136) (v := nI 6) dX12_lay_136 (by decide) ?_
                        refine Rn.icmp_neN (pc := 138) (tgt := 145) dX12_lay_138 (by decide) (by omega) (by omega) (fun c138 => ?_) (fun c138 => ?_)
                        · refine Rn.iconst (pc := 145) (v := nI 0) dX12_lay_145 (by decide) ?_
                          refine Rn.istore (pc := 146) dX12_lay_146 (by decide) rfl st7_5 ?_
                          refine Rn.iload_n (pc := 148) dX12_lay_148 rfl rfl ?_
                          refine Rn.if_eq (pc := 149) (y := 0) (tgt := 163) dX12_lay_149 (by decide) (fun c149 => ?_) (fun c149 => ?_)
                          · refine Rn.iload (pc := 163) dX12_lay_163 rfl ?_
                            refine Rn.if_eq (pc := 165) (y := 0) (tgt := 182) dX12_lay_165 (by decide) (fun c165 => ?_) (fun c165 => ?_)
                            · refine Rn.aload_n (pc := 182) dX12_lay_182 rfl rfl ?_
                              refine Rn.getI (pc := 183) (t := 0) flX12_156 (show mI M 11 0 13 = nI 9 from hst) dX12_lay_183 ?_
                              refine Rn.bipush (pc := 186) (v := nI 9) dX12_lay_186 (by decide) ?_
                              refine Rn.icmp_neN (pc := 188) (tgt := 211) dX12_lay_188 (by decide) (by omega) (by omega) (fun c188 => ?_) (fun c188 => ?_)
                              · exact absurd c188 (by decide)
                              · have loop : ∀ (d u : Nat) (N : Mem), (4 - u % 4) % 4 = d → mI N 31 0 (3 * mm + nw) = nI u → zF (3 * mm + nw) ((4 - z % 4) % 4) z M = zF (3 * mm + nw) d u N → u + d = z + (4 - z % 4) % 4 → Rn G iX12_lay (fun q M' => q = some (vI (lyF (3 * mm + nw) 9 nw z num vn vc M).1) ∧ M' = (lyF (3 * mm + nw) 9 nw z num vn vc M).2) 191 [some (vR 11 0), some (vI (nI mm)), some (vI (nI (3 * mm + nw))), some (vI (nI 0)), some (vI (nI 1)), some (vI (nI 0)), none] [] N := by
                                  intro d
                                  induction d with
                                  | zero =>
                                    intro u N hd hu hR hb
                                    refine Rn.aload_n (pc := 191) dX12_lay_191 rfl rfl ?_
                                    refine Rn.getR (pc := 192) flX12_39 mu11_26 fx11_26 dX12_lay_192 ?_
                                    refine Rn.iload_n (pc := 195) dX12_lay_195 rfl rfl ?_
                                    refine Rn.ialdN (pc := 196) ak31 (by omega) (by decide) hu dX12_lay_196 ?_
                                    refine Rn.iconst (pc := 197) (v := nI 4) dX12_lay_197 (by decide) ?_
                                    refine Rn.irem (pc := 198) dX12_lay_198 (by decide) ?_
                                    rw [rem_N (by omega) (by decide) (by decide)]
                                    refine Rn.if_eq (pc := 199) (y := 0) (tgt := 309) dX12_lay_199 (by decide) (fun c199 => ?_) (fun c199 => ?_)
                                    · refine lay_309 G _ _ _ _ mm _ u hsec hu (by omega) ?_
                                      rw [lyF_O (by decide) (by decide) (by omega) (by omega)]
                                      dsimp only
                                      rw [lyN, lyM, if_pos rfl, if_pos rfl, ← hb, hR, zF]
                                      exact ⟨rfl, rfl⟩
                                    · exact absurd (show nI (u % 4) = 0 by rw [show u % 4 = 0 by omega]; rfl) c199
                                  | succ d ih =>
                                    intro u N hd hu hR hb
                                    refine Rn.aload_n (pc := 191) dX12_lay_191 rfl rfl ?_
                                    refine Rn.getR (pc := 192) flX12_39 mu11_26 fx11_26 dX12_lay_192 ?_
                                    refine Rn.iload_n (pc := 195) dX12_lay_195 rfl rfl ?_
                                    refine Rn.ialdN (pc := 196) ak31 (by omega) (by decide) hu dX12_lay_196 ?_
                                    refine Rn.iconst (pc := 197) (v := nI 4) dX12_lay_197 (by decide) ?_
                                    refine Rn.irem (pc := 198) dX12_lay_198 (by decide) ?_
                                    rw [rem_N (by omega) (by decide) (by decide)]
                                    refine Rn.if_eq (pc := 199) (y := 0) (tgt := 309) dX12_lay_199 (by decide) (fun c199 => ?_) (fun c199 => ?_)
                                    · exact absurd (rem_z (by omega) c199) (by omega)
                                    · refine Rn.aload_n (pc := 202) dX12_lay_202 rfl rfl ?_
                                      refine Rn.iload_n (pc := 203) dX12_lay_203 rfl rfl ?_
                                      refine Rn.iconst (pc := 204) (v := nI 0) dX12_lay_204 (by decide) ?_
                                      refine Rn.callV (pc := 205) (as := [_, _]) cvX12_328 ⟨by decide, rfl⟩ ⟨by decide, by decide⟩ dX12_lay_205 (Nat.le_of_ble_eq_true rfl) rfl (c_putByte G (3 * mm + nw) u (nI 0) hsec hu (by omega)) ?_
                                      rintro _ _ ⟨rfl, rfl⟩
                                      refine Rn.goto (pc := 208) (tgt := 191) dX12_lay_208 (by decide) ?_
                                      exact ih (u + 1) _ (by omega) pB_z (by rw [hR, zF]) (by omega)
                                exact loop _ z M rfl hz rfl rfl
                            · exact absurd c165 (by decide)
                          · exact absurd c149 (by decide)
                        · exact absurd c138 (by decide)
                    · exact absurd c118 (by decide)
                · exact absurd c95 (by decide)
          · exact absurd c60 (by decide)
        · exact absurd c40 (by decide)
    · exact absurd c13 (by decide)

set_option maxRecDepth 20000 in
set_option maxHeartbeats 4000000 in
theorem c_lay_10 (G : GX) {M : Mem} (mm nw z num : Nat) (vn vc : Int32) (hmm : mm < 4) (hst : mI M 11 0 13 = nI 10) (hnw : mI M 11 0 30 = nI nw) (hnw3 : nw < 3) (hz : mI M 31 0 (3 * mm + nw) = nI z) (hz2 : z ≤ 1024) (hvn : mI M 11 0 16 = vn) (hvc : mI M 11 0 15 = vc) : MetM G yX12_lay iX12_lay [vR 11 0, vI (nI mm)] M (fun q M' => q = some (vI (lyF (3 * mm + nw) 10 nw z num vn vc M).1) ∧ M' = (lyF (3 * mm + nw) 10 nw z num vn vc M).2) := by
  refine MetM.of (ls := [some (vR 11 0), some (vI (nI mm)), none, none, none, none, none]) (by decide) rfl (Nat.le_of_ble_eq_true rfl) rfl ?_
  intro hM0
  have hsec : 3 * mm + nw < 12 := by omega
  refine Rn.aload_n (pc := 0) dX12_lay_0 rfl rfl ?_
  refine Rn.getI (pc := 1) (t := 0) flX12_156 (show mI M 11 0 13 = nI 10 from hst) dX12_lay_1 ?_
  refine Rn.iconst (pc := 4) (v := nI 1) dX12_lay_4 (by decide) ?_
  refine Rn.icmp_ltN (pc := 5) (tgt := 28) dX12_lay_5 (by decide) (by omega) (by omega) (fun c5 => ?_) (fun c5 => ?_)
  · exact absurd c5 (by decide)
  · refine Rn.aload_n (pc := 8) dX12_lay_8 rfl rfl ?_
    refine Rn.getI (pc := 9) (t := 0) flX12_156 (show mI M 11 0 13 = nI 10 from hst) dX12_lay_9 ?_
    refine Rn.iconst (pc := 12) (v := nI 4) dX12_lay_12 (by decide) ?_
    refine Rn.icmp_geN (pc := 13) (tgt := 28) dX12_lay_13 (by decide) (by omega) (by omega) (fun c13 => ?_) (fun c13 => ?_)
    · refine Rn.aload_n (pc := 28) dX12_lay_28 rfl rfl ?_
      refine Rn.getI (pc := 29) (t := 0) flX12_156 (show mI M 11 0 13 = nI 10 from hst) dX12_lay_29 ?_
      refine Rn.if_eq (pc := 32) (y := 0) (tgt := 43) dX12_lay_32 (by decide) (fun c32 => ?_) (fun c32 => ?_)
      · exact absurd c32 (by decide)
      · refine Rn.aload_n (pc := 35) dX12_lay_35 rfl rfl ?_
        refine Rn.getI (pc := 36) (t := 0) flX12_156 (show mI M 11 0 13 = nI 10 from hst) dX12_lay_36 ?_
        refine Rn.iconst (pc := 39) (v := nI 4) dX12_lay_39 (by decide) ?_
        refine Rn.icmp_neN (pc := 40) (tgt := 45) dX12_lay_40 (by decide) (by omega) (by omega) (fun c40 => ?_) (fun c40 => ?_)
        · refine Rn.iconst (pc := 45) (v := nI 3) dX12_lay_45 (by decide) ?_
          refine Rn.iload_n (pc := 46) dX12_lay_46 rfl rfl ?_
          refine Rn.imulN (pc := 47) dX12_lay_47 ?_
          refine Rn.aload_n (pc := 48) dX12_lay_48 rfl rfl ?_
          refine Rn.getI (pc := 49) (t := 0) flX12_325 hnw dX12_lay_49 ?_
          refine Rn.iaddN (pc := 52) dX12_lay_52 ?_
          refine Rn.istore_n (pc := 53) dX12_lay_53 rfl (by decide) rfl st7_2 ?_
          refine Rn.aload_n (pc := 54) dX12_lay_54 rfl rfl ?_
          refine Rn.getI (pc := 55) (t := 0) flX12_156 (show mI M 11 0 13 = nI 10 from hst) dX12_lay_55 ?_
          refine Rn.bipush (pc := 58) (v := nI 10) dX12_lay_58 (by decide) ?_
          refine Rn.icmp_ltN (pc := 60) (tgt := 67) dX12_lay_60 (by decide) (by omega) (by omega) (fun c60 => ?_) (fun c60 => ?_)
          · exact absurd c60 (by decide)
          · refine Rn.iconst (pc := 63) (v := nI 1) dX12_lay_63 (by decide) ?_
            refine Rn.goto (pc := 64) (tgt := 68) dX12_lay_64 (by decide) ?_
            refine Rn.istore_n (pc := 68) dX12_lay_68 rfl (by decide) rfl st7_3 ?_
            refine Rn.aload_n (pc := 69) dX12_lay_69 rfl rfl ?_
            refine Rn.getI (pc := 70) (t := 0) flX12_156 (show mI M 11 0 13 = nI 10 from hst) dX12_lay_70 ?_
            refine Rn.bipush (pc := 73) (v := nI 8) dX12_lay_73 (by decide) ?_
            refine Rn.icmp_eqN (pc := 75) (tgt := 87) dX12_lay_75 (by decide) (by omega) (by omega) (fun c75 => ?_) (fun c75 => ?_)
            · exact absurd c75 (by decide)
            · refine Rn.aload_n (pc := 78) dX12_lay_78 rfl rfl ?_
              refine Rn.getI (pc := 79) (t := 0) flX12_156 (show mI M 11 0 13 = nI 10 from hst) dX12_lay_79 ?_
              refine Rn.bipush (pc := 82) (v := nI 9) dX12_lay_82 (by decide) ?_
              refine Rn.icmp_neN (pc := 84) (tgt := 91) dX12_lay_84 (by decide) (by omega) (by omega) (fun c84 => ?_) (fun c84 => ?_)
              · refine Rn.iconst (pc := 91) (v := nI 0) dX12_lay_91 (by decide) ?_
                refine Rn.istore (pc := 92) dX12_lay_92 (by decide) rfl st7_4 ?_
                refine Rn.iload_n (pc := 94) dX12_lay_94 rfl rfl ?_
                refine Rn.if_eq (pc := 95) (y := 0) (tgt := 108) dX12_lay_95 (by decide) (fun c95 => ?_) (fun c95 => ?_)
                · exact absurd c95 (by decide)
                · refine Rn.aload_n (pc := 98) dX12_lay_98 rfl rfl ?_
                  refine Rn.getI (pc := 99) (t := 0) flX12_325 hnw dX12_lay_99 ?_
                  refine Rn.if_eq (pc := 102) (y := 0) (tgt := 124) dX12_lay_102 (by decide) (fun c102 => ?_) (fun c102 => ?_)
                  · refine Rn.aload_n (pc := 124) dX12_lay_124 rfl rfl ?_
                    refine Rn.getI (pc := 125) (t := 0) flX12_156 (show mI M 11 0 13 = nI 10 from hst) dX12_lay_125 ?_
                    refine Rn.iconst (pc := 128) (v := nI 5) dX12_lay_128 (by decide) ?_
                    refine Rn.icmp_eqN (pc := 129) (tgt := 141) dX12_lay_129 (by decide) (by omega) (by omega) (fun c129 => ?_) (fun c129 => ?_)
                    · exact absurd c129 (by decide)
                    · refine Rn.aload_n (pc := 132) dX12_lay_132 rfl rfl ?_
                      refine Rn.getI (pc := 133) (t := 0) flX12_156 (show mI M 11 0 13 = nI 10 from hst) dX12_lay_133 ?_
                      refine Rn.bipush (pc := 136) (v := nI 6) dX12_lay_136 (by decide) ?_
                      refine Rn.icmp_neN (pc := 138) (tgt := 145) dX12_lay_138 (by decide) (by omega) (by omega) (fun c138 => ?_) (fun c138 => ?_)
                      · refine Rn.iconst (pc := 145) (v := nI 0) dX12_lay_145 (by decide) ?_
                        refine Rn.istore (pc := 146) dX12_lay_146 (by decide) rfl st7_5 ?_
                        refine Rn.iload_n (pc := 148) dX12_lay_148 rfl rfl ?_
                        refine Rn.if_eq (pc := 149) (y := 0) (tgt := 163) dX12_lay_149 (by decide) (fun c149 => ?_) (fun c149 => ?_)
                        · exact absurd c149 (by decide)
                        · refine Rn.aload_n (pc := 152) dX12_lay_152 rfl rfl ?_
                          refine Rn.getR (pc := 153) flX12_39 mu11_26 fx11_26 dX12_lay_153 ?_
                          refine Rn.iload_n (pc := 156) dX12_lay_156 rfl rfl ?_
                          refine Rn.ialdN (pc := 157) ak31 (by omega) (by decide) hz dX12_lay_157 ?_
                          refine Rn.iconst (pc := 158) (v := nI 2) dX12_lay_158 (by decide) ?_
                          refine Rn.irem (pc := 159) dX12_lay_159 (by decide) ?_
                          rw [rem_N (by omega) (by decide) (by decide)]
                          refine Rn.if_ne (pc := 160) (y := 0) (tgt := 179) dX12_lay_160 (by decide) (fun c160 => ?_) (fun c160 => ?_)
                          · refine Rn.bipush (pc := 179) (v := -6) dX12_lay_179 (by decide) ?_
                            refine Rn.iret (pc := 181) rfl dX12_lay_181 ?_
                            rw [lyF_A (by decide) (by decide) (by have := rem_z (by omega) c102; omega) (Or.inl ⟨by decide, fun e => c160 (by rw [e]; rfl)⟩)]; exact ⟨rfl, rfl⟩
                          · refine Rn.iload (pc := 163) dX12_lay_163 rfl ?_
                            refine Rn.if_eq (pc := 165) (y := 0) (tgt := 182) dX12_lay_165 (by decide) (fun c165 => ?_) (fun c165 => ?_)
                            · refine Rn.aload_n (pc := 182) dX12_lay_182 rfl rfl ?_
                              refine Rn.getI (pc := 183) (t := 0) flX12_156 (show mI M 11 0 13 = nI 10 from hst) dX12_lay_183 ?_
                              refine Rn.bipush (pc := 186) (v := nI 9) dX12_lay_186 (by decide) ?_
                              refine Rn.icmp_neN (pc := 188) (tgt := 211) dX12_lay_188 (by decide) (by omega) (by omega) (fun c188 => ?_) (fun c188 => ?_)
                              · refine Rn.aload_n (pc := 211) dX12_lay_211 rfl rfl ?_
                                refine Rn.getI (pc := 212) (t := 0) flX12_156 (show mI M 11 0 13 = nI 10 from hst) dX12_lay_212 ?_
                                refine Rn.bipush (pc := 215) (v := nI 8) dX12_lay_215 (by decide) ?_
                                refine Rn.icmp_neN (pc := 217) (tgt := 247) dX12_lay_217 (by decide) (by omega) (by omega) (fun c217 => ?_) (fun c217 => ?_)
                                · refine Rn.aload_n (pc := 247) dX12_lay_247 rfl rfl ?_
                                  refine Rn.getI (pc := 248) (t := 0) flX12_156 (show mI M 11 0 13 = nI 10 from hst) dX12_lay_248 ?_
                                  refine Rn.bipush (pc := 251) (v := nI 7) dX12_lay_251 (by decide) ?_
                                  refine Rn.icmp_neN (pc := 253) (tgt := 268) dX12_lay_253 (by decide) (by omega) (by omega) (fun c253 => ?_) (fun c253 => ?_)
                                  · refine Rn.iload (pc := 268) dX12_lay_268 rfl ?_
                                    refine Rn.if_eq (pc := 270) (y := 0) (tgt := 286) dX12_lay_270 (by decide) (fun c270 => ?_) (fun c270 => ?_)
                                    · refine Rn.aload_n (pc := 286) dX12_lay_286 rfl rfl ?_
                                      refine Rn.iload_n (pc := 287) dX12_lay_287 rfl rfl ?_
                                      refine Rn.aload_n (pc := 288) dX12_lay_288 rfl rfl ?_
                                      refine Rn.getI (pc := 289) (t := 0) flX12_159 hvc dX12_lay_289 ?_
                                      refine Rn.aload_n (pc := 292) dX12_lay_292 rfl rfl ?_
                                      refine Rn.getI (pc := 293) (t := 0) flX12_156 (show mI M 11 0 13 = nI 10 from hst) dX12_lay_293 ?_
                                      refine Rn.bipush (pc := 296) (v := nI 13) dX12_lay_296 (by decide) ?_
                                      refine Rn.icmp_neN (pc := 298) (tgt := 305) dX12_lay_298 (by decide) (by omega) (by omega) (fun c298 => ?_) (fun c298 => ?_)
                                      · refine Rn.iconst (pc := 305) (v := nI 2) dX12_lay_305 (by decide) ?_
                                        refine Rn.callV (pc := 306) (as := [_, _, _]) cvX12_331 ⟨by decide, rfl⟩ ⟨by decide, by decide⟩ dX12_lay_306 (Nat.le_of_ble_eq_true rfl) rfl (c_putMany G (3 * mm + nw) z 2 vc hsec hz (by omega)) ?_
                                        rintro _ _ ⟨rfl, rfl⟩
                                        have h8 := rem_z (by omega) c160
                                        refine lay_309 G _ _ _ _ mm _ (z + 2) hsec (pMF_z _ _ _ _ hz) (by omega) ?_
                                        rw [lyF_O (by decide) (by decide) (by have := rem_z (by omega) c102; omega) (by omega)]
                                        exact ⟨rfl, rfl⟩
                                      · exact absurd c298 (by decide)
                                    · exact absurd c270 (by decide)
                                  · exact absurd c253 (by decide)
                                · exact absurd c217 (by decide)
                              · exact absurd c188 (by decide)
                            · exact absurd c165 (by decide)
                      · exact absurd c138 (by decide)
                  · refine Rn.goto (pc := 105) (tgt := 121) dX12_lay_105 (by decide) ?_
                    refine Rn.bipush (pc := 121) (v := -5) dX12_lay_121 (by decide) ?_
                    refine Rn.iret (pc := 123) rfl dX12_lay_123 ?_
                    rw [lyF_K (by decide) (by decide) (Or.inl ⟨by decide, fun e => c102 (by rw [e]; rfl)⟩)]; exact ⟨rfl, rfl⟩
              · exact absurd c84 (by decide)
        · exact absurd c40 (by decide)
    · exact absurd c13 (by decide)

set_option maxRecDepth 20000 in
set_option maxHeartbeats 4000000 in
theorem c_lay_11 (G : GX) {M : Mem} (mm nw z num : Nat) (vn vc : Int32) (hmm : mm < 4) (hst : mI M 11 0 13 = nI 11) (hnw : mI M 11 0 30 = nI nw) (hnw3 : nw < 3) (hz : mI M 31 0 (3 * mm + nw) = nI z) (hz2 : z ≤ 1024) (hvn : mI M 11 0 16 = vn) (hvc : mI M 11 0 15 = vc) : MetM G yX12_lay iX12_lay [vR 11 0, vI (nI mm)] M (fun q M' => q = some (vI (lyF (3 * mm + nw) 11 nw z num vn vc M).1) ∧ M' = (lyF (3 * mm + nw) 11 nw z num vn vc M).2) := by
  refine MetM.of (ls := [some (vR 11 0), some (vI (nI mm)), none, none, none, none, none]) (by decide) rfl (Nat.le_of_ble_eq_true rfl) rfl ?_
  intro hM0
  have hsec : 3 * mm + nw < 12 := by omega
  refine Rn.aload_n (pc := 0) dX12_lay_0 rfl rfl ?_
  refine Rn.getI (pc := 1) (t := 0) flX12_156 (show mI M 11 0 13 = nI 11 from hst) dX12_lay_1 ?_
  refine Rn.iconst (pc := 4) (v := nI 1) dX12_lay_4 (by decide) ?_
  refine Rn.icmp_ltN (pc := 5) (tgt := 28) dX12_lay_5 (by decide) (by omega) (by omega) (fun c5 => ?_) (fun c5 => ?_)
  · exact absurd c5 (by decide)
  · refine Rn.aload_n (pc := 8) dX12_lay_8 rfl rfl ?_
    refine Rn.getI (pc := 9) (t := 0) flX12_156 (show mI M 11 0 13 = nI 11 from hst) dX12_lay_9 ?_
    refine Rn.iconst (pc := 12) (v := nI 4) dX12_lay_12 (by decide) ?_
    refine Rn.icmp_geN (pc := 13) (tgt := 28) dX12_lay_13 (by decide) (by omega) (by omega) (fun c13 => ?_) (fun c13 => ?_)
    · refine Rn.aload_n (pc := 28) dX12_lay_28 rfl rfl ?_
      refine Rn.getI (pc := 29) (t := 0) flX12_156 (show mI M 11 0 13 = nI 11 from hst) dX12_lay_29 ?_
      refine Rn.if_eq (pc := 32) (y := 0) (tgt := 43) dX12_lay_32 (by decide) (fun c32 => ?_) (fun c32 => ?_)
      · exact absurd c32 (by decide)
      · refine Rn.aload_n (pc := 35) dX12_lay_35 rfl rfl ?_
        refine Rn.getI (pc := 36) (t := 0) flX12_156 (show mI M 11 0 13 = nI 11 from hst) dX12_lay_36 ?_
        refine Rn.iconst (pc := 39) (v := nI 4) dX12_lay_39 (by decide) ?_
        refine Rn.icmp_neN (pc := 40) (tgt := 45) dX12_lay_40 (by decide) (by omega) (by omega) (fun c40 => ?_) (fun c40 => ?_)
        · refine Rn.iconst (pc := 45) (v := nI 3) dX12_lay_45 (by decide) ?_
          refine Rn.iload_n (pc := 46) dX12_lay_46 rfl rfl ?_
          refine Rn.imulN (pc := 47) dX12_lay_47 ?_
          refine Rn.aload_n (pc := 48) dX12_lay_48 rfl rfl ?_
          refine Rn.getI (pc := 49) (t := 0) flX12_325 hnw dX12_lay_49 ?_
          refine Rn.iaddN (pc := 52) dX12_lay_52 ?_
          refine Rn.istore_n (pc := 53) dX12_lay_53 rfl (by decide) rfl st7_2 ?_
          refine Rn.aload_n (pc := 54) dX12_lay_54 rfl rfl ?_
          refine Rn.getI (pc := 55) (t := 0) flX12_156 (show mI M 11 0 13 = nI 11 from hst) dX12_lay_55 ?_
          refine Rn.bipush (pc := 58) (v := nI 10) dX12_lay_58 (by decide) ?_
          refine Rn.icmp_ltN (pc := 60) (tgt := 67) dX12_lay_60 (by decide) (by omega) (by omega) (fun c60 => ?_) (fun c60 => ?_)
          · exact absurd c60 (by decide)
          · refine Rn.iconst (pc := 63) (v := nI 1) dX12_lay_63 (by decide) ?_
            refine Rn.goto (pc := 64) (tgt := 68) dX12_lay_64 (by decide) ?_
            refine Rn.istore_n (pc := 68) dX12_lay_68 rfl (by decide) rfl st7_3 ?_
            refine Rn.aload_n (pc := 69) dX12_lay_69 rfl rfl ?_
            refine Rn.getI (pc := 70) (t := 0) flX12_156 (show mI M 11 0 13 = nI 11 from hst) dX12_lay_70 ?_
            refine Rn.bipush (pc := 73) (v := nI 8) dX12_lay_73 (by decide) ?_
            refine Rn.icmp_eqN (pc := 75) (tgt := 87) dX12_lay_75 (by decide) (by omega) (by omega) (fun c75 => ?_) (fun c75 => ?_)
            · exact absurd c75 (by decide)
            · refine Rn.aload_n (pc := 78) dX12_lay_78 rfl rfl ?_
              refine Rn.getI (pc := 79) (t := 0) flX12_156 (show mI M 11 0 13 = nI 11 from hst) dX12_lay_79 ?_
              refine Rn.bipush (pc := 82) (v := nI 9) dX12_lay_82 (by decide) ?_
              refine Rn.icmp_neN (pc := 84) (tgt := 91) dX12_lay_84 (by decide) (by omega) (by omega) (fun c84 => ?_) (fun c84 => ?_)
              · refine Rn.iconst (pc := 91) (v := nI 0) dX12_lay_91 (by decide) ?_
                refine Rn.istore (pc := 92) dX12_lay_92 (by decide) rfl st7_4 ?_
                refine Rn.iload_n (pc := 94) dX12_lay_94 rfl rfl ?_
                refine Rn.if_eq (pc := 95) (y := 0) (tgt := 108) dX12_lay_95 (by decide) (fun c95 => ?_) (fun c95 => ?_)
                · exact absurd c95 (by decide)
                · refine Rn.aload_n (pc := 98) dX12_lay_98 rfl rfl ?_
                  refine Rn.getI (pc := 99) (t := 0) flX12_325 hnw dX12_lay_99 ?_
                  refine Rn.if_eq (pc := 102) (y := 0) (tgt := 124) dX12_lay_102 (by decide) (fun c102 => ?_) (fun c102 => ?_)
                  · refine Rn.aload_n (pc := 124) dX12_lay_124 rfl rfl ?_
                    refine Rn.getI (pc := 125) (t := 0) flX12_156 (show mI M 11 0 13 = nI 11 from hst) dX12_lay_125 ?_
                    refine Rn.iconst (pc := 128) (v := nI 5) dX12_lay_128 (by decide) ?_
                    refine Rn.icmp_eqN (pc := 129) (tgt := 141) dX12_lay_129 (by decide) (by omega) (by omega) (fun c129 => ?_) (fun c129 => ?_)
                    · exact absurd c129 (by decide)
                    · refine Rn.aload_n (pc := 132) dX12_lay_132 rfl rfl ?_
                      refine Rn.getI (pc := 133) (t := 0) flX12_156 (show mI M 11 0 13 = nI 11 from hst) dX12_lay_133 ?_
                      refine Rn.bipush (pc := 136) (v := nI 6) dX12_lay_136 (by decide) ?_
                      refine Rn.icmp_neN (pc := 138) (tgt := 145) dX12_lay_138 (by decide) (by omega) (by omega) (fun c138 => ?_) (fun c138 => ?_)
                      · refine Rn.iconst (pc := 145) (v := nI 0) dX12_lay_145 (by decide) ?_
                        refine Rn.istore (pc := 146) dX12_lay_146 (by decide) rfl st7_5 ?_
                        refine Rn.iload_n (pc := 148) dX12_lay_148 rfl rfl ?_
                        refine Rn.if_eq (pc := 149) (y := 0) (tgt := 163) dX12_lay_149 (by decide) (fun c149 => ?_) (fun c149 => ?_)
                        · exact absurd c149 (by decide)
                        · refine Rn.aload_n (pc := 152) dX12_lay_152 rfl rfl ?_
                          refine Rn.getR (pc := 153) flX12_39 mu11_26 fx11_26 dX12_lay_153 ?_
                          refine Rn.iload_n (pc := 156) dX12_lay_156 rfl rfl ?_
                          refine Rn.ialdN (pc := 157) ak31 (by omega) (by decide) hz dX12_lay_157 ?_
                          refine Rn.iconst (pc := 158) (v := nI 2) dX12_lay_158 (by decide) ?_
                          refine Rn.irem (pc := 159) dX12_lay_159 (by decide) ?_
                          rw [rem_N (by omega) (by decide) (by decide)]
                          refine Rn.if_ne (pc := 160) (y := 0) (tgt := 179) dX12_lay_160 (by decide) (fun c160 => ?_) (fun c160 => ?_)
                          · refine Rn.bipush (pc := 179) (v := -6) dX12_lay_179 (by decide) ?_
                            refine Rn.iret (pc := 181) rfl dX12_lay_181 ?_
                            rw [lyF_A (by decide) (by decide) (by have := rem_z (by omega) c102; omega) (Or.inl ⟨by decide, fun e => c160 (by rw [e]; rfl)⟩)]; exact ⟨rfl, rfl⟩
                          · refine Rn.iload (pc := 163) dX12_lay_163 rfl ?_
                            refine Rn.if_eq (pc := 165) (y := 0) (tgt := 182) dX12_lay_165 (by decide) (fun c165 => ?_) (fun c165 => ?_)
                            · refine Rn.aload_n (pc := 182) dX12_lay_182 rfl rfl ?_
                              refine Rn.getI (pc := 183) (t := 0) flX12_156 (show mI M 11 0 13 = nI 11 from hst) dX12_lay_183 ?_
                              refine Rn.bipush (pc := 186) (v := nI 9) dX12_lay_186 (by decide) ?_
                              refine Rn.icmp_neN (pc := 188) (tgt := 211) dX12_lay_188 (by decide) (by omega) (by omega) (fun c188 => ?_) (fun c188 => ?_)
                              · refine Rn.aload_n (pc := 211) dX12_lay_211 rfl rfl ?_
                                refine Rn.getI (pc := 212) (t := 0) flX12_156 (show mI M 11 0 13 = nI 11 from hst) dX12_lay_212 ?_
                                refine Rn.bipush (pc := 215) (v := nI 8) dX12_lay_215 (by decide) ?_
                                refine Rn.icmp_neN (pc := 217) (tgt := 247) dX12_lay_217 (by decide) (by omega) (by omega) (fun c217 => ?_) (fun c217 => ?_)
                                · refine Rn.aload_n (pc := 247) dX12_lay_247 rfl rfl ?_
                                  refine Rn.getI (pc := 248) (t := 0) flX12_156 (show mI M 11 0 13 = nI 11 from hst) dX12_lay_248 ?_
                                  refine Rn.bipush (pc := 251) (v := nI 7) dX12_lay_251 (by decide) ?_
                                  refine Rn.icmp_neN (pc := 253) (tgt := 268) dX12_lay_253 (by decide) (by omega) (by omega) (fun c253 => ?_) (fun c253 => ?_)
                                  · refine Rn.iload (pc := 268) dX12_lay_268 rfl ?_
                                    refine Rn.if_eq (pc := 270) (y := 0) (tgt := 286) dX12_lay_270 (by decide) (fun c270 => ?_) (fun c270 => ?_)
                                    · refine Rn.aload_n (pc := 286) dX12_lay_286 rfl rfl ?_
                                      refine Rn.iload_n (pc := 287) dX12_lay_287 rfl rfl ?_
                                      refine Rn.aload_n (pc := 288) dX12_lay_288 rfl rfl ?_
                                      refine Rn.getI (pc := 289) (t := 0) flX12_159 hvc dX12_lay_289 ?_
                                      refine Rn.aload_n (pc := 292) dX12_lay_292 rfl rfl ?_
                                      refine Rn.getI (pc := 293) (t := 0) flX12_156 (show mI M 11 0 13 = nI 11 from hst) dX12_lay_293 ?_
                                      refine Rn.bipush (pc := 296) (v := nI 13) dX12_lay_296 (by decide) ?_
                                      refine Rn.icmp_neN (pc := 298) (tgt := 305) dX12_lay_298 (by decide) (by omega) (by omega) (fun c298 => ?_) (fun c298 => ?_)
                                      · refine Rn.iconst (pc := 305) (v := nI 2) dX12_lay_305 (by decide) ?_
                                        refine Rn.callV (pc := 306) (as := [_, _, _]) cvX12_331 ⟨by decide, rfl⟩ ⟨by decide, by decide⟩ dX12_lay_306 (Nat.le_of_ble_eq_true rfl) rfl (c_putMany G (3 * mm + nw) z 2 vc hsec hz (by omega)) ?_
                                        rintro _ _ ⟨rfl, rfl⟩
                                        have h8 := rem_z (by omega) c160
                                        refine lay_309 G _ _ _ _ mm _ (z + 2) hsec (pMF_z _ _ _ _ hz) (by omega) ?_
                                        rw [lyF_O (by decide) (by decide) (by have := rem_z (by omega) c102; omega) (by omega)]
                                        exact ⟨rfl, rfl⟩
                                      · exact absurd c298 (by decide)
                                    · exact absurd c270 (by decide)
                                  · exact absurd c253 (by decide)
                                · exact absurd c217 (by decide)
                              · exact absurd c188 (by decide)
                            · exact absurd c165 (by decide)
                      · exact absurd c138 (by decide)
                  · refine Rn.goto (pc := 105) (tgt := 121) dX12_lay_105 (by decide) ?_
                    refine Rn.bipush (pc := 121) (v := -5) dX12_lay_121 (by decide) ?_
                    refine Rn.iret (pc := 123) rfl dX12_lay_123 ?_
                    rw [lyF_K (by decide) (by decide) (Or.inl ⟨by decide, fun e => c102 (by rw [e]; rfl)⟩)]; exact ⟨rfl, rfl⟩
              · exact absurd c84 (by decide)
        · exact absurd c40 (by decide)
    · exact absurd c13 (by decide)

set_option maxRecDepth 20000 in
set_option maxHeartbeats 4000000 in
theorem c_lay_12 (G : GX) {M : Mem} (mm nw z num : Nat) (vn vc : Int32) (hmm : mm < 4) (hst : mI M 11 0 13 = nI 12) (hnw : mI M 11 0 30 = nI nw) (hnw3 : nw < 3) (hz : mI M 31 0 (3 * mm + nw) = nI z) (hz2 : z ≤ 1024) (hvn : mI M 11 0 16 = vn) (hvc : mI M 11 0 15 = vc) : MetM G yX12_lay iX12_lay [vR 11 0, vI (nI mm)] M (fun q M' => q = some (vI (lyF (3 * mm + nw) 12 nw z num vn vc M).1) ∧ M' = (lyF (3 * mm + nw) 12 nw z num vn vc M).2) := by
  refine MetM.of (ls := [some (vR 11 0), some (vI (nI mm)), none, none, none, none, none]) (by decide) rfl (Nat.le_of_ble_eq_true rfl) rfl ?_
  intro hM0
  have hsec : 3 * mm + nw < 12 := by omega
  refine Rn.aload_n (pc := 0) dX12_lay_0 rfl rfl ?_
  refine Rn.getI (pc := 1) (t := 0) flX12_156 (show mI M 11 0 13 = nI 12 from hst) dX12_lay_1 ?_
  refine Rn.iconst (pc := 4) (v := nI 1) dX12_lay_4 (by decide) ?_
  refine Rn.icmp_ltN (pc := 5) (tgt := 28) dX12_lay_5 (by decide) (by omega) (by omega) (fun c5 => ?_) (fun c5 => ?_)
  · exact absurd c5 (by decide)
  · refine Rn.aload_n (pc := 8) dX12_lay_8 rfl rfl ?_
    refine Rn.getI (pc := 9) (t := 0) flX12_156 (show mI M 11 0 13 = nI 12 from hst) dX12_lay_9 ?_
    refine Rn.iconst (pc := 12) (v := nI 4) dX12_lay_12 (by decide) ?_
    refine Rn.icmp_geN (pc := 13) (tgt := 28) dX12_lay_13 (by decide) (by omega) (by omega) (fun c13 => ?_) (fun c13 => ?_)
    · refine Rn.aload_n (pc := 28) dX12_lay_28 rfl rfl ?_
      refine Rn.getI (pc := 29) (t := 0) flX12_156 (show mI M 11 0 13 = nI 12 from hst) dX12_lay_29 ?_
      refine Rn.if_eq (pc := 32) (y := 0) (tgt := 43) dX12_lay_32 (by decide) (fun c32 => ?_) (fun c32 => ?_)
      · exact absurd c32 (by decide)
      · refine Rn.aload_n (pc := 35) dX12_lay_35 rfl rfl ?_
        refine Rn.getI (pc := 36) (t := 0) flX12_156 (show mI M 11 0 13 = nI 12 from hst) dX12_lay_36 ?_
        refine Rn.iconst (pc := 39) (v := nI 4) dX12_lay_39 (by decide) ?_
        refine Rn.icmp_neN (pc := 40) (tgt := 45) dX12_lay_40 (by decide) (by omega) (by omega) (fun c40 => ?_) (fun c40 => ?_)
        · refine Rn.iconst (pc := 45) (v := nI 3) dX12_lay_45 (by decide) ?_
          refine Rn.iload_n (pc := 46) dX12_lay_46 rfl rfl ?_
          refine Rn.imulN (pc := 47) dX12_lay_47 ?_
          refine Rn.aload_n (pc := 48) dX12_lay_48 rfl rfl ?_
          refine Rn.getI (pc := 49) (t := 0) flX12_325 hnw dX12_lay_49 ?_
          refine Rn.iaddN (pc := 52) dX12_lay_52 ?_
          refine Rn.istore_n (pc := 53) dX12_lay_53 rfl (by decide) rfl st7_2 ?_
          refine Rn.aload_n (pc := 54) dX12_lay_54 rfl rfl ?_
          refine Rn.getI (pc := 55) (t := 0) flX12_156 (show mI M 11 0 13 = nI 12 from hst) dX12_lay_55 ?_
          refine Rn.bipush (pc := 58) (v := nI 10) dX12_lay_58 (by decide) ?_
          refine Rn.icmp_ltN (pc := 60) (tgt := 67) dX12_lay_60 (by decide) (by omega) (by omega) (fun c60 => ?_) (fun c60 => ?_)
          · exact absurd c60 (by decide)
          · refine Rn.iconst (pc := 63) (v := nI 1) dX12_lay_63 (by decide) ?_
            refine Rn.goto (pc := 64) (tgt := 68) dX12_lay_64 (by decide) ?_
            refine Rn.istore_n (pc := 68) dX12_lay_68 rfl (by decide) rfl st7_3 ?_
            refine Rn.aload_n (pc := 69) dX12_lay_69 rfl rfl ?_
            refine Rn.getI (pc := 70) (t := 0) flX12_156 (show mI M 11 0 13 = nI 12 from hst) dX12_lay_70 ?_
            refine Rn.bipush (pc := 73) (v := nI 8) dX12_lay_73 (by decide) ?_
            refine Rn.icmp_eqN (pc := 75) (tgt := 87) dX12_lay_75 (by decide) (by omega) (by omega) (fun c75 => ?_) (fun c75 => ?_)
            · exact absurd c75 (by decide)
            · refine Rn.aload_n (pc := 78) dX12_lay_78 rfl rfl ?_
              refine Rn.getI (pc := 79) (t := 0) flX12_156 (show mI M 11 0 13 = nI 12 from hst) dX12_lay_79 ?_
              refine Rn.bipush (pc := 82) (v := nI 9) dX12_lay_82 (by decide) ?_
              refine Rn.icmp_neN (pc := 84) (tgt := 91) dX12_lay_84 (by decide) (by omega) (by omega) (fun c84 => ?_) (fun c84 => ?_)
              · refine Rn.iconst (pc := 91) (v := nI 0) dX12_lay_91 (by decide) ?_
                refine Rn.istore (pc := 92) dX12_lay_92 (by decide) rfl st7_4 ?_
                refine Rn.iload_n (pc := 94) dX12_lay_94 rfl rfl ?_
                refine Rn.if_eq (pc := 95) (y := 0) (tgt := 108) dX12_lay_95 (by decide) (fun c95 => ?_) (fun c95 => ?_)
                · exact absurd c95 (by decide)
                · refine Rn.aload_n (pc := 98) dX12_lay_98 rfl rfl ?_
                  refine Rn.getI (pc := 99) (t := 0) flX12_325 hnw dX12_lay_99 ?_
                  refine Rn.if_eq (pc := 102) (y := 0) (tgt := 124) dX12_lay_102 (by decide) (fun c102 => ?_) (fun c102 => ?_)
                  · refine Rn.aload_n (pc := 124) dX12_lay_124 rfl rfl ?_
                    refine Rn.getI (pc := 125) (t := 0) flX12_156 (show mI M 11 0 13 = nI 12 from hst) dX12_lay_125 ?_
                    refine Rn.iconst (pc := 128) (v := nI 5) dX12_lay_128 (by decide) ?_
                    refine Rn.icmp_eqN (pc := 129) (tgt := 141) dX12_lay_129 (by decide) (by omega) (by omega) (fun c129 => ?_) (fun c129 => ?_)
                    · exact absurd c129 (by decide)
                    · refine Rn.aload_n (pc := 132) dX12_lay_132 rfl rfl ?_
                      refine Rn.getI (pc := 133) (t := 0) flX12_156 (show mI M 11 0 13 = nI 12 from hst) dX12_lay_133 ?_
                      refine Rn.bipush (pc := 136) (v := nI 6) dX12_lay_136 (by decide) ?_
                      refine Rn.icmp_neN (pc := 138) (tgt := 145) dX12_lay_138 (by decide) (by omega) (by omega) (fun c138 => ?_) (fun c138 => ?_)
                      · refine Rn.iconst (pc := 145) (v := nI 0) dX12_lay_145 (by decide) ?_
                        refine Rn.istore (pc := 146) dX12_lay_146 (by decide) rfl st7_5 ?_
                        refine Rn.iload_n (pc := 148) dX12_lay_148 rfl rfl ?_
                        refine Rn.if_eq (pc := 149) (y := 0) (tgt := 163) dX12_lay_149 (by decide) (fun c149 => ?_) (fun c149 => ?_)
                        · exact absurd c149 (by decide)
                        · refine Rn.aload_n (pc := 152) dX12_lay_152 rfl rfl ?_
                          refine Rn.getR (pc := 153) flX12_39 mu11_26 fx11_26 dX12_lay_153 ?_
                          refine Rn.iload_n (pc := 156) dX12_lay_156 rfl rfl ?_
                          refine Rn.ialdN (pc := 157) ak31 (by omega) (by decide) hz dX12_lay_157 ?_
                          refine Rn.iconst (pc := 158) (v := nI 2) dX12_lay_158 (by decide) ?_
                          refine Rn.irem (pc := 159) dX12_lay_159 (by decide) ?_
                          rw [rem_N (by omega) (by decide) (by decide)]
                          refine Rn.if_ne (pc := 160) (y := 0) (tgt := 179) dX12_lay_160 (by decide) (fun c160 => ?_) (fun c160 => ?_)
                          · refine Rn.bipush (pc := 179) (v := -6) dX12_lay_179 (by decide) ?_
                            refine Rn.iret (pc := 181) rfl dX12_lay_181 ?_
                            rw [lyF_A (by decide) (by decide) (by have := rem_z (by omega) c102; omega) (Or.inl ⟨by decide, fun e => c160 (by rw [e]; rfl)⟩)]; exact ⟨rfl, rfl⟩
                          · refine Rn.iload (pc := 163) dX12_lay_163 rfl ?_
                            refine Rn.if_eq (pc := 165) (y := 0) (tgt := 182) dX12_lay_165 (by decide) (fun c165 => ?_) (fun c165 => ?_)
                            · refine Rn.aload_n (pc := 182) dX12_lay_182 rfl rfl ?_
                              refine Rn.getI (pc := 183) (t := 0) flX12_156 (show mI M 11 0 13 = nI 12 from hst) dX12_lay_183 ?_
                              refine Rn.bipush (pc := 186) (v := nI 9) dX12_lay_186 (by decide) ?_
                              refine Rn.icmp_neN (pc := 188) (tgt := 211) dX12_lay_188 (by decide) (by omega) (by omega) (fun c188 => ?_) (fun c188 => ?_)
                              · refine Rn.aload_n (pc := 211) dX12_lay_211 rfl rfl ?_
                                refine Rn.getI (pc := 212) (t := 0) flX12_156 (show mI M 11 0 13 = nI 12 from hst) dX12_lay_212 ?_
                                refine Rn.bipush (pc := 215) (v := nI 8) dX12_lay_215 (by decide) ?_
                                refine Rn.icmp_neN (pc := 217) (tgt := 247) dX12_lay_217 (by decide) (by omega) (by omega) (fun c217 => ?_) (fun c217 => ?_)
                                · refine Rn.aload_n (pc := 247) dX12_lay_247 rfl rfl ?_
                                  refine Rn.getI (pc := 248) (t := 0) flX12_156 (show mI M 11 0 13 = nI 12 from hst) dX12_lay_248 ?_
                                  refine Rn.bipush (pc := 251) (v := nI 7) dX12_lay_251 (by decide) ?_
                                  refine Rn.icmp_neN (pc := 253) (tgt := 268) dX12_lay_253 (by decide) (by omega) (by omega) (fun c253 => ?_) (fun c253 => ?_)
                                  · refine Rn.iload (pc := 268) dX12_lay_268 rfl ?_
                                    refine Rn.if_eq (pc := 270) (y := 0) (tgt := 286) dX12_lay_270 (by decide) (fun c270 => ?_) (fun c270 => ?_)
                                    · refine Rn.aload_n (pc := 286) dX12_lay_286 rfl rfl ?_
                                      refine Rn.iload_n (pc := 287) dX12_lay_287 rfl rfl ?_
                                      refine Rn.aload_n (pc := 288) dX12_lay_288 rfl rfl ?_
                                      refine Rn.getI (pc := 289) (t := 0) flX12_159 hvc dX12_lay_289 ?_
                                      refine Rn.aload_n (pc := 292) dX12_lay_292 rfl rfl ?_
                                      refine Rn.getI (pc := 293) (t := 0) flX12_156 (show mI M 11 0 13 = nI 12 from hst) dX12_lay_293 ?_
                                      refine Rn.bipush (pc := 296) (v := nI 13) dX12_lay_296 (by decide) ?_
                                      refine Rn.icmp_neN (pc := 298) (tgt := 305) dX12_lay_298 (by decide) (by omega) (by omega) (fun c298 => ?_) (fun c298 => ?_)
                                      · refine Rn.iconst (pc := 305) (v := nI 2) dX12_lay_305 (by decide) ?_
                                        refine Rn.callV (pc := 306) (as := [_, _, _]) cvX12_331 ⟨by decide, rfl⟩ ⟨by decide, by decide⟩ dX12_lay_306 (Nat.le_of_ble_eq_true rfl) rfl (c_putMany G (3 * mm + nw) z 2 vc hsec hz (by omega)) ?_
                                        rintro _ _ ⟨rfl, rfl⟩
                                        have h8 := rem_z (by omega) c160
                                        refine lay_309 G _ _ _ _ mm _ (z + 2) hsec (pMF_z _ _ _ _ hz) (by omega) ?_
                                        rw [lyF_O (by decide) (by decide) (by have := rem_z (by omega) c102; omega) (by omega)]
                                        exact ⟨rfl, rfl⟩
                                      · exact absurd c298 (by decide)
                                    · exact absurd c270 (by decide)
                                  · exact absurd c253 (by decide)
                                · exact absurd c217 (by decide)
                              · exact absurd c188 (by decide)
                            · exact absurd c165 (by decide)
                      · exact absurd c138 (by decide)
                  · refine Rn.goto (pc := 105) (tgt := 121) dX12_lay_105 (by decide) ?_
                    refine Rn.bipush (pc := 121) (v := -5) dX12_lay_121 (by decide) ?_
                    refine Rn.iret (pc := 123) rfl dX12_lay_123 ?_
                    rw [lyF_K (by decide) (by decide) (Or.inl ⟨by decide, fun e => c102 (by rw [e]; rfl)⟩)]; exact ⟨rfl, rfl⟩
              · exact absurd c84 (by decide)
        · exact absurd c40 (by decide)
    · exact absurd c13 (by decide)

set_option maxRecDepth 20000 in
set_option maxHeartbeats 4000000 in
theorem c_lay_13 (G : GX) {M : Mem} (mm nw z num : Nat) (vn vc : Int32) (hmm : mm < 4) (hst : mI M 11 0 13 = nI 13) (hnw : mI M 11 0 30 = nI nw) (hnw3 : nw < 3) (hz : mI M 31 0 (3 * mm + nw) = nI z) (hz2 : z ≤ 1024) (hvn : mI M 11 0 16 = vn) (hvc : mI M 11 0 15 = vc) : MetM G yX12_lay iX12_lay [vR 11 0, vI (nI mm)] M (fun q M' => q = some (vI (lyF (3 * mm + nw) 13 nw z num vn vc M).1) ∧ M' = (lyF (3 * mm + nw) 13 nw z num vn vc M).2) := by
  refine MetM.of (ls := [some (vR 11 0), some (vI (nI mm)), none, none, none, none, none]) (by decide) rfl (Nat.le_of_ble_eq_true rfl) rfl ?_
  intro hM0
  have hsec : 3 * mm + nw < 12 := by omega
  refine Rn.aload_n (pc := 0) dX12_lay_0 rfl rfl ?_
  refine Rn.getI (pc := 1) (t := 0) flX12_156 (show mI M 11 0 13 = nI 13 from hst) dX12_lay_1 ?_
  refine Rn.iconst (pc := 4) (v := nI 1) dX12_lay_4 (by decide) ?_
  refine Rn.icmp_ltN (pc := 5) (tgt := 28) dX12_lay_5 (by decide) (by omega) (by omega) (fun c5 => ?_) (fun c5 => ?_)
  · exact absurd c5 (by decide)
  · refine Rn.aload_n (pc := 8) dX12_lay_8 rfl rfl ?_
    refine Rn.getI (pc := 9) (t := 0) flX12_156 (show mI M 11 0 13 = nI 13 from hst) dX12_lay_9 ?_
    refine Rn.iconst (pc := 12) (v := nI 4) dX12_lay_12 (by decide) ?_
    refine Rn.icmp_geN (pc := 13) (tgt := 28) dX12_lay_13 (by decide) (by omega) (by omega) (fun c13 => ?_) (fun c13 => ?_)
    · refine Rn.aload_n (pc := 28) dX12_lay_28 rfl rfl ?_
      refine Rn.getI (pc := 29) (t := 0) flX12_156 (show mI M 11 0 13 = nI 13 from hst) dX12_lay_29 ?_
      refine Rn.if_eq (pc := 32) (y := 0) (tgt := 43) dX12_lay_32 (by decide) (fun c32 => ?_) (fun c32 => ?_)
      · exact absurd c32 (by decide)
      · refine Rn.aload_n (pc := 35) dX12_lay_35 rfl rfl ?_
        refine Rn.getI (pc := 36) (t := 0) flX12_156 (show mI M 11 0 13 = nI 13 from hst) dX12_lay_36 ?_
        refine Rn.iconst (pc := 39) (v := nI 4) dX12_lay_39 (by decide) ?_
        refine Rn.icmp_neN (pc := 40) (tgt := 45) dX12_lay_40 (by decide) (by omega) (by omega) (fun c40 => ?_) (fun c40 => ?_)
        · refine Rn.iconst (pc := 45) (v := nI 3) dX12_lay_45 (by decide) ?_
          refine Rn.iload_n (pc := 46) dX12_lay_46 rfl rfl ?_
          refine Rn.imulN (pc := 47) dX12_lay_47 ?_
          refine Rn.aload_n (pc := 48) dX12_lay_48 rfl rfl ?_
          refine Rn.getI (pc := 49) (t := 0) flX12_325 hnw dX12_lay_49 ?_
          refine Rn.iaddN (pc := 52) dX12_lay_52 ?_
          refine Rn.istore_n (pc := 53) dX12_lay_53 rfl (by decide) rfl st7_2 ?_
          refine Rn.aload_n (pc := 54) dX12_lay_54 rfl rfl ?_
          refine Rn.getI (pc := 55) (t := 0) flX12_156 (show mI M 11 0 13 = nI 13 from hst) dX12_lay_55 ?_
          refine Rn.bipush (pc := 58) (v := nI 10) dX12_lay_58 (by decide) ?_
          refine Rn.icmp_ltN (pc := 60) (tgt := 67) dX12_lay_60 (by decide) (by omega) (by omega) (fun c60 => ?_) (fun c60 => ?_)
          · exact absurd c60 (by decide)
          · refine Rn.iconst (pc := 63) (v := nI 1) dX12_lay_63 (by decide) ?_
            refine Rn.goto (pc := 64) (tgt := 68) dX12_lay_64 (by decide) ?_
            refine Rn.istore_n (pc := 68) dX12_lay_68 rfl (by decide) rfl st7_3 ?_
            refine Rn.aload_n (pc := 69) dX12_lay_69 rfl rfl ?_
            refine Rn.getI (pc := 70) (t := 0) flX12_156 (show mI M 11 0 13 = nI 13 from hst) dX12_lay_70 ?_
            refine Rn.bipush (pc := 73) (v := nI 8) dX12_lay_73 (by decide) ?_
            refine Rn.icmp_eqN (pc := 75) (tgt := 87) dX12_lay_75 (by decide) (by omega) (by omega) (fun c75 => ?_) (fun c75 => ?_)
            · exact absurd c75 (by decide)
            · refine Rn.aload_n (pc := 78) dX12_lay_78 rfl rfl ?_
              refine Rn.getI (pc := 79) (t := 0) flX12_156 (show mI M 11 0 13 = nI 13 from hst) dX12_lay_79 ?_
              refine Rn.bipush (pc := 82) (v := nI 9) dX12_lay_82 (by decide) ?_
              refine Rn.icmp_neN (pc := 84) (tgt := 91) dX12_lay_84 (by decide) (by omega) (by omega) (fun c84 => ?_) (fun c84 => ?_)
              · refine Rn.iconst (pc := 91) (v := nI 0) dX12_lay_91 (by decide) ?_
                refine Rn.istore (pc := 92) dX12_lay_92 (by decide) rfl st7_4 ?_
                refine Rn.iload_n (pc := 94) dX12_lay_94 rfl rfl ?_
                refine Rn.if_eq (pc := 95) (y := 0) (tgt := 108) dX12_lay_95 (by decide) (fun c95 => ?_) (fun c95 => ?_)
                · exact absurd c95 (by decide)
                · refine Rn.aload_n (pc := 98) dX12_lay_98 rfl rfl ?_
                  refine Rn.getI (pc := 99) (t := 0) flX12_325 hnw dX12_lay_99 ?_
                  refine Rn.if_eq (pc := 102) (y := 0) (tgt := 124) dX12_lay_102 (by decide) (fun c102 => ?_) (fun c102 => ?_)
                  · refine Rn.aload_n (pc := 124) dX12_lay_124 rfl rfl ?_
                    refine Rn.getI (pc := 125) (t := 0) flX12_156 (show mI M 11 0 13 = nI 13 from hst) dX12_lay_125 ?_
                    refine Rn.iconst (pc := 128) (v := nI 5) dX12_lay_128 (by decide) ?_
                    refine Rn.icmp_eqN (pc := 129) (tgt := 141) dX12_lay_129 (by decide) (by omega) (by omega) (fun c129 => ?_) (fun c129 => ?_)
                    · exact absurd c129 (by decide)
                    · refine Rn.aload_n (pc := 132) dX12_lay_132 rfl rfl ?_
                      refine Rn.getI (pc := 133) (t := 0) flX12_156 (show mI M 11 0 13 = nI 13 from hst) dX12_lay_133 ?_
                      refine Rn.bipush (pc := 136) (v := nI 6) dX12_lay_136 (by decide) ?_
                      refine Rn.icmp_neN (pc := 138) (tgt := 145) dX12_lay_138 (by decide) (by omega) (by omega) (fun c138 => ?_) (fun c138 => ?_)
                      · refine Rn.iconst (pc := 145) (v := nI 0) dX12_lay_145 (by decide) ?_
                        refine Rn.istore (pc := 146) dX12_lay_146 (by decide) rfl st7_5 ?_
                        refine Rn.iload_n (pc := 148) dX12_lay_148 rfl rfl ?_
                        refine Rn.if_eq (pc := 149) (y := 0) (tgt := 163) dX12_lay_149 (by decide) (fun c149 => ?_) (fun c149 => ?_)
                        · exact absurd c149 (by decide)
                        · refine Rn.aload_n (pc := 152) dX12_lay_152 rfl rfl ?_
                          refine Rn.getR (pc := 153) flX12_39 mu11_26 fx11_26 dX12_lay_153 ?_
                          refine Rn.iload_n (pc := 156) dX12_lay_156 rfl rfl ?_
                          refine Rn.ialdN (pc := 157) ak31 (by omega) (by decide) hz dX12_lay_157 ?_
                          refine Rn.iconst (pc := 158) (v := nI 2) dX12_lay_158 (by decide) ?_
                          refine Rn.irem (pc := 159) dX12_lay_159 (by decide) ?_
                          rw [rem_N (by omega) (by decide) (by decide)]
                          refine Rn.if_ne (pc := 160) (y := 0) (tgt := 179) dX12_lay_160 (by decide) (fun c160 => ?_) (fun c160 => ?_)
                          · refine Rn.bipush (pc := 179) (v := -6) dX12_lay_179 (by decide) ?_
                            refine Rn.iret (pc := 181) rfl dX12_lay_181 ?_
                            rw [lyF_A (by decide) (by decide) (by have := rem_z (by omega) c102; omega) (Or.inl ⟨by decide, fun e => c160 (by rw [e]; rfl)⟩)]; exact ⟨rfl, rfl⟩
                          · refine Rn.iload (pc := 163) dX12_lay_163 rfl ?_
                            refine Rn.if_eq (pc := 165) (y := 0) (tgt := 182) dX12_lay_165 (by decide) (fun c165 => ?_) (fun c165 => ?_)
                            · refine Rn.aload_n (pc := 182) dX12_lay_182 rfl rfl ?_
                              refine Rn.getI (pc := 183) (t := 0) flX12_156 (show mI M 11 0 13 = nI 13 from hst) dX12_lay_183 ?_
                              refine Rn.bipush (pc := 186) (v := nI 9) dX12_lay_186 (by decide) ?_
                              refine Rn.icmp_neN (pc := 188) (tgt := 211) dX12_lay_188 (by decide) (by omega) (by omega) (fun c188 => ?_) (fun c188 => ?_)
                              · refine Rn.aload_n (pc := 211) dX12_lay_211 rfl rfl ?_
                                refine Rn.getI (pc := 212) (t := 0) flX12_156 (show mI M 11 0 13 = nI 13 from hst) dX12_lay_212 ?_
                                refine Rn.bipush (pc := 215) (v := nI 8) dX12_lay_215 (by decide) ?_
                                refine Rn.icmp_neN (pc := 217) (tgt := 247) dX12_lay_217 (by decide) (by omega) (by omega) (fun c217 => ?_) (fun c217 => ?_)
                                · refine Rn.aload_n (pc := 247) dX12_lay_247 rfl rfl ?_
                                  refine Rn.getI (pc := 248) (t := 0) flX12_156 (show mI M 11 0 13 = nI 13 from hst) dX12_lay_248 ?_
                                  refine Rn.bipush (pc := 251) (v := nI 7) dX12_lay_251 (by decide) ?_
                                  refine Rn.icmp_neN (pc := 253) (tgt := 268) dX12_lay_253 (by decide) (by omega) (by omega) (fun c253 => ?_) (fun c253 => ?_)
                                  · refine Rn.iload (pc := 268) dX12_lay_268 rfl ?_
                                    refine Rn.if_eq (pc := 270) (y := 0) (tgt := 286) dX12_lay_270 (by decide) (fun c270 => ?_) (fun c270 => ?_)
                                    · refine Rn.aload_n (pc := 286) dX12_lay_286 rfl rfl ?_
                                      refine Rn.iload_n (pc := 287) dX12_lay_287 rfl rfl ?_
                                      refine Rn.aload_n (pc := 288) dX12_lay_288 rfl rfl ?_
                                      refine Rn.getI (pc := 289) (t := 0) flX12_159 hvc dX12_lay_289 ?_
                                      refine Rn.aload_n (pc := 292) dX12_lay_292 rfl rfl ?_
                                      refine Rn.getI (pc := 293) (t := 0) flX12_156 (show mI M 11 0 13 = nI 13 from hst) dX12_lay_293 ?_
                                      refine Rn.bipush (pc := 296) (v := nI 13) dX12_lay_296 (by decide) ?_
                                      refine Rn.icmp_neN (pc := 298) (tgt := 305) dX12_lay_298 (by decide) (by omega) (by omega) (fun c298 => ?_) (fun c298 => ?_)
                                      · exact absurd c298 (by decide)
                                      · refine Rn.iconst (pc := 301) (v := nI 4) dX12_lay_301 (by decide) ?_
                                        refine Rn.goto (pc := 302) (tgt := 306) dX12_lay_302 (by decide) ?_
                                        refine Rn.callV (pc := 306) (as := [_, _, _]) cvX12_331 ⟨by decide, rfl⟩ ⟨by decide, by decide⟩ dX12_lay_306 (Nat.le_of_ble_eq_true rfl) rfl (c_putMany G (3 * mm + nw) z 4 vc hsec hz (by omega)) ?_
                                        rintro _ _ ⟨rfl, rfl⟩
                                        have h8 := rem_z (by omega) c160
                                        refine lay_309 G _ _ _ _ mm _ (z + 4) hsec (pMF_z _ _ _ _ hz) (by omega) ?_
                                        rw [lyF_O (by decide) (by decide) (by have := rem_z (by omega) c102; omega) (by omega)]
                                        exact ⟨rfl, rfl⟩
                                    · exact absurd c270 (by decide)
                                  · exact absurd c253 (by decide)
                                · exact absurd c217 (by decide)
                              · exact absurd c188 (by decide)
                            · exact absurd c165 (by decide)
                      · exact absurd c138 (by decide)
                  · refine Rn.goto (pc := 105) (tgt := 121) dX12_lay_105 (by decide) ?_
                    refine Rn.bipush (pc := 121) (v := -5) dX12_lay_121 (by decide) ?_
                    refine Rn.iret (pc := 123) rfl dX12_lay_123 ?_
                    rw [lyF_K (by decide) (by decide) (Or.inl ⟨by decide, fun e => c102 (by rw [e]; rfl)⟩)]; exact ⟨rfl, rfl⟩
              · exact absurd c84 (by decide)
        · exact absurd c40 (by decide)
    · exact absurd c13 (by decide)

set_option maxRecDepth 20000 in
set_option maxHeartbeats 4000000 in
theorem c_lay_14 (G : GX) {M : Mem} (mm nw z num : Nat) (vn vc : Int32) (hmm : mm < 4) (hst : mI M 11 0 13 = nI 14) (hnw : mI M 11 0 30 = nI nw) (hnw3 : nw < 3) (hz : mI M 31 0 (3 * mm + nw) = nI z) (hz2 : z ≤ 1024) (hvn : mI M 11 0 16 = vn) (hvc : mI M 11 0 15 = vc) : MetM G yX12_lay iX12_lay [vR 11 0, vI (nI mm)] M (fun q M' => q = some (vI (lyF (3 * mm + nw) 14 nw z num vn vc M).1) ∧ M' = (lyF (3 * mm + nw) 14 nw z num vn vc M).2) := by
  refine MetM.of (ls := [some (vR 11 0), some (vI (nI mm)), none, none, none, none, none]) (by decide) rfl (Nat.le_of_ble_eq_true rfl) rfl ?_
  intro hM0
  have hsec : 3 * mm + nw < 12 := by omega
  refine Rn.aload_n (pc := 0) dX12_lay_0 rfl rfl ?_
  refine Rn.getI (pc := 1) (t := 0) flX12_156 (show mI M 11 0 13 = nI 14 from hst) dX12_lay_1 ?_
  refine Rn.iconst (pc := 4) (v := nI 1) dX12_lay_4 (by decide) ?_
  refine Rn.icmp_ltN (pc := 5) (tgt := 28) dX12_lay_5 (by decide) (by omega) (by omega) (fun c5 => ?_) (fun c5 => ?_)
  · exact absurd c5 (by decide)
  · refine Rn.aload_n (pc := 8) dX12_lay_8 rfl rfl ?_
    refine Rn.getI (pc := 9) (t := 0) flX12_156 (show mI M 11 0 13 = nI 14 from hst) dX12_lay_9 ?_
    refine Rn.iconst (pc := 12) (v := nI 4) dX12_lay_12 (by decide) ?_
    refine Rn.icmp_geN (pc := 13) (tgt := 28) dX12_lay_13 (by decide) (by omega) (by omega) (fun c13 => ?_) (fun c13 => ?_)
    · refine Rn.aload_n (pc := 28) dX12_lay_28 rfl rfl ?_
      refine Rn.getI (pc := 29) (t := 0) flX12_156 (show mI M 11 0 13 = nI 14 from hst) dX12_lay_29 ?_
      refine Rn.if_eq (pc := 32) (y := 0) (tgt := 43) dX12_lay_32 (by decide) (fun c32 => ?_) (fun c32 => ?_)
      · exact absurd c32 (by decide)
      · refine Rn.aload_n (pc := 35) dX12_lay_35 rfl rfl ?_
        refine Rn.getI (pc := 36) (t := 0) flX12_156 (show mI M 11 0 13 = nI 14 from hst) dX12_lay_36 ?_
        refine Rn.iconst (pc := 39) (v := nI 4) dX12_lay_39 (by decide) ?_
        refine Rn.icmp_neN (pc := 40) (tgt := 45) dX12_lay_40 (by decide) (by omega) (by omega) (fun c40 => ?_) (fun c40 => ?_)
        · refine Rn.iconst (pc := 45) (v := nI 3) dX12_lay_45 (by decide) ?_
          refine Rn.iload_n (pc := 46) dX12_lay_46 rfl rfl ?_
          refine Rn.imulN (pc := 47) dX12_lay_47 ?_
          refine Rn.aload_n (pc := 48) dX12_lay_48 rfl rfl ?_
          refine Rn.getI (pc := 49) (t := 0) flX12_325 hnw dX12_lay_49 ?_
          refine Rn.iaddN (pc := 52) dX12_lay_52 ?_
          refine Rn.istore_n (pc := 53) dX12_lay_53 rfl (by decide) rfl st7_2 ?_
          refine Rn.aload_n (pc := 54) dX12_lay_54 rfl rfl ?_
          refine Rn.getI (pc := 55) (t := 0) flX12_156 (show mI M 11 0 13 = nI 14 from hst) dX12_lay_55 ?_
          refine Rn.bipush (pc := 58) (v := nI 10) dX12_lay_58 (by decide) ?_
          refine Rn.icmp_ltN (pc := 60) (tgt := 67) dX12_lay_60 (by decide) (by omega) (by omega) (fun c60 => ?_) (fun c60 => ?_)
          · exact absurd c60 (by decide)
          · refine Rn.iconst (pc := 63) (v := nI 1) dX12_lay_63 (by decide) ?_
            refine Rn.goto (pc := 64) (tgt := 68) dX12_lay_64 (by decide) ?_
            refine Rn.istore_n (pc := 68) dX12_lay_68 rfl (by decide) rfl st7_3 ?_
            refine Rn.aload_n (pc := 69) dX12_lay_69 rfl rfl ?_
            refine Rn.getI (pc := 70) (t := 0) flX12_156 (show mI M 11 0 13 = nI 14 from hst) dX12_lay_70 ?_
            refine Rn.bipush (pc := 73) (v := nI 8) dX12_lay_73 (by decide) ?_
            refine Rn.icmp_eqN (pc := 75) (tgt := 87) dX12_lay_75 (by decide) (by omega) (by omega) (fun c75 => ?_) (fun c75 => ?_)
            · exact absurd c75 (by decide)
            · refine Rn.aload_n (pc := 78) dX12_lay_78 rfl rfl ?_
              refine Rn.getI (pc := 79) (t := 0) flX12_156 (show mI M 11 0 13 = nI 14 from hst) dX12_lay_79 ?_
              refine Rn.bipush (pc := 82) (v := nI 9) dX12_lay_82 (by decide) ?_
              refine Rn.icmp_neN (pc := 84) (tgt := 91) dX12_lay_84 (by decide) (by omega) (by omega) (fun c84 => ?_) (fun c84 => ?_)
              · refine Rn.iconst (pc := 91) (v := nI 0) dX12_lay_91 (by decide) ?_
                refine Rn.istore (pc := 92) dX12_lay_92 (by decide) rfl st7_4 ?_
                refine Rn.iload_n (pc := 94) dX12_lay_94 rfl rfl ?_
                refine Rn.if_eq (pc := 95) (y := 0) (tgt := 108) dX12_lay_95 (by decide) (fun c95 => ?_) (fun c95 => ?_)
                · exact absurd c95 (by decide)
                · refine Rn.aload_n (pc := 98) dX12_lay_98 rfl rfl ?_
                  refine Rn.getI (pc := 99) (t := 0) flX12_325 hnw dX12_lay_99 ?_
                  refine Rn.if_eq (pc := 102) (y := 0) (tgt := 124) dX12_lay_102 (by decide) (fun c102 => ?_) (fun c102 => ?_)
                  · refine Rn.aload_n (pc := 124) dX12_lay_124 rfl rfl ?_
                    refine Rn.getI (pc := 125) (t := 0) flX12_156 (show mI M 11 0 13 = nI 14 from hst) dX12_lay_125 ?_
                    refine Rn.iconst (pc := 128) (v := nI 5) dX12_lay_128 (by decide) ?_
                    refine Rn.icmp_eqN (pc := 129) (tgt := 141) dX12_lay_129 (by decide) (by omega) (by omega) (fun c129 => ?_) (fun c129 => ?_)
                    · exact absurd c129 (by decide)
                    · refine Rn.aload_n (pc := 132) dX12_lay_132 rfl rfl ?_
                      refine Rn.getI (pc := 133) (t := 0) flX12_156 (show mI M 11 0 13 = nI 14 from hst) dX12_lay_133 ?_
                      refine Rn.bipush (pc := 136) (v := nI 6) dX12_lay_136 (by decide) ?_
                      refine Rn.icmp_neN (pc := 138) (tgt := 145) dX12_lay_138 (by decide) (by omega) (by omega) (fun c138 => ?_) (fun c138 => ?_)
                      · refine Rn.iconst (pc := 145) (v := nI 0) dX12_lay_145 (by decide) ?_
                        refine Rn.istore (pc := 146) dX12_lay_146 (by decide) rfl st7_5 ?_
                        refine Rn.iload_n (pc := 148) dX12_lay_148 rfl rfl ?_
                        refine Rn.if_eq (pc := 149) (y := 0) (tgt := 163) dX12_lay_149 (by decide) (fun c149 => ?_) (fun c149 => ?_)
                        · exact absurd c149 (by decide)
                        · refine Rn.aload_n (pc := 152) dX12_lay_152 rfl rfl ?_
                          refine Rn.getR (pc := 153) flX12_39 mu11_26 fx11_26 dX12_lay_153 ?_
                          refine Rn.iload_n (pc := 156) dX12_lay_156 rfl rfl ?_
                          refine Rn.ialdN (pc := 157) ak31 (by omega) (by decide) hz dX12_lay_157 ?_
                          refine Rn.iconst (pc := 158) (v := nI 2) dX12_lay_158 (by decide) ?_
                          refine Rn.irem (pc := 159) dX12_lay_159 (by decide) ?_
                          rw [rem_N (by omega) (by decide) (by decide)]
                          refine Rn.if_ne (pc := 160) (y := 0) (tgt := 179) dX12_lay_160 (by decide) (fun c160 => ?_) (fun c160 => ?_)
                          · refine Rn.bipush (pc := 179) (v := -6) dX12_lay_179 (by decide) ?_
                            refine Rn.iret (pc := 181) rfl dX12_lay_181 ?_
                            rw [lyF_A (by decide) (by decide) (by have := rem_z (by omega) c102; omega) (Or.inl ⟨by decide, fun e => c160 (by rw [e]; rfl)⟩)]; exact ⟨rfl, rfl⟩
                          · refine Rn.iload (pc := 163) dX12_lay_163 rfl ?_
                            refine Rn.if_eq (pc := 165) (y := 0) (tgt := 182) dX12_lay_165 (by decide) (fun c165 => ?_) (fun c165 => ?_)
                            · refine Rn.aload_n (pc := 182) dX12_lay_182 rfl rfl ?_
                              refine Rn.getI (pc := 183) (t := 0) flX12_156 (show mI M 11 0 13 = nI 14 from hst) dX12_lay_183 ?_
                              refine Rn.bipush (pc := 186) (v := nI 9) dX12_lay_186 (by decide) ?_
                              refine Rn.icmp_neN (pc := 188) (tgt := 211) dX12_lay_188 (by decide) (by omega) (by omega) (fun c188 => ?_) (fun c188 => ?_)
                              · refine Rn.aload_n (pc := 211) dX12_lay_211 rfl rfl ?_
                                refine Rn.getI (pc := 212) (t := 0) flX12_156 (show mI M 11 0 13 = nI 14 from hst) dX12_lay_212 ?_
                                refine Rn.bipush (pc := 215) (v := nI 8) dX12_lay_215 (by decide) ?_
                                refine Rn.icmp_neN (pc := 217) (tgt := 247) dX12_lay_217 (by decide) (by omega) (by omega) (fun c217 => ?_) (fun c217 => ?_)
                                · refine Rn.aload_n (pc := 247) dX12_lay_247 rfl rfl ?_
                                  refine Rn.getI (pc := 248) (t := 0) flX12_156 (show mI M 11 0 13 = nI 14 from hst) dX12_lay_248 ?_
                                  refine Rn.bipush (pc := 251) (v := nI 7) dX12_lay_251 (by decide) ?_
                                  refine Rn.icmp_neN (pc := 253) (tgt := 268) dX12_lay_253 (by decide) (by omega) (by omega) (fun c253 => ?_) (fun c253 => ?_)
                                  · refine Rn.iload (pc := 268) dX12_lay_268 rfl ?_
                                    refine Rn.if_eq (pc := 270) (y := 0) (tgt := 286) dX12_lay_270 (by decide) (fun c270 => ?_) (fun c270 => ?_)
                                    · refine Rn.aload_n (pc := 286) dX12_lay_286 rfl rfl ?_
                                      refine Rn.iload_n (pc := 287) dX12_lay_287 rfl rfl ?_
                                      refine Rn.aload_n (pc := 288) dX12_lay_288 rfl rfl ?_
                                      refine Rn.getI (pc := 289) (t := 0) flX12_159 hvc dX12_lay_289 ?_
                                      refine Rn.aload_n (pc := 292) dX12_lay_292 rfl rfl ?_
                                      refine Rn.getI (pc := 293) (t := 0) flX12_156 (show mI M 11 0 13 = nI 14 from hst) dX12_lay_293 ?_
                                      refine Rn.bipush (pc := 296) (v := nI 13) dX12_lay_296 (by decide) ?_
                                      refine Rn.icmp_neN (pc := 298) (tgt := 305) dX12_lay_298 (by decide) (by omega) (by omega) (fun c298 => ?_) (fun c298 => ?_)
                                      · refine Rn.iconst (pc := 305) (v := nI 2) dX12_lay_305 (by decide) ?_
                                        refine Rn.callV (pc := 306) (as := [_, _, _]) cvX12_331 ⟨by decide, rfl⟩ ⟨by decide, by decide⟩ dX12_lay_306 (Nat.le_of_ble_eq_true rfl) rfl (c_putMany G (3 * mm + nw) z 2 vc hsec hz (by omega)) ?_
                                        rintro _ _ ⟨rfl, rfl⟩
                                        have h8 := rem_z (by omega) c160
                                        refine lay_309 G _ _ _ _ mm _ (z + 2) hsec (pMF_z _ _ _ _ hz) (by omega) ?_
                                        rw [lyF_O (by decide) (by decide) (by have := rem_z (by omega) c102; omega) (by omega)]
                                        exact ⟨rfl, rfl⟩
                                      · exact absurd c298 (by decide)
                                    · exact absurd c270 (by decide)
                                  · exact absurd c253 (by decide)
                                · exact absurd c217 (by decide)
                              · exact absurd c188 (by decide)
                            · exact absurd c165 (by decide)
                      · exact absurd c138 (by decide)
                  · refine Rn.goto (pc := 105) (tgt := 121) dX12_lay_105 (by decide) ?_
                    refine Rn.bipush (pc := 121) (v := -5) dX12_lay_121 (by decide) ?_
                    refine Rn.iret (pc := 123) rfl dX12_lay_123 ?_
                    rw [lyF_K (by decide) (by decide) (Or.inl ⟨by decide, fun e => c102 (by rw [e]; rfl)⟩)]; exact ⟨rfl, rfl⟩
              · exact absurd c84 (by decide)
        · exact absurd c40 (by decide)
    · exact absurd c13 (by decide)

theorem c_lay (G : GX) {M : Mem} (mm nw z num st : Nat) (vn vc : Int32) (hmm : mm < 4) (h15 : st < 15) (hst : mI M 11 0 13 = nI st) (hnw : mI M 11 0 30 = nI nw) (hnw3 : nw < 3) (hz : mI M 31 0 (3 * mm + nw) = nI z) (hz2 : z ≤ 1024) (hvn : mI M 11 0 16 = vn) (hvc : mI M 11 0 15 = vc) (h8 : st = 8 → vn = nI num) (h512 : num ≤ 512) : MetM G yX12_lay iX12_lay [vR 11 0, vI (nI mm)] M (fun q M' => q = some (vI (lyF (3 * mm + nw) st nw z num vn vc M).1) ∧ M' = (lyF (3 * mm + nw) st nw z num vn vc M).2) := by
  match st, h15, hst, h8 with
  | 0, _, hst, _ => exact c_lay_0 G mm nw z num vn vc hmm hst hnw hnw3 hz hz2 hvn hvc
  | 1, _, hst, _ => exact c_lay_1 G mm nw z num vn vc hmm hst hnw hnw3 hz hz2 hvn hvc
  | 2, _, hst, _ => exact c_lay_2 G mm nw z num vn vc hmm hst hnw hnw3 hz hz2 hvn hvc
  | 3, _, hst, _ => exact c_lay_3 G mm nw z num vn vc hmm hst hnw hnw3 hz hz2 hvn hvc
  | 4, _, hst, _ => exact c_lay_4 G mm nw z num vn vc hmm hst hnw hnw3 hz hz2 hvn hvc
  | 5, _, hst, _ => exact c_lay_5 G mm nw z num vn vc hmm hst hnw hnw3 hz hz2 hvn hvc
  | 6, _, hst, _ => exact c_lay_6 G mm nw z num vn vc hmm hst hnw hnw3 hz hz2 hvn hvc
  | 7, _, hst, _ => exact c_lay_7 G mm nw z num vn vc hmm hst hnw hnw3 hz hz2 hvn hvc
  | 8, _, hst, h8 => exact c_lay_8 G mm nw z num vn vc hmm hst hnw hnw3 hz hz2 hvn hvc (h8 rfl) h512
  | 9, _, hst, _ => exact c_lay_9 G mm nw z num vn vc hmm hst hnw hnw3 hz hz2 hvn hvc
  | 10, _, hst, _ => exact c_lay_10 G mm nw z num vn vc hmm hst hnw hnw3 hz hz2 hvn hvc
  | 11, _, hst, _ => exact c_lay_11 G mm nw z num vn vc hmm hst hnw hnw3 hz hz2 hvn hvc
  | 12, _, hst, _ => exact c_lay_12 G mm nw z num vn vc hmm hst hnw hnw3 hz hz2 hvn hvc
  | 13, _, hst, _ => exact c_lay_13 G mm nw z num vn vc hmm hst hnw hnw3 hz hz2 hvn hvc
  | 14, _, hst, _ => exact c_lay_14 G mm nw z num vn vc hmm hst hnw hnw3 hz hz2 hvn hvc
  | n + 15, h, _, _ => exact absurd h (by omega)
