theorem tbl_out {x : Int32} (h : decide (¬ x < nI 0 ∧ ¬ nI 2 < x) = false) : x.toInt < 0 ∨ 2 < x.toInt := by
  have h1 := of_decide_eq_false h
  rw [Int32.lt_iff_toInt_lt, Int32.lt_iff_toInt_lt, show (nI 0).toInt = 0 by decide, show (nI 2).toInt = 2 by decide] at h1
  omega
abbrev jX11_type : MIx := (iX11_type.1, iX11_type.2.1, iX11_type.2.2.1, iX11_type.2.2.2.1, { frames := 6, cells := 1, slots := 6, locals := 100 })
abbrev jX11_add : MIx := (iX11_add.1, iX11_add.2.1, iX11_add.2.2.1, iX11_add.2.2.2.1, { frames := 6, cells := 1, slots := 6, locals := 100 })
abbrev jX11_change : MIx := (iX11_change.1, iX11_change.2.1, iX11_change.2.2.1, iX11_change.2.2.2.1, { frames := 6, cells := 1, slots := 6, locals := 100 })
abbrev jX11_drop : MIx := (iX11_drop.1, iX11_drop.2.1, iX11_drop.2.2.1, iX11_drop.2.2.2.1, { frames := 6, cells := 1, slots := 6, locals := 100 })
abbrev jX11_fault : MIx := (iX11_fault.1, iX11_fault.2.1, iX11_fault.2.2.1, iX11_fault.2.2.2.1, { frames := 6, cells := 1, slots := 6, locals := 100 })
abbrev jX11_address : MIx := (iX11_address.1, iX11_address.2.1, iX11_address.2.2.1, iX11_address.2.2.2.1, { frames := 6, cells := 1, slots := 6, locals := 100 })
abbrev jX11_size : MIx := (iX11_size.1, iX11_size.2.1, iX11_size.2.2.1, iX11_size.2.2.2.1, { frames := 6, cells := 1, slots := 6, locals := 100 })
set_option maxRecDepth 20000 in
set_option maxHeartbeats 4000000 in
theorem kx_type (G : GX) {M : Mem} (a b c d : Int32) (q : Nat × (Nat → Nat)) (hq : TyC q M) (hq48 : q.1 ≤ 48) (hno : 48 < (tyQ a b c d q).1) : MetX G yX11_type jX11_type [vR 10 0, vI a, vI b, vI c, vI d] M nIS := by
  refine MetX.of (ls := [some (vR 10 0), some (vI a), some (vI b), some (vI c), some (vI d), none]) (by decide) rfl (Nat.le_of_ble_eq_true rfl) rfl ?_
  intro hM0 z hx ht
  have b1 := ap4_cnt a 4 q
  have b2 := ap4_cnt b 4 (ap4 a 4 q)
  have b3 := ap4_cnt c 4 (ap4 b 4 (ap4 a 4 q))
  have b4 : (tyQ a b c d q).1 = _ := ap4_cnt d 4 (ap4 c 4 (ap4 b 4 (ap4 a 4 q)))
  have l1 := cIn_le a 4
  have l2 := cIn_le b 4
  have l3 := cIn_le c 4
  have l4 := cIn_le d 4
  refine RnE.iload_n (pc := 0) dX11_type_0 rfl rfl ?_
  refine RnE.callS (pc := 1) (as := [_]) csX11_47 ⟨by decide, by decide⟩ dX11_type_1 (Nat.le_of_ble_eq_true rfl) rfl (k_charactersIn G a) ?_
  rintro _ M9 ⟨rfl, h9⟩
  rw [h9]
  refine RnE.iload_n (pc := 4) dX11_type_4 rfl rfl ?_
  refine RnE.callS (pc := 5) (as := [_]) csX11_47 ⟨by decide, by decide⟩ dX11_type_5 (Nat.le_of_ble_eq_true rfl) rfl (k_charactersIn G b) ?_
  rintro _ M9 ⟨rfl, h9⟩
  rw [h9]
  refine RnE.iaddN (pc := 8) dX11_type_8 ?_
  refine RnE.iload_n (pc := 9) dX11_type_9 rfl rfl ?_
  refine RnE.callS (pc := 10) (as := [_]) csX11_47 ⟨by decide, by decide⟩ dX11_type_10 (Nat.le_of_ble_eq_true rfl) rfl (k_charactersIn G c) ?_
  rintro _ M9 ⟨rfl, h9⟩
  rw [h9]
  refine RnE.iaddN (pc := 13) dX11_type_13 ?_
  refine RnE.iload (pc := 14) dX11_type_14 rfl ?_
  refine RnE.callS (pc := 16) (as := [_]) csX11_47 ⟨by decide, by decide⟩ dX11_type_16 (Nat.le_of_ble_eq_true rfl) rfl (k_charactersIn G d) ?_
  rintro _ M9 ⟨rfl, h9⟩
  rw [h9]
  refine RnE.iaddN (pc := 19) dX11_type_19 ?_
  refine RnE.istore (pc := 20) dX11_type_20 (by decide) rfl st6_5 ?_
  refine RnE.aload_n (pc := 22) dX11_type_22 rfl rfl ?_
  refine RnE.getR (pc := 23) flX11_10 mu10_0 fx10_0 dX11_type_23 ?_
  refine RnE.getI (pc := 26) (t := 0) flX11_51 hq.1 dX11_type_26 ?_
  refine RnE.iload (pc := 29) dX11_type_29 rfl ?_
  refine RnE.iaddN (pc := 31) dX11_type_31 ?_
  refine RnE.bipush (pc := 32) (v := nI 48) dX11_type_32 (by decide) ?_
  refine RnE.icmp_leN (pc := 34) (tgt := 47) dX11_type_34 (by decide) (by omega) (by omega) (fun c34 => ?_) (fun c34 => ?_)
  · exact absurd hno (by omega)
  · exact RnE.thrS (is := 57) (j := 54) (tx := "more than 48 characters") hx ht rfl (by decide) dX11_type_37 dX11_type_40 dX11_type_41 dX11_type_43 dX11_type_46 (by decide)
set_option maxRecDepth 20000 in
set_option maxHeartbeats 4000000 in
theorem kx_add (G : GX) {M : Mem} (v : Int32) (hv : decide (¬ v < 0 ∧ ¬ nI 4 ≤ v) = false) : MetX G yX11_add jX11_add [vR 10 0, vI v] M nIA := by
  refine MetX.of (ls := [some (vR 10 0), some (vI v), none]) (by decide) rfl (Nat.le_of_ble_eq_true rfl) rfl ?_
  intro hM0 z hx ht
  refine RnE.iload_n (pc := 0) dX11_add_0 rfl rfl ?_
  refine RnE.callS (pc := 1) (as := [_]) csX11_66 ⟨by decide, by decide⟩ dX11_add_1 (Nat.le_of_ble_eq_true rfl) rfl (k_isModule G v) ?_
  rintro _ M9 ⟨rfl, h9⟩
  rw [h9, hv]
  refine RnE.if_neB (pc := 4) (tgt := 17) dX11_add_4 (by decide) (fun c4 => ?_) (fun c4 => ?_)
  · cases c4
  · exact RnE.thrA (is := 72) (j := 55) (tx := "no such module") hx ht rfl (by decide) dX11_add_7 dX11_add_10 dX11_add_11 dX11_add_13 dX11_add_16 (by decide)
set_option maxRecDepth 20000 in
set_option maxHeartbeats 4000000 in
theorem kx_change (G : GX) {M : Mem} (v : Int32) (hv : decide (¬ v < 0 ∧ ¬ nI 4 ≤ v) = false) (y : Int32) : MetX G yX11_change jX11_change [vR 10 0, vI v, vI y] M nIA := by
  refine MetX.of (ls := [some (vR 10 0), some (vI v), some (vI y), none]) (by decide) rfl (Nat.le_of_ble_eq_true rfl) rfl ?_
  intro hM0 z hx ht
  refine RnE.iload_n (pc := 0) dX11_change_0 rfl rfl ?_
  refine RnE.callS (pc := 1) (as := [_]) csX11_66 ⟨by decide, by decide⟩ dX11_change_1 (Nat.le_of_ble_eq_true rfl) rfl (k_isModule G v) ?_
  rintro _ M9 ⟨rfl, h9⟩
  rw [h9, hv]
  refine RnE.if_neB (pc := 4) (tgt := 17) dX11_change_4 (by decide) (fun c4 => ?_) (fun c4 => ?_)
  · cases c4
  · exact RnE.thrA (is := 72) (j := 55) (tx := "no such module") hx ht rfl (by decide) dX11_change_7 dX11_change_10 dX11_change_11 dX11_change_13 dX11_change_16 (by decide)
set_option maxRecDepth 20000 in
set_option maxHeartbeats 4000000 in
theorem kx_drop (G : GX) {M : Mem} (v : Int32) (hv : decide (¬ v < 0 ∧ ¬ nI 4 ≤ v) = false) : MetX G yX11_drop jX11_drop [vR 10 0, vI v] M nIA := by
  refine MetX.of (ls := [some (vR 10 0), some (vI v), none]) (by decide) rfl (Nat.le_of_ble_eq_true rfl) rfl ?_
  intro hM0 z hx ht
  refine RnE.iload_n (pc := 0) dX11_drop_0 rfl rfl ?_
  refine RnE.callS (pc := 1) (as := [_]) csX11_66 ⟨by decide, by decide⟩ dX11_drop_1 (Nat.le_of_ble_eq_true rfl) rfl (k_isModule G v) ?_
  rintro _ M9 ⟨rfl, h9⟩
  rw [h9, hv]
  refine RnE.if_neB (pc := 4) (tgt := 17) dX11_drop_4 (by decide) (fun c4 => ?_) (fun c4 => ?_)
  · cases c4
  · exact RnE.thrA (is := 72) (j := 55) (tx := "no such module") hx ht rfl (by decide) dX11_drop_7 dX11_drop_10 dX11_drop_11 dX11_drop_13 dX11_drop_16 (by decide)
set_option maxRecDepth 20000 in
set_option maxHeartbeats 4000000 in
theorem kx_address (G : GX) {M : Mem} (v : Int32) (hv : decide (¬ v < 0 ∧ ¬ nI 4 ≤ v) = false) : MetX G yX11_address jX11_address [vR 10 0, vI v] M nIA := by
  refine MetX.of (ls := [some (vR 10 0), some (vI v)]) (by decide) rfl (Nat.le_of_ble_eq_true rfl) rfl ?_
  intro hM0 z hx ht
  refine RnE.iload_n (pc := 0) dX11_address_0 rfl rfl ?_
  refine RnE.callS (pc := 1) (as := [_]) csX11_66 ⟨by decide, by decide⟩ dX11_address_1 (Nat.le_of_ble_eq_true rfl) rfl (k_isModule G v) ?_
  rintro _ M9 ⟨rfl, h9⟩
  rw [h9, hv]
  refine RnE.if_neB (pc := 4) (tgt := 17) dX11_address_4 (by decide) (fun c4 => ?_) (fun c4 => ?_)
  · cases c4
  · exact RnE.thrA (is := 72) (j := 55) (tx := "no such module") hx ht rfl (by decide) dX11_address_7 dX11_address_10 dX11_address_11 dX11_address_13 dX11_address_16 (by decide)
set_option maxRecDepth 20000 in
set_option maxHeartbeats 4000000 in
theorem kx_add_full (G : GX) {M : Mem} (m : Nat) (hm : m < 4) (hc : mI M 7 m 1 = nI 24) : MetX G yX11_add jX11_add [vR 10 0, vI (nI m)] M nIS := by
  refine MetX.of (ls := [some (vR 10 0), some (vI (nI m)), none]) (by decide) rfl (Nat.le_of_ble_eq_true rfl) rfl ?_
  intro hM0 z hx ht
  refine RnE.iload_n (pc := 0) dX11_add_0 rfl rfl ?_
  refine RnE.callS (pc := 1) (as := [_]) csX11_66 ⟨by decide, by decide⟩ dX11_add_1 (Nat.le_of_ble_eq_true rfl) rfl (k_isModule G (nI m)) ?_
  rintro _ M9 ⟨rfl, h9⟩
  rw [h9, mod_N hm]
  refine RnE.if_neB (pc := 4) (tgt := 17) dX11_add_4 (by decide) (fun c4 => ?_) (fun c4 => ?_)
  · refine RnE.aload_n (pc := 17) dX11_add_17 rfl rfl ?_
    refine RnE.getR (pc := 18) flX11_18 mu10_1 fx10_1 dX11_add_18 ?_
    refine RnE.iload_n (pc := 21) dX11_add_21 rfl rfl ?_
    refine RnE.aaldN (pc := 22) ak13 (by decide) rfl (by omega) (by decide) fx13 dX11_add_22 ?_
    refine RnE.astore_n (pc := 23) dX11_add_23 rfl (by decide) rfl st3_2 ?_
    refine RnE.aload_n (pc := 24) dX11_add_24 rfl rfl ?_
    refine RnE.getI (pc := 25) (t := 0) flX11_75 hc dX11_add_25 ?_
    refine RnE.bipush (pc := 28) (v := nI 24) dX11_add_28 (by decide) ?_
    refine RnE.icmp_ltN (pc := 30) (tgt := 43) dX11_add_30 (by decide) (by omega) (by omega) (fun c30 => ?_) (fun c30 => ?_)
    · exact absurd c30 (by omega)
    · exact RnE.thrS (is := 78) (j := 56) (tx := "the module has 24 lines") hx ht rfl (by decide) dX11_add_33 dX11_add_36 dX11_add_37 dX11_add_39 dX11_add_42 (by decide)
  · cases c4
set_option maxRecDepth 20000 in
set_option maxHeartbeats 4000000 in
theorem kx_change_l (G : GX) {M : Mem} (m c : Nat) (y : Int32) (hm : m < 4) (hc24 : c ≤ 24) (hc : mI M 7 m 1 = nI c) (hy : y < 0 ∨ nI c ≤ y) : MetX G yX11_change jX11_change [vR 10 0, vI (nI m), vI y] M nIA := by
  refine MetX.of (ls := [some (vR 10 0), some (vI (nI m)), some (vI y), none]) (by decide) rfl (Nat.le_of_ble_eq_true rfl) rfl ?_
  intro hM0 z hx ht
  refine RnE.iload_n (pc := 0) dX11_change_0 rfl rfl ?_
  refine RnE.callS (pc := 1) (as := [_]) csX11_66 ⟨by decide, by decide⟩ dX11_change_1 (Nat.le_of_ble_eq_true rfl) rfl (k_isModule G (nI m)) ?_
  rintro _ M9 ⟨rfl, h9⟩
  rw [h9, mod_N hm]
  refine RnE.if_neB (pc := 4) (tgt := 17) dX11_change_4 (by decide) (fun c4 => ?_) (fun c4 => ?_)
  · refine RnE.aload_n (pc := 17) dX11_change_17 rfl rfl ?_
    refine RnE.getR (pc := 18) flX11_18 mu10_1 fx10_1 dX11_change_18 ?_
    refine RnE.iload_n (pc := 21) dX11_change_21 rfl rfl ?_
    refine RnE.aaldN (pc := 22) ak13 (by decide) rfl (by omega) (by decide) fx13 dX11_change_22 ?_
    refine RnE.astore_n (pc := 23) dX11_change_23 rfl (by decide) rfl st4_3 ?_
    refine RnE.iload_n (pc := 24) dX11_change_24 rfl rfl ?_
    refine RnE.if_lt (pc := 25) (y := 0) (tgt := 36) dX11_change_25 (by decide) (fun c25 => ?_) (fun c25 => ?_)
    · exact RnE.thrA (is := 88) (j := 57) (tx := "no such line") hx ht rfl (by decide) dX11_change_36 dX11_change_39 dX11_change_40 dX11_change_42 dX11_change_45 (by decide)
    · refine RnE.iload_n (pc := 28) dX11_change_28 rfl rfl ?_
      refine RnE.aload_n (pc := 29) dX11_change_29 rfl rfl ?_
      refine RnE.getI (pc := 30) (t := 0) flX11_75 hc dX11_change_30 ?_
      refine RnE.icmp_lt (pc := 33) (tgt := 46) dX11_change_33 (by decide) (fun c33 => ?_) (fun c33 => ?_)
      · exact absurd c33 (hy.elim (fun q => absurd q c25) (fun q z => absurd (Int32.lt_of_lt_of_le z q) (Int32.lt_irrefl)))
      · exact RnE.thrA (is := 88) (j := 57) (tx := "no such line") hx ht rfl (by decide) dX11_change_36 dX11_change_39 dX11_change_40 dX11_change_42 dX11_change_45 (by decide)
  · cases c4
set_option maxRecDepth 20000 in
set_option maxHeartbeats 4000000 in
theorem kx_fault (G : GX) {M : Mem} (x : Int32) (hx9 : decide (¬ x < nI 0 ∧ ¬ nI 2 < x) = false) : MetX G yX11_fault jX11_fault [vR 10 0, vI x] M nIA := by
  refine MetX.of (ls := [some (vR 10 0), some (vI x)]) (by decide) rfl (Nat.le_of_ble_eq_true rfl) rfl ?_
  intro hM0 z hx ht
  refine RnE.iload_n (pc := 0) dX11_fault_0 rfl rfl ?_
  refine RnE.tableOut (pc := 1) (tgt := 52) dX11_fault_1 (tbl_out hx9) (by decide) ?_
  exact RnE.thrA (is := 131) (j := 58) (tx := "neither 0, 1 nor 2") hx ht rfl (by decide) dX11_fault_52 dX11_fault_55 dX11_fault_56 dX11_fault_58 dX11_fault_61 (by decide)
set_option maxRecDepth 20000 in
set_option maxHeartbeats 4000000 in
theorem kx_size_m (G : GX) {M : Mem} (v : Int32) (hv : decide (¬ v < 0 ∧ ¬ nI 4 ≤ v) = false) (y : Int32) : MetX G yX11_size jX11_size [vR 10 0, vI v, vI y] M nIA := by
  refine MetX.of (ls := [some (vR 10 0), some (vI v), some (vI y)]) (by decide) rfl (Nat.le_of_ble_eq_true rfl) rfl ?_
  intro hM0 z hx ht
  refine RnE.iload_n (pc := 0) dX11_size_0 rfl rfl ?_
  refine RnE.callS (pc := 1) (as := [_]) csX11_66 ⟨by decide, by decide⟩ dX11_size_1 (Nat.le_of_ble_eq_true rfl) rfl (k_isModule G v) ?_
  rintro _ M9 ⟨rfl, h9⟩
  rw [h9, hv]
  refine RnE.if_eqB (pc := 4) (tgt := 16) dX11_size_4 (by decide) (fun c4 => ?_) (fun c4 => ?_)
  · exact RnE.thrA (is := 157) (j := 59) (tx := "no such module or section") hx ht rfl (by decide) dX11_size_16 dX11_size_19 dX11_size_20 dX11_size_22 dX11_size_25 (by decide)
  · cases c4
set_option maxRecDepth 20000 in
set_option maxHeartbeats 4000000 in
theorem kx_size_s (G : GX) {M : Mem} (m : Nat) (y : Int32) (hm : m < 4) (hy : decide (¬ y < nI 0 ∧ ¬ nI 2 < y) = false) : MetX G yX11_size jX11_size [vR 10 0, vI (nI m), vI y] M nIA := by
  refine MetX.of (ls := [some (vR 10 0), some (vI (nI m)), some (vI y)]) (by decide) rfl (Nat.le_of_ble_eq_true rfl) rfl ?_
  intro hM0 z hx ht
  refine RnE.iload_n (pc := 0) dX11_size_0 rfl rfl ?_
  refine RnE.callS (pc := 1) (as := [_]) csX11_66 ⟨by decide, by decide⟩ dX11_size_1 (Nat.le_of_ble_eq_true rfl) rfl (k_isModule G (nI m)) ?_
  rintro _ M9 ⟨rfl, h9⟩
  rw [h9, mod_N hm]
  refine RnE.if_eqB (pc := 4) (tgt := 16) dX11_size_4 (by decide) (fun c4 => ?_) (fun c4 => ?_)
  · cases c4
  · refine RnE.iload_n (pc := 7) dX11_size_7 rfl rfl ?_
    refine RnE.if_lt (pc := 8) (y := 0) (tgt := 16) dX11_size_8 (by decide) (fun c8 => ?_) (fun c8 => ?_)
    · exact RnE.thrA (is := 157) (j := 59) (tx := "no such module or section") hx ht rfl (by decide) dX11_size_16 dX11_size_19 dX11_size_20 dX11_size_22 dX11_size_25 (by decide)
    · refine RnE.iload_n (pc := 11) dX11_size_11 rfl rfl ?_
      refine RnE.iconst (pc := 12) (v := nI 2) dX11_size_12 (by decide) ?_
      refine RnE.icmp_le (pc := 13) (tgt := 26) dX11_size_13 (by decide) (fun c13 => ?_) (fun c13 => ?_)
      · exact absurd (decide_eq_true (p := ¬ y < nI 0 ∧ ¬ nI 2 < y) ⟨c8, fun q => absurd (Int32.lt_of_lt_of_le q c13) (Int32.lt_irrefl)⟩) (by rw [hy]; decide)
      · exact RnE.thrA (is := 157) (j := 59) (tx := "no such module or section") hx ht rfl (by decide) dX11_size_16 dX11_size_19 dX11_size_20 dX11_size_22 dX11_size_25 (by decide)
abbrev jL_type : MIx := (cL_type, RL, 7, (some .int), { frames := 12, cells := 1, slots := 6, locals := 480 })
abbrev tL_type : List (Nat × Nat × Nat × Nat) := [(0, 14, 17, 13)]
set_option maxRecDepth 100000 in
theorem chL_42 : CH RL 42 yL_type jL_type tL_type 6 := ⟨⟨gw_at 618 (by decide +kernel) rfl, gw_at 619 (by decide +kernel) rfl, gw_at 81 (by decide +kernel) rfl, gw_at 620 (by decide +kernel) rfl⟩, (by decide +kernel), rfl, rfl⟩
abbrev jL_add : MIx := (cL_add, RL, 4, (some .int), { frames := 12, cells := 1, slots := 6, locals := 480 })
abbrev tL_add : List (Nat × Nat × Nat × Nat) := [(0, 9, 12, 19), (0, 9, 15, 13)]
set_option maxRecDepth 100000 in
theorem chL_56 : CH RL 56 yL_add jL_add tL_add 3 := ⟨⟨gw_at 699 (by decide +kernel) rfl, gw_at 700 (by decide +kernel) rfl, gw_at 81 (by decide +kernel) rfl, gw_at 701 (by decide +kernel) rfl⟩, (by decide +kernel), rfl, rfl⟩
abbrev jL_change : MIx := (cL_change, RL, 4, (some .int), { frames := 12, cells := 1, slots := 6, locals := 480 })
abbrev tL_change : List (Nat × Nat × Nat × Nat) := [(0, 6, 9, 19)]
set_option maxRecDepth 100000 in
theorem chL_60 : CH RL 60 yL_change jL_change tL_change 3 := ⟨⟨gw_at 880 (by decide +kernel) rfl, gw_at 881 (by decide +kernel) rfl, gw_at 81 (by decide +kernel) rfl, gw_at 882 (by decide +kernel) rfl⟩, (by decide +kernel), rfl, rfl⟩
abbrev jL_drop : MIx := (cL_drop, RL, 4, (some .int), { frames := 12, cells := 1, slots := 6, locals := 480 })
abbrev tL_drop : List (Nat × Nat × Nat × Nat) := [(0, 9, 12, 19)]
set_option maxRecDepth 100000 in
theorem chL_64 : CH RL 64 yL_drop jL_drop tL_drop 3 := ⟨⟨gw_at 888 (by decide +kernel) rfl, gw_at 889 (by decide +kernel) rfl, gw_at 81 (by decide +kernel) rfl, gw_at 890 (by decide +kernel) rfl⟩, (by decide +kernel), rfl, rfl⟩
abbrev jL_fault : MIx := (cL_fault, RL, 4, (some .int), { frames := 12, cells := 1, slots := 6, locals := 480 })
abbrev tL_fault : List (Nat × Nat × Nat × Nat) := [(0, 9, 12, 19)]
set_option maxRecDepth 100000 in
theorem chL_71 : CH RL 71 yL_fault jL_fault tL_fault 3 := ⟨⟨gw_at 895 (by decide +kernel) rfl, gw_at 896 (by decide +kernel) rfl, gw_at 81 (by decide +kernel) rfl, gw_at 897 (by decide +kernel) rfl⟩, (by decide +kernel), rfl, rfl⟩
abbrev jL_address : MIx := (cL_address, RL, 4, (some .int), { frames := 12, cells := 1, slots := 6, locals := 480 })
abbrev tL_address : List (Nat × Nat × Nat × Nat) := [(0, 9, 12, 19)]
set_option maxRecDepth 100000 in
theorem chL_83 : CH RL 83 yL_address jL_address tL_address 3 := ⟨⟨gw_at 903 (by decide +kernel) rfl, gw_at 904 (by decide +kernel) rfl, gw_at 81 (by decide +kernel) rfl, gw_at 905 (by decide +kernel) rfl⟩, (by decide +kernel), rfl, rfl⟩
abbrev jL_size : MIx := (cL_size, RL, 5, (some .int), { frames := 12, cells := 1, slots := 6, locals := 480 })
abbrev tL_size : List (Nat × Nat × Nat × Nat) := [(0, 10, 13, 19)]
set_option maxRecDepth 100000 in
theorem chL_86 : CH RL 86 yL_size jL_size tL_size 4 := ⟨⟨gw_at 911 (by decide +kernel) rfl, gw_at 912 (by decide +kernel) rfl, gw_at 81 (by decide +kernel) rfl, gw_at 913 (by decide +kernel) rfl⟩, (by decide +kernel), rfl, rfl⟩
theorem xcS : nIS ∈ xwC := List.mem_cons_self
theorem xcA : nIA ∈ xwC := List.mem_cons_of_mem _ List.mem_cons_self
set_option maxRecDepth 100000 in
theorem wlS : Cond.classLink RL 13 nIS ∈ gw_tbl := gw_at 621 (by decide +kernel) rfl
set_option maxRecDepth 100000 in
theorem wlA : Cond.classLink RL 19 nIA ∈ gw_tbl := gw_at 702 (by decide +kernel) rfl
set_option maxRecDepth 20000 in
set_option maxHeartbeats 4000000 in
theorem h_type_ok (G : GX) {M : Mem} (a b c d : Int32) {P : Option AV → Mem → Prop} (hP : ∀ r M', P r M' → ∃ x, r = some (vI x)) (h : MetM G yX11_type iX11_type [vR 10 0, vI a, vI b, vI c, vI d] M P) : MetH G yL_type jL_type tL_type [vR 10 0, vI a, vI b, vI c, vI d, vR 41 0] M (fun r M' => r = some (vI (nI 0)) ∧ ∃ x M1, P (some (vI x)) M1 ∧ M' = sJ M1 41 0 0 x.toInt64) := by
  refine MetH.of (ls := [some (vR 10 0), some (vI a), some (vI b), some (vI c), some (vI d), some (vR 41 0), none]) (by decide) rfl (Nat.le_of_ble_eq_true rfl) rfl ?_
  intro hM0 z hx ht
  refine RnE.aload (pc := 0) dL_type_0 rfl ?_
  refine RnE.iconst (pc := 2) (v := nI 0) dL_type_2 (by decide) ?_
  refine RnE.aload_n (pc := 3) dL_type_3 rfl rfl ?_
  refine RnE.iload_n (pc := 4) dL_type_4 rfl rfl ?_
  refine RnE.iload_n (pc := 5) dL_type_5 rfl rfl ?_
  refine RnE.iload_n (pc := 6) dL_type_6 rfl rfl ?_
  refine RnE.iload (pc := 7) dL_type_7 rfl ?_
  refine RnE.callV (pc := 9) (as := [_, _, _, _]) cvL_7 ⟨by decide, rfl⟩ ⟨by decide, by decide⟩ dL_type_9 (Nat.le_of_ble_eq_true rfl) rfl h ?_
  intro r M1 hp
  obtain ⟨x, rfl⟩ := hP _ _ hp
  refine RnE.i2l (pc := 12) dL_type_12 ?_
  refine RnE.lastN (pc := 13) ak41 (by omega) (by decide) dL_type_13 ?_
  refine RnE.goto (pc := 14) (tgt := 21) dL_type_14 (by decide) ?_
  refine RnE.iconst (pc := 21) (v := nI 0) dL_type_21 (by decide) ?_
  refine RnE.iret (by decide) (by decide) (pc := 22) rfl dL_type_22 ?_
  exact ⟨rfl, x, M1, hp, rfl⟩
set_option maxRecDepth 20000 in
set_option maxHeartbeats 4000000 in
theorem h_type_x (G : GX) {M : Mem} (a b c d : Int32) (h : MetX G yX11_type jX11_type [vR 10 0, vI a, vI b, vI c, vI d] M nIS) : MetH G yL_type jL_type tL_type [vR 10 0, vI a, vI b, vI c, vI d, vR 41 0] M (fun r M' => r = some (vI (nI 1)) ∧ M' = M) := by
  refine MetH.of (ls := [some (vR 10 0), some (vI a), some (vI b), some (vI c), some (vI d), some (vR 41 0), none]) (by decide) rfl (Nat.le_of_ble_eq_true rfl) rfl ?_
  intro hM0 z hx ht
  refine RnE.aload (pc := 0) dL_type_0 rfl ?_
  refine RnE.iconst (pc := 2) (v := nI 0) dL_type_2 (by decide) ?_
  refine RnE.aload_n (pc := 3) dL_type_3 rfl rfl ?_
  refine RnE.iload_n (pc := 4) dL_type_4 rfl rfl ?_
  refine RnE.iload_n (pc := 5) dL_type_5 rfl rfl ?_
  refine RnE.iload_n (pc := 6) dL_type_6 rfl rfl ?_
  refine RnE.iload (pc := 7) dL_type_7 rfl ?_
  refine RnE.callX (Iy := jX11_type) (I0 := iX11_type) (as := [_, _, _, _]) hx cvL_7 ⟨rfl, rfl, rfl, rfl, rfl⟩ ⟨by decide, rfl⟩ ⟨by decide, by decide⟩ dL_type_9 (Nat.le_of_ble_eq_true rfl) rfl h ?_
  refine RnT.catch [] { startPc := 0, endPc := 14, handlerPc := 17, catchType := 13 } [] ht (fun y h9 => nomatch h9) (by decide) (by decide) wlS hx xcS dL_type_17 (by decide) rfl ?_
  refine RnE.iconst (pc := 19) (v := nI 1) dL_type_19 (by decide) ?_
  refine RnE.iret (by decide) (by decide) (pc := 20) rfl dL_type_20 ?_
  exact ⟨rfl, rfl⟩
set_option maxRecDepth 20000 in
set_option maxHeartbeats 4000000 in
theorem h_add_ok (G : GX) {M : Mem} (a : Int32) {P : Option AV → Mem → Prop} (hP : ∀ r M', P r M' → ∃ x, r = some (vI x)) (h : MetM G yX11_add iX11_add [vR 10 0, vI a] M P) : MetH G yL_add jL_add tL_add [vR 10 0, vI a, vR 41 0] M (fun r M' => r = some (vI (nI 0)) ∧ ∃ x M1, P (some (vI x)) M1 ∧ M' = sJ M1 41 0 0 x.toInt64) := by
  refine MetH.of (ls := [some (vR 10 0), some (vI a), some (vR 41 0), none]) (by decide) rfl (Nat.le_of_ble_eq_true rfl) rfl ?_
  intro hM0 z hx ht
  refine RnE.aload_n (pc := 0) dL_add_0 rfl rfl ?_
  refine RnE.iconst (pc := 1) (v := nI 0) dL_add_1 (by decide) ?_
  refine RnE.aload_n (pc := 2) dL_add_2 rfl rfl ?_
  refine RnE.iload_n (pc := 3) dL_add_3 rfl rfl ?_
  refine RnE.callV (pc := 4) (as := [_]) cvL_15 ⟨by decide, rfl⟩ ⟨by decide, by decide⟩ dL_add_4 (Nat.le_of_ble_eq_true rfl) rfl h ?_
  intro r M1 hp
  obtain ⟨x, rfl⟩ := hP _ _ hp
  refine RnE.i2l (pc := 7) dL_add_7 ?_
  refine RnE.lastN (pc := 8) ak41 (by omega) (by decide) dL_add_8 ?_
  refine RnE.goto (pc := 9) (tgt := 18) dL_add_9 (by decide) ?_
  refine RnE.iconst (pc := 18) (v := nI 0) dL_add_18 (by decide) ?_
  refine RnE.iret (by decide) (by decide) (pc := 19) rfl dL_add_19 ?_
  exact ⟨rfl, x, M1, hp, rfl⟩
set_option maxRecDepth 20000 in
set_option maxHeartbeats 4000000 in
theorem h_add_x (G : GX) {M : Mem} (a : Int32) (h : MetX G yX11_add jX11_add [vR 10 0, vI a] M nIA) : MetH G yL_add jL_add tL_add [vR 10 0, vI a, vR 41 0] M (fun r M' => r = some (vI (nI 1)) ∧ M' = M) := by
  refine MetH.of (ls := [some (vR 10 0), some (vI a), some (vR 41 0), none]) (by decide) rfl (Nat.le_of_ble_eq_true rfl) rfl ?_
  intro hM0 z hx ht
  refine RnE.aload_n (pc := 0) dL_add_0 rfl rfl ?_
  refine RnE.iconst (pc := 1) (v := nI 0) dL_add_1 (by decide) ?_
  refine RnE.aload_n (pc := 2) dL_add_2 rfl rfl ?_
  refine RnE.iload_n (pc := 3) dL_add_3 rfl rfl ?_
  refine RnE.callX (Iy := jX11_add) (I0 := iX11_add) (as := [_]) hx cvL_15 ⟨rfl, rfl, rfl, rfl, rfl⟩ ⟨by decide, rfl⟩ ⟨by decide, by decide⟩ dL_add_4 (Nat.le_of_ble_eq_true rfl) rfl h ?_
  refine RnT.catchN [] { startPc := 0, endPc := 9, handlerPc := 12, catchType := 19 } [{ startPc := 0, endPc := 9, handlerPc := 15, catchType := 13 }] ht (fun y h9 => nomatch h9) (by decide) (by decide) wlA hx xcA dL_add_12 rfl (by decide) rfl ?_
  refine RnE.iconst (pc := 13) (v := nI 1) dL_add_13 (by decide) ?_
  refine RnE.iret (by decide) (by decide) (pc := 14) rfl dL_add_14 ?_
  exact ⟨rfl, rfl⟩
set_option maxRecDepth 20000 in
set_option maxHeartbeats 4000000 in
theorem h_add_x2 (G : GX) {M : Mem} (a : Int32) (h : MetX G yX11_add jX11_add [vR 10 0, vI a] M nIS) : MetH G yL_add jL_add tL_add [vR 10 0, vI a, vR 41 0] M (fun r M' => r = some (vI (nI 2)) ∧ M' = M) := by
  refine MetH.of (ls := [some (vR 10 0), some (vI a), some (vR 41 0), none]) (by decide) rfl (Nat.le_of_ble_eq_true rfl) rfl ?_
  intro hM0 z hx ht
  refine RnE.aload_n (pc := 0) dL_add_0 rfl rfl ?_
  refine RnE.iconst (pc := 1) (v := nI 0) dL_add_1 (by decide) ?_
  refine RnE.aload_n (pc := 2) dL_add_2 rfl rfl ?_
  refine RnE.iload_n (pc := 3) dL_add_3 rfl rfl ?_
  refine RnE.callX (Iy := jX11_add) (I0 := iX11_add) (as := [_]) hx cvL_15 ⟨rfl, rfl, rfl, rfl, rfl⟩ ⟨by decide, rfl⟩ ⟨by decide, by decide⟩ dL_add_4 (Nat.le_of_ble_eq_true rfl) rfl h ?_
  refine RnT.catchN [{ startPc := 0, endPc := 9, handlerPc := 12, catchType := 19 }] { startPc := 0, endPc := 9, handlerPc := 15, catchType := 13 } [] ht (fun y h9 => Or.inr (by rw [List.mem_singleton.mp h9]; exact ⟨by decide, _, wlA, hx.2.2.2.1⟩)) (by decide) (by decide) wlS hx xcS dL_add_15 rfl (by decide) rfl ?_
  refine RnE.iconst (pc := 16) (v := nI 2) dL_add_16 (by decide) ?_
  refine RnE.iret (by decide) (by decide) (pc := 17) rfl dL_add_17 ?_
  exact ⟨rfl, rfl⟩
set_option maxRecDepth 20000 in
set_option maxHeartbeats 4000000 in
theorem h_change_ok (G : GX) {M : Mem} (a b : Int32) {P : Option AV → Mem → Prop} (hP : ∀ r M', P r M' → r = none) (h : MetM G yX11_change iX11_change [vR 10 0, vI a, vI b] M P) : MetH G yL_change jL_change tL_change [vR 10 0, vI a, vI b] M (fun r M' => r = some (vI (nI 0)) ∧ P none M') := by
  refine MetH.of (ls := [some (vR 10 0), some (vI a), some (vI b), none]) (by decide) rfl (Nat.le_of_ble_eq_true rfl) rfl ?_
  intro hM0 z hx ht
  refine RnE.aload_n (pc := 0) dL_change_0 rfl rfl ?_
  refine RnE.iload_n (pc := 1) dL_change_1 rfl rfl ?_
  refine RnE.iload_n (pc := 2) dL_change_2 rfl rfl ?_
  refine RnE.callV (pc := 3) (as := [_, _]) cvL_21 ⟨by decide, rfl⟩ ⟨by decide, by decide⟩ dL_change_3 (Nat.le_of_ble_eq_true rfl) rfl h ?_
  intro r M1 hp
  obtain rfl := hP _ _ hp
  refine RnE.goto (pc := 6) (tgt := 12) dL_change_6 (by decide) ?_
  refine RnE.iconst (pc := 12) (v := nI 0) dL_change_12 (by decide) ?_
  refine RnE.iret (by decide) (by decide) (pc := 13) rfl dL_change_13 ?_
  exact ⟨rfl, hp⟩
set_option maxRecDepth 20000 in
set_option maxHeartbeats 4000000 in
theorem h_change_x (G : GX) {M : Mem} (a b : Int32) (h : MetX G yX11_change jX11_change [vR 10 0, vI a, vI b] M nIA) : MetH G yL_change jL_change tL_change [vR 10 0, vI a, vI b] M (fun r M' => r = some (vI (nI 1)) ∧ M' = M) := by
  refine MetH.of (ls := [some (vR 10 0), some (vI a), some (vI b), none]) (by decide) rfl (Nat.le_of_ble_eq_true rfl) rfl ?_
  intro hM0 z hx ht
  refine RnE.aload_n (pc := 0) dL_change_0 rfl rfl ?_
  refine RnE.iload_n (pc := 1) dL_change_1 rfl rfl ?_
  refine RnE.iload_n (pc := 2) dL_change_2 rfl rfl ?_
  refine RnE.callX (Iy := jX11_change) (I0 := iX11_change) (as := [_, _]) hx cvL_21 ⟨rfl, rfl, rfl, rfl, rfl⟩ ⟨by decide, rfl⟩ ⟨by decide, by decide⟩ dL_change_3 (Nat.le_of_ble_eq_true rfl) rfl h ?_
  refine RnT.catchN [] { startPc := 0, endPc := 6, handlerPc := 9, catchType := 19 } [] ht (fun y h9 => nomatch h9) (by decide) (by decide) wlA hx xcA dL_change_9 rfl (by decide) rfl ?_
  refine RnE.iconst (pc := 10) (v := nI 1) dL_change_10 (by decide) ?_
  refine RnE.iret (by decide) (by decide) (pc := 11) rfl dL_change_11 ?_
  exact ⟨rfl, rfl⟩
set_option maxRecDepth 20000 in
set_option maxHeartbeats 4000000 in
theorem h_drop_ok (G : GX) {M : Mem} (a : Int32) {P : Option AV → Mem → Prop} (hP : ∀ r M', P r M' → ∃ x, r = some (vI x)) (h : MetM G yX11_drop iX11_drop [vR 10 0, vI a] M P) : MetH G yL_drop jL_drop tL_drop [vR 10 0, vI a, vR 41 0] M (fun r M' => r = some (vI (nI 0)) ∧ ∃ x M1, P (some (vI x)) M1 ∧ M' = sJ M1 41 0 0 x.toInt64) := by
  refine MetH.of (ls := [some (vR 10 0), some (vI a), some (vR 41 0), none]) (by decide) rfl (Nat.le_of_ble_eq_true rfl) rfl ?_
  intro hM0 z hx ht
  refine RnE.aload_n (pc := 0) dL_drop_0 rfl rfl ?_
  refine RnE.iconst (pc := 1) (v := nI 0) dL_drop_1 (by decide) ?_
  refine RnE.aload_n (pc := 2) dL_drop_2 rfl rfl ?_
  refine RnE.iload_n (pc := 3) dL_drop_3 rfl rfl ?_
  refine RnE.callV (pc := 4) (as := [_]) cvL_25 ⟨by decide, rfl⟩ ⟨by decide, by decide⟩ dL_drop_4 (Nat.le_of_ble_eq_true rfl) rfl h ?_
  intro r M1 hp
  obtain ⟨x, rfl⟩ := hP _ _ hp
  refine RnE.i2l (pc := 7) dL_drop_7 ?_
  refine RnE.lastN (pc := 8) ak41 (by omega) (by decide) dL_drop_8 ?_
  refine RnE.goto (pc := 9) (tgt := 15) dL_drop_9 (by decide) ?_
  refine RnE.iconst (pc := 15) (v := nI 0) dL_drop_15 (by decide) ?_
  refine RnE.iret (by decide) (by decide) (pc := 16) rfl dL_drop_16 ?_
  exact ⟨rfl, x, M1, hp, rfl⟩
set_option maxRecDepth 20000 in
set_option maxHeartbeats 4000000 in
theorem h_drop_x (G : GX) {M : Mem} (a : Int32) (h : MetX G yX11_drop jX11_drop [vR 10 0, vI a] M nIA) : MetH G yL_drop jL_drop tL_drop [vR 10 0, vI a, vR 41 0] M (fun r M' => r = some (vI (nI 1)) ∧ M' = M) := by
  refine MetH.of (ls := [some (vR 10 0), some (vI a), some (vR 41 0), none]) (by decide) rfl (Nat.le_of_ble_eq_true rfl) rfl ?_
  intro hM0 z hx ht
  refine RnE.aload_n (pc := 0) dL_drop_0 rfl rfl ?_
  refine RnE.iconst (pc := 1) (v := nI 0) dL_drop_1 (by decide) ?_
  refine RnE.aload_n (pc := 2) dL_drop_2 rfl rfl ?_
  refine RnE.iload_n (pc := 3) dL_drop_3 rfl rfl ?_
  refine RnE.callX (Iy := jX11_drop) (I0 := iX11_drop) (as := [_]) hx cvL_25 ⟨rfl, rfl, rfl, rfl, rfl⟩ ⟨by decide, rfl⟩ ⟨by decide, by decide⟩ dL_drop_4 (Nat.le_of_ble_eq_true rfl) rfl h ?_
  refine RnT.catchN [] { startPc := 0, endPc := 9, handlerPc := 12, catchType := 19 } [] ht (fun y h9 => nomatch h9) (by decide) (by decide) wlA hx xcA dL_drop_12 rfl (by decide) rfl ?_
  refine RnE.iconst (pc := 13) (v := nI 1) dL_drop_13 (by decide) ?_
  refine RnE.iret (by decide) (by decide) (pc := 14) rfl dL_drop_14 ?_
  exact ⟨rfl, rfl⟩
set_option maxRecDepth 20000 in
set_option maxHeartbeats 4000000 in
theorem h_fault_ok (G : GX) {M : Mem} (a : Int32) {P : Option AV → Mem → Prop} (hP : ∀ r M', P r M' → ∃ x, r = some (vI x)) (h : MetM G yX11_fault iX11_fault [vR 10 0, vI a] M P) : MetH G yL_fault jL_fault tL_fault [vR 10 0, vI a, vR 41 0] M (fun r M' => r = some (vI (nI 0)) ∧ ∃ x M1, P (some (vI x)) M1 ∧ M' = sJ M1 41 0 0 x.toInt64) := by
  refine MetH.of (ls := [some (vR 10 0), some (vI a), some (vR 41 0), none]) (by decide) rfl (Nat.le_of_ble_eq_true rfl) rfl ?_
  intro hM0 z hx ht
  refine RnE.aload_n (pc := 0) dL_fault_0 rfl rfl ?_
  refine RnE.iconst (pc := 1) (v := nI 0) dL_fault_1 (by decide) ?_
  refine RnE.aload_n (pc := 2) dL_fault_2 rfl rfl ?_
  refine RnE.iload_n (pc := 3) dL_fault_3 rfl rfl ?_
  refine RnE.callV (pc := 4) (as := [_]) cvL_28 ⟨by decide, rfl⟩ ⟨by decide, by decide⟩ dL_fault_4 (Nat.le_of_ble_eq_true rfl) rfl h ?_
  intro r M1 hp
  obtain ⟨x, rfl⟩ := hP _ _ hp
  refine RnE.i2l (pc := 7) dL_fault_7 ?_
  refine RnE.lastN (pc := 8) ak41 (by omega) (by decide) dL_fault_8 ?_
  refine RnE.goto (pc := 9) (tgt := 15) dL_fault_9 (by decide) ?_
  refine RnE.iconst (pc := 15) (v := nI 0) dL_fault_15 (by decide) ?_
  refine RnE.iret (by decide) (by decide) (pc := 16) rfl dL_fault_16 ?_
  exact ⟨rfl, x, M1, hp, rfl⟩
set_option maxRecDepth 20000 in
set_option maxHeartbeats 4000000 in
theorem h_fault_x (G : GX) {M : Mem} (a : Int32) (h : MetX G yX11_fault jX11_fault [vR 10 0, vI a] M nIA) : MetH G yL_fault jL_fault tL_fault [vR 10 0, vI a, vR 41 0] M (fun r M' => r = some (vI (nI 1)) ∧ M' = M) := by
  refine MetH.of (ls := [some (vR 10 0), some (vI a), some (vR 41 0), none]) (by decide) rfl (Nat.le_of_ble_eq_true rfl) rfl ?_
  intro hM0 z hx ht
  refine RnE.aload_n (pc := 0) dL_fault_0 rfl rfl ?_
  refine RnE.iconst (pc := 1) (v := nI 0) dL_fault_1 (by decide) ?_
  refine RnE.aload_n (pc := 2) dL_fault_2 rfl rfl ?_
  refine RnE.iload_n (pc := 3) dL_fault_3 rfl rfl ?_
  refine RnE.callX (Iy := jX11_fault) (I0 := iX11_fault) (as := [_]) hx cvL_28 ⟨rfl, rfl, rfl, rfl, rfl⟩ ⟨by decide, rfl⟩ ⟨by decide, by decide⟩ dL_fault_4 (Nat.le_of_ble_eq_true rfl) rfl h ?_
  refine RnT.catchN [] { startPc := 0, endPc := 9, handlerPc := 12, catchType := 19 } [] ht (fun y h9 => nomatch h9) (by decide) (by decide) wlA hx xcA dL_fault_12 rfl (by decide) rfl ?_
  refine RnE.iconst (pc := 13) (v := nI 1) dL_fault_13 (by decide) ?_
  refine RnE.iret (by decide) (by decide) (pc := 14) rfl dL_fault_14 ?_
  exact ⟨rfl, rfl⟩
set_option maxRecDepth 20000 in
set_option maxHeartbeats 4000000 in
theorem h_address_ok (G : GX) {M : Mem} (a : Int32) {P : Option AV → Mem → Prop} (hP : ∀ r M', P r M' → ∃ x, r = some (vI x)) (h : MetM G yX11_address iX11_address [vR 10 0, vI a] M P) : MetH G yL_address jL_address tL_address [vR 10 0, vI a, vR 41 0] M (fun r M' => r = some (vI (nI 0)) ∧ ∃ x M1, P (some (vI x)) M1 ∧ M' = sJ M1 41 0 0 x.toInt64) := by
  refine MetH.of (ls := [some (vR 10 0), some (vI a), some (vR 41 0), none]) (by decide) rfl (Nat.le_of_ble_eq_true rfl) rfl ?_
  intro hM0 z hx ht
  refine RnE.aload_n (pc := 0) dL_address_0 rfl rfl ?_
  refine RnE.iconst (pc := 1) (v := nI 0) dL_address_1 (by decide) ?_
  refine RnE.aload_n (pc := 2) dL_address_2 rfl rfl ?_
  refine RnE.iload_n (pc := 3) dL_address_3 rfl rfl ?_
  refine RnE.callV (pc := 4) (as := [_]) cvL_31 ⟨by decide, rfl⟩ ⟨by decide, by decide⟩ dL_address_4 (Nat.le_of_ble_eq_true rfl) rfl h ?_
  intro r M1 hp
  obtain ⟨x, rfl⟩ := hP _ _ hp
  refine RnE.i2l (pc := 7) dL_address_7 ?_
  refine RnE.lastN (pc := 8) ak41 (by omega) (by decide) dL_address_8 ?_
  refine RnE.goto (pc := 9) (tgt := 15) dL_address_9 (by decide) ?_
  refine RnE.iconst (pc := 15) (v := nI 0) dL_address_15 (by decide) ?_
  refine RnE.iret (by decide) (by decide) (pc := 16) rfl dL_address_16 ?_
  exact ⟨rfl, x, M1, hp, rfl⟩
set_option maxRecDepth 20000 in
set_option maxHeartbeats 4000000 in
theorem h_address_x (G : GX) {M : Mem} (a : Int32) (h : MetX G yX11_address jX11_address [vR 10 0, vI a] M nIA) : MetH G yL_address jL_address tL_address [vR 10 0, vI a, vR 41 0] M (fun r M' => r = some (vI (nI 1)) ∧ M' = M) := by
  refine MetH.of (ls := [some (vR 10 0), some (vI a), some (vR 41 0), none]) (by decide) rfl (Nat.le_of_ble_eq_true rfl) rfl ?_
  intro hM0 z hx ht
  refine RnE.aload_n (pc := 0) dL_address_0 rfl rfl ?_
  refine RnE.iconst (pc := 1) (v := nI 0) dL_address_1 (by decide) ?_
  refine RnE.aload_n (pc := 2) dL_address_2 rfl rfl ?_
  refine RnE.iload_n (pc := 3) dL_address_3 rfl rfl ?_
  refine RnE.callX (Iy := jX11_address) (I0 := iX11_address) (as := [_]) hx cvL_31 ⟨rfl, rfl, rfl, rfl, rfl⟩ ⟨by decide, rfl⟩ ⟨by decide, by decide⟩ dL_address_4 (Nat.le_of_ble_eq_true rfl) rfl h ?_
  refine RnT.catchN [] { startPc := 0, endPc := 9, handlerPc := 12, catchType := 19 } [] ht (fun y h9 => nomatch h9) (by decide) (by decide) wlA hx xcA dL_address_12 rfl (by decide) rfl ?_
  refine RnE.iconst (pc := 13) (v := nI 1) dL_address_13 (by decide) ?_
  refine RnE.iret (by decide) (by decide) (pc := 14) rfl dL_address_14 ?_
  exact ⟨rfl, rfl⟩
set_option maxRecDepth 20000 in
set_option maxHeartbeats 4000000 in
theorem h_size_ok (G : GX) {M : Mem} (a b : Int32) {P : Option AV → Mem → Prop} (hP : ∀ r M', P r M' → ∃ x, r = some (vI x)) (h : MetM G yX11_size iX11_size [vR 10 0, vI a, vI b] M P) : MetH G yL_size jL_size tL_size [vR 10 0, vI a, vI b, vR 41 0] M (fun r M' => r = some (vI (nI 0)) ∧ ∃ x M1, P (some (vI x)) M1 ∧ M' = sJ M1 41 0 0 x.toInt64) := by
  refine MetH.of (ls := [some (vR 10 0), some (vI a), some (vI b), some (vR 41 0), none]) (by decide) rfl (Nat.le_of_ble_eq_true rfl) rfl ?_
  intro hM0 z hx ht
  refine RnE.aload_n (pc := 0) dL_size_0 rfl rfl ?_
  refine RnE.iconst (pc := 1) (v := nI 0) dL_size_1 (by decide) ?_
  refine RnE.aload_n (pc := 2) dL_size_2 rfl rfl ?_
  refine RnE.iload_n (pc := 3) dL_size_3 rfl rfl ?_
  refine RnE.iload_n (pc := 4) dL_size_4 rfl rfl ?_
  refine RnE.callV (pc := 5) (as := [_, _]) cvL_34 ⟨by decide, rfl⟩ ⟨by decide, by decide⟩ dL_size_5 (Nat.le_of_ble_eq_true rfl) rfl h ?_
  intro r M1 hp
  obtain ⟨x, rfl⟩ := hP _ _ hp
  refine RnE.i2l (pc := 8) dL_size_8 ?_
  refine RnE.lastN (pc := 9) ak41 (by omega) (by decide) dL_size_9 ?_
  refine RnE.goto (pc := 10) (tgt := 17) dL_size_10 (by decide) ?_
  refine RnE.iconst (pc := 17) (v := nI 0) dL_size_17 (by decide) ?_
  refine RnE.iret (by decide) (by decide) (pc := 18) rfl dL_size_18 ?_
  exact ⟨rfl, x, M1, hp, rfl⟩
set_option maxRecDepth 20000 in
set_option maxHeartbeats 4000000 in
theorem h_size_x (G : GX) {M : Mem} (a b : Int32) (h : MetX G yX11_size jX11_size [vR 10 0, vI a, vI b] M nIA) : MetH G yL_size jL_size tL_size [vR 10 0, vI a, vI b, vR 41 0] M (fun r M' => r = some (vI (nI 1)) ∧ M' = M) := by
  refine MetH.of (ls := [some (vR 10 0), some (vI a), some (vI b), some (vR 41 0), none]) (by decide) rfl (Nat.le_of_ble_eq_true rfl) rfl ?_
  intro hM0 z hx ht
  refine RnE.aload_n (pc := 0) dL_size_0 rfl rfl ?_
  refine RnE.iconst (pc := 1) (v := nI 0) dL_size_1 (by decide) ?_
  refine RnE.aload_n (pc := 2) dL_size_2 rfl rfl ?_
  refine RnE.iload_n (pc := 3) dL_size_3 rfl rfl ?_
  refine RnE.iload_n (pc := 4) dL_size_4 rfl rfl ?_
  refine RnE.callX (Iy := jX11_size) (I0 := iX11_size) (as := [_, _]) hx cvL_34 ⟨rfl, rfl, rfl, rfl, rfl⟩ ⟨by decide, rfl⟩ ⟨by decide, by decide⟩ dL_size_5 (Nat.le_of_ble_eq_true rfl) rfl h ?_
  refine RnT.catch [] { startPc := 0, endPc := 10, handlerPc := 13, catchType := 19 } [] ht (fun y h9 => nomatch h9) (by decide) (by decide) wlA hx xcA dL_size_13 (by decide) rfl ?_
  refine RnE.iconst (pc := 15) (v := nI 1) dL_size_15 (by decide) ?_
  refine RnE.iret (by decide) (by decide) (pc := 16) rfl dL_size_16 ?_
  exact ⟨rfl, rfl⟩
