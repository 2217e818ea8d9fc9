theorem rbs_cg {f g : Nat → Nat} {many j : Nat} (h : ∀ i, i < many + 4 → f i = g i) (hj : j ≤ many + 4) : rbs f many j = rbs g many j := by
  unfold rbs
  by_cases q : j = many + 4
  · rw [if_pos q, if_pos q, rsum_cg _ h]
  · rw [if_neg q, if_neg q]; exact h j (by omega)
theorem rch_cg {f g : Nat → Nat} {many c : Nat} (h : ∀ i, i < many + 4 → f i = g i) (hc : c < 12 + 2 * many) : rch f many c = rch g many c := by
  unfold rch
  by_cases q : c = 0
  · rw [if_pos q, if_pos q]
  rw [if_neg q, if_neg q]
  by_cases q2 : c = 11 + 2 * many
  · rw [if_pos q2, if_pos q2]
  rw [if_neg q2, if_neg q2, rbs_cg h (by omega)]
theorem first_rec {im : Nat → Nat} {k : Nat} (h : k < 16) : sbc 51 k = rch (rb 4 0 2 im) 2 k := by
  rw [rch_cg (g := rb 4 0 2 (fun _ => 0)) (fun i _ => by unfold rb; simp) (by omega)]
  exact (show ∀ k, k < 16 → sbc 51 k = rch (rb 4 0 2 (fun _ => 0)) 2 k by decide +kernel) k h
theorem last_rec {im : Nat → Nat} {k : Nat} (h : k < 12) : sbc 52 k = rch (rb 1 0 0 im) 0 k := by
  rw [rch_cg (g := rb 1 0 0 (fun _ => 0)) (fun i hi => by
    unfold rb
    by_cases h0 : i = 0; · rw [if_pos h0, if_pos h0]
    by_cases h1 : i = 1; · rw [if_neg h0, if_neg h0, if_pos h1, if_pos h1]
    by_cases h2 : i = 2; · rw [if_neg h0, if_neg h0, if_neg h1, if_neg h1, if_pos h2, if_pos h2]
    rw [if_neg h0, if_neg h0, if_neg h1, if_neg h1, if_neg h2, if_neg h2, if_pos (by omega), if_pos (by omega)]) (by omega)]
  exact (show ∀ k, k < 12 → sbc 52 k = rch (rb 1 0 0 (fun _ => 0)) 0 k by decide +kernel) k h
theorem dg_sb {d : Nat} (h : d < 16) : sbc 53 d = dg d := (show ∀ d, d < 16 → sbc 53 d = dg d by decide +kernel) d h
theorem Rn.mmin {G : GX} {I : MIx} {Post : Option AV → Mem → Prop} {pc : Nat} {ls : List (Option AV)} {M : Mem} {x y : Int32} {index : Nat} (hcs : CS I.2.1 index yJ9_min_7cf53 iJ9_min_7cf53 2) (hf : 1 ≤ I.2.2.2.2.frames) (hlo : 13 ≤ I.2.2.2.2.locals) (hd : decode I.1 pc = .ok (.invokestatic index, 3)) (k9 : Rn G I Post (pc + 3) ls [vI (if y < x then y else x)] M) : Rn G I Post pc ls [vI y, vI x] M := by
  intro p e s m args below meth c hc H locs lsA hP hS hL hM hLs hSt
  have hgood : ∀ w ∈ gw_tbl, w.before args s = true := hc.2.2.2.2.2.1
  exact va_mmin (own := I.2.1) (index := index) (rest := []) hc.1 hc.2.1 (hc.2.2.1.trans hL.1.symm) hc.2.2.2.2.1 (hgood _ hcs.1.1) (hgood _ hcs.1.2.1) (hgood _ hcs.1.2.2.1) (hgood _ hcs.1.2.2.2) hf (by show 0 + 13 ≤ _; omega) (Nat.zero_le _) (Nat.zero_le _) hd (k9 p e s m args below meth c hc H locs lsA hP hS hL hM hLs (hSt.d.d.I _))
theorem min_v {a b : Nat} (ha : a < 2 ^ 31) (hb : b < 2 ^ 31) : (if nI b < nI a then nI b else nI a) = nI (min a b) := by
  by_cases q : b < a
  · rw [if_pos ((nI_ltI hb ha).mpr q), show min a b = b by omega]
  · rw [if_neg (fun z => q ((nI_ltI hb ha).mp z)), show min a b = a by omega]
set_option maxRecDepth 20000 in
set_option maxHeartbeats 4000000 in
theorem k_plain_0 (G : GX) {M : Mem} (j z fr held : Nat) (hz : z ≤ 2048) (hl : mI M 2 j 1 = nI z) (hf : fr + held ≤ z) : MetM G yX2_plainRecordByte iX2_plainRecordByte [vR 2 j, vI (nI fr), vI (nI held), vI (nI 0)] M (fun r M' => r = some (vI (nI (rb 0 fr held (fun q => imC j M (fr + q)) 0))) ∧ M' = M) := by
  refine MetM.of (ls := [some (vR 2 j), some (vI (nI fr)), some (vI (nI held)), some (vI (nI 0))]) (by decide) rfl (Nat.le_of_ble_eq_true rfl) rfl ?_
  intro hM0
  refine Rn.iload_n (pc := 0) dX2_plainRecordByte_0 rfl rfl ?_
  refine Rn.tableIn (pc := 1) (off := 31) (tgt := 32) dX2_plainRecordByte_1 (by decide) (by decide) rfl (by decide) ?_
  refine Rn.iload_n (pc := 32) dX2_plainRecordByte_32 rfl rfl ?_
  refine Rn.iret (pc := 33) rfl dX2_plainRecordByte_33 ?_
  exact ⟨rfl, rfl⟩

set_option maxRecDepth 20000 in
set_option maxHeartbeats 4000000 in
theorem k_plain_1 (G : GX) {M : Mem} (j z fr held : Nat) (hz : z ≤ 2048) (hl : mI M 2 j 1 = nI z) (hf : fr + held ≤ z) : MetM G yX2_plainRecordByte iX2_plainRecordByte [vR 2 j, vI (nI fr), vI (nI held), vI (nI 1)] M (fun r M' => r = some (vI (nI (rb 0 fr held (fun q => imC j M (fr + q)) 1))) ∧ M' = M) := by
  refine MetM.of (ls := [some (vR 2 j), some (vI (nI fr)), some (vI (nI held)), some (vI (nI 1))]) (by decide) rfl (Nat.le_of_ble_eq_true rfl) rfl ?_
  intro hM0
  refine Rn.iload_n (pc := 0) dX2_plainRecordByte_0 rfl rfl ?_
  refine Rn.tableIn (pc := 1) (off := 33) (tgt := 34) dX2_plainRecordByte_1 (by decide) (by decide) rfl (by decide) ?_
  refine Rn.iload_n (pc := 34) dX2_plainRecordByte_34 rfl rfl ?_
  refine Rn.bipush (pc := 35) (v := nI 8) dX2_plainRecordByte_35 (by decide) ?_
  refine Rn.ishr (pc := 37) dX2_plainRecordByte_37 ?_
  rw [pk_shrN (by omega) _ 8 (by decide)]
  refine Rn.sipush (pc := 38) (v := nI 255) dX2_plainRecordByte_38 (by decide) ?_
  refine Rn.iand (pc := 41) dX2_plainRecordByte_41 ?_
  rw [pk_andN (by omega) 8 (by decide), Nat.mod_eq_of_lt (by omega)]
  refine Rn.iret (pc := 42) rfl dX2_plainRecordByte_42 ?_
  exact ⟨rfl, rfl⟩

set_option maxRecDepth 20000 in
set_option maxHeartbeats 4000000 in
theorem k_plain_2 (G : GX) {M : Mem} (j z fr held : Nat) (hz : z ≤ 2048) (hl : mI M 2 j 1 = nI z) (hf : fr + held ≤ z) : MetM G yX2_plainRecordByte iX2_plainRecordByte [vR 2 j, vI (nI fr), vI (nI held), vI (nI 2)] M (fun r M' => r = some (vI (nI (rb 0 fr held (fun q => imC j M (fr + q)) 2))) ∧ M' = M) := by
  refine MetM.of (ls := [some (vR 2 j), some (vI (nI fr)), some (vI (nI held)), some (vI (nI 2))]) (by decide) rfl (Nat.le_of_ble_eq_true rfl) rfl ?_
  intro hM0
  refine Rn.iload_n (pc := 0) dX2_plainRecordByte_0 rfl rfl ?_
  refine Rn.tableIn (pc := 1) (off := 42) (tgt := 43) dX2_plainRecordByte_1 (by decide) (by decide) rfl (by decide) ?_
  refine Rn.iload_n (pc := 43) dX2_plainRecordByte_43 rfl rfl ?_
  refine Rn.sipush (pc := 44) (v := nI 255) dX2_plainRecordByte_44 (by decide) ?_
  refine Rn.iand (pc := 47) dX2_plainRecordByte_47 ?_
  rw [pk_andN (by omega) 8 (by decide)]
  refine Rn.iret (pc := 48) rfl dX2_plainRecordByte_48 ?_
  exact ⟨rfl, rfl⟩

set_option maxRecDepth 20000 in
set_option maxHeartbeats 4000000 in
theorem k_plain_3 (G : GX) {M : Mem} (j z fr held : Nat) (hz : z ≤ 2048) (hl : mI M 2 j 1 = nI z) (hf : fr + held ≤ z) : MetM G yX2_plainRecordByte iX2_plainRecordByte [vR 2 j, vI (nI fr), vI (nI held), vI (nI 3)] M (fun r M' => r = some (vI (nI (rb 0 fr held (fun q => imC j M (fr + q)) 3))) ∧ M' = M) := by
  refine MetM.of (ls := [some (vR 2 j), some (vI (nI fr)), some (vI (nI held)), some (vI (nI 3))]) (by decide) rfl (Nat.le_of_ble_eq_true rfl) rfl ?_
  intro hM0
  refine Rn.iload_n (pc := 0) dX2_plainRecordByte_0 rfl rfl ?_
  refine Rn.tableIn (pc := 1) (off := 48) (tgt := 49) dX2_plainRecordByte_1 (by decide) (by decide) rfl (by decide) ?_
  refine Rn.iconst (pc := 49) (v := nI 0) dX2_plainRecordByte_49 (by decide) ?_
  refine Rn.iret (pc := 50) rfl dX2_plainRecordByte_50 ?_
  exact ⟨rfl, rfl⟩

set_option maxRecDepth 20000 in
set_option maxHeartbeats 4000000 in
theorem k_plain_4 (G : GX) {M : Mem} (j z fr held : Nat) (hz : z ≤ 2048) (hl : mI M 2 j 1 = nI z) (hf : fr + held ≤ z) (k : Nat) (h4 : 4 ≤ k) (hk : k < held + 4) : MetM G yX2_plainRecordByte iX2_plainRecordByte [vR 2 j, vI (nI fr), vI (nI held), vI (nI k)] M (fun r M' => r = some (vI (nI (rb 0 fr held (fun q => imC j M (fr + q)) k))) ∧ M' = M) := by
  refine MetM.of (ls := [some (vR 2 j), some (vI (nI fr)), some (vI (nI held)), some (vI (nI k))]) (by decide) rfl (Nat.le_of_ble_eq_true rfl) rfl ?_
  intro hM0
  refine Rn.iload_n (pc := 0) dX2_plainRecordByte_0 rfl rfl ?_
  refine Rn.tableOut (pc := 1) (tgt := 51) dX2_plainRecordByte_1 (Or.inr (by rw [nI_toInt (by omega)]; omega)) (by decide) ?_
  refine Rn.aload_n (pc := 51) dX2_plainRecordByte_51 rfl rfl ?_
  refine Rn.iload_n (pc := 52) dX2_plainRecordByte_52 rfl rfl ?_
  refine Rn.iload_n (pc := 53) dX2_plainRecordByte_53 rfl rfl ?_
  refine Rn.iaddN (pc := 54) dX2_plainRecordByte_54 ?_
  refine Rn.iconst (pc := 55) (v := nI 4) dX2_plainRecordByte_55 (by decide) ?_
  refine Rn.isub (pc := 56) dX2_plainRecordByte_56 ?_
  rw [pk_sub (by omega)]
  refine Rn.callV (pc := 57) (as := [_]) cvX2_64 ⟨by decide, rfl⟩ ⟨by decide, by decide⟩ dX2_plainRecordByte_57 (Nat.le_of_ble_eq_true rfl) rfl (k_byteAt_in G j z (fr + k - 4) hz hl (by omega)) ?_
  rintro _ _ ⟨rfl, rfl⟩
  refine Rn.iret (pc := 60) rfl dX2_plainRecordByte_60 ?_
  refine ⟨?_, rfl⟩
  rw [imC_b]
  unfold rb
  rw [if_neg (by omega), if_neg (by omega), if_neg (by omega), if_neg (by omega), if_neg (by decide), show fr + k - 4 = fr + (k - 4) by omega]

theorem k_plain (G : GX) {M : Mem} (j z fr held : Nat) (hz : z ≤ 2048) (hl : mI M 2 j 1 = nI z) (hf : fr + held ≤ z) (k : Nat) (hk : k < held + 4) : MetM G yX2_plainRecordByte iX2_plainRecordByte [vR 2 j, vI (nI fr), vI (nI held), vI (nI k)] M (fun r M' => r = some (vI (nI (rb 0 fr held (fun q => imC j M (fr + q)) k))) ∧ M' = M) := by
  rcases (show k = 0 ∨ k = 1 ∨ k = 2 ∨ k = 3 ∨ 4 ≤ k by omega) with rfl | rfl | rfl | rfl | h
  · exact k_plain_0 G j z fr held hz hl hf
  · exact k_plain_1 G j z fr held hz hl hf
  · exact k_plain_2 G j z fr held hz hl hf
  · exact k_plain_3 G j z fr held hz hl hf
  · exact k_plain_4 G j z fr held hz hl hf k h hk
theorem rb_lt {M : Mem} {j fr held k : Nat} (hf : fr ≤ 2048) (hh : held ≤ 16) : rb 0 fr held (fun q => imC j M (fr + q)) k < 256 := by
  unfold rb
  split; · omega
  split; · omega
  split; · omega
  split; · omega
  split; · decide
  exact bt_lt
set_option maxRecDepth 20000 in
set_option maxHeartbeats 4000000 in
theorem k_recordByte (G : GX) {M : Mem} (j z fr held : Nat) (hz : z ≤ 2048) (hl : mI M 2 j 1 = nI z) (hf : fr + held ≤ z) (hh : held ≤ 16) (k : Nat) (hk : k ≤ held + 4) : MetM G yX2_recordByte iX2_recordByte [vR 2 j, vI (nI fr), vI (nI held), vI (nI k)] M (fun r M' => r = some (vI (nI (rbs (rb 0 fr held (fun q => imC j M (fr + q))) held k))) ∧ M' = M) := by
  refine MetM.of (ls := [some (vR 2 j), some (vI (nI fr)), some (vI (nI held)), some (vI (nI k)), none, none]) (by decide) rfl (Nat.le_of_ble_eq_true rfl) rfl ?_
  intro hM0
  have loop : k = held + 4 → ∀ (d t : Nat), held + 4 - t = d → t ≤ held + 4 → Rn G iX2_recordByte (fun r M' => r = some (vI (nI (rbs (rb 0 fr held (fun q => imC j M (fr + q))) held k))) ∧ M' = M) 13 [some (vR 2 j), some (vI (nI fr)), some (vI (nI held)), some (vI (nI k)), some (vI (nI (rsum (rb 0 fr held (fun q => imC j M (fr + q))) t))), some (vI (nI t))] [] M := by
    intro hk4 d
    induction d using Nat.strongRecOn with
    | ind d ih =>
      intro t hd ht
      refine Rn.iload (pc := 13) dX2_recordByte_13 rfl ?_
      refine Rn.iload_n (pc := 15) dX2_recordByte_15 rfl rfl ?_
      refine Rn.iconst (pc := 16) (v := nI 4) dX2_recordByte_16 (by decide) ?_
      refine Rn.iaddN (pc := 17) dX2_recordByte_17 ?_
      refine Rn.icmp_geN (pc := 18) (tgt := 40) dX2_recordByte_18 (by decide) (by omega) (by omega) (fun c18 => ?_) (fun c18 => ?_)
      · refine Rn.iload (pc := 40) dX2_recordByte_40 rfl ?_
        refine Rn.ineg (pc := 42) dX2_recordByte_42 ?_
        refine Rn.sipush (pc := 43) (v := nI 255) dX2_recordByte_43 (by decide) ?_
        refine Rn.iand (pc := 46) dX2_recordByte_46 ?_
        rw [bt_0]
        refine Rn.iret (pc := 47) rfl dX2_recordByte_47 ?_
        have ht4 : t = held + 4 := by omega
        subst ht4
        refine ⟨?_, rfl⟩; unfold rbs; rw [if_pos hk4]
      · refine Rn.iload (pc := 21) dX2_recordByte_21 rfl ?_
        refine Rn.aload_n (pc := 23) dX2_recordByte_23 rfl rfl ?_
        refine Rn.iload_n (pc := 24) dX2_recordByte_24 rfl rfl ?_
        refine Rn.iload_n (pc := 25) dX2_recordByte_25 rfl rfl ?_
        refine Rn.iload (pc := 26) dX2_recordByte_26 rfl ?_
        refine Rn.callV (pc := 28) (as := [_, _, _]) cvX2_61 ⟨by decide, rfl⟩ ⟨by decide, by decide⟩ dX2_recordByte_28 (Nat.le_of_ble_eq_true rfl) rfl (k_plain G j z fr held hz hl hf t (by omega)) ?_
        rintro _ M9 ⟨rfl, h9⟩
        rw [h9]
        refine Rn.iaddN (pc := 31) dX2_recordByte_31 ?_
        refine Rn.istore (pc := 32) dX2_recordByte_32 (by decide) rfl st6_4 ?_
        refine Rn.iincN (pc := 34) (n := 1) dX2_recordByte_34 rfl (by decide) (by decide) rfl st6_5 ?_
        refine Rn.goto (pc := 37) (tgt := 13) dX2_recordByte_37 (by decide) ?_
        exact ih (held + 4 - (t + 1)) (by omega) (t + 1) rfl (by omega)
  refine Rn.iload_n (pc := 0) dX2_recordByte_0 rfl rfl ?_
  refine Rn.iload_n (pc := 1) dX2_recordByte_1 rfl rfl ?_
  refine Rn.iconst (pc := 2) (v := nI 4) dX2_recordByte_2 (by decide) ?_
  refine Rn.iaddN (pc := 3) dX2_recordByte_3 ?_
  refine Rn.icmp_neN (pc := 4) (tgt := 48) dX2_recordByte_4 (by decide) (by omega) (by omega) (fun c4 => ?_) (fun c4 => ?_)
  · refine Rn.aload_n (pc := 48) dX2_recordByte_48 rfl rfl ?_
    refine Rn.iload_n (pc := 49) dX2_recordByte_49 rfl rfl ?_
    refine Rn.iload_n (pc := 50) dX2_recordByte_50 rfl rfl ?_
    refine Rn.iload_n (pc := 51) dX2_recordByte_51 rfl rfl ?_
    refine Rn.callV (pc := 52) (as := [_, _, _]) cvX2_61 ⟨by decide, rfl⟩ ⟨by decide, by decide⟩ dX2_recordByte_52 (Nat.le_of_ble_eq_true rfl) rfl (k_plain G j z fr held hz hl hf k (by omega)) ?_
    rintro _ M9 ⟨rfl, h9⟩
    rw [h9]
    refine Rn.iret (pc := 55) rfl dX2_recordByte_55 ?_
    refine ⟨?_, rfl⟩; unfold rbs; rw [if_neg c4]
  · refine Rn.iconst (pc := 7) (v := nI 0) dX2_recordByte_7 (by decide) ?_
    refine Rn.istore (pc := 8) dX2_recordByte_8 (by decide) rfl st6_4 ?_
    refine Rn.iconst (pc := 10) (v := nI 0) dX2_recordByte_10 (by decide) ?_
    refine Rn.istore (pc := 11) dX2_recordByte_11 (by decide) rfl st6_5 ?_
    have hk4 : k = held + 4 := c4
    exact loop hk4 (held + 4) 0 rfl (Nat.zero_le _)

set_option maxRecDepth 20000 in
set_option maxHeartbeats 4000000 in
theorem k_bodyCharacter (G : GX) {M : Mem} (j z i c : Nat) (hz : z ≤ 2048) (hl : mI M 2 j 1 = nI z) (hi : i * 16 < z) (hcl : c < 12 + 2 * (min 16 (z - i * 16))) : MetM G yX2_bodyCharacter iX2_bodyCharacter [vR 2 j, vI (nI i), vI (nI c)] M (fun r M' => r = some (vI (nI (rch (rb 0 (i * 16) (min 16 (z - i * 16)) (fun q => imC j M (i * 16 + q))) (min 16 (z - i * 16)) c))) ∧ M' = M) := by
  refine MetM.of (ls := [some (vR 2 j), some (vI (nI i)), some (vI (nI c)), none, none]) (by decide) rfl (Nat.le_of_ble_eq_true rfl) rfl ?_
  intro hM0
  have hh : (min 16 (z - i * 16)) ≤ 16 := by omega
  have hsbn : sbn 53 = 16 := by decide +kernel
  refine Rn.bipush (pc := 0) (v := nI 16) dX2_bodyCharacter_0 (by decide) ?_
  refine Rn.aload_n (pc := 2) dX2_bodyCharacter_2 rfl rfl ?_
  refine Rn.getI (pc := 3) (t := 0) flX2_21 hl dX2_bodyCharacter_3 ?_
  refine Rn.iload_n (pc := 6) dX2_bodyCharacter_6 rfl rfl ?_
  refine Rn.bipush (pc := 7) (v := nI 16) dX2_bodyCharacter_7 (by decide) ?_
  refine Rn.imulN (pc := 9) dX2_bodyCharacter_9 ?_
  refine Rn.isub (pc := 10) dX2_bodyCharacter_10 ?_
  rw [pk_sub (by omega)]
  refine Rn.mmin csX2_49 (by decide) (by decide) dX2_bodyCharacter_11 ?_
  rw [min_v (by decide) (by omega)]
  refine Rn.istore_n (pc := 14) dX2_bodyCharacter_14 rfl (by decide) rfl st5_3 ?_
  refine Rn.iload_n (pc := 15) dX2_bodyCharacter_15 rfl rfl ?_
  refine Rn.if_ne (pc := 16) (y := 0) (tgt := 22) dX2_bodyCharacter_16 (by decide) (fun c16 => ?_) (fun c16 => ?_)
  · have hc0 : ¬ c = 0 := fun e => c16 (by rw [e]; rfl)
    refine Rn.iload_n (pc := 22) dX2_bodyCharacter_22 rfl rfl ?_
    refine Rn.bipush (pc := 23) (v := nI 12) dX2_bodyCharacter_23 (by decide) ?_
    refine Rn.iconst (pc := 25) (v := nI 2) dX2_bodyCharacter_25 (by decide) ?_
    refine Rn.iload_n (pc := 26) dX2_bodyCharacter_26 rfl rfl ?_
    refine Rn.imulN (pc := 27) dX2_bodyCharacter_27 ?_
    refine Rn.iaddN (pc := 28) dX2_bodyCharacter_28 ?_
    refine Rn.iconst (pc := 29) (v := nI 1) dX2_bodyCharacter_29 (by decide) ?_
    refine Rn.isub (pc := 30) dX2_bodyCharacter_30 ?_
    rw [pk_sub (by omega)]
    refine Rn.icmp_neN (pc := 31) (tgt := 37) dX2_bodyCharacter_31 (by decide) (by omega) (by omega) (fun c31 => ?_) (fun c31 => ?_)
    · refine Rn.aload_n (pc := 37) dX2_bodyCharacter_37 rfl rfl ?_
      refine Rn.iload_n (pc := 38) dX2_bodyCharacter_38 rfl rfl ?_
      refine Rn.bipush (pc := 39) (v := nI 16) dX2_bodyCharacter_39 (by decide) ?_
      refine Rn.imulN (pc := 41) dX2_bodyCharacter_41 ?_
      refine Rn.iload_n (pc := 42) dX2_bodyCharacter_42 rfl rfl ?_
      refine Rn.iload_n (pc := 43) dX2_bodyCharacter_43 rfl rfl ?_
      refine Rn.iconst (pc := 44) (v := nI 1) dX2_bodyCharacter_44 (by decide) ?_
      refine Rn.isub (pc := 45) dX2_bodyCharacter_45 ?_
      rw [pk_sub (by omega)]
      refine Rn.iconst (pc := 46) (v := nI 2) dX2_bodyCharacter_46 (by decide) ?_
      refine Rn.idiv (pc := 47) dX2_bodyCharacter_47 (by decide) ?_
      rw [pk_div (by omega) (by decide) (by decide)]
      refine Rn.callV (pc := 48) (as := [_, _, _]) cvX2_55 ⟨by decide, rfl⟩ ⟨by decide, by decide⟩ dX2_bodyCharacter_48 (Nat.le_of_ble_eq_true rfl) rfl (k_recordByte G j z (i * 16) (min 16 (z - i * 16)) hz hl (by omega) (by omega) ((c - 1) / 2) (by omega)) ?_
      rintro _ M9 ⟨rfl, h9⟩
      rw [h9]
      have hv : (rbs (rb 0 (i * 16) (min 16 (z - i * 16)) (fun q => imC j M (i * 16 + q))) (min 16 (z - i * 16)) ((c - 1) / 2)) < 256 := by
        unfold rbs
        split
        · exact bt_lt
        · exact rb_lt (by omega) (by omega)
      refine Rn.istore (pc := 51) dX2_bodyCharacter_51 (by decide) rfl st5_4 ?_
      refine Rn.ldcS (pc := 53) (j := 53) (tx := "0123456789ABCDEF") dX2_bodyCharacter_53 (by decide) (by decide) ?_
      refine Rn.iload_n (pc := 55) dX2_bodyCharacter_55 rfl rfl ?_
      refine Rn.iconst (pc := 56) (v := nI 1) dX2_bodyCharacter_56 (by decide) ?_
      refine Rn.iand (pc := 57) dX2_bodyCharacter_57 ?_
      rw [pk_andN (by omega) 1 (by decide)]
      refine Rn.iconst (pc := 58) (v := nI 1) dX2_bodyCharacter_58 (by decide) ?_
      refine Rn.icmp_neN (pc := 59) (tgt := 72) dX2_bodyCharacter_59 (by decide) (by omega) (by omega) (fun c59 => ?_) (fun c59 => ?_)
      · refine Rn.iload (pc := 72) dX2_bodyCharacter_72 rfl ?_
        refine Rn.bipush (pc := 74) (v := nI 15) dX2_bodyCharacter_74 (by decide) ?_
        refine Rn.iand (pc := 76) dX2_bodyCharacter_76 ?_
        rw [pk_andN (by omega) 4 (by decide)]
        refine Rn.callO (pc := 77) (as := [_]) cvX2_39 ⟨by decide, by decide⟩ dX2_bodyCharacter_77 (Nat.le_of_ble_eq_true rfl) rfl (k_charAt G 53 ((rbs (rb 0 (i * 16) (min 16 (z - i * 16)) (fun q => imC j M (i * 16 + q))) (min 16 (z - i * 16)) ((c - 1) / 2)) % 2 ^ 4) (by decide) (by omega)) ?_
        rintro _ M9 ⟨rfl, h9⟩
        rw [h9]
        have hs9 := (sb_all 53 (by decide) ((rbs (rb 0 (i * 16) (min 16 (z - i * 16)) (fun q => imC j M (i * 16 + q))) (min 16 (z - i * 16)) ((c - 1) / 2)) % 2 ^ 4) (by omega)).2
        refine Rn.zret (pc := 80) rfl (nI_ch (by omega)) dX2_bodyCharacter_80 ?_
        refine ⟨?_, rfl⟩; unfold rch hc; rw [if_neg hc0, if_neg (by omega), if_neg (by omega), dg_sb (by omega)]
      · refine Rn.iload (pc := 62) dX2_bodyCharacter_62 rfl ?_
        refine Rn.iconst (pc := 64) (v := nI 4) dX2_bodyCharacter_64 (by decide) ?_
        refine Rn.ishr (pc := 65) dX2_bodyCharacter_65 ?_
        rw [pk_shrN (by omega) _ 4 (by decide)]
        refine Rn.bipush (pc := 66) (v := nI 15) dX2_bodyCharacter_66 (by decide) ?_
        refine Rn.iand (pc := 68) dX2_bodyCharacter_68 ?_
        rw [pk_andN (by omega) 4 (by decide)]
        refine Rn.goto (pc := 69) (tgt := 77) dX2_bodyCharacter_69 (by decide) ?_
        refine Rn.callO (pc := 77) (as := [_]) cvX2_39 ⟨by decide, by decide⟩ dX2_bodyCharacter_77 (Nat.le_of_ble_eq_true rfl) rfl (k_charAt G 53 ((rbs (rb 0 (i * 16) (min 16 (z - i * 16)) (fun q => imC j M (i * 16 + q))) (min 16 (z - i * 16)) ((c - 1) / 2)) / 2 ^ 4 % 2 ^ 4) (by decide) (by omega)) ?_
        rintro _ M9 ⟨rfl, h9⟩
        rw [h9]
        have hs9 := (sb_all 53 (by decide) ((rbs (rb 0 (i * 16) (min 16 (z - i * 16)) (fun q => imC j M (i * 16 + q))) (min 16 (z - i * 16)) ((c - 1) / 2)) / 2 ^ 4 % 2 ^ 4) (by omega)).2
        refine Rn.zret (pc := 80) rfl (nI_ch (by omega)) dX2_bodyCharacter_80 ?_
        refine ⟨?_, rfl⟩; unfold rch hc; rw [if_neg hc0, if_neg (by omega), if_pos (by omega), dg_sb (by omega)]
    · refine Rn.bipush (pc := 34) (v := nI 10) dX2_bodyCharacter_34 (by decide) ?_
      refine Rn.zret (pc := 36) rfl (nI_ch (by decide)) dX2_bodyCharacter_36 ?_
      refine ⟨?_, rfl⟩; unfold rch; rw [if_neg hc0, if_pos (by omega)]
  · refine Rn.bipush (pc := 19) (v := nI 58) dX2_bodyCharacter_19 (by decide) ?_
    refine Rn.zret (pc := 21) rfl (nI_ch (by decide)) dX2_bodyCharacter_21 ?_
    have hc0 : c = 0 := rem_z (by omega) c16
    refine ⟨?_, rfl⟩; unfold rch; rw [if_pos hc0]

theorem rch_lt {f : Nat → Nat} {many c : Nat} : rch f many c < 256 := by
  unfold rch hc
  split; · decide
  split; · decide
  split
  · exact dg_lt (by omega)
  · exact dg_lt (by omega)
set_option maxRecDepth 20000 in
set_option maxHeartbeats 4000000 in
theorem k_recordCharacter (G : GX) {M : Mem} (j z k : Nat) (hz : z ≤ 2048) (hz0 : 0 < z) (hk : k < 2 ^ 31) (hl : mI M 2 j 1 = nI z) : MetM G yX2_recordCharacter iX2_recordCharacter [vR 2 j, vI (nI k)] M (fun r M' => r = some (vI (nI (if k < hxz z then hx z (imC j M) k else 32))) ∧ M' = M) := by
  refine MetM.of (ls := [some (vR 2 j), some (vI (nI k)), none, none, none]) (by decide) rfl (Nat.le_of_ble_eq_true rfl) rfl ?_
  intro hM0
  refine Rn.iload_n (pc := 0) dX2_recordCharacter_0 rfl rfl ?_
  refine Rn.if_lt (pc := 1) (y := 0) (tgt := 11) dX2_recordCharacter_1 (by decide) (fun c1 => ?_) (fun c1 => ?_)
  · exact absurd c1 (nI_pos (by omega))
  · refine Rn.aload_n (pc := 4) dX2_recordCharacter_4 rfl rfl ?_
    refine Rn.getI (pc := 5) (t := 0) flX2_21 hl dX2_recordCharacter_5 ?_
    refine Rn.if_ne (pc := 8) (y := 0) (tgt := 14) dX2_recordCharacter_8 (by decide) (fun c8 => ?_) (fun c8 => ?_)
    · refine Rn.iload_n (pc := 14) dX2_recordCharacter_14 rfl rfl ?_
      refine Rn.ldcS (pc := 15) (j := 51) (tx := ":020000040000FA\n") dX2_recordCharacter_15 (by decide) (by decide) ?_
      refine Rn.callO (pc := 17) (as := []) cvX2_34 ⟨by decide, by decide⟩ dX2_recordCharacter_17 (Nat.le_of_ble_eq_true rfl) rfl (k_length G 51 (by decide)) ?_
      rintro _ M9 ⟨rfl, h9⟩
      rw [h9, show sbn 51 = 16 by decide +kernel]
      refine Rn.icmp_geN (pc := 20) (tgt := 30) dX2_recordCharacter_20 (by decide) (by omega) (by omega) (fun c20 => ?_) (fun c20 => ?_)
      · refine Rn.iload_n (pc := 30) dX2_recordCharacter_30 rfl rfl ?_
        refine Rn.ldcS (pc := 31) (j := 51) (tx := ":020000040000FA\n") dX2_recordCharacter_31 (by decide) (by decide) ?_
        refine Rn.callO (pc := 33) (as := []) cvX2_34 ⟨by decide, by decide⟩ dX2_recordCharacter_33 (Nat.le_of_ble_eq_true rfl) rfl (k_length G 51 (by decide)) ?_
        rintro _ M9 ⟨rfl, h9⟩
        rw [h9, show sbn 51 = 16 by decide +kernel]
        refine Rn.isub (pc := 36) dX2_recordCharacter_36 ?_
        rw [pk_sub (by omega)]
        refine Rn.istore_n (pc := 37) dX2_recordCharacter_37 rfl (by decide) rfl st5_2 ?_
        refine Rn.aload_n (pc := 38) dX2_recordCharacter_38 rfl rfl ?_
        refine Rn.getI (pc := 39) (t := 0) flX2_21 hl dX2_recordCharacter_39 ?_
        refine Rn.bipush (pc := 42) (v := nI 16) dX2_recordCharacter_42 (by decide) ?_
        refine Rn.iaddN (pc := 44) dX2_recordCharacter_44 ?_
        refine Rn.iconst (pc := 45) (v := nI 1) dX2_recordCharacter_45 (by decide) ?_
        refine Rn.isub (pc := 46) dX2_recordCharacter_46 ?_
        rw [pk_sub (by omega)]
        refine Rn.bipush (pc := 47) (v := nI 16) dX2_recordCharacter_47 (by decide) ?_
        refine Rn.idiv (pc := 49) dX2_recordCharacter_49 (by decide) ?_
        rw [pk_div (by omega) (by decide) (by decide)]
        refine Rn.istore_n (pc := 50) dX2_recordCharacter_50 rfl (by decide) rfl st5_3 ?_
        refine Rn.iload_n (pc := 51) dX2_recordCharacter_51 rfl rfl ?_
        refine Rn.bipush (pc := 52) (v := nI 12) dX2_recordCharacter_52 (by decide) ?_
        refine Rn.imulN (pc := 54) dX2_recordCharacter_54 ?_
        refine Rn.iconst (pc := 55) (v := nI 2) dX2_recordCharacter_55 (by decide) ?_
        refine Rn.aload_n (pc := 56) dX2_recordCharacter_56 rfl rfl ?_
        refine Rn.getI (pc := 57) (t := 0) flX2_21 hl dX2_recordCharacter_57 ?_
        refine Rn.imulN (pc := 60) dX2_recordCharacter_60 ?_
        refine Rn.iaddN (pc := 61) dX2_recordCharacter_61 ?_
        refine Rn.istore (pc := 62) dX2_recordCharacter_62 (by decide) rfl st5_4 ?_
        refine Rn.iload_n (pc := 64) dX2_recordCharacter_64 rfl rfl ?_
        refine Rn.iload (pc := 65) dX2_recordCharacter_65 rfl ?_
        refine Rn.icmp_geN (pc := 67) (tgt := 83) dX2_recordCharacter_67 (by decide) (by omega) (by omega) (fun c67 => ?_) (fun c67 => ?_)
        · refine Rn.iload_n (pc := 83) dX2_recordCharacter_83 rfl rfl ?_
          refine Rn.iload (pc := 84) dX2_recordCharacter_84 rfl ?_
          refine Rn.isub (pc := 86) dX2_recordCharacter_86 ?_
          rw [pk_sub (by omega)]
          refine Rn.istore_n (pc := 87) dX2_recordCharacter_87 rfl (by decide) rfl st5_2 ?_
          refine Rn.iload_n (pc := 88) dX2_recordCharacter_88 rfl rfl ?_
          refine Rn.ldcS (pc := 89) (j := 52) (tx := ":00000001FF\n") dX2_recordCharacter_89 (by decide) (by decide) ?_
          refine Rn.callO (pc := 91) (as := []) cvX2_34 ⟨by decide, by decide⟩ dX2_recordCharacter_91 (Nat.le_of_ble_eq_true rfl) rfl (k_length G 52 (by decide)) ?_
          rintro _ M9 ⟨rfl, h9⟩
          rw [h9, show sbn 52 = 12 by decide +kernel]
          refine Rn.icmp_geN (pc := 94) (tgt := 106) dX2_recordCharacter_94 (by decide) (by omega) (by omega) (fun c94 => ?_) (fun c94 => ?_)
          · refine Rn.bipush (pc := 106) (v := nI 32) dX2_recordCharacter_106 (by decide) ?_
            refine Rn.zret (pc := 108) rfl (nI_ch (by decide)) dX2_recordCharacter_108 ?_
            refine ⟨?_, rfl⟩; rw [if_neg (by unfold hxz; omega)]
          · refine Rn.ldcS (pc := 97) (j := 52) (tx := ":00000001FF\n") dX2_recordCharacter_97 (by decide) (by decide) ?_
            refine Rn.iload_n (pc := 99) dX2_recordCharacter_99 rfl rfl ?_
            refine Rn.callO (pc := 100) (as := [_]) cvX2_39 ⟨by decide, by decide⟩ dX2_recordCharacter_100 (Nat.le_of_ble_eq_true rfl) rfl (k_charAt G 52 (k - 16 - ((z + 16 - 1) / 16 * 12 + 2 * z)) (by decide) (by rw [show sbn 52 = 12 by decide +kernel]; exact c94)) ?_
            rintro _ M9 ⟨rfl, h9⟩
            rw [h9]
            have hs9 := (sb_all 52 (by decide) (k - 16 - ((z + 16 - 1) / 16 * 12 + 2 * z)) (by rw [show sbn 52 = 12 by decide +kernel]; exact c94)).2
            refine Rn.goto (pc := 103) (tgt := 108) dX2_recordCharacter_103 (by decide) ?_
            refine Rn.zret (pc := 108) rfl (nI_ch (by omega)) dX2_recordCharacter_108 ?_
            refine ⟨?_, rfl⟩
            rw [if_pos (by unfold hxz; omega), hx, if_neg (by omega), if_neg (by omega), last_rec (im := imC j M) c94, show k - 16 - ((z + 16 - 1) / 16 * 12 + 2 * z) = k - 16 - (12 * ((z + 15) / 16) + 2 * z) by omega]
        · refine Rn.aload_n (pc := 70) dX2_recordCharacter_70 rfl rfl ?_
          refine Rn.iload_n (pc := 71) dX2_recordCharacter_71 rfl rfl ?_
          refine Rn.bipush (pc := 72) (v := nI 44) dX2_recordCharacter_72 (by decide) ?_
          refine Rn.idiv (pc := 74) dX2_recordCharacter_74 (by decide) ?_
          rw [pk_div (by omega) (by decide) (by decide)]
          refine Rn.iload_n (pc := 75) dX2_recordCharacter_75 rfl rfl ?_
          refine Rn.bipush (pc := 76) (v := nI 44) dX2_recordCharacter_76 (by decide) ?_
          refine Rn.irem (pc := 78) dX2_recordCharacter_78 (by decide) ?_
          rw [rem_N (by omega) (by decide) (by decide)]
          refine Rn.callV (pc := 79) (as := [_, _]) cvX2_43 ⟨by decide, rfl⟩ ⟨by decide, by decide⟩ dX2_recordCharacter_79 (Nat.le_of_ble_eq_true rfl) rfl (k_bodyCharacter G j z ((k - 16) / 44) ((k - 16) % 44) hz hl (by omega) (by omega)) ?_
          rintro _ M9 ⟨rfl, h9⟩
          rw [h9]
          refine Rn.zret (pc := 82) rfl (nI_ch (Nat.lt_trans rch_lt (by decide))) dX2_recordCharacter_82 ?_
          refine ⟨?_, rfl⟩
          rw [if_pos (by unfold hxz; omega), hx, if_neg (by omega), if_pos (by omega)]
          simp only [Nat.mul_comm _ 16]
      · refine Rn.ldcS (pc := 23) (j := 51) (tx := ":020000040000FA\n") dX2_recordCharacter_23 (by decide) (by decide) ?_
        refine Rn.iload_n (pc := 25) dX2_recordCharacter_25 rfl rfl ?_
        refine Rn.callO (pc := 26) (as := [_]) cvX2_39 ⟨by decide, by decide⟩ dX2_recordCharacter_26 (Nat.le_of_ble_eq_true rfl) rfl (k_charAt G 51 k (by decide) (by rw [show sbn 51 = 16 by decide +kernel]; exact c20)) ?_
        rintro _ M9 ⟨rfl, h9⟩
        rw [h9]
        have hs9 := (sb_all 51 (by decide) k (by rw [show sbn 51 = 16 by decide +kernel]; exact c20)).2
        refine Rn.zret (pc := 29) rfl (nI_ch (by omega)) dX2_recordCharacter_29 ?_
        refine ⟨?_, rfl⟩; rw [if_pos (by unfold hxz; omega), hx, if_pos c20, first_rec (im := imC j M) c20]
    · exact absurd (rem_z (by omega) c8) (by omega)

set_option maxRecDepth 20000 in
set_option maxHeartbeats 4000000 in
theorem k_recordCharacter_no (G : GX) {M : Mem} (j : Nat) (x : Int32) (hx : x < 0 ∨ mI M 2 j 1 = nI 0) : MetM G yX2_recordCharacter iX2_recordCharacter [vR 2 j, vI x] M (fun r M' => r = some (vI (nI 32)) ∧ M' = M) := by
  refine MetM.of (ls := [some (vR 2 j), some (vI x), none, none, none]) (by decide) rfl (Nat.le_of_ble_eq_true rfl) rfl ?_
  intro hM0
  refine Rn.iload_n (pc := 0) dX2_recordCharacter_0 rfl rfl ?_
  refine Rn.if_lt (pc := 1) (y := 0) (tgt := 11) dX2_recordCharacter_1 (by decide) (fun c1 => ?_) (fun c1 => ?_)
  · refine Rn.bipush (pc := 11) (v := nI 32) dX2_recordCharacter_11 (by decide) ?_
    refine Rn.zret (pc := 13) rfl (nI_ch (by decide)) dX2_recordCharacter_13 ?_
    exact ⟨rfl, rfl⟩
  · refine Rn.aload_n (pc := 4) dX2_recordCharacter_4 rfl rfl ?_
    refine Rn.getI (pc := 5) (t := 0) flX2_21 rfl dX2_recordCharacter_5 ?_
    refine Rn.if_ne (pc := 8) (y := 0) (tgt := 14) dX2_recordCharacter_8 (by decide) (fun c8 => ?_) (fun c8 => ?_)
    · exact absurd ((hx.resolve_left c1).trans rfl) c8
    · refine Rn.bipush (pc := 11) (v := nI 32) dX2_recordCharacter_11 (by decide) ?_
      refine Rn.zret (pc := 13) rfl (nI_ch (by decide)) dX2_recordCharacter_13 ?_
      exact ⟨rfl, rfl⟩

