theorem ush_b (x : Int32) : ∀ j : Nat, j < 4 → (x.toUInt32 >>> ((nI (8 * j)).toUInt32 &&& Int32.toUInt32 31)).toInt32 &&& nI 255 = nI (bt x j)
  | 0, _ => by rw [pk_and _ 8 (by decide), pk_ushr x _ 0 (by decide)]; rfl
  | 1, _ => by rw [pk_and _ 8 (by decide), pk_ushr x _ 8 (by decide)]; rfl
  | 2, _ => by rw [pk_and _ 8 (by decide), pk_ushr x _ 16 (by decide)]; rfl
  | 3, _ => by rw [pk_and _ 8 (by decide), pk_ushr x _ 24 (by decide)]; rfl
  | j + 4, h => absurd h (by omega)
theorem shv_add {j : Nat} : nI (8 * j) + Int32.ofInt (-8) = shv j := by
  rw [← shv_sub, Int32.sub_eq_add_neg]; congr 1
def cIn (x : Int32) : Nat → Nat
  | 0 => 0
  | j + 1 => (if bt x j = 0 then 0 else 1) + cIn x j
theorem cIn_le (x : Int32) : ∀ j, cIn x j ≤ j
  | 0 => Nat.le_refl 0
  | j + 1 => by have := cIn_le x j; rw [cIn]; split <;> omega
theorem ap4_cnt (x : Int32) : ∀ (j : Nat) (q : Nat × (Nat → Nat)), (ap4 x j q).1 = q.1 + cIn x j
  | 0, q => rfl
  | j + 1, q => by
    rw [ap4, ap4_cnt x j, cIn]
    unfold apv
    split
    · omega
    · dsimp only; omega
def TyC (q : Nat × (Nat → Nat)) (M : Mem) : Prop := mI M 9 0 1 = nI q.1 ∧ ∀ i, i < q.1 → mI M 12 0 i = nI (q.2 i)
def STc (k _j s : Nat) : Prop := k = 12 ∨ (k = 9 ∧ s = 1)
set_option maxRecDepth 20000 in
set_option maxHeartbeats 4000000 in
theorem k_charactersIn (G : GX) {M : Mem} (x : Int32) : MetM G yX10_charactersIn iX10_charactersIn [vI x] M (fun r M' => r = some (vI (nI (cIn x 4))) ∧ M' = M) := by
  refine MetM.of (ls := [some (vI x), none, none]) (by decide) rfl (Nat.le_of_ble_eq_true rfl) rfl ?_
  intro hM0
  have loop : ∀ (j c : Nat), j ≤ 4 → cIn x 4 = c + cIn x j → Rn G iX10_charactersIn (fun r M' => r = some (vI (nI (cIn x 4))) ∧ M' = M) 5 [some (vI x), some (vI (nI c)), some (vI (shv j))] [] M := by
    intro j
    induction j with
    | zero =>
      intro c hj hc
      rw [cIn, Nat.add_zero] at hc
      refine Rn.iload_n (pc := 5) dX10_charactersIn_5 rfl rfl ?_
      refine Rn.if_lt (pc := 6) (y := 0) (tgt := 33) dX10_charactersIn_6 (by decide) (fun c6 => ?_) (fun c6 => ?_)
      · refine Rn.iload_n (pc := 33) dX10_charactersIn_33 rfl rfl ?_
        refine Rn.iret (pc := 34) rfl dX10_charactersIn_34 ?_
        rw [hc]; exact ⟨rfl, rfl⟩
      · exact absurd (show shv 0 < 0 by decide) c6
    | succ j ih =>
      intro c hj hc
      refine Rn.iload_n (pc := 5) dX10_charactersIn_5 rfl rfl ?_
      refine Rn.if_lt (pc := 6) (y := 0) (tgt := 33) dX10_charactersIn_6 (by decide) (fun c6 => ?_) (fun c6 => ?_)
      · exact absurd c6 (nI_pos (by omega))
      · refine Rn.iload_n (pc := 9) dX10_charactersIn_9 rfl rfl ?_
        refine Rn.iload_n (pc := 10) dX10_charactersIn_10 rfl rfl ?_
        refine Rn.iload_n (pc := 11) dX10_charactersIn_11 rfl rfl ?_
        refine Rn.iushr (pc := 12) dX10_charactersIn_12 ?_
        refine Rn.sipush (pc := 13) (v := nI 255) dX10_charactersIn_13 (by decide) ?_
        refine Rn.iand (pc := 16) dX10_charactersIn_16 ?_
        rw [show shv (j + 1) = nI (8 * j) from rfl, ush_b x j (by omega)]
        refine Rn.if_eq (pc := 17) (y := 0) (tgt := 24) dX10_charactersIn_17 (by decide) (fun c17 => ?_) (fun c17 => ?_)
        · refine Rn.iconst (pc := 24) (v := nI 0) dX10_charactersIn_24 (by decide) ?_
          refine Rn.iaddN (pc := 25) dX10_charactersIn_25 ?_
          refine Rn.istore_n (pc := 26) dX10_charactersIn_26 rfl (by decide) rfl st3_1 ?_
          refine Rn.iinc (pc := 27) dX10_charactersIn_27 rfl shv_add (by decide) rfl st3_2 ?_
          refine Rn.goto (pc := 30) (tgt := 5) dX10_charactersIn_30 (by decide) ?_
          exact ih _ (by omega) (by rw [hc, cIn, if_pos ((nI_eq (by have := bt_lt (x := x) (j := j); omega) (by decide)).mp c17)]; omega)
        · refine Rn.iconst (pc := 20) (v := nI 1) dX10_charactersIn_20 (by decide) ?_
          refine Rn.goto (pc := 21) (tgt := 25) dX10_charactersIn_21 (by decide) ?_
          refine Rn.iaddN (pc := 25) dX10_charactersIn_25 ?_
          refine Rn.istore_n (pc := 26) dX10_charactersIn_26 rfl (by decide) rfl st3_1 ?_
          refine Rn.iinc (pc := 27) dX10_charactersIn_27 rfl shv_add (by decide) rfl st3_2 ?_
          refine Rn.goto (pc := 30) (tgt := 5) dX10_charactersIn_30 (by decide) ?_
          exact ih _ (by omega) (by rw [hc, cIn, if_neg (fun e => c17 (by rw [e]; rfl))]; omega)
  refine Rn.iconst (pc := 0) (v := nI 0) dX10_charactersIn_0 (by decide) ?_
  refine Rn.istore_n (pc := 1) dX10_charactersIn_1 rfl (by decide) rfl st3_1 ?_
  refine Rn.bipush (pc := 2) (v := nI 24) dX10_charactersIn_2 (by decide) ?_
  refine Rn.istore_n (pc := 4) dX10_charactersIn_4 rfl (by decide) rfl st3_2 ?_
  exact loop 4 0 (by decide) (by omega)

set_option maxRecDepth 20000 in
set_option maxHeartbeats 4000000 in
theorem k_appendFour (G : GX) {M : Mem} (x : Int32) (q0 : Nat × (Nat → Nat)) (hq0 : TyC q0 M) (hb0 : q0.1 + cIn x 4 ≤ 48) : MetM G yX10_appendFour iX10_appendFour [vR 9 0, vI x] M (fun r M' => r = none ∧ TyC (ap4 x 4 q0) M' ∧ Fr STc M M') := by
  refine MetM.of (ls := [some (vR 9 0), some (vI x), none, none]) (by decide) rfl (Nat.le_of_ble_eq_true rfl) rfl ?_
  intro hM0
  have loop : ∀ (j : Nat) (q : Nat × (Nat → Nat)) (N : Mem) (x3 : Option AV), j ≤ 4 → q.1 + cIn x j ≤ 48 → ap4 x 4 q0 = ap4 x j q → TyC q N → Fr STc M N → Rn G iX10_appendFour (fun r M' => r = none ∧ TyC (ap4 x 4 q0) M' ∧ Fr STc M M') 3 [some (vR 9 0), some (vI x), some (vI (shv j)), x3] [] N := by
    intro j
    induction j with
    | zero =>
      intro q N x3 hj hb hc hq fN
      rw [ap4] at hc
      refine Rn.iload_n (pc := 3) dX10_appendFour_3 rfl rfl ?_
      refine Rn.if_lt (pc := 4) (y := 0) (tgt := 55) dX10_appendFour_4 (by decide) (fun c4 => ?_) (fun c4 => ?_)
      · refine Rn.vret (pc := 55) rfl dX10_appendFour_55 ?_
        rw [hc]; exact ⟨rfl, hq, fN⟩
      · exact absurd (show shv 0 < 0 by decide) c4
    | succ j ih =>
      intro q N x3 hj hb hc hq fN
      have hq49 : q.1 ≤ 48 := by omega
      refine Rn.iload_n (pc := 3) dX10_appendFour_3 rfl rfl ?_
      refine Rn.if_lt (pc := 4) (y := 0) (tgt := 55) dX10_appendFour_4 (by decide) (fun c4 => ?_) (fun c4 => ?_)
      · exact absurd c4 (nI_pos (by omega))
      · refine Rn.iload_n (pc := 7) dX10_appendFour_7 rfl rfl ?_
        refine Rn.iload_n (pc := 8) dX10_appendFour_8 rfl rfl ?_
        refine Rn.iushr (pc := 9) dX10_appendFour_9 ?_
        refine Rn.sipush (pc := 10) (v := nI 255) dX10_appendFour_10 (by decide) ?_
        refine Rn.iand (pc := 13) dX10_appendFour_13 ?_
        rw [show shv (j + 1) = nI (8 * j) from rfl, ush_b x j (by omega)]
        have hb8 := bt_lt (x := x) (j := j)
        refine Rn.istore_n (pc := 14) dX10_appendFour_14 rfl (by decide) rfl st4_3 ?_
        refine Rn.iload_n (pc := 15) dX10_appendFour_15 rfl rfl ?_
        refine Rn.if_eq (pc := 16) (y := 0) (tgt := 49) dX10_appendFour_16 (by decide) (fun c16 => ?_) (fun c16 => ?_)
        · refine Rn.iinc (pc := 49) dX10_appendFour_49 rfl shv_add (by decide) rfl st4_2 ?_
          refine Rn.goto (pc := 52) (tgt := 3) dX10_appendFour_52 (by decide) ?_
          have h0 : bt x j = 0 := (nI_eq (by omega) (by decide)).mp c16
          exact ih q N _ (by omega) (by rw [cIn, if_pos h0] at hb; omega) (by rw [hc, ap4, show apv (bt x j) q = q from if_pos h0]) hq fN
        · refine Rn.aload_n (pc := 19) dX10_appendFour_19 rfl rfl ?_
          refine Rn.getI (pc := 20) (t := 0) flX10_15 hq.1 dX10_appendFour_20 ?_
          refine Rn.bipush (pc := 23) (v := nI 48) dX10_appendFour_23 (by decide) ?_
          refine Rn.icmp_geN (pc := 25) (tgt := 49) dX10_appendFour_25 (by decide) (by omega) (by decide) (fun c25 => ?_) (fun c25 => ?_)
          · have h0 : ¬ bt x j = 0 := fun e => c16 (by rw [e]; rfl)
            rw [cIn, if_neg h0] at hb
            exact absurd c25 (by omega)
          · have hq48 : q.1 < 48 := c25
            refine Rn.aload_n (pc := 28) dX10_appendFour_28 rfl rfl ?_
            refine Rn.getR (pc := 29) flX10_9 mu9_0 fx9_0 dX10_appendFour_29 ?_
            refine Rn.aload_n (pc := 32) dX10_appendFour_32 rfl rfl ?_
            refine Rn.getI (pc := 33) (t := 0) flX10_15 hq.1 dX10_appendFour_33 ?_
            refine Rn.iload_n (pc := 36) dX10_appendFour_36 rfl rfl ?_
            refine Rn.i2c (pc := 37) dX10_appendFour_37 ?_
            rw [i2c_N (by omega)]
            refine Rn.castN (pc := 38) ak12 (by omega) (by decide) (vnc (by omega)) dX10_appendFour_38 ?_
            refine Rn.aload_n (pc := 39) dX10_appendFour_39 rfl rfl ?_
            refine Rn.dupR (pc := 40) (x := 0) (y := 0) dX10_appendFour_40 ?_
            refine Rn.getI (pc := 41) (t := 0) flX10_15 (show mI (sI N 12 0 q.1 (nI (bt x j))) 9 0 1 = nI q.1 from hq.1) dX10_appendFour_41 ?_
            refine Rn.iconst (pc := 44) (v := nI 1) dX10_appendFour_44 (by decide) ?_
            refine Rn.iaddN (pc := 45) dX10_appendFour_45 ?_
            refine Rn.putI (pc := 46) (t := 0) flX10_15 rfl rfl dX10_appendFour_46 ?_
            refine Rn.iinc (pc := 49) dX10_appendFour_49 rfl shv_add (by decide) rfl st4_2 ?_
            refine Rn.goto (pc := 52) (tgt := 3) dX10_appendFour_52 (by decide) ?_
            have h0 : ¬ bt x j = 0 := fun e => c16 (by rw [e]; rfl)
            refine ih (q.1 + 1, fun i => if i = q.1 then bt x j else q.2 i) _ _ (by omega) ?_ (by rw [hc, ap4, show apv (bt x j) q = (q.1 + 1, fun i => if i = q.1 then bt x j else q.2 i) from if_neg h0]) ⟨rfl, fun i hi => ?_⟩ ((fN.sI (Or.inl rfl)).sI (Or.inr ⟨rfl, rfl⟩))
            · rw [cIn, if_neg h0] at hb; dsimp only; omega
            · dsimp only at hi ⊢
              rw [mI_sI, if_neg (by omega), mI_sI]
              by_cases e : i = q.1
              · rw [if_pos ⟨rfl, rfl, e⟩, if_pos e]
              · rw [if_neg (fun y => e y.2.2), if_neg e]; exact hq.2 i (by omega)
  refine Rn.bipush (pc := 0) (v := nI 24) dX10_appendFour_0 (by decide) ?_
  refine Rn.istore_n (pc := 2) dX10_appendFour_2 rfl (by decide) rfl st4_2 ?_
  exact loop 4 q0 M _ (by decide) hb0 rfl hq0 (Fr.refl M)

set_option maxRecDepth 20000 in
set_option maxHeartbeats 4000000 in
theorem k_type_ok (G : GX) {M : Mem} (a b c d : Int32) (q : Nat × (Nat → Nat)) (hq : TyC q M) (hq48 : q.1 ≤ 48) (hok : (tyQ a b c d q).1 ≤ 48) : MetM G yX11_type iX11_type [vR 10 0, vI a, vI b, vI c, vI d] M (fun r M' => r = some (vI (nI (tyQ a b c d q).1)) ∧ TyC (tyQ a b c d q) M' ∧ Fr STc M M') := by
  refine MetM.of (ls := [some (vR 10 0), some (vI a), some (vI b), some (vI c), some (vI d), none]) (by decide) rfl (Nat.le_of_ble_eq_true rfl) rfl ?_
  intro hM0
  have b1 := ap4_cnt a 4 q
  have b2 := ap4_cnt b 4 (ap4 a 4 q)
  have b3 := ap4_cnt c 4 (ap4 b 4 (ap4 a 4 q))
  have b4 : (tyQ a b c d q).1 = _ := ap4_cnt d 4 (ap4 c 4 (ap4 b 4 (ap4 a 4 q)))
  have l1 := cIn_le a 4
  have l2 := cIn_le b 4
  have l3 := cIn_le c 4
  have l4 := cIn_le d 4
  refine Rn.iload_n (pc := 0) dX11_type_0 rfl rfl ?_
  refine Rn.callS (pc := 1) (as := [_]) csX11_47 ⟨by decide, by decide⟩ dX11_type_1 (Nat.le_of_ble_eq_true rfl) rfl (k_charactersIn G a) ?_
  rintro _ M9 ⟨rfl, h9⟩
  rw [h9]
  refine Rn.iload_n (pc := 4) dX11_type_4 rfl rfl ?_
  refine Rn.callS (pc := 5) (as := [_]) csX11_47 ⟨by decide, by decide⟩ dX11_type_5 (Nat.le_of_ble_eq_true rfl) rfl (k_charactersIn G b) ?_
  rintro _ M9 ⟨rfl, h9⟩
  rw [h9]
  refine Rn.iaddN (pc := 8) dX11_type_8 ?_
  refine Rn.iload_n (pc := 9) dX11_type_9 rfl rfl ?_
  refine Rn.callS (pc := 10) (as := [_]) csX11_47 ⟨by decide, by decide⟩ dX11_type_10 (Nat.le_of_ble_eq_true rfl) rfl (k_charactersIn G c) ?_
  rintro _ M9 ⟨rfl, h9⟩
  rw [h9]
  refine Rn.iaddN (pc := 13) dX11_type_13 ?_
  refine Rn.iload (pc := 14) dX11_type_14 rfl ?_
  refine Rn.callS (pc := 16) (as := [_]) csX11_47 ⟨by decide, by decide⟩ dX11_type_16 (Nat.le_of_ble_eq_true rfl) rfl (k_charactersIn G d) ?_
  rintro _ M9 ⟨rfl, h9⟩
  rw [h9]
  refine Rn.iaddN (pc := 19) dX11_type_19 ?_
  refine Rn.istore (pc := 20) dX11_type_20 (by decide) rfl st6_5 ?_
  refine Rn.aload_n (pc := 22) dX11_type_22 rfl rfl ?_
  refine Rn.getR (pc := 23) flX11_10 mu10_0 fx10_0 dX11_type_23 ?_
  refine Rn.getI (pc := 26) (t := 0) flX11_51 hq.1 dX11_type_26 ?_
  refine Rn.iload (pc := 29) dX11_type_29 rfl ?_
  refine Rn.iaddN (pc := 31) dX11_type_31 ?_
  refine Rn.bipush (pc := 32) (v := nI 48) dX11_type_32 (by decide) ?_
  refine Rn.icmp_leN (pc := 34) (tgt := 47) dX11_type_34 (by decide) (by omega) (by omega) (fun c34 => ?_) (fun c34 => ?_)
  · refine Rn.aload_n (pc := 47) dX11_type_47 rfl rfl ?_
    refine Rn.getR (pc := 48) flX11_10 mu10_0 fx10_0 dX11_type_48 ?_
    refine Rn.iload_n (pc := 51) dX11_type_51 rfl rfl ?_
    refine Rn.callV (pc := 52) (as := [_]) cvX11_62 ⟨by decide, rfl⟩ ⟨by decide, by decide⟩ dX11_type_52 (Nat.le_of_ble_eq_true rfl) rfl (k_appendFour G a q hq (by omega)) ?_
    rintro _ M1 ⟨rfl, h1, f1⟩
    refine Rn.aload_n (pc := 55) dX11_type_55 rfl rfl ?_
    refine Rn.getR (pc := 56) flX11_10 mu10_0 fx10_0 dX11_type_56 ?_
    refine Rn.iload_n (pc := 59) dX11_type_59 rfl rfl ?_
    refine Rn.callV (pc := 60) (as := [_]) cvX11_62 ⟨by decide, rfl⟩ ⟨by decide, by decide⟩ dX11_type_60 (Nat.le_of_ble_eq_true rfl) rfl (k_appendFour G b (ap4 a 4 q) h1 (by omega)) ?_
    rintro _ M2 ⟨rfl, h2, f2⟩
    refine Rn.aload_n (pc := 63) dX11_type_63 rfl rfl ?_
    refine Rn.getR (pc := 64) flX11_10 mu10_0 fx10_0 dX11_type_64 ?_
    refine Rn.iload_n (pc := 67) dX11_type_67 rfl rfl ?_
    refine Rn.callV (pc := 68) (as := [_]) cvX11_62 ⟨by decide, rfl⟩ ⟨by decide, by decide⟩ dX11_type_68 (Nat.le_of_ble_eq_true rfl) rfl (k_appendFour G c (ap4 b 4 (ap4 a 4 q)) h2 (by omega)) ?_
    rintro _ M3 ⟨rfl, h3, f3⟩
    refine Rn.aload_n (pc := 71) dX11_type_71 rfl rfl ?_
    refine Rn.getR (pc := 72) flX11_10 mu10_0 fx10_0 dX11_type_72 ?_
    refine Rn.iload (pc := 75) dX11_type_75 rfl ?_
    refine Rn.callV (pc := 77) (as := [_]) cvX11_62 ⟨by decide, rfl⟩ ⟨by decide, by decide⟩ dX11_type_77 (Nat.le_of_ble_eq_true rfl) rfl (k_appendFour G d (ap4 c 4 (ap4 b 4 (ap4 a 4 q))) h3 (by omega)) ?_
    rintro _ M4 ⟨rfl, h4, f4⟩
    refine Rn.aload_n (pc := 80) dX11_type_80 rfl rfl ?_
    refine Rn.getR (pc := 81) flX11_10 mu10_0 fx10_0 dX11_type_81 ?_
    refine Rn.getI (pc := 84) (t := 0) flX11_51 (show mI M4 9 0 1 = nI (tyQ a b c d q).1 from h4.1) dX11_type_84 ?_
    refine Rn.iret (pc := 87) rfl dX11_type_87 ?_
    exact ⟨rfl, h4, ((f1.trans f2).trans f3).trans f4⟩
  · exact absurd hok (by omega)

set_option maxRecDepth 20000 in
set_option maxHeartbeats 4000000 in
theorem k_erase (G : GX) {M : Mem} : MetM G yX11_erase iX11_erase [vR 10 0] M (fun r M' => r = some (vI (mI M 9 0 1)) ∧ M' = sI M 9 0 1 (nI 0)) := by
  refine MetM.of (ls := [some (vR 10 0), none]) (by decide) rfl (Nat.le_of_ble_eq_true rfl) rfl ?_
  intro hM0
  refine Rn.aload_n (pc := 0) dX11_erase_0 rfl rfl ?_
  refine Rn.getR (pc := 1) flX11_10 mu10_0 fx10_0 dX11_erase_1 ?_
  refine Rn.getI (pc := 4) (t := 0) flX11_51 rfl dX11_erase_4 ?_
  refine Rn.istore_n (pc := 7) dX11_erase_7 rfl (by decide) rfl st2_1 ?_
  refine Rn.aload_n (pc := 8) dX11_erase_8 rfl rfl ?_
  refine Rn.getR (pc := 9) flX11_10 mu10_0 fx10_0 dX11_erase_9 ?_
  refine Rn.iconst (pc := 12) (v := nI 0) dX11_erase_12 (by decide) ?_
  refine Rn.putI (pc := 13) (t := 0) flX11_51 rfl rfl dX11_erase_13 ?_
  refine Rn.iload_n (pc := 16) dX11_erase_16 rfl rfl ?_
  refine Rn.iret (pc := 17) rfl dX11_erase_17 ?_
  exact ⟨rfl, rfl⟩

set_option maxRecDepth 20000 in
set_option maxHeartbeats 4000000 in
theorem k_isModule (G : GX) {M : Mem} (v : Int32) : MetM G yX11_isModule iX11_isModule [vI v] M (fun r M' => r = some (vI (bI (decide (¬ v < 0 ∧ ¬ nI 4 ≤ v)))) ∧ M' = M) := by
  refine MetM.of (ls := [some (vI v)]) (by decide) rfl (Nat.le_of_ble_eq_true rfl) rfl ?_
  intro hM0
  refine Rn.iload_n (pc := 0) dX11_isModule_0 rfl rfl ?_
  refine Rn.if_lt (pc := 1) (y := 0) (tgt := 13) dX11_isModule_1 (by decide) (fun c1 => ?_) (fun c1 => ?_)
  · refine Rn.iconst (pc := 13) (v := nI 0) dX11_isModule_13 (by decide) ?_
    refine Rn.zret (pc := 14) rfl rfl dX11_isModule_14 ?_
    refine ⟨?_, rfl⟩; rw [show decide (¬ v < 0 ∧ ¬ nI 4 ≤ v) = false from decide_eq_false (fun z => z.1 c1)]; rfl
  · refine Rn.iload_n (pc := 4) dX11_isModule_4 rfl rfl ?_
    refine Rn.iconst (pc := 5) (v := nI 4) dX11_isModule_5 (by decide) ?_
    refine Rn.icmp_ge (pc := 6) (tgt := 13) dX11_isModule_6 (by decide) (fun c6 => ?_) (fun c6 => ?_)
    · refine Rn.iconst (pc := 13) (v := nI 0) dX11_isModule_13 (by decide) ?_
      refine Rn.zret (pc := 14) rfl rfl dX11_isModule_14 ?_
      refine ⟨?_, rfl⟩; rw [show decide (¬ v < 0 ∧ ¬ nI 4 ≤ v) = false from decide_eq_false (fun z => z.2 c6)]; rfl
    · refine Rn.iconst (pc := 9) (v := nI 1) dX11_isModule_9 (by decide) ?_
      refine Rn.goto (pc := 10) (tgt := 14) dX11_isModule_10 (by decide) ?_
      refine Rn.zret (pc := 14) rfl rfl dX11_isModule_14 ?_
      refine ⟨?_, rfl⟩; rw [show decide (¬ v < 0 ∧ ¬ nI 4 ≤ v) = true from decide_eq_true ⟨c1, c6⟩]; rfl

set_option maxRecDepth 20000 in
set_option maxHeartbeats 4000000 in
theorem k_drop_ok (G : GX) {M : Mem} (m : Nat) (hm : m < 4) : MetM G yX11_drop iX11_drop [vR 10 0, vI (nI m)] M (fun r M' => r = some (vI (mI M 7 m 1)) ∧ M' = sI M 7 m 1 (nI 0)) := by
  refine MetM.of (ls := [some (vR 10 0), some (vI (nI m)), none]) (by decide) rfl (Nat.le_of_ble_eq_true rfl) rfl ?_
  intro hM0
  refine Rn.iload_n (pc := 0) dX11_drop_0 rfl rfl ?_
  refine Rn.callS (pc := 1) (as := [_]) csX11_66 ⟨by decide, by decide⟩ dX11_drop_1 (Nat.le_of_ble_eq_true rfl) rfl (k_isModule G (nI m)) ?_
  rintro _ M9 ⟨rfl, h9⟩
  rw [h9, mod_N hm]
  refine Rn.if_neB (pc := 4) (tgt := 17) dX11_drop_4 (by decide) (fun c4 => ?_) (fun c4 => ?_)
  · refine Rn.aload_n (pc := 17) dX11_drop_17 rfl rfl ?_
    refine Rn.getR (pc := 18) flX11_18 mu10_1 fx10_1 dX11_drop_18 ?_
    refine Rn.iload_n (pc := 21) dX11_drop_21 rfl rfl ?_
    refine Rn.aaldN (pc := 22) ak13 (by decide) rfl (by omega) (by decide) fx13 dX11_drop_22 ?_
    refine Rn.getI (pc := 23) (t := 0) flX11_75 rfl dX11_drop_23 ?_
    refine Rn.istore_n (pc := 26) dX11_drop_26 rfl (by decide) rfl st3_2 ?_
    refine Rn.aload_n (pc := 27) dX11_drop_27 rfl rfl ?_
    refine Rn.getR (pc := 28) flX11_18 mu10_1 fx10_1 dX11_drop_28 ?_
    refine Rn.iload_n (pc := 31) dX11_drop_31 rfl rfl ?_
    refine Rn.aaldN (pc := 32) ak13 (by decide) rfl (by omega) (by decide) fx13 dX11_drop_32 ?_
    refine Rn.iconst (pc := 33) (v := nI 0) dX11_drop_33 (by decide) ?_
    refine Rn.putI (pc := 34) (t := 0) flX11_75 rfl rfl dX11_drop_34 ?_
    refine Rn.iload_n (pc := 37) dX11_drop_37 rfl rfl ?_
    refine Rn.iret (pc := 38) rfl dX11_drop_38 ?_
    exact ⟨rfl, rfl⟩
  · cases c4

set_option maxRecDepth 20000 in
set_option maxHeartbeats 4000000 in
theorem k_size_ok (G : GX) {M : Mem} (m s l : Nat) (hm : m < 4) (hs : s < 3) (hl : mR M 10 0 4 = l) : MetM G yX11_size iX11_size [vR 10 0, vI (nI m), vI (nI s)] M (fun r M' => r = some (vI (mI M 19 (4 * (2 * l) + m) s)) ∧ M' = M) := by
  refine MetM.of (ls := [some (vR 10 0), some (vI (nI m)), some (vI (nI s))]) (by decide) rfl (Nat.le_of_ble_eq_true rfl) rfl ?_
  intro hM0
  refine Rn.iload_n (pc := 0) dX11_size_0 rfl rfl ?_
  refine Rn.callS (pc := 1) (as := [_]) csX11_66 ⟨by decide, by decide⟩ dX11_size_1 (Nat.le_of_ble_eq_true rfl) rfl (k_isModule G (nI m)) ?_
  rintro _ M9 ⟨rfl, h9⟩
  rw [h9, mod_N hm]
  refine Rn.if_eqB (pc := 4) (tgt := 16) dX11_size_4 (by decide) (fun c4 => ?_) (fun c4 => ?_)
  · cases c4
  · refine Rn.iload_n (pc := 7) dX11_size_7 rfl rfl ?_
    refine Rn.if_lt (pc := 8) (y := 0) (tgt := 16) dX11_size_8 (by decide) (fun c8 => ?_) (fun c8 => ?_)
    · exact absurd c8 (nI_pos (by omega))
    · refine Rn.iload_n (pc := 11) dX11_size_11 rfl rfl ?_
      refine Rn.iconst (pc := 12) (v := nI 2) dX11_size_12 (by decide) ?_
      refine Rn.icmp_leN (pc := 13) (tgt := 26) dX11_size_13 (by decide) (by omega) (by omega) (fun c13 => ?_) (fun c13 => ?_)
      · refine Rn.aload_n (pc := 26) dX11_size_26 rfl rfl ?_
        refine Rn.getRm (pc := 27) flX11_40 hl dX11_size_27 ?_
        refine Rn.getR (pc := 30) flX11_159 mu0_1 fx0_1 dX11_size_30 ?_
        refine Rn.getR (pc := 33) flX11_163 mu4_0 fx4_0 dX11_size_33 ?_
        refine Rn.iload_n (pc := 36) dX11_size_36 rfl rfl ?_
        refine Rn.aaldN (pc := 37) ak18 (by decide) rfl (by omega) (by decide) fx18 dX11_size_37 ?_
        refine Rn.iload_n (pc := 38) dX11_size_38 rfl rfl ?_
        refine Rn.ialdN (pc := 39) ak19 (by omega) (by decide) rfl dX11_size_39 ?_
        refine Rn.iret (pc := 40) rfl dX11_size_40 ?_
        exact ⟨rfl, rfl⟩
      · exact absurd hs (by omega)

set_option maxRecDepth 20000 in
set_option maxHeartbeats 4000000 in
theorem k_fault_0 (G : GX) {M : Mem} : MetM G yX11_fault iX11_fault [vR 10 0, vI (nI 0)] M (fun r M' => r = some (vI (mI M 1 0 1)) ∧ M' = M) := by
  refine MetM.of (ls := [some (vR 10 0), some (vI (nI 0))]) (by decide) rfl (Nat.le_of_ble_eq_true rfl) rfl ?_
  intro hM0
  refine Rn.iload_n (pc := 0) dX11_fault_0 rfl rfl ?_
  refine Rn.tableIn (pc := 1) (off := 27) (tgt := 28) dX11_fault_1 (by decide) (by decide) rfl (by decide) ?_
  refine Rn.aload_n (pc := 28) dX11_fault_28 rfl rfl ?_
  refine Rn.getR (pc := 29) flX11_33 mu10_3 fx10_3 dX11_fault_29 ?_
  refine Rn.getI (pc := 32) (t := 0) flX11_122 rfl dX11_fault_32 ?_
  refine Rn.iret (pc := 35) rfl dX11_fault_35 ?_
  exact ⟨rfl, rfl⟩

set_option maxRecDepth 20000 in
set_option maxHeartbeats 4000000 in
theorem k_fault_1 (G : GX) {M : Mem} : MetM G yX11_fault iX11_fault [vR 10 0, vI (nI 1)] M (fun r M' => r = some (vI (mI M 1 0 2)) ∧ M' = M) := by
  refine MetM.of (ls := [some (vR 10 0), some (vI (nI 1))]) (by decide) rfl (Nat.le_of_ble_eq_true rfl) rfl ?_
  intro hM0
  refine Rn.iload_n (pc := 0) dX11_fault_0 rfl rfl ?_
  refine Rn.tableIn (pc := 1) (off := 35) (tgt := 36) dX11_fault_1 (by decide) (by decide) rfl (by decide) ?_
  refine Rn.aload_n (pc := 36) dX11_fault_36 rfl rfl ?_
  refine Rn.getR (pc := 37) flX11_33 mu10_3 fx10_3 dX11_fault_37 ?_
  refine Rn.getI (pc := 40) (t := 0) flX11_125 rfl dX11_fault_40 ?_
  refine Rn.iret (pc := 43) rfl dX11_fault_43 ?_
  exact ⟨rfl, rfl⟩

set_option maxRecDepth 20000 in
set_option maxHeartbeats 4000000 in
theorem k_fault_2 (G : GX) {M : Mem} : MetM G yX11_fault iX11_fault [vR 10 0, vI (nI 2)] M (fun r M' => r = some (vI (mI M 1 0 3)) ∧ M' = M) := by
  refine MetM.of (ls := [some (vR 10 0), some (vI (nI 2))]) (by decide) rfl (Nat.le_of_ble_eq_true rfl) rfl ?_
  intro hM0
  refine Rn.iload_n (pc := 0) dX11_fault_0 rfl rfl ?_
  refine Rn.tableIn (pc := 1) (off := 43) (tgt := 44) dX11_fault_1 (by decide) (by decide) rfl (by decide) ?_
  refine Rn.aload_n (pc := 44) dX11_fault_44 rfl rfl ?_
  refine Rn.getR (pc := 45) flX11_33 mu10_3 fx10_3 dX11_fault_45 ?_
  refine Rn.getI (pc := 48) (t := 0) flX11_128 rfl dX11_fault_48 ?_
  refine Rn.iret (pc := 51) rfl dX11_fault_51 ?_
  exact ⟨rfl, rfl⟩

set_option maxRecDepth 20000 in
set_option maxHeartbeats 4000000 in
theorem k_octet_in (G : GX) {M : Mem} (l z k : Nat) (hl : mR M 10 0 4 = l) (hz : z ≤ 2048) (hlen : mI M 2 l 1 = nI z) (hk : k < z) : MetM G yX11_octet iX11_octet [vR 10 0, vI (nI k)] M (fun r M' => r = some (vI (bC l M k)) ∧ M' = M) := by
  refine MetM.of (ls := [some (vR 10 0), some (vI (nI k))]) (by decide) rfl (Nat.le_of_ble_eq_true rfl) rfl ?_
  intro hM0
  refine Rn.aload_n (pc := 0) dX11_octet_0 rfl rfl ?_
  refine Rn.getRm (pc := 1) flX11_40 hl dX11_octet_1 ?_
  refine Rn.getR (pc := 4) flX11_115 mu0_2 fx0_2 dX11_octet_4 ?_
  refine Rn.iload_n (pc := 7) dX11_octet_7 rfl rfl ?_
  refine Rn.callV (pc := 8) (as := [_]) cvX11_133 ⟨by decide, rfl⟩ ⟨by decide, by decide⟩ dX11_octet_8 (Nat.le_of_ble_eq_true rfl) rfl (k_byteAt_in G l z k hz hlen hk) ?_
  rintro _ _ ⟨rfl, rfl⟩
  refine Rn.iret (pc := 11) rfl dX11_octet_11 ?_
  exact ⟨rfl, rfl⟩

set_option maxRecDepth 20000 in
set_option maxHeartbeats 4000000 in
theorem k_octet_no (G : GX) {M : Mem} (l z : Nat) (x : Int32) (hl : mR M 10 0 4 = l) (hlen : mI M 2 l 1 = nI z) (hx : x < 0 ∨ nI z ≤ x) : MetM G yX11_octet iX11_octet [vR 10 0, vI x] M (fun r M' => r = some (vI (-1)) ∧ M' = M) := by
  refine MetM.of (ls := [some (vR 10 0), some (vI x)]) (by decide) rfl (Nat.le_of_ble_eq_true rfl) rfl ?_
  intro hM0
  refine Rn.aload_n (pc := 0) dX11_octet_0 rfl rfl ?_
  refine Rn.getRm (pc := 1) flX11_40 hl dX11_octet_1 ?_
  refine Rn.getR (pc := 4) flX11_115 mu0_2 fx0_2 dX11_octet_4 ?_
  refine Rn.iload_n (pc := 7) dX11_octet_7 rfl rfl ?_
  refine Rn.callV (pc := 8) (as := [_]) cvX11_133 ⟨by decide, rfl⟩ ⟨by decide, by decide⟩ dX11_octet_8 (Nat.le_of_ble_eq_true rfl) rfl (k_byteAt_no G l z x hlen hx) ?_
  rintro _ _ ⟨rfl, rfl⟩
  refine Rn.iret (pc := 11) rfl dX11_octet_11 ?_
  exact ⟨rfl, rfl⟩

theorem fnd_0 {B : LB} {m : Nat} (h : ∀ i, i < B.1 → (B.2 i).2.2.2 ≠ 0) : fnd B m 0 = none := by
  cases q : fnd B m 0 with
  | none => rfl
  | some k => have h9 := fnd_some q; exact absurd h9.2.2 (h k h9.1)
set_option maxRecDepth 20000 in
set_option maxHeartbeats 4000000 in
theorem k_address_ok (G : GX) {M : Mem} (m l : Nat) (bs : Nat → Nat) (B : LB) (q : Nat × (Nat → Nat)) (hm : m < 4) (hl : mR M 10 0 4 = l) (hq : TyC q M) (hq48 : q.1 ≤ 48) (hq9 : ∀ i, i < q.1 → 0 < q.2 i ∧ q.2 i < 256) (hL : LbC l B M) (hN : LbN B) (hW : LbW B) (hA : AdC l bs M) : MetM G yX11_address iX11_address [vR 10 0, vI (nI m)] M (fun r M' => r = some (vI (adO bs B (fnd B m (nmv q)))) ∧ M' = M) := by
  refine MetM.of (ls := [some (vR 10 0), some (vI (nI m))]) (by decide) rfl (Nat.le_of_ble_eq_true rfl) rfl ?_
  intro hM0
  have hnv : nmv q < 2 ^ 62 := by
    have h1 := nmV_lt (L := q.2) (a := 0) (e := q.1) (n := q.1) (Nat.le_refl _) hq9
    have h2 : nmV q.2 0 q.1 = nmv q := by unfold nmV nmv; rw [Nat.sub_zero]
    rw [h2] at h1
    have h3 : (256 : Nat) ^ 6 = 2 ^ 48 := by decide
    omega
  refine Rn.iload_n (pc := 0) dX11_address_0 rfl rfl ?_
  refine Rn.callS (pc := 1) (as := [_]) csX11_66 ⟨by decide, by decide⟩ dX11_address_1 (Nat.le_of_ble_eq_true rfl) rfl (k_isModule G (nI m)) ?_
  rintro _ M9 ⟨rfl, h9⟩
  rw [h9, mod_N hm]
  refine Rn.if_neB (pc := 4) (tgt := 17) dX11_address_4 (by decide) (fun c4 => ?_) (fun c4 => ?_)
  · refine Rn.aload_n (pc := 17) dX11_address_17 rfl rfl ?_
    refine Rn.getRm (pc := 18) flX11_40 hl dX11_address_18 ?_
    refine Rn.aload_n (pc := 21) dX11_address_21 rfl rfl ?_
    refine Rn.getRm (pc := 22) flX11_40 hl dX11_address_22 ?_
    refine Rn.getR (pc := 25) flX11_140 mu0_0 fx0_0 dX11_address_25 ?_
    refine Rn.iload_n (pc := 28) dX11_address_28 rfl rfl ?_
    refine Rn.aload_n (pc := 29) dX11_address_29 rfl rfl ?_
    refine Rn.getR (pc := 30) flX11_10 mu10_0 fx10_0 dX11_address_30 ?_
    refine Rn.iconst (pc := 33) (v := nI 0) dX11_address_33 (by decide) ?_
    refine Rn.aload_n (pc := 34) dX11_address_34 rfl rfl ?_
    refine Rn.getR (pc := 35) flX11_10 mu10_0 fx10_0 dX11_address_35 ?_
    refine Rn.getI (pc := 38) (t := 0) flX11_51 hq.1 dX11_address_38 ?_
    refine Rn.callV (pc := 41) (as := [_, _]) cvX11_144 ⟨by decide, rfl⟩ ⟨by decide, by decide⟩ dX11_address_41 (Nat.le_of_ble_eq_true rfl) rfl (k_nameBetween G (n := q.1) (L := q.2) ⟨hq.1, hq48, hq.2, hq9⟩ 0 q.1 (Nat.zero_le _) (Nat.le_refl _)) ?_
    rintro _ M9 ⟨rfl, h9⟩
    rw [h9, show nmV q.2 0 q.1 = nmv q by unfold nmV nmv; rw [Nat.sub_zero]]
    refine Rn.callV (pc := 44) (as := [_, _]) cvX11_148 ⟨by decide, rfl⟩ ⟨by decide, by decide⟩ dX11_address_44 (Nat.le_of_ble_eq_true rfl) rfl (k_find G l B m (nmv q) hL hN (by omega) hnv) ?_
    rintro _ M9 ⟨rfl, h9⟩
    rw [h9]
    cases hf : fnd B m (nmv q) with
    | none =>
      rw [show prV none = (-1 : Int32) from rfl, show adO bs B none = (-1 : Int32) from rfl]
      refine Rn.callV (pc := 47) (as := [_]) cvX11_154 ⟨by decide, rfl⟩ ⟨by decide, by decide⟩ dX11_address_47 (Nat.le_of_ble_eq_true rfl) rfl (k_addressOf_no G l (-1) (by decide)) ?_
      rintro _ _ ⟨rfl, rfl⟩
      refine Rn.iret (pc := 50) rfl dX11_address_50 ?_
      exact ⟨rfl, rfl⟩
    | some k =>
      rw [prV_s, show adO bs B (some k) = nI (ad bs B k) from rfl]
      refine Rn.callV (pc := 47) (as := [_]) cvX11_154 ⟨by decide, rfl⟩ ⟨by decide, by decide⟩ dX11_address_47 (Nat.le_of_ble_eq_true rfl) rfl (k_addressOf G l bs B k (fnd_some hf).1 hL hN.1 hW hA) ?_
      rintro _ _ ⟨rfl, rfl⟩
      refine Rn.iret (pc := 50) rfl dX11_address_50 ?_
      exact ⟨rfl, rfl⟩
  · cases c4

theorem wD_fr {M : Mem} {t : KS} : Fr (fun k _ _ => k = 6) M (wD M t) := (((((Fr.refl M).sI rfl).sI rfl).sI rfl).sI rfl)
/-- what a line's reading may change, beside the scanner's line -/
def SPs (i k j s : Nat) : Prop := (k = 6) ∨ (k = 8 ∧ j = i) ∨ (k = 9 ∧ s = 1) ∨ (k = 7 ∧ s = 1)
theorem ps_fr {i : Nat} {A : CR} {M : Mem} {t : KS} : Fr (SPs i) (sR M 6 0 0 0) (wD (wA i A (sR M 6 0 0 0)) t) := (wA_fr.mono (fun k j s h => Or.inr (Or.inl h))).trans (wD_fr.mono (fun k j s h => Or.inl h))
set_option maxRecDepth 20000 in
set_option maxHeartbeats 4000000 in
theorem k_add_ok (G : GX) {M : Mem} (m n : Nat) (hm : m < 4) (hn : n < 24) (hc : mI M 7 m 1 = nI n) (q : Nat × (Nat → Nat)) (hq : TyC q M) (hq48 : q.1 ≤ 48) (hq9 : ∀ i, i < q.1 → 0 < q.2 i ∧ q.2 i < 256) : MetM G yX11_add iX11_add [vR 10 0, vI (nI m)] M (fun r M' => r = some (vI (nI (n + 1))) ∧ RecC (24 * m + n) (cP q.2 q.1) M' ∧ mI M' 7 m 1 = nI (n + 1) ∧ mI M' 9 0 1 = nI 0 ∧ (∀ m', m' ≠ m → mI M' 7 m' 1 = mI M 7 m' 1) ∧ Fr (SPs (24 * m + n)) (sR M 6 0 0 0) M') := by
  refine MetM.of (ls := [some (vR 10 0), some (vI (nI m)), none]) (by decide) rfl (Nat.le_of_ble_eq_true rfl) rfl ?_
  intro hM0
  refine Rn.iload_n (pc := 0) dX11_add_0 rfl rfl ?_
  refine Rn.callS (pc := 1) (as := [_]) csX11_66 ⟨by decide, by decide⟩ dX11_add_1 (Nat.le_of_ble_eq_true rfl) rfl (k_isModule G (nI m)) ?_
  rintro _ M9 ⟨rfl, h9⟩
  rw [h9, mod_N hm]
  refine Rn.if_neB (pc := 4) (tgt := 17) dX11_add_4 (by decide) (fun c4 => ?_) (fun c4 => ?_)
  · refine Rn.aload_n (pc := 17) dX11_add_17 rfl rfl ?_
    refine Rn.getR (pc := 18) flX11_18 mu10_1 fx10_1 dX11_add_18 ?_
    refine Rn.iload_n (pc := 21) dX11_add_21 rfl rfl ?_
    refine Rn.aaldN (pc := 22) ak13 (by decide) rfl (by omega) (by decide) fx13 dX11_add_22 ?_
    refine Rn.astore_n (pc := 23) dX11_add_23 rfl (by decide) rfl st3_2 ?_
    refine Rn.aload_n (pc := 24) dX11_add_24 rfl rfl ?_
    refine Rn.getI (pc := 25) (t := 0) flX11_75 hc dX11_add_25 ?_
    refine Rn.bipush (pc := 28) (v := nI 24) dX11_add_28 (by decide) ?_
    refine Rn.icmp_ltN (pc := 30) (tgt := 43) dX11_add_30 (by decide) (by omega) (by omega) (fun c30 => ?_) (fun c30 => ?_)
    · refine Rn.aload_n (pc := 43) dX11_add_43 rfl rfl ?_
      refine Rn.getR (pc := 44) flX11_26 mu10_2 fx10_2 dX11_add_44 ?_
      refine Rn.aload_n (pc := 47) dX11_add_47 rfl rfl ?_
      refine Rn.getR (pc := 48) flX11_10 mu10_0 fx10_0 dX11_add_48 ?_
      refine Rn.aload_n (pc := 51) dX11_add_51 rfl rfl ?_
      refine Rn.getR (pc := 52) flX11_80 mu7_0 fx7_0 dX11_add_52 ?_
      refine Rn.aload_n (pc := 55) dX11_add_55 rfl rfl ?_
      refine Rn.getI (pc := 56) (t := 0) flX11_75 hc dX11_add_56 ?_
      refine Rn.aaldN (pc := 59) ak14 (by decide) rfl (by omega) (by decide) fx14 dX11_add_59 ?_
      refine Rn.callV (pc := 60) (as := [_, _]) cvX11_84 ⟨by decide, rfl⟩ ⟨by decide, by decide⟩ dX11_add_60 (Nat.le_of_ble_eq_true rfl) rfl (k_parse G (n := q.1) (L := q.2) ⟨hq.1, hq48, hq.2, hq9⟩ (24 * m + n)) ?_
      rintro _ _ ⟨rfl, t, rfl⟩
      have hR : RecC (24 * m + n) (cP q.2 q.1) (wD (wA (24 * m + n) (cP q.2 q.1) (sR M 6 0 0 0)) t) := wA_RecC.fr (wD_fr) (fun s _ _ _ => by omega) (fun _ => by omega)
      refine Rn.aload_n (pc := 63) dX11_add_63 rfl rfl ?_
      refine Rn.dupR (pc := 64) (x := 0) (y := 0) dX11_add_64 ?_
      refine Rn.getI (pc := 65) (t := 0) flX11_75 (show mI (wD (wA (24 * m + n) (cP q.2 q.1) (sR M 6 0 0 0)) t) 7 m 1 = nI n from hc) dX11_add_65 ?_
      refine Rn.iconst (pc := 68) (v := nI 1) dX11_add_68 (by decide) ?_
      refine Rn.iaddN (pc := 69) dX11_add_69 ?_
      refine Rn.putI (pc := 70) (t := 0) flX11_75 rfl rfl dX11_add_70 ?_
      refine Rn.aload_n (pc := 73) dX11_add_73 rfl rfl ?_
      refine Rn.getR (pc := 74) flX11_10 mu10_0 fx10_0 dX11_add_74 ?_
      refine Rn.iconst (pc := 77) (v := nI 0) dX11_add_77 (by decide) ?_
      refine Rn.putI (pc := 78) (t := 0) flX11_51 rfl rfl dX11_add_78 ?_
      refine Rn.aload_n (pc := 81) dX11_add_81 rfl rfl ?_
      refine Rn.getI (pc := 82) (t := 0) flX11_75 (show mI (sI (sI (wD (wA (24 * m + n) (cP q.2 q.1) (sR M 6 0 0 0)) t) 7 m 1 (nI (n + 1))) 9 0 1 (nI 0)) 7 m 1 = nI (n + 1) by rw [mI_sI, if_neg (by omega), mI_sI, if_pos ⟨rfl, rfl, rfl⟩]) dX11_add_82 ?_
      refine Rn.iret (pc := 85) rfl dX11_add_85 ?_
      refine ⟨rfl, hR.fr (S := fun k _ _ => k = 7 ∨ k = 9) (((Fr.refl _).sI (Or.inl rfl)).sI (Or.inr rfl)) (fun s _ _ _ => by omega) (fun _ => by omega), ?_, rfl, fun m' hm' => ?_, (ps_fr.sI (Or.inr (Or.inr (Or.inr ⟨rfl, rfl⟩)))).sI (Or.inr (Or.inr (Or.inl ⟨rfl, rfl⟩)))⟩
      · rw [mI_sI, if_neg (by omega), mI_sI, if_pos ⟨rfl, rfl, rfl⟩]
      · rw [mI_sI, if_neg (by omega), mI_sI, if_neg (fun y => hm' y.2.1)]; rfl
    · exact absurd hn (by omega)
  · cases c4

set_option maxRecDepth 20000 in
set_option maxHeartbeats 4000000 in
theorem k_change_ok (G : GX) {M : Mem} (m n c : Nat) (hm : m < 4) (hn : n < c) (hc24 : c ≤ 24) (hc : mI M 7 m 1 = nI c) (q : Nat × (Nat → Nat)) (hq : TyC q M) (hq48 : q.1 ≤ 48) (hq9 : ∀ i, i < q.1 → 0 < q.2 i ∧ q.2 i < 256) : MetM G yX11_change iX11_change [vR 10 0, vI (nI m), vI (nI n)] M (fun r M' => r = none ∧ RecC (24 * m + n) (cP q.2 q.1) M' ∧ mI M' 9 0 1 = nI 0 ∧ (∀ m', mI M' 7 m' 1 = mI M 7 m' 1) ∧ Fr (SPs (24 * m + n)) (sR M 6 0 0 0) M') := by
  refine MetM.of (ls := [some (vR 10 0), some (vI (nI m)), some (vI (nI n)), none]) (by decide) rfl (Nat.le_of_ble_eq_true rfl) rfl ?_
  intro hM0
  refine Rn.iload_n (pc := 0) dX11_change_0 rfl rfl ?_
  refine Rn.callS (pc := 1) (as := [_]) csX11_66 ⟨by decide, by decide⟩ dX11_change_1 (Nat.le_of_ble_eq_true rfl) rfl (k_isModule G (nI m)) ?_
  rintro _ M9 ⟨rfl, h9⟩
  rw [h9, mod_N hm]
  refine Rn.if_neB (pc := 4) (tgt := 17) dX11_change_4 (by decide) (fun c4 => ?_) (fun c4 => ?_)
  · refine Rn.aload_n (pc := 17) dX11_change_17 rfl rfl ?_
    refine Rn.getR (pc := 18) flX11_18 mu10_1 fx10_1 dX11_change_18 ?_
    refine Rn.iload_n (pc := 21) dX11_change_21 rfl rfl ?_
    refine Rn.aaldN (pc := 22) ak13 (by decide) rfl (by omega) (by decide) fx13 dX11_change_22 ?_
    refine Rn.astore_n (pc := 23) dX11_change_23 rfl (by decide) rfl st4_3 ?_
    refine Rn.iload_n (pc := 24) dX11_change_24 rfl rfl ?_
    refine Rn.if_lt (pc := 25) (y := 0) (tgt := 36) dX11_change_25 (by decide) (fun c25 => ?_) (fun c25 => ?_)
    · exact absurd c25 (nI_pos (by omega))
    · refine Rn.iload_n (pc := 28) dX11_change_28 rfl rfl ?_
      refine Rn.aload_n (pc := 29) dX11_change_29 rfl rfl ?_
      refine Rn.getI (pc := 30) (t := 0) flX11_75 hc dX11_change_30 ?_
      refine Rn.icmp_ltN (pc := 33) (tgt := 46) dX11_change_33 (by decide) (by omega) (by omega) (fun c33 => ?_) (fun c33 => ?_)
      · refine Rn.aload_n (pc := 46) dX11_change_46 rfl rfl ?_
        refine Rn.getR (pc := 47) flX11_26 mu10_2 fx10_2 dX11_change_47 ?_
        refine Rn.aload_n (pc := 50) dX11_change_50 rfl rfl ?_
        refine Rn.getR (pc := 51) flX11_10 mu10_0 fx10_0 dX11_change_51 ?_
        refine Rn.aload_n (pc := 54) dX11_change_54 rfl rfl ?_
        refine Rn.getR (pc := 55) flX11_80 mu7_0 fx7_0 dX11_change_55 ?_
        refine Rn.iload_n (pc := 58) dX11_change_58 rfl rfl ?_
        refine Rn.aaldN (pc := 59) ak14 (by decide) rfl (by omega) (by decide) fx14 dX11_change_59 ?_
        refine Rn.callV (pc := 60) (as := [_, _]) cvX11_84 ⟨by decide, rfl⟩ ⟨by decide, by decide⟩ dX11_change_60 (Nat.le_of_ble_eq_true rfl) rfl (k_parse G (n := q.1) (L := q.2) ⟨hq.1, hq48, hq.2, hq9⟩ (24 * m + n)) ?_
        rintro _ _ ⟨rfl, t, rfl⟩
        have hR : RecC (24 * m + n) (cP q.2 q.1) (wD (wA (24 * m + n) (cP q.2 q.1) (sR M 6 0 0 0)) t) := wA_RecC.fr (wD_fr) (fun s _ _ _ => by omega) (fun _ => by omega)
        refine Rn.aload_n (pc := 63) dX11_change_63 rfl rfl ?_
        refine Rn.getR (pc := 64) flX11_10 mu10_0 fx10_0 dX11_change_64 ?_
        refine Rn.iconst (pc := 67) (v := nI 0) dX11_change_67 (by decide) ?_
        refine Rn.putI (pc := 68) (t := 0) flX11_51 rfl rfl dX11_change_68 ?_
        refine Rn.vret (pc := 71) rfl dX11_change_71 ?_
        exact ⟨rfl, hR.fr (S := fun k _ _ => k = 7 ∨ k = 9) ((Fr.refl _).sI (Or.inr rfl)) (fun s _ _ _ => by omega) (fun _ => by omega), rfl, fun m' => rfl, ps_fr.sI (Or.inr (Or.inr (Or.inl ⟨rfl, rfl⟩)))⟩
      · exact absurd hn (by omega)
  · cases c4

