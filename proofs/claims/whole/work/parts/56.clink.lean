set_option maxRecDepth 20000 in
set_option maxHeartbeats 4000000 in
theorem k_fill19 (G : GX) {M : Mem} (j : Nat) (x : Int32) : MetM G yJ7_fill_53178 iJ7_fill_53178 [vR 19 j, vI x] M (fun r M' => r = none ∧ Fr (fun k i _ => k = 19 ∧ i = j) M M' ∧ ∀ s, s < 3 → mI M' 19 j s = x) := by
  refine MetM.of (ls := [some (vR 19 j), some (vI x), none, none]) (by decide) rfl (Nat.le_of_ble_eq_true rfl) rfl ?_
  intro hM0
  have loop : ∀ (d t : Nat) (N : Mem), 3 - t = d → t ≤ 3 → Fr (fun k i _ => k = 19 ∧ i = j) M N → (∀ s, s < t → mI N 19 j s = x) → Rn G iJ7_fill_53178 (fun r M' => r = none ∧ Fr (fun k i _ => k = 19 ∧ i = j) M M' ∧ ∀ s, s < 3 → mI M' 19 j s = x) 5 [some (vR 19 j), some (vI x), some (vI (nI t)), some (vI (nI 3))] [] N := by
    intro d
    induction d using Nat.strongRecOn with
    | ind d ih =>
      intro t N hd ht fN hb
      refine Rn.iload_n (pc := 5) dJ7_fill_53178_5 rfl rfl ?_
      refine Rn.iload_n (pc := 6) dJ7_fill_53178_6 rfl rfl ?_
      refine Rn.icmp_geN (pc := 7) (tgt := 20) dJ7_fill_53178_7 (by decide) (by omega) (by omega) (fun c7 => ?_) (fun c7 => ?_)
      · refine Rn.vret (pc := 20) rfl dJ7_fill_53178_20 ?_
        exact ⟨rfl, fN, fun s hs => hb s (by omega)⟩
      · refine Rn.aload_n (pc := 10) dJ7_fill_53178_10 rfl rfl ?_
        refine Rn.iload_n (pc := 11) dJ7_fill_53178_11 rfl rfl ?_
        refine Rn.iload_n (pc := 12) dJ7_fill_53178_12 rfl rfl ?_
        refine Rn.iastN (pc := 13) ak19 (by omega) (by decide) dJ7_fill_53178_13 ?_
        refine Rn.iincN (pc := 14) (n := 1) dJ7_fill_53178_14 rfl (by decide) (by decide) rfl st4_2 ?_
        refine Rn.goto (pc := 17) (tgt := 5) dJ7_fill_53178_17 (by decide) ?_
        refine ih (3 - (t + 1)) (by omega) (t + 1) _ rfl (by omega) (fN.sI ⟨rfl, rfl⟩) (fun s hs => ?_)
        rw [mI_sI]
        by_cases e : s = t
        · rw [e, if_pos ⟨rfl, rfl, rfl⟩]
        · rw [if_neg (fun y => e y.2.2)]; exact hb s (by omega)
  refine Rn.iconst (pc := 0) (v := nI 0) dJ7_fill_53178_0 (by decide) ?_
  refine Rn.istore_n (pc := 1) dJ7_fill_53178_1 rfl (by decide) rfl st4_2 ?_
  refine Rn.aload_n (pc := 2) dJ7_fill_53178_2 rfl rfl ?_
  refine Rn.alen (pc := 3) ak19 (by decide) dJ7_fill_53178_3 ?_
  refine Rn.istore_n (pc := 4) dJ7_fill_53178_4 rfl (by decide) rfl st4_3 ?_
  exact loop 3 0 M rfl (by decide) (Fr.refl M) (fun s hs => absurd hs (Nat.not_lt_zero s))

set_option maxRecDepth 20000 in
set_option maxHeartbeats 4000000 in
theorem k_fill20 (G : GX) {M : Mem} (j : Nat) (x : Int32) : MetM G yJ7_fill_53178 iJ7_fill_53178 [vR 20 j, vI x] M (fun r M' => r = none ∧ Fr (fun k i _ => k = 20 ∧ i = j) M M' ∧ ∀ s, s < 4 → mI M' 20 j s = x) := by
  refine MetM.of (ls := [some (vR 20 j), some (vI x), none, none]) (by decide) rfl (Nat.le_of_ble_eq_true rfl) rfl ?_
  intro hM0
  have loop : ∀ (d t : Nat) (N : Mem), 4 - t = d → t ≤ 4 → Fr (fun k i _ => k = 20 ∧ i = j) M N → (∀ s, s < t → mI N 20 j s = x) → Rn G iJ7_fill_53178 (fun r M' => r = none ∧ Fr (fun k i _ => k = 20 ∧ i = j) M M' ∧ ∀ s, s < 4 → mI M' 20 j s = x) 5 [some (vR 20 j), some (vI x), some (vI (nI t)), some (vI (nI 4))] [] N := by
    intro d
    induction d using Nat.strongRecOn with
    | ind d ih =>
      intro t N hd ht fN hb
      refine Rn.iload_n (pc := 5) dJ7_fill_53178_5 rfl rfl ?_
      refine Rn.iload_n (pc := 6) dJ7_fill_53178_6 rfl rfl ?_
      refine Rn.icmp_geN (pc := 7) (tgt := 20) dJ7_fill_53178_7 (by decide) (by omega) (by omega) (fun c7 => ?_) (fun c7 => ?_)
      · refine Rn.vret (pc := 20) rfl dJ7_fill_53178_20 ?_
        exact ⟨rfl, fN, fun s hs => hb s (by omega)⟩
      · refine Rn.aload_n (pc := 10) dJ7_fill_53178_10 rfl rfl ?_
        refine Rn.iload_n (pc := 11) dJ7_fill_53178_11 rfl rfl ?_
        refine Rn.iload_n (pc := 12) dJ7_fill_53178_12 rfl rfl ?_
        refine Rn.iastN (pc := 13) ak20 (by omega) (by decide) dJ7_fill_53178_13 ?_
        refine Rn.iincN (pc := 14) (n := 1) dJ7_fill_53178_14 rfl (by decide) (by decide) rfl st4_2 ?_
        refine Rn.goto (pc := 17) (tgt := 5) dJ7_fill_53178_17 (by decide) ?_
        refine ih (4 - (t + 1)) (by omega) (t + 1) _ rfl (by omega) (fN.sI ⟨rfl, rfl⟩) (fun s hs => ?_)
        rw [mI_sI]
        by_cases e : s = t
        · rw [e, if_pos ⟨rfl, rfl, rfl⟩]
        · rw [if_neg (fun y => e y.2.2)]; exact hb s (by omega)
  refine Rn.iconst (pc := 0) (v := nI 0) dJ7_fill_53178_0 (by decide) ?_
  refine Rn.istore_n (pc := 1) dJ7_fill_53178_1 rfl (by decide) rfl st4_2 ?_
  refine Rn.aload_n (pc := 2) dJ7_fill_53178_2 rfl rfl ?_
  refine Rn.alen (pc := 3) ak20 (by decide) dJ7_fill_53178_3 ?_
  refine Rn.istore_n (pc := 4) dJ7_fill_53178_4 rfl (by decide) rfl st4_3 ?_
  exact loop 4 0 M rfl (by decide) (Fr.refl M) (fun s hs => absurd hs (Nat.not_lt_zero s))

set_option maxRecDepth 20000 in
set_option maxHeartbeats 4000000 in
theorem k_fill21 (G : GX) {M : Mem} (j : Nat) (x : Int32) (hx : vp_nar .byte x = x) : MetM G yJ7_fill_031fb iJ7_fill_031fb [vR 21 j, vI x] M (fun r M' => r = none ∧ Fr (fun k i _ => k = 21 ∧ i = j) M M' ∧ ∀ s, s < 2048 → mI M' 21 j s = x) := by
  refine MetM.of (ls := [some (vR 21 j), some (vI x), none, none]) (by decide) rfl (Nat.le_of_ble_eq_true rfl) rfl ?_
  intro hM0
  have loop : ∀ (d t : Nat) (N : Mem), 2048 - t = d → t ≤ 2048 → Fr (fun k i _ => k = 21 ∧ i = j) M N → (∀ s, s < t → mI N 21 j s = x) → Rn G iJ7_fill_031fb (fun r M' => r = none ∧ Fr (fun k i _ => k = 21 ∧ i = j) M M' ∧ ∀ s, s < 2048 → mI M' 21 j s = x) 5 [some (vR 21 j), some (vI x), some (vI (nI t)), some (vI (nI 2048))] [] N := by
    intro d
    induction d using Nat.strongRecOn with
    | ind d ih =>
      intro t N hd ht fN hb
      refine Rn.iload_n (pc := 5) dJ7_fill_031fb_5 rfl rfl ?_
      refine Rn.iload_n (pc := 6) dJ7_fill_031fb_6 rfl rfl ?_
      refine Rn.icmp_geN (pc := 7) (tgt := 20) dJ7_fill_031fb_7 (by decide) (by omega) (by omega) (fun c7 => ?_) (fun c7 => ?_)
      · refine Rn.vret (pc := 20) rfl dJ7_fill_031fb_20 ?_
        exact ⟨rfl, fN, fun s hs => hb s (by omega)⟩
      · refine Rn.aload_n (pc := 10) dJ7_fill_031fb_10 rfl rfl ?_
        refine Rn.iload_n (pc := 11) dJ7_fill_031fb_11 rfl rfl ?_
        refine Rn.iload_n (pc := 12) dJ7_fill_031fb_12 rfl rfl ?_
        refine Rn.bastN (pc := 13) ak21 (by omega) (by decide) hx dJ7_fill_031fb_13 ?_
        refine Rn.iincN (pc := 14) (n := 1) dJ7_fill_031fb_14 rfl (by decide) (by decide) rfl st4_2 ?_
        refine Rn.goto (pc := 17) (tgt := 5) dJ7_fill_031fb_17 (by decide) ?_
        refine ih (2048 - (t + 1)) (by omega) (t + 1) _ rfl (by omega) (fN.sI ⟨rfl, rfl⟩) (fun s hs => ?_)
        rw [mI_sI]
        by_cases e : s = t
        · rw [e, if_pos ⟨rfl, rfl, rfl⟩]
        · rw [if_neg (fun y => e y.2.2)]; exact hb s (by omega)
  refine Rn.iconst (pc := 0) (v := nI 0) dJ7_fill_031fb_0 (by decide) ?_
  refine Rn.istore_n (pc := 1) dJ7_fill_031fb_1 rfl (by decide) rfl st4_2 ?_
  refine Rn.aload_n (pc := 2) dJ7_fill_031fb_2 rfl rfl ?_
  refine Rn.alen (pc := 3) ak21 (by decide) dJ7_fill_031fb_3 ?_
  refine Rn.istore_n (pc := 4) dJ7_fill_031fb_4 rfl (by decide) rfl st4_3 ?_
  exact loop 2048 0 M rfl (by decide) (Fr.refl M) (fun s hs => absurd hs (Nat.not_lt_zero s))

def SCl (j k i s : Nat) : Prop := (k = 19 ∧ 4 * (2 * j) ≤ i ∧ i < 4 * (2 * j) + 8) ∨ (k = 20 ∧ i = j) ∨ (k = 4 ∧ i = j ∧ s = 3)
set_option maxRecDepth 20000 in
set_option maxHeartbeats 4000000 in
theorem k_clearL (G : GX) {M : Mem} (j : Nat) : MetM G yX4_clear iX4_clear [vR 4 j] M (fun r M' => r = none ∧ Fr (SCl j) M M' ∧ SzC j (fun _ => 0) M') := by
  refine MetM.of (ls := [some (vR 4 j), none]) (by decide) rfl (Nat.le_of_ble_eq_true rfl) rfl ?_
  intro hM0
  have loop : ∀ (d t : Nat) (N : Mem), 4 - t = d → t ≤ 4 → Fr (SCl j) M N → (∀ m s, m < t → s < 3 → mI N 19 (4 * (2 * j) + m) s = nI 0) → Rn G iX4_clear (fun r M' => r = none ∧ Fr (SCl j) M M' ∧ SzC j (fun _ => 0) M') 2 [some (vR 4 j), some (vI (nI t))] [] N := by
    intro d
    induction d using Nat.strongRecOn with
    | ind d ih =>
      intro t N hd ht4 fN hb
      refine Rn.iload_n (pc := 2) dX4_clear_2 rfl rfl ?_
      refine Rn.iconst (pc := 3) (v := nI 4) dX4_clear_3 (by decide) ?_
      refine Rn.icmp_geN (pc := 4) (tgt := 33) dX4_clear_4 (by decide) (by omega) (by omega) (fun c4 => ?_) (fun c4 => ?_)
      · refine Rn.aload_n (pc := 33) dX4_clear_33 rfl rfl ?_
        refine Rn.getR (pc := 34) flX4_19 mu4_2 fx4_2 dX4_clear_34 ?_
        refine Rn.iconst (pc := 37) (v := nI 0) dX4_clear_37 (by decide) ?_
        refine Rn.callS (pc := 38) (as := [_, _]) csX4_23 ⟨by decide, by decide⟩ dX4_clear_38 (Nat.le_of_ble_eq_true rfl) rfl (k_fill20 G j (nI 0)) ?_
        rintro _ M7 ⟨rfl, f7, b7⟩
        refine Rn.aload_n (pc := 41) dX4_clear_41 rfl rfl ?_
        refine Rn.iconst (pc := 42) (v := nI 0) dX4_clear_42 (by decide) ?_
        refine Rn.putI (pc := 43) (t := 0) flX4_29 rfl rfl dX4_clear_43 ?_
        refine Rn.vret (pc := 46) rfl dX4_clear_46 ?_
        refine ⟨rfl, (fN.trans (f7.mono ?_)).sI (by unfold SCl; omega), fun m s hm hs => ?_⟩
        · intro k i s h; unfold SCl; omega
        · rw [mI_sI, if_neg (by omega), f7.I (by omega)]; exact hb m s (by omega) hs
      · have ht : t < 4 := c4
        refine Rn.aload_n (pc := 7) dX4_clear_7 rfl rfl ?_
        refine Rn.getR (pc := 8) flX4_11 mu4_0 fx4_0 dX4_clear_8 ?_
        refine Rn.iload_n (pc := 11) dX4_clear_11 rfl rfl ?_
        refine Rn.aaldN (pc := 12) ak18 (by decide) rfl (by omega) (by decide) fx18 dX4_clear_12 ?_
        refine Rn.iconst (pc := 13) (v := nI 0) dX4_clear_13 (by decide) ?_
        refine Rn.callS (pc := 14) (as := [_, _]) csX4_23 ⟨by decide, by decide⟩ dX4_clear_14 (Nat.le_of_ble_eq_true rfl) rfl (k_fill19 G (4 * (2 * j) + t) (nI 0)) ?_
        rintro _ M5 ⟨rfl, f5, b5⟩
        refine Rn.aload_n (pc := 17) dX4_clear_17 rfl rfl ?_
        refine Rn.getR (pc := 18) flX4_16 mu4_1 fx4_1 dX4_clear_18 ?_
        refine Rn.iload_n (pc := 21) dX4_clear_21 rfl rfl ?_
        refine Rn.aaldN (pc := 22) ak18 (by decide) rfl (by omega) (by decide) fx18 dX4_clear_22 ?_
        refine Rn.iconst (pc := 23) (v := nI 0) dX4_clear_23 (by decide) ?_
        refine Rn.callS (pc := 24) (as := [_, _]) csX4_23 ⟨by decide, by decide⟩ dX4_clear_24 (Nat.le_of_ble_eq_true rfl) rfl (k_fill19 G (4 * (2 * j + 1) + t) (nI 0)) ?_
        rintro _ M6 ⟨rfl, f6, b6⟩
        refine Rn.iincN (pc := 27) (n := 1) dX4_clear_27 rfl (by decide) (by decide) rfl st2_1 ?_
        refine Rn.goto (pc := 30) (tgt := 2) dX4_clear_30 (by decide) ?_
        refine ih (4 - (t + 1)) (by omega) (t + 1) _ rfl (by omega) (fN.trans ((f5.mono ?_).trans (f6.mono ?_))) (fun m s hm hs => ?_)
        · intro k i s h; unfold SCl; omega
        · intro k i s h; unfold SCl; omega
        · rw [f6.I (by omega)]
          by_cases e : m = t
          · rw [e]; exact b5 s hs
          · rw [f5.I (by omega)]; exact hb m s (by omega) hs
  refine Rn.iconst (pc := 0) (v := nI 0) dX4_clear_0 (by decide) ?_
  refine Rn.istore_n (pc := 1) dX4_clear_1 rfl (by decide) rfl st2_1 ?_
  exact loop 4 0 M rfl (by decide) (Fr.refl M) (fun m s hm => absurd hm (Nat.not_lt_zero m))

/-- a byte of the image of the build j -/
def bC (j : Nat) (M : Mem) (k : Nat) : Int32 := mI M 21 j k &&& nI 255
def S21 (j a b k i s : Nat) : Prop := k = 21 ∧ i = j ∧ a ≤ s ∧ s < b
theorem bC_fr {j a b x : Nat} {M N : Mem} (f : Fr (S21 j a b) M N) (h : x < a ∨ b ≤ x) : bC j N x = bC j M x := by
  unfold bC; rw [f.I (by unfold S21; omega)]
theorem bt_in {a b : Nat} (ha : a < 256) (hb : b < 256) (h : nI a = nI b) : a = b := (nI_eq (by omega) (by omega)).mp h
theorem i2b_b (x : Int32) : x.toInt8.toInt32 &&& nI 255 = nI (bt x 0) := by
  rw [pk_and _ 8 (by decide)]
  unfold bt
  congr 1
  rw [Int8.toBitVec_toInt32, Int32.toBitVec_toInt8, BitVec.toNat_signExtend, BitVec.toNat_setWidth, BitVec.toNat_signExtend, BitVec.toNat_setWidth]
  have b := x.toBitVec.isLt
  split <;> split <;> omega
theorem bt_8 (v : Int32) : bt (v >>> (nI 8 &&& 31)) 0 = bt v 1 := bt_in bt_lt bt_lt ((bt_0 _).symm.trans (bt_1 v))
theorem bt_8' (v : Int32) : bt (v >>> (nI 8 &&& 31)) 0 = bt v 1 ∧ bt (v >>> (nI 16 &&& 31)) 0 = bt v 2 ∧ bt (v >>> (nI 16 &&& 31)) 1 = bt v 3 := ⟨bt_8 v, bt_16 v 0 (by decide), bt_16 v 1 (by decide)⟩
set_option maxRecDepth 20000 in
set_option maxHeartbeats 4000000 in
theorem k_clearI (G : GX) {M : Mem} (j : Nat) : MetM G yX2_clear iX2_clear [vR 2 j] M (fun r M' => r = none ∧ Fr (fun k i s => (k = 21 ∧ i = j) ∨ (k = 2 ∧ i = j ∧ s = 1)) M M' ∧ mI M' 2 j 1 = nI 0 ∧ ∀ k, k < 2048 → bC j M' k = nI 0) := by
  refine MetM.of (ls := [some (vR 2 j)]) (by decide) rfl (Nat.le_of_ble_eq_true rfl) rfl ?_
  intro hM0
  refine Rn.aload_n (pc := 0) dX2_clear_0 rfl rfl ?_
  refine Rn.getR (pc := 1) flX2_11 mu2_0 fx2_0 dX2_clear_1 ?_
  refine Rn.iconst (pc := 4) (v := nI 0) dX2_clear_4 (by decide) ?_
  refine Rn.callS (pc := 5) (as := [_, _]) csX2_15 ⟨by decide, by decide⟩ dX2_clear_5 (Nat.le_of_ble_eq_true rfl) rfl (k_fill21 G j (nI 0) (by decide)) ?_
  rintro _ M5 ⟨rfl, f5, b5⟩
  refine Rn.aload_n (pc := 8) dX2_clear_8 rfl rfl ?_
  refine Rn.iconst (pc := 9) (v := nI 0) dX2_clear_9 (by decide) ?_
  refine Rn.putI (pc := 10) (t := 0) flX2_21 rfl rfl dX2_clear_10 ?_
  refine Rn.vret (pc := 13) rfl dX2_clear_13 ?_
  refine ⟨rfl, (f5.mono (fun k i s h => Or.inl h)).sI (Or.inr ⟨rfl, rfl, rfl⟩), by rw [mI_sI, if_pos ⟨rfl, rfl, rfl⟩], fun k hk => ?_⟩
  unfold bC; rw [mI_sI, if_neg (by omega), b5 k hk]; decide

set_option maxRecDepth 20000 in
set_option maxHeartbeats 4000000 in
theorem k_putByte (G : GX) {M : Mem} (j p : Nat) (v : Int32) (hp : p < 2048) : MetM G yX2_putByte iX2_putByte [vR 2 j, vI (nI p), vI v] M (fun r M' => r = none ∧ Fr (S21 j p (p + 1)) M M' ∧ ∀ i, i < 1 → bC j M' (p + i) = nI (bt v i)) := by
  refine MetM.of (ls := [some (vR 2 j), some (vI (nI p)), some (vI v)]) (by decide) rfl (Nat.le_of_ble_eq_true rfl) rfl ?_
  intro hM0
  refine Rn.iload_n (pc := 0) dX2_putByte_0 rfl rfl ?_
  refine Rn.if_lt (pc := 1) (y := 0) (tgt := 19) dX2_putByte_1 (by decide) (fun c1 => ?_) (fun c1 => ?_)
  · exact absurd c1 (nI_pos (by omega))
  · refine Rn.iload_n (pc := 4) dX2_putByte_4 rfl rfl ?_
    refine Rn.sipush (pc := 5) (v := nI 2048) dX2_putByte_5 (by decide) ?_
    refine Rn.icmp_geN (pc := 8) (tgt := 19) dX2_putByte_8 (by decide) (by omega) (by omega) (fun c8 => ?_) (fun c8 => ?_)
    · exact absurd c8 (by omega)
    · refine Rn.aload_n (pc := 11) dX2_putByte_11 rfl rfl ?_
      refine Rn.getR (pc := 12) flX2_11 mu2_0 fx2_0 dX2_putByte_12 ?_
      refine Rn.iload_n (pc := 15) dX2_putByte_15 rfl rfl ?_
      refine Rn.iload_n (pc := 16) dX2_putByte_16 rfl rfl ?_
      refine Rn.i2b (pc := 17) dX2_putByte_17 ?_
      refine Rn.bastN (pc := 18) ak21 (by omega) (by decide) (pk_vb v) dX2_putByte_18 ?_
      refine Rn.vret (pc := 19) rfl dX2_putByte_19 ?_
      refine ⟨rfl, (Fr.refl M).sI ⟨rfl, rfl, Nat.le_refl _, by omega⟩, fun i hi => ?_⟩
      unfold bC; rw [show i = 0 by omega, Nat.add_zero, mI_sI, if_pos ⟨rfl, rfl, rfl⟩, i2b_b]

set_option maxRecDepth 20000 in
set_option maxHeartbeats 4000000 in
theorem k_putHalf (G : GX) {M : Mem} (j p : Nat) (v : Int32) (hp : p + 1 < 2048) : MetM G yX2_putHalf iX2_putHalf [vR 2 j, vI (nI p), vI v] M (fun r M' => r = none ∧ Fr (S21 j p (p + 2)) M M' ∧ ∀ i, i < 2 → bC j M' (p + i) = nI (bt v i)) := by
  refine MetM.of (ls := [some (vR 2 j), some (vI (nI p)), some (vI v)]) (by decide) rfl (Nat.le_of_ble_eq_true rfl) rfl ?_
  intro hM0
  refine Rn.aload_n (pc := 0) dX2_putHalf_0 rfl rfl ?_
  refine Rn.iload_n (pc := 1) dX2_putHalf_1 rfl rfl ?_
  refine Rn.iload_n (pc := 2) dX2_putHalf_2 rfl rfl ?_
  refine Rn.callV (pc := 3) (as := [_, _]) cvX2_25 ⟨by decide, rfl⟩ ⟨by decide, by decide⟩ dX2_putHalf_3 (Nat.le_of_ble_eq_true rfl) rfl (k_putByte G j p v (by omega)) ?_
  rintro _ M5 ⟨rfl, f5, b5⟩
  refine Rn.aload_n (pc := 6) dX2_putHalf_6 rfl rfl ?_
  refine Rn.iload_n (pc := 7) dX2_putHalf_7 rfl rfl ?_
  refine Rn.iconst (pc := 8) (v := nI 1) dX2_putHalf_8 (by decide) ?_
  refine Rn.iaddN (pc := 9) dX2_putHalf_9 ?_
  refine Rn.iload_n (pc := 10) dX2_putHalf_10 rfl rfl ?_
  refine Rn.bipush (pc := 11) (v := nI 8) dX2_putHalf_11 (by decide) ?_
  refine Rn.ishr (pc := 13) dX2_putHalf_13 ?_
  refine Rn.callV (pc := 14) (as := [_, _]) cvX2_25 ⟨by decide, rfl⟩ ⟨by decide, by decide⟩ dX2_putHalf_14 (Nat.le_of_ble_eq_true rfl) rfl (k_putByte G j (p + 1) (v >>> (nI 8 &&& 31)) (by omega)) ?_
  rintro _ M6 ⟨rfl, f6, b6⟩
  refine Rn.vret (pc := 17) rfl dX2_putHalf_17 ?_
  refine ⟨rfl, (f5.mono ?_).trans (f6.mono ?_), fun i hi => ?_⟩
  · intro k i s h; unfold S21 at h ⊢; omega
  · intro k i s h; unfold S21 at h ⊢; omega
  · rcases (show i = 0 ∨ i = 1 by omega) with rfl | rfl
    · rw [bC_fr f6 (by omega)]; exact b5 0 (by decide)
    · have h9 := b6 0 (by decide); rw [bt_8] at h9; exact h9

set_option maxRecDepth 20000 in
set_option maxHeartbeats 4000000 in
theorem k_putWord (G : GX) {M : Mem} (j p : Nat) (v : Int32) (hp : p + 3 < 2048) : MetM G yX2_putWord iX2_putWord [vR 2 j, vI (nI p), vI v] M (fun r M' => r = none ∧ Fr (S21 j p (p + 4)) M M' ∧ ∀ i, i < 4 → bC j M' (p + i) = nI (bt v i)) := by
  refine MetM.of (ls := [some (vR 2 j), some (vI (nI p)), some (vI v)]) (by decide) rfl (Nat.le_of_ble_eq_true rfl) rfl ?_
  intro hM0
  refine Rn.aload_n (pc := 0) dX2_putWord_0 rfl rfl ?_
  refine Rn.iload_n (pc := 1) dX2_putWord_1 rfl rfl ?_
  refine Rn.iload_n (pc := 2) dX2_putWord_2 rfl rfl ?_
  refine Rn.callV (pc := 3) (as := [_, _]) cvX2_29 ⟨by decide, rfl⟩ ⟨by decide, by decide⟩ dX2_putWord_3 (Nat.le_of_ble_eq_true rfl) rfl (k_putHalf G j p v (by omega)) ?_
  rintro _ M5 ⟨rfl, f5, b5⟩
  refine Rn.aload_n (pc := 6) dX2_putWord_6 rfl rfl ?_
  refine Rn.iload_n (pc := 7) dX2_putWord_7 rfl rfl ?_
  refine Rn.iconst (pc := 8) (v := nI 2) dX2_putWord_8 (by decide) ?_
  refine Rn.iaddN (pc := 9) dX2_putWord_9 ?_
  refine Rn.iload_n (pc := 10) dX2_putWord_10 rfl rfl ?_
  refine Rn.bipush (pc := 11) (v := nI 16) dX2_putWord_11 (by decide) ?_
  refine Rn.ishr (pc := 13) dX2_putWord_13 ?_
  refine Rn.callV (pc := 14) (as := [_, _]) cvX2_29 ⟨by decide, rfl⟩ ⟨by decide, by decide⟩ dX2_putWord_14 (Nat.le_of_ble_eq_true rfl) rfl (k_putHalf G j (p + 2) (v >>> (nI 16 &&& 31)) (by omega)) ?_
  rintro _ M6 ⟨rfl, f6, b6⟩
  refine Rn.vret (pc := 17) rfl dX2_putWord_17 ?_
  refine ⟨rfl, (f5.mono ?_).trans (f6.mono ?_), fun i hi => ?_⟩
  · intro k i s h; unfold S21 at h ⊢; omega
  · intro k i s h; unfold S21 at h ⊢; omega
  · rcases (show i < 2 ∨ i = 2 ∨ i = 3 by omega) with h | rfl | rfl
    · rw [bC_fr f6 (by omega)]; exact b5 i h
    · have h9 := b6 0 (by decide); rw [bt_16 v 0 (by decide)] at h9; exact h9
    · have h9 := b6 1 (by decide); rw [bt_16 v 1 (by decide)] at h9; exact h9

set_option maxRecDepth 20000 in
set_option maxHeartbeats 4000000 in
theorem k_byteAt_in (G : GX) {M : Mem} (j z k : Nat) (hz : z ≤ 2048) (hl : mI M 2 j 1 = nI z) (hk : k < z) : MetM G yX2_byteAt iX2_byteAt [vR 2 j, vI (nI k)] M (fun r M' => r = some (vI (bC j M k)) ∧ M' = M) := by
  refine MetM.of (ls := [some (vR 2 j), some (vI (nI k))]) (by decide) rfl (Nat.le_of_ble_eq_true rfl) rfl ?_
  intro hM0
  refine Rn.iload_n (pc := 0) dX2_byteAt_0 rfl rfl ?_
  refine Rn.if_lt (pc := 1) (y := 0) (tgt := 25) dX2_byteAt_1 (by decide) (fun c1 => ?_) (fun c1 => ?_)
  · exact absurd c1 (nI_pos (by omega))
  · refine Rn.iload_n (pc := 4) dX2_byteAt_4 rfl rfl ?_
    refine Rn.aload_n (pc := 5) dX2_byteAt_5 rfl rfl ?_
    refine Rn.getI (pc := 6) (t := 0) flX2_21 hl dX2_byteAt_6 ?_
    refine Rn.icmp_geN (pc := 9) (tgt := 25) dX2_byteAt_9 (by decide) (by omega) (by omega) (fun c9 => ?_) (fun c9 => ?_)
    · exact absurd c9 (by omega)
    · refine Rn.aload_n (pc := 12) dX2_byteAt_12 rfl rfl ?_
      refine Rn.getR (pc := 13) flX2_11 mu2_0 fx2_0 dX2_byteAt_13 ?_
      refine Rn.iload_n (pc := 16) dX2_byteAt_16 rfl rfl ?_
      refine Rn.baldN (pc := 17) ak21 (by omega) (by decide) rfl dX2_byteAt_17 ?_
      refine Rn.sipush (pc := 18) (v := nI 255) dX2_byteAt_18 (by decide) ?_
      refine Rn.iand (pc := 21) dX2_byteAt_21 ?_
      refine Rn.goto (pc := 22) (tgt := 26) dX2_byteAt_22 (by decide) ?_
      refine Rn.iret (pc := 26) rfl dX2_byteAt_26 ?_
      exact ⟨rfl, rfl⟩

set_option maxRecDepth 20000 in
set_option maxHeartbeats 4000000 in
theorem k_byteAt_no (G : GX) {M : Mem} (j z : Nat) (x : Int32) (hl : mI M 2 j 1 = nI z) (hx : x < 0 ∨ nI z ≤ x) : MetM G yX2_byteAt iX2_byteAt [vR 2 j, vI x] M (fun r M' => r = some (vI (-1)) ∧ M' = M) := by
  refine MetM.of (ls := [some (vR 2 j), some (vI x)]) (by decide) rfl (Nat.le_of_ble_eq_true rfl) rfl ?_
  intro hM0
  refine Rn.iload_n (pc := 0) dX2_byteAt_0 rfl rfl ?_
  refine Rn.if_lt (pc := 1) (y := 0) (tgt := 25) dX2_byteAt_1 (by decide) (fun c1 => ?_) (fun c1 => ?_)
  · refine Rn.iconst (pc := 25) (v := -1) dX2_byteAt_25 (by decide) ?_
    refine Rn.iret (pc := 26) rfl dX2_byteAt_26 ?_
    exact ⟨rfl, rfl⟩
  · refine Rn.iload_n (pc := 4) dX2_byteAt_4 rfl rfl ?_
    refine Rn.aload_n (pc := 5) dX2_byteAt_5 rfl rfl ?_
    refine Rn.getI (pc := 6) (t := 0) flX2_21 hl dX2_byteAt_6 ?_
    refine Rn.icmp_ge (pc := 9) (tgt := 25) dX2_byteAt_9 (by decide) (fun c9 => ?_) (fun c9 => ?_)
    · refine Rn.iconst (pc := 25) (v := -1) dX2_byteAt_25 (by decide) ?_
      refine Rn.iret (pc := 26) rfl dX2_byteAt_26 ?_
      exact ⟨rfl, rfl⟩
    · exact absurd (hx.resolve_left c1) c9

set_option maxRecDepth 20000 in
set_option maxHeartbeats 4000000 in
theorem k_forget (G : GX) {M : Mem} (j : Nat) : MetM G yX1_forget iX1_forget [vR 1 j] M (fun r M' => r = none ∧ M' = sI (sI (sI (sI M 1 j 0 (nI 0)) 1 j 1 (-1)) 1 j 2 (-1)) 1 j 3 (-1)) := by
  refine MetM.of (ls := [some (vR 1 j)]) (by decide) rfl (Nat.le_of_ble_eq_true rfl) rfl ?_
  intro hM0
  refine Rn.aload_n (pc := 0) dX1_forget_0 rfl rfl ?_
  refine Rn.iconst (pc := 1) (v := nI 0) dX1_forget_1 (by decide) ?_
  refine Rn.putI (pc := 2) (t := 0) flX1_9 rfl rfl dX1_forget_2 ?_
  refine Rn.aload_n (pc := 5) dX1_forget_5 rfl rfl ?_
  refine Rn.iconst (pc := 6) (v := -1) dX1_forget_6 (by decide) ?_
  refine Rn.putI (pc := 7) (t := 0) flX1_15 rfl rfl dX1_forget_7 ?_
  refine Rn.aload_n (pc := 10) dX1_forget_10 rfl rfl ?_
  refine Rn.iconst (pc := 11) (v := -1) dX1_forget_11 (by decide) ?_
  refine Rn.putI (pc := 12) (t := 0) flX1_18 rfl rfl dX1_forget_12 ?_
  refine Rn.aload_n (pc := 15) dX1_forget_15 rfl rfl ?_
  refine Rn.iconst (pc := 16) (v := -1) dX1_forget_16 (by decide) ?_
  refine Rn.putI (pc := 17) (t := 0) flX1_21 rfl rfl dX1_forget_17 ?_
  refine Rn.vret (pc := 20) rfl dX1_forget_20 ?_
  exact ⟨rfl, rfl⟩

set_option maxRecDepth 20000 in
set_option maxHeartbeats 4000000 in
theorem k_tell (G : GX) {M : Mem} (j : Nat) (a b c d : Int32) : MetM G yX1_tell iX1_tell [vR 1 j, vI a, vI b, vI c, vI d] M (fun r M' => r = some (vI (bI false)) ∧ M' = sI (sI (sI (sI M 1 j 0 a) 1 j 1 b) 1 j 2 c) 1 j 3 d) := by
  refine MetM.of (ls := [some (vR 1 j), some (vI a), some (vI b), some (vI c), some (vI d)]) (by decide) rfl (Nat.le_of_ble_eq_true rfl) rfl ?_
  intro hM0
  refine Rn.aload_n (pc := 0) dX1_tell_0 rfl rfl ?_
  refine Rn.iload_n (pc := 1) dX1_tell_1 rfl rfl ?_
  refine Rn.putI (pc := 2) (t := 0) flX1_9 rfl rfl dX1_tell_2 ?_
  refine Rn.aload_n (pc := 5) dX1_tell_5 rfl rfl ?_
  refine Rn.iload_n (pc := 6) dX1_tell_6 rfl rfl ?_
  refine Rn.putI (pc := 7) (t := 0) flX1_15 rfl rfl dX1_tell_7 ?_
  refine Rn.aload_n (pc := 10) dX1_tell_10 rfl rfl ?_
  refine Rn.iload_n (pc := 11) dX1_tell_11 rfl rfl ?_
  refine Rn.putI (pc := 12) (t := 0) flX1_18 rfl rfl dX1_tell_12 ?_
  refine Rn.aload_n (pc := 15) dX1_tell_15 rfl rfl ?_
  refine Rn.iload (pc := 16) dX1_tell_16 rfl ?_
  refine Rn.putI (pc := 18) (t := 0) flX1_21 rfl rfl dX1_tell_18 ?_
  refine Rn.iconst (pc := 21) (v := nI 0) dX1_tell_21 (by decide) ?_
  refine Rn.zret (pc := 22) rfl rfl dX1_tell_22 ?_
  exact ⟨rfl, rfl⟩

def SBd (j k i s : Nat) : Prop := SCl j k i s ∨ (k = 21 ∧ i = j) ∨ (k = 2 ∧ i = j ∧ s = 1) ∨ (k = 3 ∧ i = j ∧ s = 5)
set_option maxRecDepth 20000 in
set_option maxHeartbeats 4000000 in
theorem k_clearB (G : GX) {M : Mem} (j : Nat) : MetM G yX0_clear iX0_clear [vR 0 j] M (fun r M' => r = none ∧ Fr (SBd j) M M' ∧ mI M' 3 j 5 = nI 0 ∧ SzC j (fun _ => 0) M' ∧ mI M' 2 j 1 = nI 0 ∧ ∀ k, k < 2048 → bC j M' k = nI 0) := by
  refine MetM.of (ls := [some (vR 0 j)]) (by decide) rfl (Nat.le_of_ble_eq_true rfl) rfl ?_
  intro hM0
  refine Rn.aload_n (pc := 0) dX0_clear_0 rfl rfl ?_
  refine Rn.getR (pc := 1) flX0_12 mu0_0 fx0_0 dX0_clear_1 ?_
  refine Rn.iconst (pc := 4) (v := nI 0) dX0_clear_4 (by decide) ?_
  refine Rn.putI (pc := 5) (t := 0) flX0_32 rfl rfl dX0_clear_5 ?_
  refine Rn.aload_n (pc := 8) dX0_clear_8 rfl rfl ?_
  refine Rn.getR (pc := 9) flX0_21 mu0_1 fx0_1 dX0_clear_9 ?_
  refine Rn.callV (pc := 12) (as := []) cvX0_36 ⟨by decide, rfl⟩ ⟨by decide, by decide⟩ dX0_clear_12 (Nat.le_of_ble_eq_true rfl) rfl (k_clearL G j) ?_
  rintro _ M5 ⟨rfl, f5, b5⟩
  refine Rn.aload_n (pc := 15) dX0_clear_15 rfl rfl ?_
  refine Rn.getR (pc := 16) flX0_28 mu0_2 fx0_2 dX0_clear_16 ?_
  refine Rn.callV (pc := 19) (as := []) cvX0_39 ⟨by decide, rfl⟩ ⟨by decide, by decide⟩ dX0_clear_19 (Nat.le_of_ble_eq_true rfl) rfl (k_clearI G j) ?_
  rintro _ M6 ⟨rfl, f6, b6, b7⟩
  refine Rn.vret (pc := 22) rfl dX0_clear_22 ?_
  refine ⟨rfl, (((Fr.refl M).sI (Or.inr (Or.inr (Or.inr ⟨rfl, rfl, rfl⟩)))).trans (f5.mono (fun k i s h => Or.inl h))).trans (f6.mono ?_), ?_, fun m s hm hs => ?_, b6, b7⟩
  · intro k i s h; exact h.elim (fun q => Or.inr (Or.inl q)) (fun q => Or.inr (Or.inr (Or.inl q)))
  · rw [f6.I (by omega), f5.I (by unfold SCl; omega), mI_sI, if_pos ⟨rfl, rfl, rfl⟩]
  · rw [f6.I (by omega)]; exact b5 m s hm hs

set_option maxRecDepth 20000 in
set_option maxHeartbeats 4000000 in
theorem k_addressOf (G : GX) {M : Mem} (j : Nat) (bs : Nat → Nat) (B : LB) (k : Nat) (hk : k < B.1) (hL : LbC j B M) (h96 : B.1 ≤ 96) (hW : LbW B) (hA : AdC j bs M) : MetM G yX0_addressOf iX0_addressOf [vR 0 j, vI (nI k)] M (fun r M' => r = some (vI (nI (ad bs B k))) ∧ M' = M) := by
  refine MetM.of (ls := [some (vR 0 j), some (vI (nI k))]) (by decide) rfl (Nat.le_of_ble_eq_true rfl) rfl ?_
  intro hM0
  obtain ⟨l1, l2, l3, l4⟩ := hL.2 k hk
  have hw := hW.1 k hk
  refine Rn.iload_n (pc := 0) dX0_addressOf_0 rfl rfl ?_
  refine Rn.if_lt (pc := 1) (y := 0) (tgt := 15) dX0_addressOf_1 (by decide) (fun c1 => ?_) (fun c1 => ?_)
  · exact absurd c1 (nI_pos (by omega))
  · refine Rn.iload_n (pc := 4) dX0_addressOf_4 rfl rfl ?_
    refine Rn.aload_n (pc := 5) dX0_addressOf_5 rfl rfl ?_
    refine Rn.getR (pc := 6) flX0_12 mu0_0 fx0_0 dX0_addressOf_6 ?_
    refine Rn.getI (pc := 9) (t := 0) flX0_32 hL.1 dX0_addressOf_9 ?_
    refine Rn.icmp_ltN (pc := 12) (tgt := 17) dX0_addressOf_12 (by decide) (by omega) (by omega) (fun c12 => ?_) (fun c12 => ?_)
    · refine Rn.aload_n (pc := 17) dX0_addressOf_17 rfl rfl ?_
      refine Rn.getR (pc := 18) flX0_21 mu0_1 fx0_1 dX0_addressOf_18 ?_
      refine Rn.getR (pc := 21) flX0_40 mu4_1 fx4_1 dX0_addressOf_21 ?_
      refine Rn.aload_n (pc := 24) dX0_addressOf_24 rfl rfl ?_
      refine Rn.getR (pc := 25) flX0_12 mu0_0 fx0_0 dX0_addressOf_25 ?_
      refine Rn.getR (pc := 28) flX0_44 mu3_2 fx3_2 dX0_addressOf_28 ?_
      refine Rn.iload_n (pc := 31) dX0_addressOf_31 rfl rfl ?_
      refine Rn.ialdN (pc := 32) ak17 (by omega) (by decide) l2 dX0_addressOf_32 ?_
      refine Rn.aaldN (pc := 33) ak18 (by decide) rfl (by omega) (by decide) fx18 dX0_addressOf_33 ?_
      refine Rn.aload_n (pc := 34) dX0_addressOf_34 rfl rfl ?_
      refine Rn.getR (pc := 35) flX0_12 mu0_0 fx0_0 dX0_addressOf_35 ?_
      refine Rn.getR (pc := 38) flX0_48 mu3_3 fx3_3 dX0_addressOf_38 ?_
      refine Rn.iload_n (pc := 41) dX0_addressOf_41 rfl rfl ?_
      refine Rn.ialdN (pc := 42) ak17 (by omega) (by decide) l3 dX0_addressOf_42 ?_
      refine Rn.ialdN (pc := 43) ak19 (by omega) (by decide) (hA _ _ (by omega) (by omega)) dX0_addressOf_43 ?_
      refine Rn.aload_n (pc := 44) dX0_addressOf_44 rfl rfl ?_
      refine Rn.getR (pc := 45) flX0_12 mu0_0 fx0_0 dX0_addressOf_45 ?_
      refine Rn.getR (pc := 48) flX0_51 mu3_4 fx3_4 dX0_addressOf_48 ?_
      refine Rn.iload_n (pc := 51) dX0_addressOf_51 rfl rfl ?_
      refine Rn.ialdN (pc := 52) ak17 (by omega) (by decide) l4 dX0_addressOf_52 ?_
      refine Rn.iaddN (pc := 53) dX0_addressOf_53 ?_
      refine Rn.iret (pc := 54) rfl dX0_addressOf_54 ?_
      exact ⟨rfl, rfl⟩
    · exact absurd hk (by omega)

set_option maxRecDepth 20000 in
set_option maxHeartbeats 4000000 in
theorem k_addressOf_no (G : GX) {M : Mem} (j : Nat) (x : Int32) (hx : x < 0) : MetM G yX0_addressOf iX0_addressOf [vR 0 j, vI x] M (fun r M' => r = some (vI (-1)) ∧ M' = M) := by
  refine MetM.of (ls := [some (vR 0 j), some (vI x)]) (by decide) rfl (Nat.le_of_ble_eq_true rfl) rfl ?_
  intro hM0
  refine Rn.iload_n (pc := 0) dX0_addressOf_0 rfl rfl ?_
  refine Rn.if_lt (pc := 1) (y := 0) (tgt := 15) dX0_addressOf_1 (by decide) (fun c1 => ?_) (fun c1 => ?_)
  · refine Rn.iconst (pc := 15) (v := -1) dX0_addressOf_15 (by decide) ?_
    refine Rn.iret (pc := 16) rfl dX0_addressOf_16 ?_
    exact ⟨rfl, rfl⟩
  · exact absurd hx c1

set_option maxRecDepth 20000 in
set_option maxHeartbeats 4000000 in
theorem k_resolve (G : GX) {M : Mem} (j : Nat) (B : LB) (g : Nat → Bool) (m v : Nat) (hL : LbC j B M) (hG : GbC j B g M) (hN : LbN B) (hm : m < 2 ^ 31) (hv : v < 2 ^ 62) : MetM G yX0_resolve iX0_resolve [vR 0 j, vI (nI m), vJ (lN v)] M (fun r M' => r = some (vI (prV (rs B g m v))) ∧ M' = M) := by
  refine MetM.of (ls := [some (vR 0 j), some (vI (nI m)), some (vJ (lN v)), none, none]) (by decide) rfl (Nat.le_of_ble_eq_true rfl) rfl ?_
  intro hM0
  refine Rn.aload_n (pc := 0) dX0_resolve_0 rfl rfl ?_
  refine Rn.getR (pc := 1) flX0_12 mu0_0 fx0_0 dX0_resolve_1 ?_
  refine Rn.iload_n (pc := 4) dX0_resolve_4 rfl rfl ?_
  refine Rn.lload_n (pc := 5) dX0_resolve_5 rfl rfl ?_
  refine Rn.callV (pc := 6) (as := [_, _]) cvX0_128 ⟨by decide, rfl⟩ ⟨by decide, by decide⟩ dX0_resolve_6 (Nat.le_of_ble_eq_true rfl) rfl (k_find G j B m v hL hN hm hv) ?_
  rintro _ M9 ⟨rfl, h9⟩
  rw [h9]
  have hq1 := prV_m1 (q := fnd B m v) (fun k h => by have := (fnd_some h).1; have := hN.1; omega)
  refine Rn.istore (pc := 9) dX0_resolve_9 (by decide) rfl st5_4 ?_
  refine Rn.iload (pc := 11) dX0_resolve_11 rfl ?_
  refine Rn.iconst (pc := 13) (v := -1) dX0_resolve_13 (by decide) ?_
  refine Rn.icmp_eq (pc := 14) (tgt := 22) dX0_resolve_14 (by decide) (fun c14 => ?_) (fun c14 => ?_)
  · refine Rn.aload_n (pc := 22) dX0_resolve_22 rfl rfl ?_
    refine Rn.getR (pc := 23) flX0_12 mu0_0 fx0_0 dX0_resolve_23 ?_
    refine Rn.lload_n (pc := 26) dX0_resolve_26 rfl rfl ?_
    refine Rn.callV (pc := 27) (as := [_]) cvX0_131 ⟨by decide, rfl⟩ ⟨by decide, by decide⟩ dX0_resolve_27 (Nat.le_of_ble_eq_true rfl) rfl (k_findGlobal G j B g v hL hG hN hv) ?_
    rintro _ M9 ⟨rfl, h9⟩
    rw [h9]
    refine Rn.iret (pc := 30) rfl dX0_resolve_30 ?_
    rw [rs_glo (hq1.mp c14)]; exact ⟨rfl, rfl⟩
  · refine Rn.iload (pc := 17) dX0_resolve_17 rfl ?_
    refine Rn.goto (pc := 19) (tgt := 30) dX0_resolve_19 (by decide) ?_
    refine Rn.iret (pc := 30) rfl dX0_resolve_30 ?_
    cases hf : fnd B m v with
    | none => exact absurd (hq1.mpr hf) c14
    | some k => rw [rs_own hf]; exact ⟨rfl, rfl⟩

theorem and1z (d : Int32) : d &&& nI 1 = 0 ↔ d.toInt % 2 = 0 := by
  rw [pk_and d 1 (by decide), show (0 : Int32) = nI 0 by decide, nI_eq (by omega) (by decide)]
  have h := i_toInt d
  split at h <;> omega
theorem and3z (d : Int32) : d &&& nI 3 = 0 ↔ d.toInt % 4 = 0 := by
  rw [pk_and d 2 (by decide), show (0 : Int32) = nI 0 by decide, nI_eq (by omega) (by decide)]
  have h := i_toInt d
  split at h <;> omega
set_option maxRecDepth 20000 in
set_option maxHeartbeats 4000000 in
theorem k_reaches_1 (G : GX) {M : Mem} (d : Int32) (nr : Bool) : MetM G yX0_reaches iX0_reaches [vI (nI 1), vI d, vI (bI nr)] M (fun r M' => r = some (vI (bI (rcO 1 d nr))) ∧ M' = M) := by
  refine MetM.of (ls := [some (vI (nI 1)), some (vI d), some (vI (bI nr))]) (by decide) rfl (Nat.le_of_ble_eq_true rfl) rfl ?_
  intro hM0
  refine Rn.iload_n (pc := 0) dX0_reaches_0 rfl rfl ?_
  refine Rn.tableIn (pc := 1) (off := 27) (tgt := 28) dX0_reaches_1 (by decide) (by decide) rfl (by decide) ?_
  refine Rn.iload_n (pc := 28) dX0_reaches_28 rfl rfl ?_
  refine Rn.iconst (pc := 29) (v := nI 1) dX0_reaches_29 (by decide) ?_
  refine Rn.iand (pc := 30) dX0_reaches_30 ?_
  refine Rn.if_ne (pc := 31) (y := 0) (tgt := 52) dX0_reaches_31 (by decide) (fun c31 => ?_) (fun c31 => ?_)
  · refine Rn.iconst (pc := 52) (v := nI 0) dX0_reaches_52 (by decide) ?_
    refine Rn.zret (pc := 53) rfl rfl dX0_reaches_53 ?_
    refine ⟨?_, rfl⟩
    unfold rcO; rw [if_pos rfl]
    rw [decide_eq_false (p := d.toInt % 2 = 0) (fun q => c31 ((and1z d).mpr q))]; rfl
  · refine Rn.iload_n (pc := 34) dX0_reaches_34 rfl rfl ?_
    refine Rn.sipush (pc := 35) (v := -2048) dX0_reaches_35 (by decide) ?_
    refine Rn.icmp_lt (pc := 38) (tgt := 52) dX0_reaches_38 (by decide) (fun c38 => ?_) (fun c38 => ?_)
    · refine Rn.iconst (pc := 52) (v := nI 0) dX0_reaches_52 (by decide) ?_
      refine Rn.zret (pc := 53) rfl rfl dX0_reaches_53 ?_
      refine ⟨?_, rfl⟩
      unfold rcO; rw [if_pos rfl]
      rw [decide_eq_true (p := d.toInt % 2 = 0) ((and1z d).mp c31), decide_eq_false (p := -2048 ≤ d.toInt) (by have := lt_m.mp c38; rw [show (-2048 : Int32).toInt = -2048 from rfl] at this; omega)]; rfl
    · refine Rn.iload_n (pc := 41) dX0_reaches_41 rfl rfl ?_
      refine Rn.sipush (pc := 42) (v := nI 2046) dX0_reaches_42 (by decide) ?_
      refine Rn.icmp_gt (pc := 45) (tgt := 52) dX0_reaches_45 (by decide) (fun c45 => ?_) (fun c45 => ?_)
      · refine Rn.iconst (pc := 52) (v := nI 0) dX0_reaches_52 (by decide) ?_
        refine Rn.zret (pc := 53) rfl rfl dX0_reaches_53 ?_
        refine ⟨?_, rfl⟩
        unfold rcO; rw [if_pos rfl]
        rw [decide_eq_true (p := d.toInt % 2 = 0) ((and1z d).mp c31), decide_eq_true (p := -2048 ≤ d.toInt) (by have := Int.not_lt.mp (fun q => c38 (lt_m.mpr q)); rw [show (-2048 : Int32).toInt = -2048 from rfl] at this; exact this), decide_eq_false (p := d.toInt ≤ 2046) (by have := lt_m.mp c45; rw [show (nI 2046).toInt = 2046 from rfl] at this; omega)]; rfl
      · refine Rn.iconst (pc := 48) (v := nI 1) dX0_reaches_48 (by decide) ?_
        refine Rn.goto (pc := 49) (tgt := 53) dX0_reaches_49 (by decide) ?_
        refine Rn.zret (pc := 53) rfl rfl dX0_reaches_53 ?_
        refine ⟨?_, rfl⟩
        unfold rcO; rw [if_pos rfl]
        rw [decide_eq_true (p := d.toInt % 2 = 0) ((and1z d).mp c31), decide_eq_true (p := -2048 ≤ d.toInt) (by have := Int.not_lt.mp (fun q => c38 (lt_m.mpr q)); rw [show (-2048 : Int32).toInt = -2048 from rfl] at this; exact this), decide_eq_true (p := d.toInt ≤ 2046) (by have := Int.not_lt.mp (fun q => c45 (lt_m.mpr q)); rw [show (nI 2046).toInt = 2046 from rfl] at this; exact this)]; rfl

set_option maxRecDepth 20000 in
set_option maxHeartbeats 4000000 in
theorem k_reaches_2 (G : GX) {M : Mem} (d : Int32) (nr : Bool) : MetM G yX0_reaches iX0_reaches [vI (nI 2), vI d, vI (bI nr)] M (fun r M' => r = some (vI (bI (rcO 2 d nr))) ∧ M' = M) := by
  refine MetM.of (ls := [some (vI (nI 2)), some (vI d), some (vI (bI nr))]) (by decide) rfl (Nat.le_of_ble_eq_true rfl) rfl ?_
  intro hM0
  refine Rn.iload_n (pc := 0) dX0_reaches_0 rfl rfl ?_
  refine Rn.tableIn (pc := 1) (off := 53) (tgt := 54) dX0_reaches_1 (by decide) (by decide) rfl (by decide) ?_
  refine Rn.iload_n (pc := 54) dX0_reaches_54 rfl rfl ?_
  refine Rn.if_eqB (pc := 55) (tgt := 82) dX0_reaches_55 (by decide) (fun c55 => ?_) (fun c55 => ?_)
  · refine Rn.iconst (pc := 82) (v := nI 0) dX0_reaches_82 (by decide) ?_
    refine Rn.zret (pc := 83) rfl rfl dX0_reaches_83 ?_
    refine ⟨?_, rfl⟩
    unfold rcO; rw [if_neg (by decide), if_pos rfl]
    rw [c55]; rfl
  · refine Rn.iload_n (pc := 58) dX0_reaches_58 rfl rfl ?_
    refine Rn.iconst (pc := 59) (v := nI 1) dX0_reaches_59 (by decide) ?_
    refine Rn.iand (pc := 60) dX0_reaches_60 ?_
    refine Rn.if_ne (pc := 61) (y := 0) (tgt := 82) dX0_reaches_61 (by decide) (fun c61 => ?_) (fun c61 => ?_)
    · refine Rn.iconst (pc := 82) (v := nI 0) dX0_reaches_82 (by decide) ?_
      refine Rn.zret (pc := 83) rfl rfl dX0_reaches_83 ?_
      refine ⟨?_, rfl⟩
      unfold rcO; rw [if_neg (by decide), if_pos rfl]
      rw [decide_eq_false (p := d.toInt % 2 = 0) (fun q => c61 ((and1z d).mpr q)), c55]; rfl
    · refine Rn.iload_n (pc := 64) dX0_reaches_64 rfl rfl ?_
      refine Rn.sipush (pc := 65) (v := -256) dX0_reaches_65 (by decide) ?_
      refine Rn.icmp_lt (pc := 68) (tgt := 82) dX0_reaches_68 (by decide) (fun c68 => ?_) (fun c68 => ?_)
      · refine Rn.iconst (pc := 82) (v := nI 0) dX0_reaches_82 (by decide) ?_
        refine Rn.zret (pc := 83) rfl rfl dX0_reaches_83 ?_
        refine ⟨?_, rfl⟩
        unfold rcO; rw [if_neg (by decide), if_pos rfl]
        rw [decide_eq_true (p := d.toInt % 2 = 0) ((and1z d).mp c61), decide_eq_false (p := -256 ≤ d.toInt) (by have := lt_m.mp c68; rw [show (-256 : Int32).toInt = -256 from rfl] at this; omega), c55]; rfl
      · refine Rn.iload_n (pc := 71) dX0_reaches_71 rfl rfl ?_
        refine Rn.sipush (pc := 72) (v := nI 254) dX0_reaches_72 (by decide) ?_
        refine Rn.icmp_gt (pc := 75) (tgt := 82) dX0_reaches_75 (by decide) (fun c75 => ?_) (fun c75 => ?_)
        · refine Rn.iconst (pc := 82) (v := nI 0) dX0_reaches_82 (by decide) ?_
          refine Rn.zret (pc := 83) rfl rfl dX0_reaches_83 ?_
          refine ⟨?_, rfl⟩
          unfold rcO; rw [if_neg (by decide), if_pos rfl]
          rw [decide_eq_true (p := d.toInt % 2 = 0) ((and1z d).mp c61), decide_eq_true (p := -256 ≤ d.toInt) (by have := Int.not_lt.mp (fun q => c68 (lt_m.mpr q)); rw [show (-256 : Int32).toInt = -256 from rfl] at this; exact this), decide_eq_false (p := d.toInt ≤ 254) (by have := lt_m.mp c75; rw [show (nI 254).toInt = 254 from rfl] at this; omega), c55]; rfl
        · refine Rn.iconst (pc := 78) (v := nI 1) dX0_reaches_78 (by decide) ?_
          refine Rn.goto (pc := 79) (tgt := 83) dX0_reaches_79 (by decide) ?_
          refine Rn.zret (pc := 83) rfl rfl dX0_reaches_83 ?_
          refine ⟨?_, rfl⟩
          unfold rcO; rw [if_neg (by decide), if_pos rfl]
          rw [decide_eq_true (p := d.toInt % 2 = 0) ((and1z d).mp c61), decide_eq_true (p := -256 ≤ d.toInt) (by have := Int.not_lt.mp (fun q => c68 (lt_m.mpr q)); rw [show (-256 : Int32).toInt = -256 from rfl] at this; exact this), decide_eq_true (p := d.toInt ≤ 254) (by have := Int.not_lt.mp (fun q => c75 (lt_m.mpr q)); rw [show (nI 254).toInt = 254 from rfl] at this; exact this), c55]; rfl

set_option maxRecDepth 20000 in
set_option maxHeartbeats 4000000 in
theorem k_reaches_3 (G : GX) {M : Mem} (d : Int32) (nr : Bool) : MetM G yX0_reaches iX0_reaches [vI (nI 3), vI d, vI (bI nr)] M (fun r M' => r = some (vI (bI (rcO 3 d nr))) ∧ M' = M) := by
  refine MetM.of (ls := [some (vI (nI 3)), some (vI d), some (vI (bI nr))]) (by decide) rfl (Nat.le_of_ble_eq_true rfl) rfl ?_
  intro hM0
  refine Rn.iload_n (pc := 0) dX0_reaches_0 rfl rfl ?_
  refine Rn.tableIn (pc := 1) (off := 83) (tgt := 84) dX0_reaches_1 (by decide) (by decide) rfl (by decide) ?_
  refine Rn.iload_n (pc := 84) dX0_reaches_84 rfl rfl ?_
  refine Rn.iconst (pc := 85) (v := nI 1) dX0_reaches_85 (by decide) ?_
  refine Rn.iand (pc := 86) dX0_reaches_86 ?_
  refine Rn.if_ne (pc := 87) (y := 0) (tgt := 106) dX0_reaches_87 (by decide) (fun c87 => ?_) (fun c87 => ?_)
  · refine Rn.iconst (pc := 106) (v := nI 0) dX0_reaches_106 (by decide) ?_
    refine Rn.zret (pc := 107) rfl rfl dX0_reaches_107 ?_
    refine ⟨?_, rfl⟩
    unfold rcO; rw [if_neg (by decide), if_neg (by decide), if_pos rfl]
    rw [decide_eq_false (p := d.toInt % 2 = 0) (fun q => c87 ((and1z d).mpr q))]; rfl
  · refine Rn.iload_n (pc := 90) dX0_reaches_90 rfl rfl ?_
    refine Rn.ldc (pc := 91) dX0_reaches_91 wcX0_135 ?_
    refine Rn.icmp_lt (pc := 93) (tgt := 106) dX0_reaches_93 (by decide) (fun c93 => ?_) (fun c93 => ?_)
    · refine Rn.iconst (pc := 106) (v := nI 0) dX0_reaches_106 (by decide) ?_
      refine Rn.zret (pc := 107) rfl rfl dX0_reaches_107 ?_
      refine ⟨?_, rfl⟩
      unfold rcO; rw [if_neg (by decide), if_neg (by decide), if_pos rfl]
      rw [decide_eq_true (p := d.toInt % 2 = 0) ((and1z d).mp c87), decide_eq_false (p := -16777216 ≤ d.toInt) (by have := lt_m.mp c93; rw [show (-16777216 : Int32).toInt = -16777216 from rfl] at this; omega)]; rfl
    · refine Rn.iload_n (pc := 96) dX0_reaches_96 rfl rfl ?_
      refine Rn.ldc (pc := 97) dX0_reaches_97 wcX0_136 ?_
      refine Rn.icmp_gt (pc := 99) (tgt := 106) dX0_reaches_99 (by decide) (fun c99 => ?_) (fun c99 => ?_)
      · refine Rn.iconst (pc := 106) (v := nI 0) dX0_reaches_106 (by decide) ?_
        refine Rn.zret (pc := 107) rfl rfl dX0_reaches_107 ?_
        refine ⟨?_, rfl⟩
        unfold rcO; rw [if_neg (by decide), if_neg (by decide), if_pos rfl]
        rw [decide_eq_true (p := d.toInt % 2 = 0) ((and1z d).mp c87), decide_eq_true (p := -16777216 ≤ d.toInt) (by have := Int.not_lt.mp (fun q => c93 (lt_m.mpr q)); rw [show (-16777216 : Int32).toInt = -16777216 from rfl] at this; exact this), decide_eq_false (p := d.toInt ≤ 16777214) (by have := lt_m.mp c99; rw [show (nI 16777214).toInt = 16777214 from rfl] at this; omega)]; rfl
      · refine Rn.iconst (pc := 102) (v := nI 1) dX0_reaches_102 (by decide) ?_
        refine Rn.goto (pc := 103) (tgt := 107) dX0_reaches_103 (by decide) ?_
        refine Rn.zret (pc := 107) rfl rfl dX0_reaches_107 ?_
        refine ⟨?_, rfl⟩
        unfold rcO; rw [if_neg (by decide), if_neg (by decide), if_pos rfl]
        rw [decide_eq_true (p := d.toInt % 2 = 0) ((and1z d).mp c87), decide_eq_true (p := -16777216 ≤ d.toInt) (by have := Int.not_lt.mp (fun q => c93 (lt_m.mpr q)); rw [show (-16777216 : Int32).toInt = -16777216 from rfl] at this; exact this), decide_eq_true (p := d.toInt ≤ 16777214) (by have := Int.not_lt.mp (fun q => c99 (lt_m.mpr q)); rw [show (nI 16777214).toInt = 16777214 from rfl] at this; exact this)]; rfl

set_option maxRecDepth 20000 in
set_option maxHeartbeats 4000000 in
theorem k_reaches_4 (G : GX) {M : Mem} (d : Int32) (nr : Bool) : MetM G yX0_reaches iX0_reaches [vI (nI 4), vI d, vI (bI nr)] M (fun r M' => r = some (vI (bI (rcO 4 d nr))) ∧ M' = M) := by
  refine MetM.of (ls := [some (vI (nI 4)), some (vI d), some (vI (bI nr))]) (by decide) rfl (Nat.le_of_ble_eq_true rfl) rfl ?_
  intro hM0
  refine Rn.iload_n (pc := 0) dX0_reaches_0 rfl rfl ?_
  refine Rn.tableOut (pc := 1) (tgt := 108) dX0_reaches_1 (by decide) (by decide) ?_
  refine Rn.iload_n (pc := 108) dX0_reaches_108 rfl rfl ?_
  refine Rn.if_eqB (pc := 109) (tgt := 133) dX0_reaches_109 (by decide) (fun c109 => ?_) (fun c109 => ?_)
  · refine Rn.iconst (pc := 133) (v := nI 0) dX0_reaches_133 (by decide) ?_
    refine Rn.zret (pc := 134) rfl rfl dX0_reaches_134 ?_
    refine ⟨?_, rfl⟩
    unfold rcO; rw [if_neg (by decide), if_neg (by decide), if_neg (by decide)]
    rw [c109]; rfl
  · refine Rn.iload_n (pc := 112) dX0_reaches_112 rfl rfl ?_
    refine Rn.iconst (pc := 113) (v := nI 3) dX0_reaches_113 (by decide) ?_
    refine Rn.iand (pc := 114) dX0_reaches_114 ?_
    refine Rn.if_ne (pc := 115) (y := 0) (tgt := 133) dX0_reaches_115 (by decide) (fun c115 => ?_) (fun c115 => ?_)
    · refine Rn.iconst (pc := 133) (v := nI 0) dX0_reaches_133 (by decide) ?_
      refine Rn.zret (pc := 134) rfl rfl dX0_reaches_134 ?_
      refine ⟨?_, rfl⟩
      unfold rcO; rw [if_neg (by decide), if_neg (by decide), if_neg (by decide)]
      rw [decide_eq_false (p := d.toInt % 4 = 0) (fun q => c115 ((and3z d).mpr q)), c109]; rfl
    · refine Rn.iload_n (pc := 118) dX0_reaches_118 rfl rfl ?_
      refine Rn.if_lt (pc := 119) (y := 0) (tgt := 133) dX0_reaches_119 (by decide) (fun c119 => ?_) (fun c119 => ?_)
      · refine Rn.iconst (pc := 133) (v := nI 0) dX0_reaches_133 (by decide) ?_
        refine Rn.zret (pc := 134) rfl rfl dX0_reaches_134 ?_
        refine ⟨?_, rfl⟩
        unfold rcO; rw [if_neg (by decide), if_neg (by decide), if_neg (by decide)]
        rw [decide_eq_true (p := d.toInt % 4 = 0) ((and3z d).mp c115), decide_eq_false (p := 0 ≤ d.toInt) (by have := lt_m.mp c119; rw [show (0 : Int32).toInt = 0 from rfl] at this; omega), c109]; rfl
      · refine Rn.iload_n (pc := 122) dX0_reaches_122 rfl rfl ?_
        refine Rn.sipush (pc := 123) (v := nI 1020) dX0_reaches_123 (by decide) ?_
        refine Rn.icmp_gt (pc := 126) (tgt := 133) dX0_reaches_126 (by decide) (fun c126 => ?_) (fun c126 => ?_)
        · refine Rn.iconst (pc := 133) (v := nI 0) dX0_reaches_133 (by decide) ?_
          refine Rn.zret (pc := 134) rfl rfl dX0_reaches_134 ?_
          refine ⟨?_, rfl⟩
          unfold rcO; rw [if_neg (by decide), if_neg (by decide), if_neg (by decide)]
          rw [decide_eq_true (p := d.toInt % 4 = 0) ((and3z d).mp c115), decide_eq_true (p := 0 ≤ d.toInt) (by have := Int.not_lt.mp (fun q => c119 (lt_m.mpr q)); rw [show (0 : Int32).toInt = 0 from rfl] at this; exact this), decide_eq_false (p := d.toInt ≤ 1020) (by have := lt_m.mp c126; rw [show (nI 1020).toInt = 1020 from rfl] at this; omega), c109]; rfl
        · refine Rn.iconst (pc := 129) (v := nI 1) dX0_reaches_129 (by decide) ?_
          refine Rn.goto (pc := 130) (tgt := 134) dX0_reaches_130 (by decide) ?_
          refine Rn.zret (pc := 134) rfl rfl dX0_reaches_134 ?_
          refine ⟨?_, rfl⟩
          unfold rcO; rw [if_neg (by decide), if_neg (by decide), if_neg (by decide)]
          rw [decide_eq_true (p := d.toInt % 4 = 0) ((and3z d).mp c115), decide_eq_true (p := 0 ≤ d.toInt) (by have := Int.not_lt.mp (fun q => c119 (lt_m.mpr q)); rw [show (0 : Int32).toInt = 0 from rfl] at this; exact this), decide_eq_true (p := d.toInt ≤ 1020) (by have := Int.not_lt.mp (fun q => c126 (lt_m.mpr q)); rw [show (nI 1020).toInt = 1020 from rfl] at this; exact this), c109]; rfl

theorem k_reaches (G : GX) {M : Mem} (re : Nat) (d : Int32) (nr : Bool) (h1 : 1 ≤ re) (h4 : re ≤ 4) : MetM G yX0_reaches iX0_reaches [vI (nI re), vI d, vI (bI nr)] M (fun r M' => r = some (vI (bI (rcO re d nr))) ∧ M' = M) := by
  rcases (show re = 1 ∨ re = 2 ∨ re = 3 ∨ re = 4 by omega) with rfl | rfl | rfl | rfl
  · exact k_reaches_1 G d nr
  · exact k_reaches_2 G d nr
  · exact k_reaches_3 G d nr
  · exact k_reaches_4 G d nr
def dbV (re : Nat) (d : Int32) : Int32 := if re = 1 then d >>> (nI 1 &&& 31) &&& nI 2047 else if re = 2 then d >>> (nI 1 &&& 31) &&& nI 255 else d >>> (nI 2 &&& 31)
