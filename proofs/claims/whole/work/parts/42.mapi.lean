/-! FRAMES: what may change -/
def Fr (S : Nat → Nat → Nat → Prop) (M M' : Mem) : Prop := M'.2.2 = M.2.2 ∧ (∀ k j s, ¬ S k j s → mJ M' k j s = mJ M k j s) ∧ ∀ k j s, ¬ S k j s → mI M' k j s = mI M k j s
theorem Fr.refl {S : Nat → Nat → Nat → Prop} (M : Mem) : Fr S M M := ⟨rfl, fun _ _ _ _ => rfl, fun _ _ _ _ => rfl⟩
theorem Fr.trans {S : Nat → Nat → Nat → Prop} {M N P : Mem} (a : Fr S M N) (b : Fr S N P) : Fr S M P := ⟨b.1.trans a.1, fun k j s h => (b.2.1 k j s h).trans (a.2.1 k j s h), fun k j s h => (b.2.2 k j s h).trans (a.2.2 k j s h)⟩
theorem Fr.mono {S T : Nat → Nat → Nat → Prop} {M N : Mem} (a : Fr S M N) (h : ∀ k j s, S k j s → T k j s) : Fr T M N := ⟨a.1, fun k j s q => a.2.1 k j s (fun r => q (h k j s r)), fun k j s q => a.2.2 k j s (fun r => q (h k j s r))⟩
theorem Fr.sI {S : Nat → Nat → Nat → Prop} {M N : Mem} (a : Fr S M N) {k j s : Nat} {v : Int32} (h : S k j s) : Fr S M (sI N k j s v) := ⟨a.1, a.2.1, fun k' j' s' q => by
  rw [mI_sI, if_neg (fun e => q (by rw [e.1, e.2.1, e.2.2]; exact h))]; exact a.2.2 k' j' s' q⟩
theorem Fr.sJ {S : Nat → Nat → Nat → Prop} {M N : Mem} (a : Fr S M N) {k j s : Nat} {v : Int64} (h : S k j s) : Fr S M (sJ N k j s v) := ⟨a.1, fun k' j' s' q => by
  rw [mJ_sJ, if_neg (fun e => q (by rw [e.1, e.2.1, e.2.2]; exact h))]; exact a.2.1 k' j' s' q, a.2.2⟩
theorem Fr.I {S : Nat → Nat → Nat → Prop} {M N : Mem} (a : Fr S M N) {k j s : Nat} (h : ¬ S k j s) : mI N k j s = mI M k j s := a.2.2 k j s h
theorem Fr.J {S : Nat → Nat → Nat → Prop} {M N : Mem} (a : Fr S M N) {k j s : Nat} (h : ¬ S k j s) : mJ N k j s = mJ M k j s := a.2.1 k j s h
theorem Fr.R {S : Nat → Nat → Nat → Prop} {M N : Mem} (a : Fr S M N) {k j s : Nat} : mR N k j s = mR M k j s := congrFun (congrFun (congrFun a.1 k) j) s
/-! TYPED -/
def bt (x : Int32) (j : Nat) : Nat := x.toBitVec.toNat / 2 ^ (8 * j) % 256
theorem bt_lt {x : Int32} {j : Nat} : bt x j < 256 := Nat.mod_lt _ (by decide)
theorem i_toInt (x : Int32) : x.toInt = if 2 * x.toBitVec.toNat < 2 ^ 32 then (x.toBitVec.toNat : Int) else (x.toBitVec.toNat : Int) - 2 ^ 32 := BitVec.toInt_eq_toNat_cond x.toBitVec
theorem shr_b (x s : Int32) (k : Nat) (hs : (s.toBitVec.smod 32).toNat = k) (hk : k = 0 ∨ k = 8 ∨ k = 16 ∨ k = 24) : (x >>> s) &&& nI 255 = nI (x.toBitVec.toNat / 2 ^ k % 256) := by
  rw [pk_and (x >>> s) 8 (by decide)]
  congr 1
  have h := pk_shr x s k hs
  have h1 := i_toInt (x >>> s)
  have h2 := i_toInt x
  have b1 := x.toBitVec.isLt
  have b2 := (x >>> s).toBitVec.isLt
  rw [h, Int.shiftRight_eq_div_pow] at h1
  rcases hk with rfl | rfl | rfl | rfl <;> · split at h1 <;> split at h2 <;> omega
theorem bt_shr (x : Int32) : ∀ j : Nat, j < 4 → x >>> (nI (8 * j) &&& 31) &&& nI 255 = nI (bt x j)
  | 0, _ => shr_b x _ 0 (by decide) (by decide)
  | 1, _ => shr_b x _ 8 (by decide) (by decide)
  | 2, _ => shr_b x _ 16 (by decide) (by decide)
  | 3, _ => shr_b x _ 24 (by decide) (by decide)
  | n + 4, h => absurd h (by omega)
def apv (v : Nat) (q : Nat × (Nat → Nat)) : Nat × (Nat → Nat) := if v = 0 then q else (q.1 + 1, fun i => if i = q.1 then v else q.2 i)
def ap4 (x : Int32) : Nat → Nat × (Nat → Nat) → Nat × (Nat → Nat)
  | 0, q => q
  | j + 1, q => ap4 x j (apv (bt x j) q)
theorem apv_le (v : Nat) (q : Nat × (Nat → Nat)) : q.1 ≤ (apv v q).1 ∧ (apv v q).1 ≤ q.1 + 1 ∧ ∀ i, i < q.1 → (apv v q).2 i = q.2 i := by
  unfold apv
  split
  · exact ⟨Nat.le_refl _, Nat.le_succ _, fun _ _ => rfl⟩
  · exact ⟨Nat.le_succ _, Nat.le_refl _, fun i h => if_neg (by omega)⟩
theorem ap4_le (x : Int32) : ∀ (j : Nat) (q : Nat × (Nat → Nat)), q.1 ≤ (ap4 x j q).1 ∧ (ap4 x j q).1 ≤ q.1 + j ∧ ∀ i, i < q.1 → (ap4 x j q).2 i = q.2 i
  | 0, q => ⟨Nat.le_refl _, Nat.le_refl _, fun _ _ => rfl⟩
  | j + 1, q => by
    have h1 := apv_le (bt x j) q
    have h2 := ap4_le x j (apv (bt x j) q)
    rw [ap4]
    exact ⟨by omega, by omega, fun i h => (h2.2.2 i (by omega)).trans (h1.2.2 i h)⟩
def TyM (q : Nat × (Nat → Nat)) (M : Mem) : Prop := mI M 11 0 2 = nI q.1 ∧ ∀ i, i < q.1 → i < 48 → mI M 22 0 i = nI (q.2 i)
def STy (k _j s : Nat) : Prop := k = 22 ∨ (k = 11 ∧ s = 2)
theorem nI_le0 {n : Nat} (h : n < 2 ^ 31) (e : nI n ≤ 0) : n = 0 := by
  rcases Nat.eq_zero_or_pos n with h0 | h0
  · exact h0
  · exact absurd e (nI_nle h0 h)
set_option maxRecDepth 20000 in
set_option maxHeartbeats 4000000 in
theorem c_put (G : GX) {M : Mem} (x : Int32) (j : Nat) (q : Nat × (Nat → Nat)) (hj : j < 4) (hq : TyM q M) (hb : q.1 < 2 ^ 20) : MetM G yX12_put iX12_put [vR 11 0, vI x, vI (nI (8 * j))] M (fun r M' => r = none ∧ TyM (apv (bt x j) q) M' ∧ Fr STy M M') := by
  refine MetM.of (ls := [some (vR 11 0), some (vI x), some (vI (nI (8 * j))), none]) (by decide) rfl (Nat.le_of_ble_eq_true rfl) rfl ?_
  intro hM0
  refine Rn.iload_n (pc := 0) dX12_put_0 rfl rfl ?_
  refine Rn.iload_n (pc := 1) dX12_put_1 rfl rfl ?_
  refine Rn.ishr (pc := 2) dX12_put_2 ?_
  refine Rn.sipush (pc := 3) (v := nI 255) dX12_put_3 (by decide) ?_
  refine Rn.iand (pc := 6) dX12_put_6 ?_
  rw [bt_shr x j hj]
  have hb8 := bt_lt (x := x) (j := j)
  refine Rn.istore_n (pc := 7) dX12_put_7 rfl (by decide) rfl st4_3 ?_
  refine Rn.iload_n (pc := 8) dX12_put_8 rfl rfl ?_
  refine Rn.if_le (pc := 9) (y := 0) (tgt := 42) dX12_put_9 (by decide) (fun c9 => ?_) (fun c9 => ?_)
  · refine Rn.vret (pc := 42) rfl dX12_put_42 ?_
    have h0 : bt x j = 0 := by exact nI_le0 (by omega) c9
    rw [apv, if_pos h0]
    exact ⟨rfl, hq, Fr.refl M⟩
  · refine Rn.aload_n (pc := 12) dX12_put_12 rfl rfl ?_
    refine Rn.getI (pc := 13) (t := 0) flX12_76 hq.1 dX12_put_13 ?_
    refine Rn.bipush (pc := 16) (v := nI 48) dX12_put_16 (by decide) ?_
    refine Rn.icmp_geN (pc := 18) (tgt := 32) dX12_put_18 (by decide) (by omega) (by omega) (fun c18 => ?_) (fun c18 => ?_)
    · refine Rn.aload_n (pc := 32) dX12_put_32 rfl rfl ?_
      refine Rn.dupR (pc := 33) (x := 0) (y := 0) dX12_put_33 ?_
      refine Rn.getI (pc := 34) (t := 0) flX12_76 (show mI M 11 0 2 = nI q.1 from hq.1) dX12_put_34 ?_
      refine Rn.iconst (pc := 37) (v := nI 1) dX12_put_37 (by decide) ?_
      refine Rn.iaddN (pc := 38) dX12_put_38 ?_
      refine Rn.putI (pc := 39) (t := 0) flX12_76 rfl rfl dX12_put_39 ?_
      refine Rn.vret (pc := 42) rfl dX12_put_42 ?_
      have h0 : ¬ bt x j = 0 := fun e => c9 (by rw [e]; decide)
      rw [apv, if_neg h0]
      refine ⟨rfl, ⟨rfl, fun i h1 h2 => ?_⟩, (Fr.refl M).sI (Or.inr ⟨rfl, rfl⟩)⟩
      show mI M 22 0 i = nI (if i = q.1 then bt x j else q.2 i)
      rw [if_neg (by omega)]
      exact hq.2 i (by omega) h2
    · refine Rn.aload_n (pc := 21) dX12_put_21 rfl rfl ?_
      refine Rn.getR (pc := 22) flX12_7 mu11_1 fx11_1 dX12_put_22 ?_
      refine Rn.aload_n (pc := 25) dX12_put_25 rfl rfl ?_
      refine Rn.getI (pc := 26) (t := 0) flX12_76 hq.1 dX12_put_26 ?_
      refine Rn.iload_n (pc := 29) dX12_put_29 rfl rfl ?_
      refine Rn.i2c (pc := 30) dX12_put_30 ?_
      rw [i2c_N (by omega)]
      refine Rn.castN (pc := 31) ak22 (by omega) (by decide) (vnc (by omega)) dX12_put_31 ?_
      refine Rn.aload_n (pc := 32) dX12_put_32 rfl rfl ?_
      refine Rn.dupR (pc := 33) (x := 0) (y := 0) dX12_put_33 ?_
      refine Rn.getI (pc := 34) (t := 0) flX12_76 (show mI (sI M 22 0 q.1 (nI (bt x j))) 11 0 2 = nI q.1 from hq.1) dX12_put_34 ?_
      refine Rn.iconst (pc := 37) (v := nI 1) dX12_put_37 (by decide) ?_
      refine Rn.iaddN (pc := 38) dX12_put_38 ?_
      refine Rn.putI (pc := 39) (t := 0) flX12_76 rfl rfl dX12_put_39 ?_
      refine Rn.vret (pc := 42) rfl dX12_put_42 ?_
      have h0 : ¬ bt x j = 0 := fun e => c9 (by rw [e]; decide)
      rw [apv, if_neg h0]
      refine ⟨rfl, ⟨rfl, fun i h1 h2 => ?_⟩, ((Fr.refl M).sI (Or.inl rfl)).sI (Or.inr ⟨rfl, rfl⟩)⟩
      show mI (sI M 22 0 q.1 (nI (bt x j))) 22 0 i = nI (if i = q.1 then bt x j else q.2 i)
      rw [mI_sI]
      by_cases e : i = q.1
      · rw [if_pos ⟨rfl, rfl, e⟩, if_pos e]
      · rw [if_neg (fun z => e z.2.2), if_neg e]
        exact hq.2 i (by dsimp only at h1; omega) h2

def shv : Nat → Int32
  | 0 => -8
  | j + 1 => nI (8 * j)
theorem shv_sub {j : Nat} : nI (8 * j) - nI 8 = shv j := by
  cases j with
  | zero => decide
  | succ j => rw [pk_sub (by omega), show 8 * (j + 1) - 8 = 8 * j by omega]; rfl
theorem ty_52 (G : GX) {Post : Option AV → Mem → Prop} (a b c d x : Int32) (had k : Nat) : ∀ (j : Nat) (q : Nat × (Nat → Nat)) (M : Mem), j ≤ 4 → TyM q M → q.1 + j < 2 ^ 20 → (∀ M', TyM (ap4 x j q) M' → Fr STy M M' → Rn G iX12_type Post 75 [some (vR 11 0), some (vI a), some (vI b), some (vI c), some (vI d), some (vI (nI had)), some (vI (nI k)), some (vI x), some (vI (shv 0))] [] M') → Rn G iX12_type Post 52 [some (vR 11 0), some (vI a), some (vI b), some (vI c), some (vI d), some (vI (nI had)), some (vI (nI k)), some (vI x), some (vI (shv j))] [] M := by
  intro j
  induction j with
  | zero =>
    intro q M hj hq hb K
    refine Rn.iload (pc := 52) dX12_type_52 rfl ?_
    refine Rn.if_lt (pc := 54) (y := 0) (tgt := 75) dX12_type_54 (by decide) (fun c54 => ?_) (fun c54 => ?_)
    · exact K M hq (Fr.refl M)
    · exact absurd (show shv 0 < 0 by decide) c54
  | succ j ih =>
    intro q M hj hq hb K
    refine Rn.iload (pc := 52) dX12_type_52 rfl ?_
    refine Rn.if_lt (pc := 54) (y := 0) (tgt := 75) dX12_type_54 (by decide) (fun c54 => ?_) (fun c54 => ?_)
    · exact absurd c54 (nI_pos (by omega))
    · refine Rn.aload_n (pc := 57) dX12_type_57 rfl rfl ?_
      refine Rn.iload (pc := 58) dX12_type_58 rfl ?_
      refine Rn.iload (pc := 60) dX12_type_60 rfl ?_
      refine Rn.callV (pc := 62) (as := [_, _]) cvX12_79 ⟨by decide, rfl⟩ ⟨by decide, by decide⟩ dX12_type_62 (Nat.le_of_ble_eq_true rfl) rfl (c_put G x j q (by omega) hq (by omega)) ?_
      rintro _ M9 ⟨rfl, h9, f9⟩
      refine Rn.iload (pc := 65) dX12_type_65 rfl ?_
      refine Rn.bipush (pc := 67) (v := nI 8) dX12_type_67 (by decide) ?_
      refine Rn.isub (pc := 69) dX12_type_69 ?_
      rw [show shv (j + 1) - nI 8 = shv j from shv_sub]
      refine Rn.istore (pc := 70) dX12_type_70 (by decide) rfl st9_8 ?_
      refine Rn.goto (pc := 72) (tgt := 52) dX12_type_72 (by decide) ?_
      exact ih _ M9 (by omega) h9 (by have := apv_le (bt x j) q; omega) (fun M8 h8 f8 => K M8 h8 (f9.trans f8))
def tyQ (a b c d : Int32) (q : Nat × (Nat → Nat)) : Nat × (Nat → Nat) := ap4 d 4 (ap4 c 4 (ap4 b 4 (ap4 a 4 q)))
def STy0 (k _j s : Nat) : Prop := k = 22 ∨ (k = 11 ∧ (s = 2 ∨ s = 0))
theorem tyQ_le (a b c d : Int32) (q : Nat × (Nat → Nat)) : q.1 ≤ (tyQ a b c d q).1 ∧ (tyQ a b c d q).1 ≤ q.1 + 16 ∧ ∀ i, i < q.1 → (tyQ a b c d q).2 i = q.2 i := by
  have h1 := ap4_le a 4 q
  have h2 := ap4_le b 4 (ap4 a 4 q)
  have h3 := ap4_le c 4 (ap4 b 4 (ap4 a 4 q))
  have h4 := ap4_le d 4 (ap4 c 4 (ap4 b 4 (ap4 a 4 q)))
  unfold tyQ
  exact ⟨by omega, by omega, fun i h => by rw [h4.2.2 i (by omega), h3.2.2 i (by omega), h2.2.2 i (by omega), h1.2.2 i h]⟩
set_option maxRecDepth 20000 in
set_option maxHeartbeats 4000000 in
theorem c_type (G : GX) {M : Mem} (a b c d : Int32) (q : Nat × (Nat → Nat)) (hq : TyM q M) (hb : q.1 ≤ 48) : MetM G yX12_type iX12_type [vR 11 0, vI a, vI b, vI c, vI d] M (fun r M' => r = some (vI (if 48 < (tyQ a b c d q).1 then nI 0 else nI (tyQ a b c d q).1)) ∧ mI M' 11 0 0 = (if 48 < (tyQ a b c d q).1 then nI 1 else nI 0) ∧ TyM (if 48 < (tyQ a b c d q).1 then q else tyQ a b c d q) M' ∧ Fr STy0 M M') := by
  refine MetM.of (ls := [some (vR 11 0), some (vI a), some (vI b), some (vI c), some (vI d), none, none, none, none]) (by decide) rfl (Nat.le_of_ble_eq_true rfl) rfl ?_
  intro hM0
  have hQ := tyQ_le a b c d q
  have ht : ∀ k j s, STy k j s → STy0 k j s := fun k j s h => h.elim Or.inl (fun e => Or.inr ⟨e.1, Or.inl e.2⟩)
  have b1 := ap4_le a 4 q
  have b2 := ap4_le b 4 (ap4 a 4 q)
  have b3 := ap4_le c 4 (ap4 b 4 (ap4 a 4 q))
  refine Rn.aload_n (pc := 0) dX12_type_0 rfl rfl ?_
  refine Rn.getI (pc := 1) (t := 0) flX12_76 hq.1 dX12_type_1 ?_
  refine Rn.istore (pc := 4) dX12_type_4 (by decide) rfl st9_5 ?_
  refine Rn.iconst (pc := 6) (v := nI 0) dX12_type_6 (by decide) ?_
  refine Rn.istore (pc := 7) dX12_type_7 (by decide) rfl st9_6 ?_
  refine Rn.iload (pc := 9) dX12_type_9 rfl ?_
  refine Rn.iconst (pc := 11) (v := nI 4) dX12_type_11 (by decide) ?_
  refine Rn.icmp_geN (pc := 12) (tgt := 81) dX12_type_12 (by decide) (by omega) (by omega) (fun c12 => ?_) (fun c12 => ?_)
  · exact absurd c12 (by decide)
  · refine Rn.iload (pc := 15) dX12_type_15 rfl ?_
    refine Rn.if_ne (pc := 17) (y := 0) (tgt := 24) dX12_type_17 (by decide) (fun c17 => ?_) (fun c17 => ?_)
    · exact absurd c17 (by decide)
    · refine Rn.iload_n (pc := 20) dX12_type_20 rfl rfl ?_
      refine Rn.goto (pc := 21) (tgt := 46) dX12_type_21 (by decide) ?_
      refine Rn.istore (pc := 46) dX12_type_46 (by decide) rfl st9_7 ?_
      refine Rn.bipush (pc := 48) (v := nI 24) dX12_type_48 (by decide) ?_
      refine Rn.istore (pc := 50) dX12_type_50 (by decide) rfl st9_8 ?_
      refine ty_52 G a b c d a q.1 _ 4 q _ (by decide) hq (by omega) ?_
      intro M1 hq1 f1
      refine Rn.iincN (pc := 75) (n := 1) dX12_type_75 rfl (by decide) (by decide) rfl st9_6 ?_
      refine Rn.goto (pc := 78) (tgt := 9) dX12_type_78 (by decide) ?_
      refine Rn.iload (pc := 9) dX12_type_9 rfl ?_
      refine Rn.iconst (pc := 11) (v := nI 4) dX12_type_11 (by decide) ?_
      refine Rn.icmp_geN (pc := 12) (tgt := 81) dX12_type_12 (by decide) (by omega) (by omega) (fun c12 => ?_) (fun c12 => ?_)
      · exact absurd c12 (by decide)
      · refine Rn.iload (pc := 15) dX12_type_15 rfl ?_
        refine Rn.if_ne (pc := 17) (y := 0) (tgt := 24) dX12_type_17 (by decide) (fun c17 => ?_) (fun c17 => ?_)
        · refine Rn.iload (pc := 24) dX12_type_24 rfl ?_
          refine Rn.iconst (pc := 26) (v := nI 1) dX12_type_26 (by decide) ?_
          refine Rn.icmp_neN (pc := 27) (tgt := 34) dX12_type_27 (by decide) (by omega) (by omega) (fun c27 => ?_) (fun c27 => ?_)
          · exact absurd c27 (by decide)
          · refine Rn.iload_n (pc := 30) dX12_type_30 rfl rfl ?_
            refine Rn.goto (pc := 31) (tgt := 46) dX12_type_31 (by decide) ?_
            refine Rn.istore (pc := 46) dX12_type_46 (by decide) rfl st9_7 ?_
            refine Rn.bipush (pc := 48) (v := nI 24) dX12_type_48 (by decide) ?_
            refine Rn.istore (pc := 50) dX12_type_50 (by decide) rfl st9_8 ?_
            refine ty_52 G a b c d b q.1 _ 4 (ap4 a 4 q) _ (by decide) hq1 (by omega) ?_
            intro M2 hq2 f2
            refine Rn.iincN (pc := 75) (n := 1) dX12_type_75 rfl (by decide) (by decide) rfl st9_6 ?_
            refine Rn.goto (pc := 78) (tgt := 9) dX12_type_78 (by decide) ?_
            refine Rn.iload (pc := 9) dX12_type_9 rfl ?_
            refine Rn.iconst (pc := 11) (v := nI 4) dX12_type_11 (by decide) ?_
            refine Rn.icmp_geN (pc := 12) (tgt := 81) dX12_type_12 (by decide) (by omega) (by omega) (fun c12 => ?_) (fun c12 => ?_)
            · exact absurd c12 (by decide)
            · refine Rn.iload (pc := 15) dX12_type_15 rfl ?_
              refine Rn.if_ne (pc := 17) (y := 0) (tgt := 24) dX12_type_17 (by decide) (fun c17 => ?_) (fun c17 => ?_)
              · refine Rn.iload (pc := 24) dX12_type_24 rfl ?_
                refine Rn.iconst (pc := 26) (v := nI 1) dX12_type_26 (by decide) ?_
                refine Rn.icmp_neN (pc := 27) (tgt := 34) dX12_type_27 (by decide) (by omega) (by omega) (fun c27 => ?_) (fun c27 => ?_)
                · refine Rn.iload (pc := 34) dX12_type_34 rfl ?_
                  refine Rn.iconst (pc := 36) (v := nI 2) dX12_type_36 (by decide) ?_
                  refine Rn.icmp_neN (pc := 37) (tgt := 44) dX12_type_37 (by decide) (by omega) (by omega) (fun c37 => ?_) (fun c37 => ?_)
                  · exact absurd c37 (by decide)
                  · refine Rn.iload_n (pc := 40) dX12_type_40 rfl rfl ?_
                    refine Rn.goto (pc := 41) (tgt := 46) dX12_type_41 (by decide) ?_
                    refine Rn.istore (pc := 46) dX12_type_46 (by decide) rfl st9_7 ?_
                    refine Rn.bipush (pc := 48) (v := nI 24) dX12_type_48 (by decide) ?_
                    refine Rn.istore (pc := 50) dX12_type_50 (by decide) rfl st9_8 ?_
                    refine ty_52 G a b c d c q.1 _ 4 (ap4 b 4 (ap4 a 4 q)) _ (by decide) hq2 (by omega) ?_
                    intro M3 hq3 f3
                    refine Rn.iincN (pc := 75) (n := 1) dX12_type_75 rfl (by decide) (by decide) rfl st9_6 ?_
                    refine Rn.goto (pc := 78) (tgt := 9) dX12_type_78 (by decide) ?_
                    refine Rn.iload (pc := 9) dX12_type_9 rfl ?_
                    refine Rn.iconst (pc := 11) (v := nI 4) dX12_type_11 (by decide) ?_
                    refine Rn.icmp_geN (pc := 12) (tgt := 81) dX12_type_12 (by decide) (by omega) (by omega) (fun c12 => ?_) (fun c12 => ?_)
                    · exact absurd c12 (by decide)
                    · refine Rn.iload (pc := 15) dX12_type_15 rfl ?_
                      refine Rn.if_ne (pc := 17) (y := 0) (tgt := 24) dX12_type_17 (by decide) (fun c17 => ?_) (fun c17 => ?_)
                      · refine Rn.iload (pc := 24) dX12_type_24 rfl ?_
                        refine Rn.iconst (pc := 26) (v := nI 1) dX12_type_26 (by decide) ?_
                        refine Rn.icmp_neN (pc := 27) (tgt := 34) dX12_type_27 (by decide) (by omega) (by omega) (fun c27 => ?_) (fun c27 => ?_)
                        · refine Rn.iload (pc := 34) dX12_type_34 rfl ?_
                          refine Rn.iconst (pc := 36) (v := nI 2) dX12_type_36 (by decide) ?_
                          refine Rn.icmp_neN (pc := 37) (tgt := 44) dX12_type_37 (by decide) (by omega) (by omega) (fun c37 => ?_) (fun c37 => ?_)
                          · refine Rn.iload (pc := 44) dX12_type_44 rfl ?_
                            refine Rn.istore (pc := 46) dX12_type_46 (by decide) rfl st9_7 ?_
                            refine Rn.bipush (pc := 48) (v := nI 24) dX12_type_48 (by decide) ?_
                            refine Rn.istore (pc := 50) dX12_type_50 (by decide) rfl st9_8 ?_
                            refine ty_52 G a b c d d q.1 _ 4 (ap4 c 4 (ap4 b 4 (ap4 a 4 q))) _ (by decide) hq3 (by omega) ?_
                            intro M4 hq4 f4
                            change TyM (tyQ a b c d q) M4 at hq4
                            refine Rn.iincN (pc := 75) (n := 1) dX12_type_75 rfl (by decide) (by decide) rfl st9_6 ?_
                            refine Rn.goto (pc := 78) (tgt := 9) dX12_type_78 (by decide) ?_
                            refine Rn.iload (pc := 9) dX12_type_9 rfl ?_
                            refine Rn.iconst (pc := 11) (v := nI 4) dX12_type_11 (by decide) ?_
                            refine Rn.icmp_geN (pc := 12) (tgt := 81) dX12_type_12 (by decide) (by omega) (by omega) (fun c12 => ?_) (fun c12 => ?_)
                            · refine Rn.aload_n (pc := 81) dX12_type_81 rfl rfl ?_
                              refine Rn.aload_n (pc := 82) dX12_type_82 rfl rfl ?_
                              refine Rn.getI (pc := 83) (t := 0) flX12_76 hq4.1 dX12_type_83 ?_
                              refine Rn.bipush (pc := 86) (v := nI 48) dX12_type_86 (by decide) ?_
                              refine Rn.icmp_leN (pc := 88) (tgt := 95) dX12_type_88 (by decide) (by omega) (by omega) (fun c88 => ?_) (fun c88 => ?_)
                              · refine Rn.iconst (pc := 95) (v := nI 0) dX12_type_95 (by decide) ?_
                                refine Rn.callV (pc := 96) (as := [_]) cvX12_83 ⟨by decide, rfl⟩ ⟨by decide, by decide⟩ dX12_type_96 (Nat.le_of_ble_eq_true rfl) rfl (c_refused G (nI 0)) ?_
                                rintro _ _ ⟨rfl, rfl⟩
                                rw [ref_0]
                                refine Rn.if_eqB (pc := 99) (tgt := 110) dX12_type_99 (by decide) (fun c99 => ?_) (fun c99 => ?_)
                                · refine Rn.aload_n (pc := 110) dX12_type_110 rfl rfl ?_
                                  refine Rn.getI (pc := 111) (t := 0) flX12_76 (show mI (sI M4 11 0 0 (nI 0)) 11 0 2 = nI (tyQ a b c d q).1 from hq4.1) dX12_type_111 ?_
                                  refine Rn.iret (pc := 114) rfl dX12_type_114 ?_
                                  have hn : ¬ 48 < (tyQ a b c d q).1 := Nat.not_lt.mpr c88
                                  rw [if_neg hn, if_neg hn, if_neg hn]
                                  exact ⟨rfl, rfl, hq4, ((((((((Fr.refl M).trans f1).trans f2).trans f3).trans f4).mono ht).sI (Or.inr ⟨rfl, Or.inr rfl⟩)))⟩
                                · cases c99
                              · refine Rn.iconst (pc := 91) (v := nI 1) dX12_type_91 (by decide) ?_
                                refine Rn.goto (pc := 92) (tgt := 96) dX12_type_92 (by decide) ?_
                                refine Rn.callV (pc := 96) (as := [_]) cvX12_83 ⟨by decide, rfl⟩ ⟨by decide, by decide⟩ dX12_type_96 (Nat.le_of_ble_eq_true rfl) rfl (c_refused G (nI 1)) ?_
                                rintro _ _ ⟨rfl, rfl⟩
                                rw [ref_1]
                                refine Rn.if_eqB (pc := 99) (tgt := 110) dX12_type_99 (by decide) (fun c99 => ?_) (fun c99 => ?_)
                                · cases c99
                                · refine Rn.aload_n (pc := 102) dX12_type_102 rfl rfl ?_
                                  refine Rn.iload (pc := 103) dX12_type_103 rfl ?_
                                  refine Rn.putI (pc := 105) (t := 0) flX12_76 rfl rfl dX12_type_105 ?_
                                  refine Rn.iconst (pc := 108) (v := nI 0) dX12_type_108 (by decide) ?_
                                  refine Rn.iret (pc := 109) rfl dX12_type_109 ?_
                                  have hn : 48 < (tyQ a b c d q).1 := c88
                                  rw [if_pos hn, if_pos hn, if_pos hn]
                                  refine ⟨rfl, rfl, ⟨rfl, fun i h1 h2 => ?_⟩, ((((((((Fr.refl M).trans f1).trans f2).trans f3).trans f4).mono ht).sI (Or.inr ⟨rfl, Or.inr rfl⟩))).sI (Or.inr ⟨rfl, Or.inl rfl⟩)⟩
                                  show mI M4 22 0 i = nI (q.2 i)
                                  rw [hq4.2 i (by omega) h2, hQ.2.2 i h1]
                            · exact absurd c12 (by decide)
                          · exact absurd c37 (by decide)
                        · exact absurd c27 (by decide)
                      · exact absurd c17 (by decide)
                · exact absurd c27 (by decide)
              · exact absurd c17 (by decide)
        · exact absurd c17 (by decide)

set_option maxRecDepth 20000 in
set_option maxHeartbeats 4000000 in
theorem c_forget (G : GX) {M : Mem} : MetM G yX12_forget iX12_forget [vR 11 0] M (fun r M' => r = none ∧ M' = sI (sI (sI M 38 0 0 (-1)) 38 0 1 (-1)) 38 0 2 (-1)) := by
  refine MetM.of (ls := [some (vR 11 0), none]) (by decide) rfl (Nat.le_of_ble_eq_true rfl) rfl ?_
  intro hM0
  refine Rn.iconst (pc := 0) (v := nI 0) dX12_forget_0 (by decide) ?_
  refine Rn.istore_n (pc := 1) dX12_forget_1 rfl (by decide) rfl st2_1 ?_
  refine Rn.iload_n (pc := 2) dX12_forget_2 rfl rfl ?_
  refine Rn.iconst (pc := 3) (v := nI 3) dX12_forget_3 (by decide) ?_
  refine Rn.icmp_geN (pc := 4) (tgt := 20) dX12_forget_4 (by decide) (by omega) (by omega) (fun c4 => ?_) (fun c4 => ?_)
  · exact absurd c4 (by decide)
  · refine Rn.aload_n (pc := 7) dX12_forget_7 rfl rfl ?_
    refine Rn.getR (pc := 8) flX12_60 mu11_35 fx11_35 dX12_forget_8 ?_
    refine Rn.iload_n (pc := 11) dX12_forget_11 rfl rfl ?_
    refine Rn.iconst (pc := 12) (v := -1) dX12_forget_12 (by decide) ?_
    refine Rn.iastN (pc := 13) ak38 (by decide) (by decide) dX12_forget_13 ?_
    refine Rn.iincN (pc := 14) (n := 1) dX12_forget_14 rfl (by decide) (by decide) rfl st2_1 ?_
    refine Rn.goto (pc := 17) (tgt := 2) dX12_forget_17 (by decide) ?_
    refine Rn.iload_n (pc := 2) dX12_forget_2 rfl rfl ?_
    refine Rn.iconst (pc := 3) (v := nI 3) dX12_forget_3 (by decide) ?_
    refine Rn.icmp_geN (pc := 4) (tgt := 20) dX12_forget_4 (by decide) (by omega) (by omega) (fun c4 => ?_) (fun c4 => ?_)
    · exact absurd c4 (by decide)
    · refine Rn.aload_n (pc := 7) dX12_forget_7 rfl rfl ?_
      refine Rn.getR (pc := 8) flX12_60 mu11_35 fx11_35 dX12_forget_8 ?_
      refine Rn.iload_n (pc := 11) dX12_forget_11 rfl rfl ?_
      refine Rn.iconst (pc := 12) (v := -1) dX12_forget_12 (by decide) ?_
      refine Rn.iastN (pc := 13) ak38 (by decide) (by decide) dX12_forget_13 ?_
      refine Rn.iincN (pc := 14) (n := 1) dX12_forget_14 rfl (by decide) (by decide) rfl st2_1 ?_
      refine Rn.goto (pc := 17) (tgt := 2) dX12_forget_17 (by decide) ?_
      refine Rn.iload_n (pc := 2) dX12_forget_2 rfl rfl ?_
      refine Rn.iconst (pc := 3) (v := nI 3) dX12_forget_3 (by decide) ?_
      refine Rn.icmp_geN (pc := 4) (tgt := 20) dX12_forget_4 (by decide) (by omega) (by omega) (fun c4 => ?_) (fun c4 => ?_)
      · exact absurd c4 (by decide)
      · refine Rn.aload_n (pc := 7) dX12_forget_7 rfl rfl ?_
        refine Rn.getR (pc := 8) flX12_60 mu11_35 fx11_35 dX12_forget_8 ?_
        refine Rn.iload_n (pc := 11) dX12_forget_11 rfl rfl ?_
        refine Rn.iconst (pc := 12) (v := -1) dX12_forget_12 (by decide) ?_
        refine Rn.iastN (pc := 13) ak38 (by decide) (by decide) dX12_forget_13 ?_
        refine Rn.iincN (pc := 14) (n := 1) dX12_forget_14 rfl (by decide) (by decide) rfl st2_1 ?_
        refine Rn.goto (pc := 17) (tgt := 2) dX12_forget_17 (by decide) ?_
        refine Rn.iload_n (pc := 2) dX12_forget_2 rfl rfl ?_
        refine Rn.iconst (pc := 3) (v := nI 3) dX12_forget_3 (by decide) ?_
        refine Rn.icmp_geN (pc := 4) (tgt := 20) dX12_forget_4 (by decide) (by omega) (by omega) (fun c4 => ?_) (fun c4 => ?_)
        · refine Rn.vret (pc := 20) rfl dX12_forget_20 ?_
          exact ⟨rfl, rfl⟩
        · exact absurd c4 (by decide)

def SSt (row k _j s : Nat) : Prop := (k = 24 ∧ s = row) ∨ (k = 25 ∧ 48 * row ≤ s ∧ s < 48 * row + 48) ∨ (k = 11 ∧ s = 2)
def StoM (row : Nat) (q : Nat × (Nat → Nat)) (M : Mem) : Prop := mI M 24 0 row = nI q.1 ∧ ∀ i, i < q.1 → mI M 25 0 (48 * row + i) = nI (q.2 i)
set_option maxRecDepth 20000 in
set_option maxHeartbeats 4000000 in
theorem c_store (G : GX) {M : Mem} (row : Nat) (q : Nat × (Nat → Nat)) (hr : row < 96) (hq : TyM q M) (hb : q.1 ≤ 48) (hc : ∀ i, i < q.1 → q.2 i < 256) : MetM G yX12_store iX12_store [vR 11 0, vI (nI row)] M (fun r M' => r = none ∧ StoM row q M' ∧ mI M' 11 0 2 = nI 0 ∧ Fr (SSt row) M M') := by
  refine MetM.of (ls := [some (vR 11 0), some (vI (nI row)), none]) (by decide) rfl (Nat.le_of_ble_eq_true rfl) rfl ?_
  intro hM0
  have loop : ∀ (d i : Nat) (N : Mem), q.1 - i = d → i ≤ q.1 → TyM q N → mI N 24 0 row = nI q.1 → (∀ k, k < i → mI N 25 0 (48 * row + k) = nI (q.2 k)) → Fr (SSt row) M N → Rn G iX12_store (fun r M' => r = none ∧ StoM row q M' ∧ mI M' 11 0 2 = nI 0 ∧ Fr (SSt row) M M') 12 [some (vR 11 0), some (vI (nI row)), some (vI (nI i))] [] N := by
    intro d
    induction d with
    | zero =>
      intro i N hd hi hN hl hx fN
      have hi2 : i = q.1 := by omega
      refine Rn.iload_n (pc := 12) dX12_store_12 rfl rfl ?_
      refine Rn.aload_n (pc := 13) dX12_store_13 rfl rfl ?_
      refine Rn.getI (pc := 14) (t := 0) flX12_76 hN.1 dX12_store_14 ?_
      refine Rn.icmp_geN (pc := 17) (tgt := 43) dX12_store_17 (by decide) (by omega) (by omega) (fun c17 => ?_) (fun c17 => ?_)
      · refine Rn.aload_n (pc := 43) dX12_store_43 rfl rfl ?_
        refine Rn.iconst (pc := 44) (v := nI 0) dX12_store_44 (by decide) ?_
        refine Rn.putI (pc := 45) (t := 0) flX12_76 rfl rfl dX12_store_45 ?_
        refine Rn.vret (pc := 48) rfl dX12_store_48 ?_
        exact ⟨rfl, ⟨hl, fun k h1 => hx k (by omega)⟩, rfl, fN.sI (Or.inr (Or.inr ⟨rfl, rfl⟩))⟩
      · exact absurd c17 (by omega)
    | succ d ih =>
      intro i N hd hi hN hl hx fN
      refine Rn.iload_n (pc := 12) dX12_store_12 rfl rfl ?_
      refine Rn.aload_n (pc := 13) dX12_store_13 rfl rfl ?_
      refine Rn.getI (pc := 14) (t := 0) flX12_76 hN.1 dX12_store_14 ?_
      refine Rn.icmp_geN (pc := 17) (tgt := 43) dX12_store_17 (by decide) (by omega) (by omega) (fun c17 => ?_) (fun c17 => ?_)
      · exact absurd c17 (by omega)
      · refine Rn.aload_n (pc := 20) dX12_store_20 rfl rfl ?_
        refine Rn.getR (pc := 21) flX12_20 mu11_5 fx11_5 dX12_store_21 ?_
        refine Rn.bipush (pc := 24) (v := nI 48) dX12_store_24 (by decide) ?_
        refine Rn.iload_n (pc := 26) dX12_store_26 rfl rfl ?_
        refine Rn.imulN (pc := 27) dX12_store_27 ?_
        refine Rn.iload_n (pc := 28) dX12_store_28 rfl rfl ?_
        refine Rn.iaddN (pc := 29) dX12_store_29 ?_
        refine Rn.aload_n (pc := 30) dX12_store_30 rfl rfl ?_
        refine Rn.getR (pc := 31) flX12_7 mu11_1 fx11_1 dX12_store_31 ?_
        refine Rn.iload_n (pc := 34) dX12_store_34 rfl rfl ?_
        refine Rn.caldN (pc := 35) ak22 (by omega) (by decide) (hN.2 i (by omega) (by omega)) dX12_store_35 ?_
        refine Rn.castN (pc := 36) ak25 (by omega) (by decide) (vnc (by have := hc i (by omega); omega)) dX12_store_36 ?_
        refine Rn.iincN (pc := 37) (n := 1) dX12_store_37 rfl (by decide) (by decide) rfl st3_2 ?_
        refine Rn.goto (pc := 40) (tgt := 12) dX12_store_40 (by decide) ?_
        refine ih (i + 1) _ (by omega) (by omega) ⟨hN.1, hN.2⟩ hl (fun k h1 => ?_) (fN.sI (Or.inr (Or.inl ⟨rfl, by omega, by omega⟩)))
        rw [mI_sI]
        by_cases e : k = i
        · rw [e, if_pos ⟨rfl, rfl, rfl⟩]
        · rw [if_neg (fun z => e (by omega))]; exact hx k (by omega)
  refine Rn.aload_n (pc := 0) dX12_store_0 rfl rfl ?_
  refine Rn.getR (pc := 1) flX12_17 mu11_4 fx11_4 dX12_store_1 ?_
  refine Rn.iload_n (pc := 4) dX12_store_4 rfl rfl ?_
  refine Rn.aload_n (pc := 5) dX12_store_5 rfl rfl ?_
  refine Rn.getI (pc := 6) (t := 0) flX12_76 hq.1 dX12_store_6 ?_
  refine Rn.iastN (pc := 9) ak24 (by omega) (by decide) dX12_store_9 ?_
  refine Rn.iconst (pc := 10) (v := nI 0) dX12_store_10 (by decide) ?_
  refine Rn.istore_n (pc := 11) dX12_store_11 rfl (by decide) rfl st3_2 ?_
  refine loop q.1 0 _ (by omega) (by omega) ⟨hq.1, hq.2⟩ (by rw [mI_sI, if_pos ⟨rfl, rfl, rfl⟩]) (fun k h1 => absurd h1 (by omega)) ((Fr.refl M).sI (Or.inl ⟨rfl, rfl⟩))

def SAd (row m k j s : Nat) : Prop := SSt row k j s ∨ (k = 23 ∧ s = m) ∨ (k = 11 ∧ s = 0)
set_option maxRecDepth 20000 in
set_option maxHeartbeats 4000000 in
theorem c_add_in (G : GX) {M : Mem} (m n : Nat) (q : Nat × (Nat → Nat)) (hm : m < 4) (hn : n < 24) (hl : mI M 23 0 m = nI n) (hq : TyM q M) (hb : q.1 ≤ 48) (hc : ∀ i, i < q.1 → q.2 i < 256) : MetM G yX12_add iX12_add [vR 11 0, vI (nI m)] M (fun r M' => r = some (vI (nI (n + 1))) ∧ mI M' 11 0 0 = nI 0 ∧ StoM (24 * m + n) q M' ∧ mI M' 11 0 2 = nI 0 ∧ mI M' 23 0 m = nI (n + 1) ∧ Fr (SAd (24 * m + n) m) M M') := by
  refine MetM.of (ls := [some (vR 11 0), some (vI (nI m))]) (by decide) rfl (Nat.le_of_ble_eq_true rfl) rfl ?_
  intro hM0
  refine Rn.aload_n (pc := 0) dX12_add_0 rfl rfl ?_
  refine Rn.iload_n (pc := 1) dX12_add_1 rfl rfl ?_
  refine Rn.callS (pc := 2) (as := [_]) csX12_87 ⟨by decide, by decide⟩ dX12_add_2 (Nat.le_of_ble_eq_true rfl) rfl (c_isModule G (nI m)) ?_
  rintro _ M9 ⟨rfl, h9⟩
  rw [h9]
  rw [mod_N hm]
  refine Rn.if_neB (pc := 5) (tgt := 12) dX12_add_5 (by decide) (fun c5 => ?_) (fun c5 => ?_)
  · refine Rn.aload_n (pc := 12) dX12_add_12 rfl rfl ?_
    refine Rn.getR (pc := 13) flX12_13 mu11_3 fx11_3 dX12_add_13 ?_
    refine Rn.iload_n (pc := 16) dX12_add_16 rfl rfl ?_
    refine Rn.ialdN (pc := 17) ak23 (by omega) (by decide) hl dX12_add_17 ?_
    refine Rn.bipush (pc := 18) (v := nI 24) dX12_add_18 (by decide) ?_
    refine Rn.icmp_neN (pc := 20) (tgt := 27) dX12_add_20 (by decide) (by omega) (by omega) (fun c20 => ?_) (fun c20 => ?_)
    · refine Rn.iconst (pc := 27) (v := nI 0) dX12_add_27 (by decide) ?_
      refine Rn.callV (pc := 28) (as := [_]) cvX12_83 ⟨by decide, rfl⟩ ⟨by decide, by decide⟩ dX12_add_28 (Nat.le_of_ble_eq_true rfl) rfl (c_refused G (nI 0)) ?_
      rintro _ _ ⟨rfl, rfl⟩
      rw [ref_0]
      refine Rn.if_eqB (pc := 31) (tgt := 36) dX12_add_31 (by decide) (fun c31 => ?_) (fun c31 => ?_)
      · refine Rn.aload_n (pc := 36) dX12_add_36 rfl rfl ?_
        refine Rn.bipush (pc := 37) (v := nI 24) dX12_add_37 (by decide) ?_
        refine Rn.iload_n (pc := 39) dX12_add_39 rfl rfl ?_
        refine Rn.imulN (pc := 40) dX12_add_40 ?_
        refine Rn.aload_n (pc := 41) dX12_add_41 rfl rfl ?_
        refine Rn.getR (pc := 42) flX12_13 mu11_3 fx11_3 dX12_add_42 ?_
        refine Rn.iload_n (pc := 45) dX12_add_45 rfl rfl ?_
        refine Rn.ialdN (pc := 46) ak23 (by omega) (by decide) (show mI (sI M 11 0 0 (nI 0)) 23 0 m = nI n from hl) dX12_add_46 ?_
        refine Rn.iaddN (pc := 47) dX12_add_47 ?_
        refine Rn.callV (pc := 48) (as := [_]) cvX12_90 ⟨by decide, rfl⟩ ⟨by decide, by decide⟩ dX12_add_48 (Nat.le_of_ble_eq_true rfl) rfl (c_store G (24 * m + n) q (by omega) ⟨hq.1, hq.2⟩ hb hc) ?_
        rintro _ M9 ⟨rfl, h9, g9, f9⟩
        have h23 : mI M9 23 0 m = nI n := (f9.I (by unfold SSt; omega)).trans hl
        refine Rn.aload_n (pc := 51) dX12_add_51 rfl rfl ?_
        refine Rn.getR (pc := 52) flX12_13 mu11_3 fx11_3 dX12_add_52 ?_
        refine Rn.iload_n (pc := 55) dX12_add_55 rfl rfl ?_
        refine Rn.dup2IR (pc := 56) (y := 0) dX12_add_56 ?_
        refine Rn.ialdN (pc := 57) ak23 (by omega) (by decide) h23 dX12_add_57 ?_
        refine Rn.iconst (pc := 58) (v := nI 1) dX12_add_58 (by decide) ?_
        refine Rn.iaddN (pc := 59) dX12_add_59 ?_
        refine Rn.iastN (pc := 60) ak23 (by omega) (by decide) dX12_add_60 ?_
        refine Rn.aload_n (pc := 61) dX12_add_61 rfl rfl ?_
        refine Rn.getR (pc := 62) flX12_13 mu11_3 fx11_3 dX12_add_62 ?_
        refine Rn.iload_n (pc := 65) dX12_add_65 rfl rfl ?_
        refine Rn.ialdN (pc := 66) ak23 (by omega) (by decide) (show mI (sI M9 23 0 m (nI (n + 1))) 23 0 m = nI (n + 1) by rw [mI_sI, if_pos ⟨rfl, rfl, rfl⟩]) dX12_add_66 ?_
        refine Rn.iret (pc := 67) rfl dX12_add_67 ?_
        exact ⟨rfl, (f9.I (by unfold SSt; omega)).trans rfl, ⟨h9.1, h9.2⟩, g9, by rw [mI_sI, if_pos ⟨rfl, rfl, rfl⟩], (((Fr.refl M).sI (Or.inr (Or.inr ⟨rfl, rfl⟩))).trans (f9.mono (fun _ _ _ h => Or.inl h))).sI (Or.inr (Or.inl ⟨rfl, rfl⟩))⟩
      · cases c31
    · exact absurd c20 (by omega)
  · cases c5

set_option maxRecDepth 20000 in
set_option maxHeartbeats 4000000 in
theorem c_add_full (G : GX) {M : Mem} (m : Nat) (hm : m < 4) (hl : mI M 23 0 m = nI 24) : MetM G yX12_add iX12_add [vR 11 0, vI (nI m)] M (fun r M' => r = some (vI (nI 0)) ∧ M' = sI M 11 0 0 (nI 2)) := by
  refine MetM.of (ls := [some (vR 11 0), some (vI (nI m))]) (by decide) rfl (Nat.le_of_ble_eq_true rfl) rfl ?_
  intro hM0
  refine Rn.aload_n (pc := 0) dX12_add_0 rfl rfl ?_
  refine Rn.iload_n (pc := 1) dX12_add_1 rfl rfl ?_
  refine Rn.callS (pc := 2) (as := [_]) csX12_87 ⟨by decide, by decide⟩ dX12_add_2 (Nat.le_of_ble_eq_true rfl) rfl (c_isModule G (nI m)) ?_
  rintro _ M9 ⟨rfl, h9⟩
  rw [h9]
  rw [mod_N hm]
  refine Rn.if_neB (pc := 5) (tgt := 12) dX12_add_5 (by decide) (fun c5 => ?_) (fun c5 => ?_)
  · refine Rn.aload_n (pc := 12) dX12_add_12 rfl rfl ?_
    refine Rn.getR (pc := 13) flX12_13 mu11_3 fx11_3 dX12_add_13 ?_
    refine Rn.iload_n (pc := 16) dX12_add_16 rfl rfl ?_
    refine Rn.ialdN (pc := 17) ak23 (by omega) (by decide) hl dX12_add_17 ?_
    refine Rn.bipush (pc := 18) (v := nI 24) dX12_add_18 (by decide) ?_
    refine Rn.icmp_neN (pc := 20) (tgt := 27) dX12_add_20 (by decide) (by omega) (by omega) (fun c20 => ?_) (fun c20 => ?_)
    · exact absurd rfl c20
    · refine Rn.iconst (pc := 23) (v := nI 2) dX12_add_23 (by decide) ?_
      refine Rn.goto (pc := 24) (tgt := 28) dX12_add_24 (by decide) ?_
      refine Rn.callV (pc := 28) (as := [_]) cvX12_83 ⟨by decide, rfl⟩ ⟨by decide, by decide⟩ dX12_add_28 (Nat.le_of_ble_eq_true rfl) rfl (c_refused G (nI 2)) ?_
      rintro _ _ ⟨rfl, rfl⟩
      rw [ref_2]
      refine Rn.if_eqB (pc := 31) (tgt := 36) dX12_add_31 (by decide) (fun c31 => ?_) (fun c31 => ?_)
      · cases c31
      · refine Rn.iconst (pc := 34) (v := nI 0) dX12_add_34 (by decide) ?_
        refine Rn.iret (pc := 35) rfl dX12_add_35 ?_
        exact ⟨rfl, rfl⟩
  · cases c5

set_option maxRecDepth 20000 in
set_option maxHeartbeats 4000000 in
theorem c_add_no (G : GX) {M : Mem} (x : Int32) (hx : decide (¬ x < 0 ∧ ¬ nI 4 ≤ x) = false) : MetM G yX12_add iX12_add [vR 11 0, vI x] M (fun r M' => r = some (vI (nI 0)) ∧ M' = sI M 11 0 0 (nI 1)) := by
  refine MetM.of (ls := [some (vR 11 0), some (vI x)]) (by decide) rfl (Nat.le_of_ble_eq_true rfl) rfl ?_
  intro hM0
  refine Rn.aload_n (pc := 0) dX12_add_0 rfl rfl ?_
  refine Rn.iload_n (pc := 1) dX12_add_1 rfl rfl ?_
  refine Rn.callS (pc := 2) (as := [_]) csX12_87 ⟨by decide, by decide⟩ dX12_add_2 (Nat.le_of_ble_eq_true rfl) rfl (c_isModule G x) ?_
  rintro _ M9 ⟨rfl, h9⟩
  rw [h9]
  rw [hx]
  refine Rn.if_neB (pc := 5) (tgt := 12) dX12_add_5 (by decide) (fun c5 => ?_) (fun c5 => ?_)
  · cases c5
  · refine Rn.iconst (pc := 8) (v := nI 1) dX12_add_8 (by decide) ?_
    refine Rn.goto (pc := 9) (tgt := 28) dX12_add_9 (by decide) ?_
    refine Rn.callV (pc := 28) (as := [_]) cvX12_83 ⟨by decide, rfl⟩ ⟨by decide, by decide⟩ dX12_add_28 (Nat.le_of_ble_eq_true rfl) rfl (c_refused G (nI 1)) ?_
    rintro _ _ ⟨rfl, rfl⟩
    rw [ref_1]
    refine Rn.if_eqB (pc := 31) (tgt := 36) dX12_add_31 (by decide) (fun c31 => ?_) (fun c31 => ?_)
    · cases c31
    · refine Rn.iconst (pc := 34) (v := nI 0) dX12_add_34 (by decide) ?_
      refine Rn.iret (pc := 35) rfl dX12_add_35 ?_
      exact ⟨rfl, rfl⟩

set_option maxRecDepth 20000 in
set_option maxHeartbeats 4000000 in
theorem c_change_in (G : GX) {M : Mem} (m n t : Nat) (q : Nat × (Nat → Nat)) (hm : m < 4) (hn : n < t) (ht : t ≤ 24) (hl : mI M 23 0 m = nI t) (hq : TyM q M) (hb : q.1 ≤ 48) (hc : ∀ i, i < q.1 → q.2 i < 256) : MetM G yX12_change iX12_change [vR 11 0, vI (nI m), vI (nI n)] M (fun r M' => r = none ∧ mI M' 11 0 0 = nI 0 ∧ StoM (24 * m + n) q M' ∧ mI M' 11 0 2 = nI 0 ∧ Fr (SAd (24 * m + n) m) M M') := by
  refine MetM.of (ls := [some (vR 11 0), some (vI (nI m)), some (vI (nI n))]) (by decide) rfl (Nat.le_of_ble_eq_true rfl) rfl ?_
  intro hM0
  refine Rn.aload_n (pc := 0) dX12_change_0 rfl rfl ?_
  refine Rn.iload_n (pc := 1) dX12_change_1 rfl rfl ?_
  refine Rn.callS (pc := 2) (as := [_]) csX12_87 ⟨by decide, by decide⟩ dX12_change_2 (Nat.le_of_ble_eq_true rfl) rfl (c_isModule G (nI m)) ?_
  rintro _ M9 ⟨rfl, h9⟩
  rw [h9]
  rw [mod_N hm]
  refine Rn.if_eqB (pc := 5) (tgt := 26) dX12_change_5 (by decide) (fun c5 => ?_) (fun c5 => ?_)
  · cases c5
  · refine Rn.iload_n (pc := 8) dX12_change_8 rfl rfl ?_
    refine Rn.if_lt (pc := 9) (y := 0) (tgt := 26) dX12_change_9 (by decide) (fun c9 => ?_) (fun c9 => ?_)
    · exact absurd c9 (nI_pos (by omega))
    · refine Rn.iload_n (pc := 12) dX12_change_12 rfl rfl ?_
      refine Rn.aload_n (pc := 13) dX12_change_13 rfl rfl ?_
      refine Rn.getR (pc := 14) flX12_13 mu11_3 fx11_3 dX12_change_14 ?_
      refine Rn.iload_n (pc := 17) dX12_change_17 rfl rfl ?_
      refine Rn.ialdN (pc := 18) ak23 (by omega) (by decide) hl dX12_change_18 ?_
      refine Rn.icmp_geN (pc := 19) (tgt := 26) dX12_change_19 (by decide) (by omega) (by omega) (fun c19 => ?_) (fun c19 => ?_)
      · exact absurd c19 (by omega)
      · refine Rn.iconst (pc := 22) (v := nI 0) dX12_change_22 (by decide) ?_
        refine Rn.goto (pc := 23) (tgt := 27) dX12_change_23 (by decide) ?_
        refine Rn.callV (pc := 27) (as := [_]) cvX12_83 ⟨by decide, rfl⟩ ⟨by decide, by decide⟩ dX12_change_27 (Nat.le_of_ble_eq_true rfl) rfl (c_refused G (nI 0)) ?_
        rintro _ _ ⟨rfl, rfl⟩
        rw [ref_0]
        refine Rn.if_eqB (pc := 30) (tgt := 34) dX12_change_30 (by decide) (fun c30 => ?_) (fun c30 => ?_)
        · refine Rn.aload_n (pc := 34) dX12_change_34 rfl rfl ?_
          refine Rn.bipush (pc := 35) (v := nI 24) dX12_change_35 (by decide) ?_
          refine Rn.iload_n (pc := 37) dX12_change_37 rfl rfl ?_
          refine Rn.imulN (pc := 38) dX12_change_38 ?_
          refine Rn.iload_n (pc := 39) dX12_change_39 rfl rfl ?_
          refine Rn.iaddN (pc := 40) dX12_change_40 ?_
          refine Rn.callV (pc := 41) (as := [_]) cvX12_90 ⟨by decide, rfl⟩ ⟨by decide, by decide⟩ dX12_change_41 (Nat.le_of_ble_eq_true rfl) rfl (c_store G (24 * m + n) q (by omega) ⟨hq.1, hq.2⟩ hb hc) ?_
          rintro _ M9 ⟨rfl, h9, g9, f9⟩
          refine Rn.vret (pc := 44) rfl dX12_change_44 ?_
          exact ⟨rfl, (f9.I (by unfold SSt; omega)).trans rfl, ⟨h9.1, h9.2⟩, g9, ((Fr.refl M).sI (Or.inr (Or.inr ⟨rfl, rfl⟩))).trans (f9.mono (fun _ _ _ h => Or.inl h))⟩
        · cases c30

set_option maxRecDepth 20000 in
set_option maxHeartbeats 4000000 in
theorem c_change_no1 (G : GX) {M : Mem} (x y : Int32) (hx : decide (¬ x < 0 ∧ ¬ nI 4 ≤ x) = false) : MetM G yX12_change iX12_change [vR 11 0, vI x, vI y] M (fun r M' => r = none ∧ M' = sI M 11 0 0 (nI 1)) := by
  refine MetM.of (ls := [some (vR 11 0), some (vI x), some (vI y)]) (by decide) rfl (Nat.le_of_ble_eq_true rfl) rfl ?_
  intro hM0
  refine Rn.aload_n (pc := 0) dX12_change_0 rfl rfl ?_
  refine Rn.iload_n (pc := 1) dX12_change_1 rfl rfl ?_
  refine Rn.callS (pc := 2) (as := [_]) csX12_87 ⟨by decide, by decide⟩ dX12_change_2 (Nat.le_of_ble_eq_true rfl) rfl (c_isModule G x) ?_
  rintro _ M9 ⟨rfl, h9⟩
  rw [h9]
  rw [hx]
  refine Rn.if_eqB (pc := 5) (tgt := 26) dX12_change_5 (by decide) (fun c5 => ?_) (fun c5 => ?_)
  · refine Rn.iconst (pc := 26) (v := nI 1) dX12_change_26 (by decide) ?_
    refine Rn.callV (pc := 27) (as := [_]) cvX12_83 ⟨by decide, rfl⟩ ⟨by decide, by decide⟩ dX12_change_27 (Nat.le_of_ble_eq_true rfl) rfl (c_refused G (nI 1)) ?_
    rintro _ _ ⟨rfl, rfl⟩
    rw [ref_1]
    refine Rn.if_eqB (pc := 30) (tgt := 34) dX12_change_30 (by decide) (fun c30 => ?_) (fun c30 => ?_)
    · cases c30
    · refine Rn.vret (pc := 33) rfl dX12_change_33 ?_
      exact ⟨rfl, rfl⟩
  · cases c5

set_option maxRecDepth 20000 in
set_option maxHeartbeats 4000000 in
theorem c_change_no2 (G : GX) {M : Mem} (m t : Nat) (y : Int32) (hm : m < 4) (ht : t ≤ 24) (hl : mI M 23 0 m = nI t) (hy : y < 0 ∨ nI t ≤ y) : MetM G yX12_change iX12_change [vR 11 0, vI (nI m), vI y] M (fun r M' => r = none ∧ M' = sI M 11 0 0 (nI 1)) := by
  refine MetM.of (ls := [some (vR 11 0), some (vI (nI m)), some (vI y)]) (by decide) rfl (Nat.le_of_ble_eq_true rfl) rfl ?_
  intro hM0
  refine Rn.aload_n (pc := 0) dX12_change_0 rfl rfl ?_
  refine Rn.iload_n (pc := 1) dX12_change_1 rfl rfl ?_
  refine Rn.callS (pc := 2) (as := [_]) csX12_87 ⟨by decide, by decide⟩ dX12_change_2 (Nat.le_of_ble_eq_true rfl) rfl (c_isModule G (nI m)) ?_
  rintro _ M9 ⟨rfl, h9⟩
  rw [h9]
  rw [mod_N hm]
  refine Rn.if_eqB (pc := 5) (tgt := 26) dX12_change_5 (by decide) (fun c5 => ?_) (fun c5 => ?_)
  · cases c5
  · refine Rn.iload_n (pc := 8) dX12_change_8 rfl rfl ?_
    refine Rn.if_lt (pc := 9) (y := 0) (tgt := 26) dX12_change_9 (by decide) (fun c9 => ?_) (fun c9 => ?_)
    · refine Rn.iconst (pc := 26) (v := nI 1) dX12_change_26 (by decide) ?_
      refine Rn.callV (pc := 27) (as := [_]) cvX12_83 ⟨by decide, rfl⟩ ⟨by decide, by decide⟩ dX12_change_27 (Nat.le_of_ble_eq_true rfl) rfl (c_refused G (nI 1)) ?_
      rintro _ _ ⟨rfl, rfl⟩
      rw [ref_1]
      refine Rn.if_eqB (pc := 30) (tgt := 34) dX12_change_30 (by decide) (fun c30 => ?_) (fun c30 => ?_)
      · cases c30
      · refine Rn.vret (pc := 33) rfl dX12_change_33 ?_
        exact ⟨rfl, rfl⟩
    · refine Rn.iload_n (pc := 12) dX12_change_12 rfl rfl ?_
      refine Rn.aload_n (pc := 13) dX12_change_13 rfl rfl ?_
      refine Rn.getR (pc := 14) flX12_13 mu11_3 fx11_3 dX12_change_14 ?_
      refine Rn.iload_n (pc := 17) dX12_change_17 rfl rfl ?_
      refine Rn.ialdN (pc := 18) ak23 (by omega) (by decide) hl dX12_change_18 ?_
      refine Rn.icmp_ge (pc := 19) (tgt := 26) dX12_change_19 (by decide) (fun c19 => ?_) (fun c19 => ?_)
      · refine Rn.iconst (pc := 26) (v := nI 1) dX12_change_26 (by decide) ?_
        refine Rn.callV (pc := 27) (as := [_]) cvX12_83 ⟨by decide, rfl⟩ ⟨by decide, by decide⟩ dX12_change_27 (Nat.le_of_ble_eq_true rfl) rfl (c_refused G (nI 1)) ?_
        rintro _ _ ⟨rfl, rfl⟩
        rw [ref_1]
        refine Rn.if_eqB (pc := 30) (tgt := 34) dX12_change_30 (by decide) (fun c30 => ?_) (fun c30 => ?_)
        · cases c30
        · refine Rn.vret (pc := 33) rfl dX12_change_33 ?_
          exact ⟨rfl, rfl⟩
      · exact absurd hy (fun q => q.elim c9 c19)

