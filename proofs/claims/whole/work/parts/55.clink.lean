theorem lN_eq62 {a b : Nat} (ha : a < 2 ^ 62) (hb : b < 2 ^ 62) : lN a = lN b ↔ a = b := by
  constructor
  · intro e
    have h8 := congrArg Int64.toInt e
    rw [pf_lI (by omega), pf_lI (by omega)] at h8
    omega
  · intro e; rw [e]
theorem lcmpE {a b : Nat} (ha : a < 2 ^ 62) (hb : b < 2 ^ 62) : lg_cmp (lN a) (lN b) = 0 ↔ a = b := by
  rw [← lN_eq62 ha hb]
  unfold lg_cmp
  split
  · rename_i h; constructor
    · intro e; exact absurd e (by decide)
    · intro e; rw [e] at h; exact absurd (Int64.lt_iff_toInt_lt.mp h) (Int.lt_irrefl _)
  · split
    · rename_i h; exact ⟨fun _ => h, fun _ => rfl⟩
    · rename_i h; exact ⟨fun e => absurd e (by decide), fun e => absurd e h⟩
/-- the labels of the build j -/
def LbC (j : Nat) (B : LB) (M : Mem) : Prop := mI M 3 j 5 = nI B.1 ∧ ∀ i, i < B.1 → mJ M 15 j i = lN (B.2 i).2.2.2 ∧ mI M 17 (3 * j) i = nI (B.2 i).1 ∧ mI M 17 (3 * j + 1) i = nI (B.2 i).2.1 ∧ mI M 17 (3 * j + 2) i = nI (B.2 i).2.2.1
def GbC (j : Nat) (B : LB) (g : Nat → Bool) (M : Mem) : Prop := ∀ i, i < B.1 → mI M 16 j i = bI (g i)
def LbN (B : LB) : Prop := B.1 ≤ 96 ∧ ∀ i, i < B.1 → (B.2 i).1 < 4 ∧ (B.2 i).2.2.2 < 2 ^ 48
def apC (M : Mem) (j n v m s o : Nat) : Mem := sI (sI (sI (sI (sI (sJ M 15 j n (lN v)) 16 j n (nI 0)) 17 (3 * j) n (nI m)) 17 (3 * j + 1) n (nI s)) 17 (3 * j + 2) n (nI o)) 3 j 5 (nI (n + 1))
set_option maxRecDepth 20000 in
set_option maxHeartbeats 4000000 in
theorem k_append (G : GX) {M : Mem} (j n v m s o : Nat) (hk : mI M 3 j 5 = nI n) (hn : n < 96) : MetM G yX3_append iX3_append [vR 3 j, vJ (lN v), vI (nI m), vI (nI s), vI (nI o)] M (fun r M' => r = none ∧ M' = apC M j n v m s o) := by
  refine MetM.of (ls := [some (vR 3 j), some (vJ (lN v)), none, some (vI (nI m)), some (vI (nI s)), some (vI (nI o))]) (by decide) rfl (Nat.le_of_ble_eq_true rfl) rfl ?_
  intro hM0
  refine Rn.aload_n (pc := 0) dX3_append_0 rfl rfl ?_
  refine Rn.getI (pc := 1) (t := 0) flX3_29 (show mI _ 3 j 5 = nI n from hk) dX3_append_1 ?_
  refine Rn.bipush (pc := 4) (v := nI 96) dX3_append_4 (by decide) ?_
  refine Rn.icmp_geN (pc := 6) (tgt := 71) dX3_append_6 (by decide) (by omega) (by omega) (fun c6 => ?_) (fun c6 => ?_)
  · exact absurd c6 (by omega)
  · refine Rn.aload_n (pc := 9) dX3_append_9 rfl rfl ?_
    refine Rn.getR (pc := 10) flX3_9 mu3_0 fx3_0 dX3_append_10 ?_
    refine Rn.aload_n (pc := 13) dX3_append_13 rfl rfl ?_
    refine Rn.getI (pc := 14) (t := 0) flX3_29 (show mI _ 3 j 5 = nI n from hk) dX3_append_14 ?_
    refine Rn.lload_n (pc := 17) dX3_append_17 rfl rfl ?_
    refine Rn.lastN (pc := 18) ak15 (by omega) (by decide) dX3_append_18 ?_
    refine Rn.aload_n (pc := 19) dX3_append_19 rfl rfl ?_
    refine Rn.getR (pc := 20) flX3_15 mu3_1 fx3_1 dX3_append_20 ?_
    refine Rn.aload_n (pc := 23) dX3_append_23 rfl rfl ?_
    refine Rn.getI (pc := 24) (t := 0) flX3_29 (show mI _ 3 j 5 = nI n from hk) dX3_append_24 ?_
    refine Rn.iconst (pc := 27) (v := nI 0) dX3_append_27 (by decide) ?_
    refine Rn.zastN (pc := 28) ak16 (by omega) (by decide) (show vp_nar .boolean (nI 0) = nI 0 by decide) dX3_append_28 ?_
    refine Rn.aload_n (pc := 29) dX3_append_29 rfl rfl ?_
    refine Rn.getR (pc := 30) flX3_19 mu3_2 fx3_2 dX3_append_30 ?_
    refine Rn.aload_n (pc := 33) dX3_append_33 rfl rfl ?_
    refine Rn.getI (pc := 34) (t := 0) flX3_29 (show mI _ 3 j 5 = nI n from hk) dX3_append_34 ?_
    refine Rn.iload_n (pc := 37) dX3_append_37 rfl rfl ?_
    refine Rn.iastN (pc := 38) ak17 (by omega) (by decide) dX3_append_38 ?_
    refine Rn.aload_n (pc := 39) dX3_append_39 rfl rfl ?_
    refine Rn.getR (pc := 40) flX3_23 mu3_3 fx3_3 dX3_append_40 ?_
    refine Rn.aload_n (pc := 43) dX3_append_43 rfl rfl ?_
    refine Rn.getI (pc := 44) (t := 0) flX3_29 (show mI _ 3 j 5 = nI n from hk) dX3_append_44 ?_
    refine Rn.iload (pc := 47) dX3_append_47 rfl ?_
    refine Rn.iastN (pc := 49) ak17 (by omega) (by decide) dX3_append_49 ?_
    refine Rn.aload_n (pc := 50) dX3_append_50 rfl rfl ?_
    refine Rn.getR (pc := 51) flX3_26 mu3_4 fx3_4 dX3_append_51 ?_
    refine Rn.aload_n (pc := 54) dX3_append_54 rfl rfl ?_
    refine Rn.getI (pc := 55) (t := 0) flX3_29 (show mI _ 3 j 5 = nI n from hk) dX3_append_55 ?_
    refine Rn.iload (pc := 58) dX3_append_58 rfl ?_
    refine Rn.iastN (pc := 60) ak17 (by omega) (by decide) dX3_append_60 ?_
    refine Rn.aload_n (pc := 61) dX3_append_61 rfl rfl ?_
    refine Rn.dupR (pc := 62) (x := 0) (y := 0) dX3_append_62 ?_
    refine Rn.getI (pc := 63) (t := 0) flX3_29 (show mI _ 3 j 5 = nI n from hk) dX3_append_63 ?_
    refine Rn.iconst (pc := 66) (v := nI 1) dX3_append_66 (by decide) ?_
    refine Rn.iaddN (pc := 67) dX3_append_67 ?_
    refine Rn.putI (pc := 68) (t := 0) flX3_29 rfl rfl dX3_append_68 ?_
    refine Rn.vret (pc := 71) rfl dX3_append_71 ?_
    exact ⟨rfl, rfl⟩

set_option maxRecDepth 20000 in
set_option maxHeartbeats 4000000 in
theorem k_find (G : GX) {M : Mem} (j : Nat) (B : LB) (m v : Nat) (hL : LbC j B M) (hN : LbN B) (hm : m < 2 ^ 31) (hv : v < 2 ^ 62) : MetM G yX3_find iX3_find [vR 3 j, vI (nI m), vJ (lN v)] M (fun r M' => r = some (vI (prV (fnd B m v))) ∧ M' = M) := by
  refine MetM.of (ls := [some (vR 3 j), some (vI (nI m)), some (vJ (lN v)), none, none]) (by decide) rfl (Nat.le_of_ble_eq_true rfl) rfl ?_
  intro hM0
  have loop : ∀ (d i : Nat), B.1 - i = d → i ≤ B.1 → fnd B m v = fndF B m v d i → Rn G iX3_find (fun r M' => r = some (vI (prV (fnd B m v))) ∧ M' = M) 3 [some (vR 3 j), some (vI (nI m)), some (vJ (lN v)), none, some (vI (nI i))] [] M := by
    intro d
    induction d with
    | zero =>
      intro i hd hi hf
      refine Rn.iload (pc := 3) dX3_find_3 rfl ?_
      refine Rn.aload_n (pc := 5) dX3_find_5 rfl rfl ?_
      refine Rn.getI (pc := 6) (t := 0) flX3_29 hL.1 dX3_find_6 ?_
      refine Rn.icmp_geN (pc := 9) (tgt := 44) dX3_find_9 (by decide) (by have := hN.1; omega) (by have := hN.1; omega) (fun c9 => ?_) (fun c9 => ?_)
      · refine Rn.iconst (pc := 44) (v := -1) dX3_find_44 (by decide) ?_
        refine Rn.iret (pc := 45) rfl dX3_find_45 ?_
        rw [hf]; exact ⟨rfl, rfl⟩
      · exact absurd c9 (by omega)
    | succ d ih =>
      intro i hd hi hf
      have hi9 : i < B.1 := by omega
      obtain ⟨l1, l2, l3, l4⟩ := hL.2 i hi9
      have hn9 := hN.2 i hi9
      refine Rn.iload (pc := 3) dX3_find_3 rfl ?_
      refine Rn.aload_n (pc := 5) dX3_find_5 rfl rfl ?_
      refine Rn.getI (pc := 6) (t := 0) flX3_29 hL.1 dX3_find_6 ?_
      refine Rn.icmp_geN (pc := 9) (tgt := 44) dX3_find_9 (by decide) (by have := hN.1; omega) (by have := hN.1; omega) (fun c9 => ?_) (fun c9 => ?_)
      · exact absurd c9 (by omega)
      · refine Rn.aload_n (pc := 12) dX3_find_12 rfl rfl ?_
        refine Rn.getR (pc := 13) flX3_19 mu3_2 fx3_2 dX3_find_13 ?_
        refine Rn.iload (pc := 16) dX3_find_16 rfl ?_
        refine Rn.ialdN (pc := 18) ak17 (by have := hN.1; omega) (by decide) l2 dX3_find_18 ?_
        refine Rn.iload_n (pc := 19) dX3_find_19 rfl rfl ?_
        refine Rn.icmp_neN (pc := 20) (tgt := 38) dX3_find_20 (by decide) (by omega) (by omega) (fun c20 => ?_) (fun c20 => ?_)
        · refine Rn.iincN (pc := 38) (n := 1) dX3_find_38 rfl (by decide) (by decide) rfl st5_4 ?_
          refine Rn.goto (pc := 41) (tgt := 3) dX3_find_41 (by decide) ?_
          exact ih (i + 1) (by omega) (by omega) (by rw [hf, fndF, if_neg (fun z => c20 z.1)])
        · refine Rn.aload_n (pc := 23) dX3_find_23 rfl rfl ?_
          refine Rn.getR (pc := 24) flX3_9 mu3_0 fx3_0 dX3_find_24 ?_
          refine Rn.iload (pc := 27) dX3_find_27 rfl ?_
          refine Rn.laldN (pc := 29) ak15 (by have := hN.1; omega) (by decide) l1 dX3_find_29 ?_
          refine Rn.lload_n (pc := 30) dX3_find_30 rfl rfl ?_
          refine Rn.lcmp (pc := 31) dX3_find_31 ?_
          refine Rn.if_ne (pc := 32) (y := 0) (tgt := 38) dX3_find_32 (by decide) (fun c32 => ?_) (fun c32 => ?_)
          · refine Rn.iincN (pc := 38) (n := 1) dX3_find_38 rfl (by decide) (by decide) rfl st5_4 ?_
            refine Rn.goto (pc := 41) (tgt := 3) dX3_find_41 (by decide) ?_
            exact ih (i + 1) (by omega) (by omega) (by rw [hf, fndF, if_neg (fun z => c32 ((lcmpE (by omega) hv).mpr z.2))])
          · refine Rn.iload (pc := 35) dX3_find_35 rfl ?_
            refine Rn.iret (pc := 37) rfl dX3_find_37 ?_
            rw [hf, fndF, if_pos ⟨c20, (lcmpE (by omega) hv).mp c32⟩]; exact ⟨rfl, rfl⟩
  refine Rn.iconst (pc := 0) (v := nI 0) dX3_find_0 (by decide) ?_
  refine Rn.istore (pc := 1) dX3_find_1 (by decide) rfl st5_4 ?_
  exact loop B.1 0 rfl (Nat.zero_le _) rfl

set_option maxRecDepth 20000 in
set_option maxHeartbeats 4000000 in
theorem k_findGlobal (G : GX) {M : Mem} (j : Nat) (B : LB) (g : Nat → Bool) (v : Nat) (hL : LbC j B M) (hG : GbC j B g M) (hN : LbN B) (hv : v < 2 ^ 62) : MetM G yX3_findGlobal iX3_findGlobal [vR 3 j, vJ (lN v)] M (fun r M' => r = some (vI (prV (fg B g v))) ∧ M' = M) := by
  refine MetM.of (ls := [some (vR 3 j), some (vJ (lN v)), none, none]) (by decide) rfl (Nat.le_of_ble_eq_true rfl) rfl ?_
  intro hM0
  have loop : ∀ (d i : Nat), B.1 - i = d → i ≤ B.1 → fg B g v = fgF B g v d i → Rn G iX3_findGlobal (fun r M' => r = some (vI (prV (fg B g v))) ∧ M' = M) 2 [some (vR 3 j), some (vJ (lN v)), none, some (vI (nI i))] [] M := by
    intro d
    induction d with
    | zero =>
      intro i hd hi hf
      refine Rn.iload_n (pc := 2) dX3_findGlobal_2 rfl rfl ?_
      refine Rn.aload_n (pc := 3) dX3_findGlobal_3 rfl rfl ?_
      refine Rn.getI (pc := 4) (t := 0) flX3_29 hL.1 dX3_findGlobal_4 ?_
      refine Rn.icmp_geN (pc := 7) (tgt := 38) dX3_findGlobal_7 (by decide) (by have := hN.1; omega) (by have := hN.1; omega) (fun c7 => ?_) (fun c7 => ?_)
      · refine Rn.iconst (pc := 38) (v := -1) dX3_findGlobal_38 (by decide) ?_
        refine Rn.iret (pc := 39) rfl dX3_findGlobal_39 ?_
        rw [hf]; exact ⟨rfl, rfl⟩
      · exact absurd c7 (by omega)
    | succ d ih =>
      intro i hd hi hf
      have hi9 : i < B.1 := by omega
      obtain ⟨l1, l2, l3, l4⟩ := hL.2 i hi9
      have hn9 := hN.2 i hi9
      refine Rn.iload_n (pc := 2) dX3_findGlobal_2 rfl rfl ?_
      refine Rn.aload_n (pc := 3) dX3_findGlobal_3 rfl rfl ?_
      refine Rn.getI (pc := 4) (t := 0) flX3_29 hL.1 dX3_findGlobal_4 ?_
      refine Rn.icmp_geN (pc := 7) (tgt := 38) dX3_findGlobal_7 (by decide) (by have := hN.1; omega) (by have := hN.1; omega) (fun c7 => ?_) (fun c7 => ?_)
      · exact absurd c7 (by omega)
      · refine Rn.aload_n (pc := 10) dX3_findGlobal_10 rfl rfl ?_
        refine Rn.getR (pc := 11) flX3_15 mu3_1 fx3_1 dX3_findGlobal_11 ?_
        refine Rn.iload_n (pc := 14) dX3_findGlobal_14 rfl rfl ?_
        refine Rn.zaldN (pc := 15) ak16 (by have := hN.1; omega) (by decide) (hG i hi9) dX3_findGlobal_15 ?_
        refine Rn.if_eqB (pc := 16) (tgt := 32) dX3_findGlobal_16 (by decide) (fun c16 => ?_) (fun c16 => ?_)
        · refine Rn.iincN (pc := 32) (n := 1) dX3_findGlobal_32 rfl (by decide) (by decide) rfl st4_3 ?_
          refine Rn.goto (pc := 35) (tgt := 2) dX3_findGlobal_35 (by decide) ?_
          exact ih (i + 1) (by omega) (by omega) (by rw [hf, fgF, if_neg (fun z => by rw [z.1] at c16; cases c16)])
        · refine Rn.aload_n (pc := 19) dX3_findGlobal_19 rfl rfl ?_
          refine Rn.getR (pc := 20) flX3_9 mu3_0 fx3_0 dX3_findGlobal_20 ?_
          refine Rn.iload_n (pc := 23) dX3_findGlobal_23 rfl rfl ?_
          refine Rn.laldN (pc := 24) ak15 (by have := hN.1; omega) (by decide) l1 dX3_findGlobal_24 ?_
          refine Rn.lload_n (pc := 25) dX3_findGlobal_25 rfl rfl ?_
          refine Rn.lcmp (pc := 26) dX3_findGlobal_26 ?_
          refine Rn.if_ne (pc := 27) (y := 0) (tgt := 32) dX3_findGlobal_27 (by decide) (fun c27 => ?_) (fun c27 => ?_)
          · refine Rn.iincN (pc := 32) (n := 1) dX3_findGlobal_32 rfl (by decide) (by decide) rfl st4_3 ?_
            refine Rn.goto (pc := 35) (tgt := 2) dX3_findGlobal_35 (by decide) ?_
            exact ih (i + 1) (by omega) (by omega) (by rw [hf, fgF, if_neg (fun z => c27 ((lcmpE (by omega) hv).mpr z.2))])
          · refine Rn.iload_n (pc := 30) dX3_findGlobal_30 rfl rfl ?_
            refine Rn.iret (pc := 31) rfl dX3_findGlobal_31 ?_
            rw [hf, fgF, if_pos ⟨c16, (lcmpE (by omega) hv).mp c27⟩]; exact ⟨rfl, rfl⟩
  refine Rn.iconst (pc := 0) (v := nI 0) dX3_findGlobal_0 (by decide) ?_
  refine Rn.istore_n (pc := 1) dX3_findGlobal_1 rfl (by decide) rfl st4_3 ?_
  exact loop B.1 0 rfl (Nat.zero_le _) rfl

theorem prV_m1 {q : Option Nat} (h : ∀ k, q = some k → k < 2 ^ 31) : prV q = -1 ↔ q = none := by
  cases q with
  | none => exact ⟨fun _ => rfl, fun _ => rfl⟩
  | some k => exact ⟨fun z => absurd (show nI k < 0 by rw [show nI k = -1 from z]; decide) (nI_pos (h k rfl)), fun z => by cases z⟩
def mgR (B : LB) (g : Nat → Bool) (m v : Nat) : Int32 := if (fnd B m v).isSome = true then (if (fg B g v).isSome = true then -2 else 0) else -8
def mgM (B : LB) (g : Nat → Bool) (m v j : Nat) (M : Mem) : Mem := match fnd B m v with | none => M | some k => if (fg B g v).isSome = true then M else sI M 16 j k (nI 1)
set_option maxRecDepth 20000 in
set_option maxHeartbeats 4000000 in
theorem k_makeGlobal (G : GX) {M : Mem} (j : Nat) (B : LB) (g : Nat → Bool) (m v : Nat) (hL : LbC j B M) (hG : GbC j B g M) (hN : LbN B) (hm : m < 2 ^ 31) (hv : v < 2 ^ 62) : MetM G yX3_makeGlobal iX3_makeGlobal [vR 3 j, vI (nI m), vJ (lN v)] M (fun r M' => r = some (vI (mgR B g m v)) ∧ M' = mgM B g m v j M) := by
  refine MetM.of (ls := [some (vR 3 j), some (vI (nI m)), some (vJ (lN v)), none, none]) (by decide) rfl (Nat.le_of_ble_eq_true rfl) rfl ?_
  intro hM0
  refine Rn.aload_n (pc := 0) dX3_makeGlobal_0 rfl rfl ?_
  refine Rn.iload_n (pc := 1) dX3_makeGlobal_1 rfl rfl ?_
  refine Rn.lload_n (pc := 2) dX3_makeGlobal_2 rfl rfl ?_
  refine Rn.callV (pc := 3) (as := [_, _]) cvX3_33 ⟨by decide, rfl⟩ ⟨by decide, by decide⟩ dX3_makeGlobal_3 (Nat.le_of_ble_eq_true rfl) rfl (k_find G j B m v hL hN hm hv) ?_
  rintro _ M9 ⟨rfl, h9⟩
  rw [h9]
  have hq1 := prV_m1 (q := fnd B m v) (fun k h => by have := (fnd_some h).1; have := hN.1; omega)
  refine Rn.istore (pc := 6) dX3_makeGlobal_6 (by decide) rfl st5_4 ?_
  refine Rn.iload (pc := 8) dX3_makeGlobal_8 rfl ?_
  refine Rn.iconst (pc := 10) (v := -1) dX3_makeGlobal_10 (by decide) ?_
  refine Rn.icmp_ne (pc := 11) (tgt := 17) dX3_makeGlobal_11 (by decide) (fun c11 => ?_) (fun c11 => ?_)
  · refine Rn.aload_n (pc := 17) dX3_makeGlobal_17 rfl rfl ?_
    refine Rn.lload_n (pc := 18) dX3_makeGlobal_18 rfl rfl ?_
    refine Rn.callV (pc := 19) (as := [_]) cvX3_37 ⟨by decide, rfl⟩ ⟨by decide, by decide⟩ dX3_makeGlobal_19 (Nat.le_of_ble_eq_true rfl) rfl (k_findGlobal G j B g v hL hG hN hv) ?_
    rintro _ M9 ⟨rfl, h9⟩
    rw [h9]
    have hq2 := prV_m1 (q := fg B g v) (fun k h => by have := (fg_some h).1; have := hN.1; omega)
    refine Rn.iconst (pc := 22) (v := -1) dX3_makeGlobal_22 (by decide) ?_
    refine Rn.icmp_eq (pc := 23) (tgt := 29) dX3_makeGlobal_23 (by decide) (fun c23 => ?_) (fun c23 => ?_)
    · have hf2 : fg B g v = none := hq2.mp c23
      cases hf : fnd B m v with
      | none => exact absurd (hq1.mpr hf) c11
      | some k =>
        have hk9 := (fnd_some hf).1
        have h96 := hN.1
        rw [prV_s]
        refine Rn.aload_n (pc := 29) dX3_makeGlobal_29 rfl rfl ?_
        refine Rn.getR (pc := 30) flX3_15 mu3_1 fx3_1 dX3_makeGlobal_30 ?_
        refine Rn.iload (pc := 33) dX3_makeGlobal_33 rfl ?_
        refine Rn.iconst (pc := 35) (v := nI 1) dX3_makeGlobal_35 (by decide) ?_
        refine Rn.zastN (pc := 36) ak16 (by omega) (by decide) (show vp_nar .boolean (nI 1) = nI 1 by decide) dX3_makeGlobal_36 ?_
        refine Rn.iconst (pc := 37) (v := nI 0) dX3_makeGlobal_37 (by decide) ?_
        refine Rn.iret (pc := 38) rfl dX3_makeGlobal_38 ?_
        unfold mgR mgM; rw [hf, hf2]; exact ⟨rfl, rfl⟩
    · refine Rn.bipush (pc := 26) (v := -2) dX3_makeGlobal_26 (by decide) ?_
      refine Rn.iret (pc := 28) rfl dX3_makeGlobal_28 ?_
      unfold mgR mgM
      cases hf : fnd B m v with
      | none => exact absurd (hq1.mpr hf) c11
      | some k =>
        cases hf2 : fg B g v with
        | none => exact absurd (hq2.mpr hf2) c23
        | some i => exact ⟨rfl, rfl⟩
  · refine Rn.bipush (pc := 14) (v := -8) dX3_makeGlobal_14 (by decide) ?_
    refine Rn.iret (pc := 16) rfl dX3_makeGlobal_16 ?_
    unfold mgR mgM; rw [hq1.mp c11]; exact ⟨rfl, rfl⟩

theorem and4 {x : Nat} (h : x < 2 ^ 31) : nI x &&& (-4) = nI (x / 4 * 4) := by
  rw [← Int32.toBitVec_inj]
  apply BitVec.eq_of_toNat_eq
  rw [Int32.toBitVec_and, BitVec.toNat_and, pk_tn (by omega), pk_tn (by omega), show ((-4 : Int32).toBitVec.toNat) = (2 ^ 30 - 1) * 2 ^ 2 by decide]
  apply Nat.eq_of_testBit_eq
  intro i
  rw [Nat.testBit_and, Nat.testBit_mul_two_pow, Nat.testBit_two_pow_sub_one, show x / 4 * 4 = x / 2 ^ 2 * 2 ^ 2 from rfl, Nat.testBit_mul_two_pow, Nat.testBit_div_two_pow]
  by_cases h2 : 2 ≤ i
  · rw [show i - 2 + 2 = i by omega]
    simp only [h2, decide_true, Bool.true_and]
    by_cases h3 : i - 2 < 30
    · simp [h3]
    · rw [Nat.testBit_lt_two_pow (x := x) (i := i) (Nat.lt_of_lt_of_le h (Nat.pow_le_pow_right (by decide) (by omega)))]; simp
  · simp [h2]
set_option maxRecDepth 20000 in
set_option maxHeartbeats 4000000 in
theorem k_nextFour (G : GX) {M : Mem} (v : Nat) (hv : v < 2 ^ 30) : MetM G yX4_nextFour iX4_nextFour [vI (nI v)] M (fun r M' => r = some (vI (nI (up4 v))) ∧ M' = M) := by
  refine MetM.of (ls := [some (vI (nI v))]) (by decide) rfl (Nat.le_of_ble_eq_true rfl) rfl ?_
  intro hM0
  refine Rn.iload_n (pc := 0) dX4_nextFour_0 rfl rfl ?_
  refine Rn.iconst (pc := 1) (v := nI 3) dX4_nextFour_1 (by decide) ?_
  refine Rn.iaddN (pc := 2) dX4_nextFour_2 ?_
  refine Rn.bipush (pc := 3) (v := -4) dX4_nextFour_3 (by decide) ?_
  refine Rn.iand (pc := 5) dX4_nextFour_5 ?_
  rw [and4 (by omega)]
  refine Rn.iret (pc := 6) rfl dX4_nextFour_6 ?_
  exact ⟨rfl, rfl⟩

/-- sizes and addresses of the build j -/
def SzC (j : Nat) (sz : Nat → Nat) (M : Mem) : Prop := ∀ m s, m < 4 → s < 3 → mI M 19 (4 * (2 * j) + m) s = nI (sz (3 * m + s))
def AdC (j : Nat) (bs : Nat → Nat) (M : Mem) : Prop := ∀ m s, m < 4 → s < 3 → mI M 19 (4 * (2 * j + 1) + m) s = nI (bs (3 * m + s))
def SLn (j sec k i s : Nat) : Prop := k = 19 ∧ 4 * (2 * j + 1) ≤ i ∧ i < 4 * (2 * j + 1) + 4 ∧ s = sec
set_option maxRecDepth 20000 in
set_option maxHeartbeats 4000000 in
theorem k_line (G : GX) {M : Mem} (j : Nat) (sz : Nat → Nat) (sec frm : Nat) (hsec : sec < 3) (hfrm : frm ≤ 536900000) (hz : ∀ s, sz s ≤ 1024) (hS : SzC j sz M) : MetM G yX4_line iX4_line [vR 4 j, vI (nI sec), vI (nI frm)] M (fun r M' => r = some (vI (nI (pE sz sec frm 4))) ∧ Fr (SLn j sec) M M' ∧ ∀ m, m < 4 → mI M' 19 (4 * (2 * j + 1) + m) sec = nI (up4 (pE sz sec frm m))) := by
  refine MetM.of (ls := [some (vR 4 j), some (vI (nI sec)), some (vI (nI frm)), none, none]) (by decide) rfl (Nat.le_of_ble_eq_true rfl) rfl ?_
  intro hM0
  have loop : ∀ (d t : Nat) (N : Mem), 4 - t = d → t ≤ 4 → Fr (SLn j sec) M N → (∀ m, m < t → mI N 19 (4 * (2 * j + 1) + m) sec = nI (up4 (pE sz sec frm m))) → Rn G iX4_line (fun r M' => r = some (vI (nI (pE sz sec frm 4))) ∧ Fr (SLn j sec) M M' ∧ ∀ m, m < 4 → mI M' 19 (4 * (2 * j + 1) + m) sec = nI (up4 (pE sz sec frm m))) 5 [some (vR 4 j), some (vI (nI sec)), some (vI (nI frm)), some (vI (nI (pE sz sec frm t))), some (vI (nI t))] [] N := by
    intro d
    induction d using Nat.strongRecOn with
    | ind d ih =>
      intro t N hd ht4 fN hb9
      refine Rn.iload (pc := 5) dX4_line_5 rfl ?_
      refine Rn.iconst (pc := 7) (v := nI 4) dX4_line_7 (by decide) ?_
      refine Rn.icmp_geN (pc := 8) (tgt := 66) dX4_line_8 (by decide) (by omega) (by omega) (fun c8 => ?_) (fun c8 => ?_)
      · refine Rn.iload_n (pc := 66) dX4_line_66 rfl rfl ?_
        refine Rn.iret (pc := 67) rfl dX4_line_67 ?_
        have h4 : t = 4 := by omega
        subst h4
        exact ⟨rfl, fN, hb9⟩
      · have ht : t < 4 := c8
        have hp := (pE_b (sec := sec) (frm := frm) hz t).2
        have hz9 := hz (3 * t + sec)
        refine Rn.aload_n (pc := 11) dX4_line_11 rfl rfl ?_
        refine Rn.getR (pc := 12) flX4_16 mu4_1 fx4_1 dX4_line_12 ?_
        refine Rn.iload (pc := 15) dX4_line_15 rfl ?_
        refine Rn.aaldN (pc := 17) ak18 (by decide) rfl (by omega) (by decide) fx18 dX4_line_17 ?_
        refine Rn.iload_n (pc := 18) dX4_line_18 rfl rfl ?_
        refine Rn.iload_n (pc := 19) dX4_line_19 rfl rfl ?_
        refine Rn.callS (pc := 20) (as := [_]) csX4_37 ⟨by decide, by decide⟩ dX4_line_20 (Nat.le_of_ble_eq_true rfl) rfl (k_nextFour G (pE sz sec frm t) (by omega)) ?_
        rintro _ M9 ⟨rfl, h9⟩
        rw [h9]
        refine Rn.iastN (pc := 23) ak19 (by omega) (by decide) dX4_line_23 ?_
        have hs9 : mI (sI N 19 (4 * (2 * j + 1) + t) sec (nI (up4 (pE sz sec frm t)))) 19 (4 * (2 * j) + t) sec = nI (sz (3 * t + sec)) := by
          rw [mI_sI, if_neg (by omega), fN.I (by unfold SLn; omega)]; exact hS t sec ht hsec
        refine Rn.aload_n (pc := 24) dX4_line_24 rfl rfl ?_
        refine Rn.getR (pc := 25) flX4_11 mu4_0 fx4_0 dX4_line_25 ?_
        refine Rn.iload (pc := 28) dX4_line_28 rfl ?_
        refine Rn.aaldN (pc := 30) ak18 (by decide) rfl (by omega) (by decide) fx18 dX4_line_30 ?_
        refine Rn.iload_n (pc := 31) dX4_line_31 rfl rfl ?_
        refine Rn.ialdN (pc := 32) ak19 (by omega) (by decide) hs9 dX4_line_32 ?_
        refine Rn.if_le (pc := 33) (y := 0) (tgt := 58) dX4_line_33 (by decide) (fun c33 => ?_) (fun c33 => ?_)
        · refine Rn.iload_n (pc := 58) dX4_line_58 rfl rfl ?_
          refine Rn.istore_n (pc := 59) dX4_line_59 rfl (by decide) rfl st5_3 ?_
          refine Rn.iincN (pc := 60) (n := 1) dX4_line_60 rfl (by decide) (by decide) rfl st5_4 ?_
          refine Rn.goto (pc := 63) (tgt := 5) dX4_line_63 (by decide) ?_
          refine Rn.lsEq (ls := [some (vR 4 j), some (vI (nI sec)), some (vI (nI frm)), some (vI (nI (pE sz sec frm (t + 1)))), some (vI (nI (t + 1)))]) ?_ ?_
          · rw [show pE sz sec frm t = pE sz sec frm (t + 1) by rw [pE, if_neg (by have := nI_le0 (by omega) c33; omega)]]
          · refine ih (4 - (t + 1)) (by omega) (t + 1) _ rfl (by omega) (fN.sI ⟨rfl, by omega, by omega, rfl⟩) (fun m hm => ?_)
            rw [mI_sI]
            by_cases z : m = t
            · rw [if_pos ⟨rfl, by omega, rfl⟩, z]
            · rw [if_neg (fun y => z (by omega))]; exact hb9 m (by omega)
        · refine Rn.aload_n (pc := 36) dX4_line_36 rfl rfl ?_
          refine Rn.getR (pc := 37) flX4_16 mu4_1 fx4_1 dX4_line_37 ?_
          refine Rn.iload (pc := 40) dX4_line_40 rfl ?_
          refine Rn.aaldN (pc := 42) ak18 (by decide) rfl (by omega) (by decide) fx18 dX4_line_42 ?_
          refine Rn.iload_n (pc := 43) dX4_line_43 rfl rfl ?_
          refine Rn.ialdN (pc := 44) ak19 (by omega) (by decide) (show mI (sI N 19 (4 * (2 * j + 1) + t) sec (nI (up4 (pE sz sec frm t)))) 19 (4 * (2 * j + 1) + t) sec = nI (up4 (pE sz sec frm t)) by rw [mI_sI, if_pos ⟨rfl, rfl, rfl⟩]) dX4_line_44 ?_
          refine Rn.aload_n (pc := 45) dX4_line_45 rfl rfl ?_
          refine Rn.getR (pc := 46) flX4_11 mu4_0 fx4_0 dX4_line_46 ?_
          refine Rn.iload (pc := 49) dX4_line_49 rfl ?_
          refine Rn.aaldN (pc := 51) ak18 (by decide) rfl (by omega) (by decide) fx18 dX4_line_51 ?_
          refine Rn.iload_n (pc := 52) dX4_line_52 rfl rfl ?_
          refine Rn.ialdN (pc := 53) ak19 (by omega) (by decide) hs9 dX4_line_53 ?_
          refine Rn.iaddN (pc := 54) dX4_line_54 ?_
          refine Rn.goto (pc := 55) (tgt := 59) dX4_line_55 (by decide) ?_
          refine Rn.istore_n (pc := 59) dX4_line_59 rfl (by decide) rfl st5_3 ?_
          refine Rn.iincN (pc := 60) (n := 1) dX4_line_60 rfl (by decide) (by decide) rfl st5_4 ?_
          refine Rn.goto (pc := 63) (tgt := 5) dX4_line_63 (by decide) ?_
          refine Rn.lsEq (ls := [some (vR 4 j), some (vI (nI sec)), some (vI (nI frm)), some (vI (nI (pE sz sec frm (t + 1)))), some (vI (nI (t + 1)))]) ?_ ?_
          · rw [show up4 (pE sz sec frm t) + sz (3 * t + sec) = pE sz sec frm (t + 1) by rw [pE, if_pos (by rcases Nat.eq_zero_or_pos (sz (3 * t + sec)) with q | q; exact absurd (by rw [q]; decide) c33; exact q)]]
          · refine ih (4 - (t + 1)) (by omega) (t + 1) _ rfl (by omega) (fN.sI ⟨rfl, by omega, by omega, rfl⟩) (fun m hm => ?_)
            rw [mI_sI]
            by_cases z : m = t
            · rw [if_pos ⟨rfl, by omega, rfl⟩, z]
            · rw [if_neg (fun y => z (by omega))]; exact hb9 m (by omega)
  refine Rn.iload_n (pc := 0) dX4_line_0 rfl rfl ?_
  refine Rn.istore_n (pc := 1) dX4_line_1 rfl (by decide) rfl st5_3 ?_
  refine Rn.iconst (pc := 2) (v := nI 0) dX4_line_2 (by decide) ?_
  refine Rn.istore (pc := 3) dX4_line_3 (by decide) rfl st5_4 ?_
  exact loop 4 0 M rfl (by decide) (Fr.refl M) (fun m hm => absurd hm (Nat.not_lt_zero m))

def SAr (j k i s : Nat) : Prop := (k = 4 ∧ i = j ∧ s = 3) ∨ (k = 20 ∧ i = j) ∨ (k = 19 ∧ 4 * (2 * j + 1) ≤ i ∧ i < 4 * (2 * j + 1) + 4)
def FdC (j : Nat) (sz : Nat → Nat) (M : Mem) : Prop := ∀ m, m < 4 → mI M 20 j m = nI (fbA sz m)
abbrev rmA (sz : Nat → Nat) : Prop := flE sz ≤ 2048 ∧ raE sz ≤ 536871936
set_option maxRecDepth 20000 in
set_option maxHeartbeats 4000000 in
theorem k_arrange (G : GX) {M : Mem} (j : Nat) (sz : Nat → Nat) (hz : ∀ s, sz s ≤ 1024) (hS : SzC j sz M) : MetM G yX4_arrange iX4_arrange [vR 4 j] M (fun r M' => r = some (vI (bI (decide (rmA sz)))) ∧ Fr (SAr j) M M' ∧ AdC j (bsA sz) M' ∧ FdC j sz M' ∧ mI M' 4 j 3 = nI (flE sz)) := by
  refine MetM.of (ls := [some (vR 4 j), none]) (by decide) rfl (Nat.le_of_ble_eq_true rfl) rfl ?_
  intro hM0
  have bT := (pE_b (sec := 0) (frm := 8) hz 4).2
  have loop : ∀ (d t : Nat) (N : Mem), 4 - t = d → t ≤ 4 → Fr (SAr j) M N → mI N 4 j 3 = nI (pE sz 1 (pE sz 0 8 4) t) → (∀ m, m < 4 → mI N 19 (4 * (2 * j + 1) + m) 0 = nI (up4 (pE sz 0 8 m))) → (∀ m, m < t → mI N 20 j m = nI (fbA sz m)) → Rn G iX4_arrange (fun r M' => r = some (vI (bI (decide (rmA sz)))) ∧ Fr (SAr j) M M' ∧ AdC j (bsA sz) M' ∧ FdC j sz M' ∧ mI M' 4 j 3 = nI (flE sz)) 13 [some (vR 4 j), some (vI (nI t))] [] N := by
    intro d
    induction d using Nat.strongRecOn with
    | ind d ih9 =>
      intro t N hd ht4 fN hfe hb0 hb1
      have ih : ∀ (t' : Nat) (N : Mem), t < t' → t' ≤ 4 → Fr (SAr j) M N → mI N 4 j 3 = nI (pE sz 1 (pE sz 0 8 4) t') → (∀ m, m < 4 → mI N 19 (4 * (2 * j + 1) + m) 0 = nI (up4 (pE sz 0 8 m))) → (∀ m, m < t' → mI N 20 j m = nI (fbA sz m)) → Rn G iX4_arrange (fun r M' => r = some (vI (bI (decide (rmA sz)))) ∧ Fr (SAr j) M M' ∧ AdC j (bsA sz) M' ∧ FdC j sz M' ∧ mI M' 4 j 3 = nI (flE sz)) 13 [some (vR 4 j), some (vI (nI t'))] [] N := fun t' N h1 h2 h3 h4 h5 h6 => ih9 (4 - t') (by omega) t' N rfl h2 h3 h4 h5 h6
      refine Rn.iload_n (pc := 13) dX4_arrange_13 rfl rfl ?_
      refine Rn.iconst (pc := 14) (v := nI 4) dX4_arrange_14 (by decide) ?_
      refine Rn.icmp_geN (pc := 15) (tgt := 74) dX4_arrange_15 (by decide) (by omega) (by omega) (fun c15 => ?_) (fun c15 => ?_)
      · have h4 : t = 4 := by omega
        subst h4
        have bD := (pE_b (sec := 1) (frm := 536870912) hz 4)
        have hS4 : SzC j sz N := fun m s hm hs => (fN.I (by unfold SAr; omega)).trans (hS m s hm hs)
        refine Rn.aload_n (pc := 74) dX4_arrange_74 rfl rfl ?_
        refine Rn.iconst (pc := 75) (v := nI 2) dX4_arrange_75 (by decide) ?_
        refine Rn.aload_n (pc := 76) dX4_arrange_76 rfl rfl ?_
        refine Rn.iconst (pc := 77) (v := nI 1) dX4_arrange_77 (by decide) ?_
        refine Rn.ldc (pc := 78) dX4_arrange_78 wcX4_41 ?_
        refine Rn.callV (pc := 80) (as := [_, _]) cvX4_33 ⟨by decide, rfl⟩ ⟨by decide, by decide⟩ dX4_arrange_80 (Nat.le_of_ble_eq_true rfl) rfl (k_line G j sz 1 536870912 (by decide) (by decide) hz hS4) ?_
        rintro _ M5 ⟨rfl, f5, b5⟩
        have hS5 : SzC j sz M5 := fun m s hm hs => (f5.I (by unfold SLn; omega)).trans (hS4 m s hm hs)
        refine Rn.callV (pc := 83) (as := [_, _]) cvX4_33 ⟨by decide, rfl⟩ ⟨by decide, by decide⟩ dX4_arrange_83 (Nat.le_of_ble_eq_true rfl) rfl (k_line G j sz 2 (pE sz 1 536870912 4) (by decide) (by omega) hz hS5) ?_
        rintro _ M6 ⟨rfl, f6, b6⟩
        refine Rn.istore_n (pc := 86) dX4_arrange_86 rfl (by decide) rfl st2_1 ?_
        have bR := (pE_b (sec := 2) (frm := pE sz 1 536870912 4) hz 4)
        have bF := (pE_b (sec := 1) (frm := pE sz 0 8 4) hz 4).2
        have bFE : flE sz = pE sz 1 (pE sz 0 8 4) 4 := rfl
        have bRE : raE sz = pE sz 2 (pE sz 1 536870912 4) 4 := rfl
        refine Rn.aload_n (pc := 87) dX4_arrange_87 rfl rfl ?_
        refine Rn.getI (pc := 88) (t := 0) flX4_29 (show mI M6 4 j 3 = nI (flE sz) from (f6.I (by unfold SLn; omega)).trans ((f5.I (by unfold SLn; omega)).trans hfe)) dX4_arrange_88 ?_
        refine Rn.sipush (pc := 91) (v := nI 2048) dX4_arrange_91 (by decide) ?_
        refine Rn.icmp_gtN (pc := 94) (tgt := 111) dX4_arrange_94 (by decide) (by omega) (by omega) (fun c94 => ?_) (fun c94 => ?_)
        · refine Rn.iconst (pc := 111) (v := nI 0) dX4_arrange_111 (by decide) ?_
          refine Rn.zret (pc := 112) rfl rfl dX4_arrange_112 ?_
          refine ⟨by rw [show decide (rmA sz) = false from decide_eq_false (fun z => by have := z.1; have := z.2; omega)]; rfl, fN.trans ((f5.mono ?_).trans (f6.mono ?_)), ?_, ?_, (f6.I (by unfold SLn; omega)).trans ((f5.I (by unfold SLn; omega)).trans hfe)⟩
          · intro k i s h; unfold SLn at h; unfold SAr; omega
          · intro k i s h; unfold SLn at h; unfold SAr; omega
          · intro m s hm hs
            rcases (show s = 0 ∨ s = 1 ∨ s = 2 by omega) with rfl | rfl | rfl
            · rw [show 3 * m + 0 = 3 * m from rfl, fl_m.1, f6.I (by unfold SLn; omega), f5.I (by unfold SLn; omega)]; exact hb0 m hm
            · rw [fl_m.2.1, f6.I (by unfold SLn; omega)]; exact b5 m hm
            · rw [fl_m.2.2]; exact b6 m hm
          · intro m hm
            rw [f6.I (by unfold SLn; omega), f5.I (by unfold SLn; omega)]; exact hb1 m (by omega)
        · refine Rn.iload_n (pc := 97) dX4_arrange_97 rfl rfl ?_
          refine Rn.ldc (pc := 98) dX4_arrange_98 wcX4_41 ?_
          refine Rn.isub (pc := 100) dX4_arrange_100 ?_
          rw [pk_sub (by omega)]
          refine Rn.sipush (pc := 101) (v := nI 1024) dX4_arrange_101 (by decide) ?_
          refine Rn.icmp_gtN (pc := 104) (tgt := 111) dX4_arrange_104 (by decide) (by omega) (by omega) (fun c104 => ?_) (fun c104 => ?_)
          · refine Rn.iconst (pc := 111) (v := nI 0) dX4_arrange_111 (by decide) ?_
            refine Rn.zret (pc := 112) rfl rfl dX4_arrange_112 ?_
            refine ⟨by rw [show decide (rmA sz) = false from decide_eq_false (fun z => by have := z.1; have := z.2; omega)]; rfl, fN.trans ((f5.mono ?_).trans (f6.mono ?_)), ?_, ?_, (f6.I (by unfold SLn; omega)).trans ((f5.I (by unfold SLn; omega)).trans hfe)⟩
            · intro k i s h; unfold SLn at h; unfold SAr; omega
            · intro k i s h; unfold SLn at h; unfold SAr; omega
            · intro m s hm hs
              rcases (show s = 0 ∨ s = 1 ∨ s = 2 by omega) with rfl | rfl | rfl
              · rw [show 3 * m + 0 = 3 * m from rfl, fl_m.1, f6.I (by unfold SLn; omega), f5.I (by unfold SLn; omega)]; exact hb0 m hm
              · rw [fl_m.2.1, f6.I (by unfold SLn; omega)]; exact b5 m hm
              · rw [fl_m.2.2]; exact b6 m hm
            · intro m hm
              rw [f6.I (by unfold SLn; omega), f5.I (by unfold SLn; omega)]; exact hb1 m (by omega)
          · refine Rn.iconst (pc := 107) (v := nI 1) dX4_arrange_107 (by decide) ?_
            refine Rn.goto (pc := 108) (tgt := 112) dX4_arrange_108 (by decide) ?_
            refine Rn.zret (pc := 112) rfl rfl dX4_arrange_112 ?_
            refine ⟨by rw [show decide (rmA sz) = true from decide_eq_true ⟨by omega, by omega⟩]; rfl, fN.trans ((f5.mono ?_).trans (f6.mono ?_)), ?_, ?_, (f6.I (by unfold SLn; omega)).trans ((f5.I (by unfold SLn; omega)).trans hfe)⟩
            · intro k i s h; unfold SLn at h; unfold SAr; omega
            · intro k i s h; unfold SLn at h; unfold SAr; omega
            · intro m s hm hs
              rcases (show s = 0 ∨ s = 1 ∨ s = 2 by omega) with rfl | rfl | rfl
              · rw [show 3 * m + 0 = 3 * m from rfl, fl_m.1, f6.I (by unfold SLn; omega), f5.I (by unfold SLn; omega)]; exact hb0 m hm
              · rw [fl_m.2.1, f6.I (by unfold SLn; omega)]; exact b5 m hm
              · rw [fl_m.2.2]; exact b6 m hm
            · intro m hm
              rw [f6.I (by unfold SLn; omega), f5.I (by unfold SLn; omega)]; exact hb1 m (by omega)
      · have ht : t < 4 := c15
        have hp := (pE_b (sec := 1) (frm := (pE sz 0 8 4)) hz t).2
        have hz9 := hz (3 * t + 1)
        refine Rn.aload_n (pc := 18) dX4_arrange_18 rfl rfl ?_
        refine Rn.getR (pc := 19) flX4_19 mu4_2 fx4_2 dX4_arrange_19 ?_
        refine Rn.iload_n (pc := 22) dX4_arrange_22 rfl rfl ?_
        refine Rn.aload_n (pc := 23) dX4_arrange_23 rfl rfl ?_
        refine Rn.getI (pc := 24) (t := 0) flX4_29 hfe dX4_arrange_24 ?_
        refine Rn.callS (pc := 27) (as := [_]) csX4_37 ⟨by decide, by decide⟩ dX4_arrange_27 (Nat.le_of_ble_eq_true rfl) rfl (k_nextFour G (pE sz 1 (pE sz 0 8 4) t) (by omega)) ?_
        rintro _ M9 ⟨rfl, h9⟩
        rw [h9]
        refine Rn.iastN (pc := 30) ak20 (by omega) (by decide) dX4_arrange_30 ?_
        refine Rn.aload_n (pc := 31) dX4_arrange_31 rfl rfl ?_
        refine Rn.aload_n (pc := 32) dX4_arrange_32 rfl rfl ?_
        refine Rn.getR (pc := 33) flX4_11 mu4_0 fx4_0 dX4_arrange_33 ?_
        refine Rn.iload_n (pc := 36) dX4_arrange_36 rfl rfl ?_
        refine Rn.aaldN (pc := 37) ak18 (by decide) rfl (by omega) (by decide) fx18 dX4_arrange_37 ?_
        refine Rn.iconst (pc := 38) (v := nI 1) dX4_arrange_38 (by decide) ?_
        refine Rn.ialdN (pc := 39) ak19 (by omega) (by decide) (show mI (sI N 20 j t (nI (up4 (pE sz 1 (pE sz 0 8 4) t)))) 19 (4 * (2 * j) + t) 1 = nI (sz (3 * t + 1)) by rw [mI_sI, if_neg (by omega), fN.I (by unfold SAr; omega)]; exact hS t 1 ht (by decide)) dX4_arrange_39 ?_
        refine Rn.if_le (pc := 40) (y := 0) (tgt := 61) dX4_arrange_40 (by decide) (fun c40 => ?_) (fun c40 => ?_)
        · refine Rn.aload_n (pc := 61) dX4_arrange_61 rfl rfl ?_
          refine Rn.getI (pc := 62) (t := 0) flX4_29 (show mI (sI N 20 j t (nI (up4 (pE sz 1 (pE sz 0 8 4) t)))) 4 j 3 = nI (pE sz 1 (pE sz 0 8 4) t) from hfe) dX4_arrange_62 ?_
          refine Rn.putI (pc := 65) (t := 0) flX4_29 rfl rfl dX4_arrange_65 ?_
          refine Rn.iincN (pc := 68) (n := 1) dX4_arrange_68 rfl (by decide) (by decide) rfl st2_1 ?_
          refine Rn.goto (pc := 71) (tgt := 13) dX4_arrange_71 (by decide) ?_
          have hee : pE sz 1 (pE sz 0 8 4) (t + 1) = pE sz 1 (pE sz 0 8 4) t := by rw [pE, if_neg (by have := nI_le0 (by omega) c40; omega)]
          refine ih (t + 1) _ (by omega) (by omega) ((fN.sI (Or.inr (Or.inl ⟨rfl, rfl⟩))).sI (Or.inl ⟨rfl, rfl, rfl⟩)) (by rw [mI_sI, if_pos ⟨rfl, rfl, rfl⟩, hee]) ?_ ?_
          · intro m hm
            rw [mI_sI, if_neg (by omega), mI_sI, if_neg (by omega)]; exact hb0 m hm
          · intro m hm
            rw [mI_sI, if_neg (by omega), mI_sI]
            by_cases z : m = t
            · rw [if_pos ⟨rfl, rfl, z⟩, z]; rfl
            · rw [if_neg (fun y => z y.2.2)]; exact hb1 m (by omega)
        · refine Rn.aload_n (pc := 43) dX4_arrange_43 rfl rfl ?_
          refine Rn.getR (pc := 44) flX4_19 mu4_2 fx4_2 dX4_arrange_44 ?_
          refine Rn.iload_n (pc := 47) dX4_arrange_47 rfl rfl ?_
          refine Rn.ialdN (pc := 48) ak20 (by omega) (by decide) (show mI (sI N 20 j t (nI (up4 (pE sz 1 (pE sz 0 8 4) t)))) 20 j t = nI (up4 (pE sz 1 (pE sz 0 8 4) t)) by rw [mI_sI, if_pos ⟨rfl, rfl, rfl⟩]) dX4_arrange_48 ?_
          refine Rn.aload_n (pc := 49) dX4_arrange_49 rfl rfl ?_
          refine Rn.getR (pc := 50) flX4_11 mu4_0 fx4_0 dX4_arrange_50 ?_
          refine Rn.iload_n (pc := 53) dX4_arrange_53 rfl rfl ?_
          refine Rn.aaldN (pc := 54) ak18 (by decide) rfl (by omega) (by decide) fx18 dX4_arrange_54 ?_
          refine Rn.iconst (pc := 55) (v := nI 1) dX4_arrange_55 (by decide) ?_
          refine Rn.ialdN (pc := 56) ak19 (by omega) (by decide) (show mI (sI N 20 j t (nI (up4 (pE sz 1 (pE sz 0 8 4) t)))) 19 (4 * (2 * j) + t) 1 = nI (sz (3 * t + 1)) by rw [mI_sI, if_neg (by omega), fN.I (by unfold SAr; omega)]; exact hS t 1 ht (by decide)) dX4_arrange_56 ?_
          refine Rn.iaddN (pc := 57) dX4_arrange_57 ?_
          refine Rn.goto (pc := 58) (tgt := 65) dX4_arrange_58 (by decide) ?_
          refine Rn.putI (pc := 65) (t := 0) flX4_29 rfl rfl dX4_arrange_65 ?_
          refine Rn.iincN (pc := 68) (n := 1) dX4_arrange_68 rfl (by decide) (by decide) rfl st2_1 ?_
          refine Rn.goto (pc := 71) (tgt := 13) dX4_arrange_71 (by decide) ?_
          have hee : pE sz 1 (pE sz 0 8 4) (t + 1) = up4 (pE sz 1 (pE sz 0 8 4) t) + sz (3 * t + 1) := by rw [pE, if_pos (by rcases Nat.eq_zero_or_pos (sz (3 * t + 1)) with q | q; exact absurd (by rw [q]; decide) c40; exact q)]
          refine ih (t + 1) _ (by omega) (by omega) ((fN.sI (Or.inr (Or.inl ⟨rfl, rfl⟩))).sI (Or.inl ⟨rfl, rfl, rfl⟩)) (by rw [mI_sI, if_pos ⟨rfl, rfl, rfl⟩, hee]) ?_ ?_
          · intro m hm
            rw [mI_sI, if_neg (by omega), mI_sI, if_neg (by omega)]; exact hb0 m hm
          · intro m hm
            rw [mI_sI, if_neg (by omega), mI_sI]
            by_cases z : m = t
            · rw [if_pos ⟨rfl, rfl, z⟩, z]; rfl
            · rw [if_neg (fun y => z y.2.2)]; exact hb1 m (by omega)
  refine Rn.aload_n (pc := 0) dX4_arrange_0 rfl rfl ?_
  refine Rn.aload_n (pc := 1) dX4_arrange_1 rfl rfl ?_
  refine Rn.iconst (pc := 2) (v := nI 0) dX4_arrange_2 (by decide) ?_
  refine Rn.bipush (pc := 3) (v := nI 8) dX4_arrange_3 (by decide) ?_
  refine Rn.callV (pc := 5) (as := [_, _]) cvX4_33 ⟨by decide, rfl⟩ ⟨by decide, by decide⟩ dX4_arrange_5 (Nat.le_of_ble_eq_true rfl) rfl (k_line G j sz 0 8 (by decide) (by decide) hz hS) ?_
  rintro _ M5 ⟨rfl, f5, b5⟩
  refine Rn.putI (pc := 8) (t := 0) flX4_29 rfl rfl dX4_arrange_8 ?_
  refine Rn.iconst (pc := 11) (v := nI 0) dX4_arrange_11 (by decide) ?_
  refine Rn.istore_n (pc := 12) dX4_arrange_12 rfl (by decide) rfl st2_1 ?_
  refine loop 4 0 _ rfl (by decide) ((f5.mono ?_).sI (Or.inl ⟨rfl, rfl, rfl⟩)) (by rw [mI_sI, if_pos ⟨rfl, rfl, rfl⟩]; rfl) ?_ (fun m hm => absurd hm (Nat.not_lt_zero m))
  · intro k i s h; unfold SLn at h; unfold SAr; omega
  · intro m hm
    rw [mI_sI, if_neg (by omega)]; exact b5 m hm

