def dg (d : Nat) : Nat := if d < 10 then 48 + d else 55 + d
def hc (v i : Nat) : Nat := if i = 0 then dg (v / 16 % 16) else dg (v % 16)
def rb (kd ad many : Nat) (im : Nat → Nat) (j : Nat) : Nat := if j = 0 then many else if j = 1 then ad / 256 else if j = 2 then ad % 256 else if j = 3 then kd else if kd = 4 then 0 else im (j - 4)
def rsum (f : Nat → Nat) : Nat → Nat
  | 0 => 0
  | n + 1 => rsum f n + f n
theorem rsum_cg {f g : Nat → Nat} : ∀ n, (∀ j, j < n → f j = g j) → rsum f n = rsum g n
  | 0, _ => rfl
  | n + 1, h => by rw [rsum, rsum, rsum_cg n (fun j hj => h j (by omega)), h n (by omega)]
theorem rsum_le {f : Nat → Nat} : ∀ n, (∀ j, j < n → f j < 256) → rsum f n ≤ 256 * n
  | 0, _ => Nat.le_refl 0
  | n + 1, h => by
    have h1 := rsum_le n (fun j hj => h j (by omega))
    have h2 := h n (by omega)
    rw [rsum]; omega
def rbs (f : Nat → Nat) (many j : Nat) : Nat := if j = many + 4 then bt (- nI (rsum f (many + 4))) 0 else f j
def rch (f : Nat → Nat) (many c : Nat) : Nat := if c = 0 then 58 else if c = 11 + 2 * many then 10 else hc (rbs f many ((c - 1) / 2)) ((c - 1) % 2)
def SHx (a b k _j s : Nat) : Prop := (k = 11 ∧ (s = 37 ∨ s = 39)) ∨ (k = 39 ∧ a ≤ s ∧ s < b)
theorem dg_lt {d : Nat} (h : d < 16) : dg d < 256 := by unfold dg; split <;> omega
set_option maxRecDepth 20000 in
set_option maxHeartbeats 4000000 in
theorem c_putHex (G : GX) {M : Mem} (v h S : Nat) (hv : v < 256) (hh : h + 2 ≤ 6400) (hS : S < 2 ^ 20) (h1 : mI M 11 0 39 = nI S) (h2 : mI M 11 0 37 = nI h) : MetM G yX12_putHex iX12_putHex [vR 11 0, vI (nI v)] M (fun r M' => r = none ∧ Fr (SHx h (h + 2)) M M' ∧ mI M' 11 0 39 = nI (S + v) ∧ mI M' 11 0 37 = nI (h + 2) ∧ ∀ i, i < 2 → mI M' 39 0 (h + i) = nI (hc v i)) := by
  refine MetM.of (ls := [some (vR 11 0), some (vI (nI v)), none, none]) (by decide) rfl (Nat.le_of_ble_eq_true rfl) rfl ?_
  intro hM0
  refine Rn.aload_n (pc := 0) dX12_putHex_0 rfl rfl ?_
  refine Rn.aload_n (pc := 1) dX12_putHex_1 rfl rfl ?_
  refine Rn.getI (pc := 2) (t := 0) flX12_402 h1 dX12_putHex_2 ?_
  refine Rn.iload_n (pc := 5) dX12_putHex_5 rfl rfl ?_
  refine Rn.iaddN (pc := 6) dX12_putHex_6 ?_
  refine Rn.putI (pc := 7) (t := 0) flX12_402 rfl rfl dX12_putHex_7 ?_
  refine Rn.iconst (pc := 10) (v := nI 4) dX12_putHex_10 (by decide) ?_
  refine Rn.istore_n (pc := 11) dX12_putHex_11 rfl (by decide) rfl st4_2 ?_
  refine Rn.iload_n (pc := 12) dX12_putHex_12 rfl rfl ?_
  refine Rn.if_lt (pc := 13) (y := 0) (tgt := 70) dX12_putHex_13 (by decide) (fun c13 => ?_) (fun c13 => ?_)
  · exact absurd c13 (by decide)
  · refine Rn.iload_n (pc := 16) dX12_putHex_16 rfl rfl ?_
    refine Rn.iload_n (pc := 17) dX12_putHex_17 rfl rfl ?_
    refine Rn.ishr (pc := 18) dX12_putHex_18 ?_
    rw [pk_shrN (by omega) _ 4 (by decide)]
    refine Rn.bipush (pc := 19) (v := nI 15) dX12_putHex_19 (by decide) ?_
    refine Rn.iand (pc := 21) dX12_putHex_21 ?_
    rw [pk_andN (by omega) 4 (by decide)]
    refine Rn.istore_n (pc := 22) dX12_putHex_22 rfl (by decide) rfl st4_3 ?_
    refine Rn.aload_n (pc := 23) dX12_putHex_23 rfl rfl ?_
    refine Rn.getR (pc := 24) flX12_63 mu11_36 fx11_36 dX12_putHex_24 ?_
    refine Rn.aload_n (pc := 27) dX12_putHex_27 rfl rfl ?_
    refine Rn.getI (pc := 28) (t := 0) flX12_405 (show _ = nI h from h2) dX12_putHex_28 ?_
    refine Rn.iload_n (pc := 31) dX12_putHex_31 rfl rfl ?_
    refine Rn.bipush (pc := 32) (v := nI 10) dX12_putHex_32 (by decide) ?_
    refine Rn.icmp_geN (pc := 34) (tgt := 44) dX12_putHex_34 (by decide) (by omega) (by omega) (fun c34 => ?_) (fun c34 => ?_)
    · refine Rn.bipush (pc := 44) (v := nI 65) dX12_putHex_44 (by decide) ?_
      refine Rn.iload_n (pc := 46) dX12_putHex_46 rfl rfl ?_
      refine Rn.iaddN (pc := 47) dX12_putHex_47 ?_
      refine Rn.bipush (pc := 48) (v := nI 10) dX12_putHex_48 (by decide) ?_
      refine Rn.isub (pc := 50) dX12_putHex_50 ?_
      rw [pk_sub (by omega)]
      refine Rn.i2c (pc := 51) dX12_putHex_51 ?_
      rw [i2c_N (by omega)]
      refine Rn.castN (pc := 52) ak39 (by omega) (by decide) (vnc (by omega)) dX12_putHex_52 ?_
      refine Rn.aload_n (pc := 53) dX12_putHex_53 rfl rfl ?_
      refine Rn.dupR (pc := 54) (x := 0) (y := 0) dX12_putHex_54 ?_
      refine Rn.getI (pc := 55) (t := 0) flX12_405 (show _ = nI h from h2) dX12_putHex_55 ?_
      refine Rn.iconst (pc := 58) (v := nI 1) dX12_putHex_58 (by decide) ?_
      refine Rn.iaddN (pc := 59) dX12_putHex_59 ?_
      refine Rn.putI (pc := 60) (t := 0) flX12_405 rfl rfl dX12_putHex_60 ?_
      refine Rn.iload_n (pc := 63) dX12_putHex_63 rfl rfl ?_
      refine Rn.iconst (pc := 64) (v := nI 4) dX12_putHex_64 (by decide) ?_
      refine Rn.isub (pc := 65) dX12_putHex_65 ?_
      rw [show nI 4 - nI 4 = nI 0 by decide]
      refine Rn.istore_n (pc := 66) dX12_putHex_66 rfl (by decide) rfl st4_2 ?_
      refine Rn.goto (pc := 67) (tgt := 12) dX12_putHex_67 (by decide) ?_
      refine Rn.iload_n (pc := 12) dX12_putHex_12 rfl rfl ?_
      refine Rn.if_lt (pc := 13) (y := 0) (tgt := 70) dX12_putHex_13 (by decide) (fun c13 => ?_) (fun c13 => ?_)
      · exact absurd c13 (by decide)
      · refine Rn.iload_n (pc := 16) dX12_putHex_16 rfl rfl ?_
        refine Rn.iload_n (pc := 17) dX12_putHex_17 rfl rfl ?_
        refine Rn.ishr (pc := 18) dX12_putHex_18 ?_
        rw [pk_shrN (by omega) _ 0 (by decide)]
        refine Rn.bipush (pc := 19) (v := nI 15) dX12_putHex_19 (by decide) ?_
        refine Rn.iand (pc := 21) dX12_putHex_21 ?_
        rw [pk_andN (by omega) 4 (by decide)]
        refine Rn.istore_n (pc := 22) dX12_putHex_22 rfl (by decide) rfl st4_3 ?_
        refine Rn.aload_n (pc := 23) dX12_putHex_23 rfl rfl ?_
        refine Rn.getR (pc := 24) flX12_63 mu11_36 fx11_36 dX12_putHex_24 ?_
        refine Rn.aload_n (pc := 27) dX12_putHex_27 rfl rfl ?_
        refine Rn.getI (pc := 28) (t := 0) flX12_405 (show _ = nI (h + 1) from rfl) dX12_putHex_28 ?_
        refine Rn.iload_n (pc := 31) dX12_putHex_31 rfl rfl ?_
        refine Rn.bipush (pc := 32) (v := nI 10) dX12_putHex_32 (by decide) ?_
        refine Rn.icmp_geN (pc := 34) (tgt := 44) dX12_putHex_34 (by decide) (by omega) (by omega) (fun c34 => ?_) (fun c34 => ?_)
        · refine Rn.bipush (pc := 44) (v := nI 65) dX12_putHex_44 (by decide) ?_
          refine Rn.iload_n (pc := 46) dX12_putHex_46 rfl rfl ?_
          refine Rn.iaddN (pc := 47) dX12_putHex_47 ?_
          refine Rn.bipush (pc := 48) (v := nI 10) dX12_putHex_48 (by decide) ?_
          refine Rn.isub (pc := 50) dX12_putHex_50 ?_
          rw [pk_sub (by omega)]
          refine Rn.i2c (pc := 51) dX12_putHex_51 ?_
          rw [i2c_N (by omega)]
          refine Rn.castN (pc := 52) ak39 (by omega) (by decide) (vnc (by omega)) dX12_putHex_52 ?_
          refine Rn.aload_n (pc := 53) dX12_putHex_53 rfl rfl ?_
          refine Rn.dupR (pc := 54) (x := 0) (y := 0) dX12_putHex_54 ?_
          refine Rn.getI (pc := 55) (t := 0) flX12_405 (show _ = nI (h + 1) from rfl) dX12_putHex_55 ?_
          refine Rn.iconst (pc := 58) (v := nI 1) dX12_putHex_58 (by decide) ?_
          refine Rn.iaddN (pc := 59) dX12_putHex_59 ?_
          refine Rn.putI (pc := 60) (t := 0) flX12_405 rfl rfl dX12_putHex_60 ?_
          refine Rn.iload_n (pc := 63) dX12_putHex_63 rfl rfl ?_
          refine Rn.iconst (pc := 64) (v := nI 4) dX12_putHex_64 (by decide) ?_
          refine Rn.isub (pc := 65) dX12_putHex_65 ?_
          rw [show nI 0 - nI 4 = (-4 : Int32) by decide]
          refine Rn.istore_n (pc := 66) dX12_putHex_66 rfl (by decide) rfl st4_2 ?_
          refine Rn.goto (pc := 67) (tgt := 12) dX12_putHex_67 (by decide) ?_
          refine Rn.iload_n (pc := 12) dX12_putHex_12 rfl rfl ?_
          refine Rn.if_lt (pc := 13) (y := 0) (tgt := 70) dX12_putHex_13 (by decide) (fun c13 => ?_) (fun c13 => ?_)
          · refine Rn.vret (pc := 70) rfl dX12_putHex_70 ?_
            refine ⟨rfl, ?_, rfl, rfl, fun i hi => ?_⟩
            · refine (((((Fr.refl M).sI ?_).sI ?_).sI ?_).sI ?_).sI ?_
              all_goals (unfold SHx; omega)
            · rcases (show i = 0 ∨ i = 1 by omega) with rfl | rfl
              · rw [mI_sI, if_neg (by omega), mI_sI, if_neg (by omega), mI_sI, if_neg (by omega), mI_sI, if_pos ⟨rfl, rfl, rfl⟩]
                show _ = nI (hc v 0)
                unfold hc dg; rw [if_pos rfl]; congr 1
                simp only [Nat.reducePow, Nat.div_one] at *
                split <;> omega
              · rw [mI_sI, if_neg (by omega), mI_sI, if_pos ⟨rfl, rfl, rfl⟩]
                show _ = nI (hc v 1)
                unfold hc dg; rw [if_neg (by decide)]; congr 1
                simp only [Nat.reducePow, Nat.div_one] at *
                split <;> omega
          · exact absurd (show (-4 : Int32) < 0 by decide) c13
        · refine Rn.bipush (pc := 37) (v := nI 48) dX12_putHex_37 (by decide) ?_
          refine Rn.iload_n (pc := 39) dX12_putHex_39 rfl rfl ?_
          refine Rn.iaddN (pc := 40) dX12_putHex_40 ?_
          refine Rn.goto (pc := 41) (tgt := 51) dX12_putHex_41 (by decide) ?_
          refine Rn.i2c (pc := 51) dX12_putHex_51 ?_
          rw [i2c_N (by omega)]
          refine Rn.castN (pc := 52) ak39 (by omega) (by decide) (vnc (by omega)) dX12_putHex_52 ?_
          refine Rn.aload_n (pc := 53) dX12_putHex_53 rfl rfl ?_
          refine Rn.dupR (pc := 54) (x := 0) (y := 0) dX12_putHex_54 ?_
          refine Rn.getI (pc := 55) (t := 0) flX12_405 (show _ = nI (h + 1) from rfl) dX12_putHex_55 ?_
          refine Rn.iconst (pc := 58) (v := nI 1) dX12_putHex_58 (by decide) ?_
          refine Rn.iaddN (pc := 59) dX12_putHex_59 ?_
          refine Rn.putI (pc := 60) (t := 0) flX12_405 rfl rfl dX12_putHex_60 ?_
          refine Rn.iload_n (pc := 63) dX12_putHex_63 rfl rfl ?_
          refine Rn.iconst (pc := 64) (v := nI 4) dX12_putHex_64 (by decide) ?_
          refine Rn.isub (pc := 65) dX12_putHex_65 ?_
          rw [show nI 0 - nI 4 = (-4 : Int32) by decide]
          refine Rn.istore_n (pc := 66) dX12_putHex_66 rfl (by decide) rfl st4_2 ?_
          refine Rn.goto (pc := 67) (tgt := 12) dX12_putHex_67 (by decide) ?_
          refine Rn.iload_n (pc := 12) dX12_putHex_12 rfl rfl ?_
          refine Rn.if_lt (pc := 13) (y := 0) (tgt := 70) dX12_putHex_13 (by decide) (fun c13 => ?_) (fun c13 => ?_)
          · refine Rn.vret (pc := 70) rfl dX12_putHex_70 ?_
            refine ⟨rfl, ?_, rfl, rfl, fun i hi => ?_⟩
            · refine (((((Fr.refl M).sI ?_).sI ?_).sI ?_).sI ?_).sI ?_
              all_goals (unfold SHx; omega)
            · rcases (show i = 0 ∨ i = 1 by omega) with rfl | rfl
              · rw [mI_sI, if_neg (by omega), mI_sI, if_neg (by omega), mI_sI, if_neg (by omega), mI_sI, if_pos ⟨rfl, rfl, rfl⟩]
                show _ = nI (hc v 0)
                unfold hc dg; rw [if_pos rfl]; congr 1
                simp only [Nat.reducePow, Nat.div_one] at *
                split <;> omega
              · rw [mI_sI, if_neg (by omega), mI_sI, if_pos ⟨rfl, rfl, rfl⟩]
                show _ = nI (hc v 1)
                unfold hc dg; rw [if_neg (by decide)]; congr 1
                simp only [Nat.reducePow, Nat.div_one] at *
                split <;> omega
          · exact absurd (show (-4 : Int32) < 0 by decide) c13
    · refine Rn.bipush (pc := 37) (v := nI 48) dX12_putHex_37 (by decide) ?_
      refine Rn.iload_n (pc := 39) dX12_putHex_39 rfl rfl ?_
      refine Rn.iaddN (pc := 40) dX12_putHex_40 ?_
      refine Rn.goto (pc := 41) (tgt := 51) dX12_putHex_41 (by decide) ?_
      refine Rn.i2c (pc := 51) dX12_putHex_51 ?_
      rw [i2c_N (by omega)]
      refine Rn.castN (pc := 52) ak39 (by omega) (by decide) (vnc (by omega)) dX12_putHex_52 ?_
      refine Rn.aload_n (pc := 53) dX12_putHex_53 rfl rfl ?_
      refine Rn.dupR (pc := 54) (x := 0) (y := 0) dX12_putHex_54 ?_
      refine Rn.getI (pc := 55) (t := 0) flX12_405 (show _ = nI h from h2) dX12_putHex_55 ?_
      refine Rn.iconst (pc := 58) (v := nI 1) dX12_putHex_58 (by decide) ?_
      refine Rn.iaddN (pc := 59) dX12_putHex_59 ?_
      refine Rn.putI (pc := 60) (t := 0) flX12_405 rfl rfl dX12_putHex_60 ?_
      refine Rn.iload_n (pc := 63) dX12_putHex_63 rfl rfl ?_
      refine Rn.iconst (pc := 64) (v := nI 4) dX12_putHex_64 (by decide) ?_
      refine Rn.isub (pc := 65) dX12_putHex_65 ?_
      rw [show nI 4 - nI 4 = nI 0 by decide]
      refine Rn.istore_n (pc := 66) dX12_putHex_66 rfl (by decide) rfl st4_2 ?_
      refine Rn.goto (pc := 67) (tgt := 12) dX12_putHex_67 (by decide) ?_
      refine Rn.iload_n (pc := 12) dX12_putHex_12 rfl rfl ?_
      refine Rn.if_lt (pc := 13) (y := 0) (tgt := 70) dX12_putHex_13 (by decide) (fun c13 => ?_) (fun c13 => ?_)
      · exact absurd c13 (by decide)
      · refine Rn.iload_n (pc := 16) dX12_putHex_16 rfl rfl ?_
        refine Rn.iload_n (pc := 17) dX12_putHex_17 rfl rfl ?_
        refine Rn.ishr (pc := 18) dX12_putHex_18 ?_
        rw [pk_shrN (by omega) _ 0 (by decide)]
        refine Rn.bipush (pc := 19) (v := nI 15) dX12_putHex_19 (by decide) ?_
        refine Rn.iand (pc := 21) dX12_putHex_21 ?_
        rw [pk_andN (by omega) 4 (by decide)]
        refine Rn.istore_n (pc := 22) dX12_putHex_22 rfl (by decide) rfl st4_3 ?_
        refine Rn.aload_n (pc := 23) dX12_putHex_23 rfl rfl ?_
        refine Rn.getR (pc := 24) flX12_63 mu11_36 fx11_36 dX12_putHex_24 ?_
        refine Rn.aload_n (pc := 27) dX12_putHex_27 rfl rfl ?_
        refine Rn.getI (pc := 28) (t := 0) flX12_405 (show _ = nI (h + 1) from rfl) dX12_putHex_28 ?_
        refine Rn.iload_n (pc := 31) dX12_putHex_31 rfl rfl ?_
        refine Rn.bipush (pc := 32) (v := nI 10) dX12_putHex_32 (by decide) ?_
        refine Rn.icmp_geN (pc := 34) (tgt := 44) dX12_putHex_34 (by decide) (by omega) (by omega) (fun c34 => ?_) (fun c34 => ?_)
        · refine Rn.bipush (pc := 44) (v := nI 65) dX12_putHex_44 (by decide) ?_
          refine Rn.iload_n (pc := 46) dX12_putHex_46 rfl rfl ?_
          refine Rn.iaddN (pc := 47) dX12_putHex_47 ?_
          refine Rn.bipush (pc := 48) (v := nI 10) dX12_putHex_48 (by decide) ?_
          refine Rn.isub (pc := 50) dX12_putHex_50 ?_
          rw [pk_sub (by omega)]
          refine Rn.i2c (pc := 51) dX12_putHex_51 ?_
          rw [i2c_N (by omega)]
          refine Rn.castN (pc := 52) ak39 (by omega) (by decide) (vnc (by omega)) dX12_putHex_52 ?_
          refine Rn.aload_n (pc := 53) dX12_putHex_53 rfl rfl ?_
          refine Rn.dupR (pc := 54) (x := 0) (y := 0) dX12_putHex_54 ?_
          refine Rn.getI (pc := 55) (t := 0) flX12_405 (show _ = nI (h + 1) from rfl) dX12_putHex_55 ?_
          refine Rn.iconst (pc := 58) (v := nI 1) dX12_putHex_58 (by decide) ?_
          refine Rn.iaddN (pc := 59) dX12_putHex_59 ?_
          refine Rn.putI (pc := 60) (t := 0) flX12_405 rfl rfl dX12_putHex_60 ?_
          refine Rn.iload_n (pc := 63) dX12_putHex_63 rfl rfl ?_
          refine Rn.iconst (pc := 64) (v := nI 4) dX12_putHex_64 (by decide) ?_
          refine Rn.isub (pc := 65) dX12_putHex_65 ?_
          rw [show nI 0 - nI 4 = (-4 : Int32) by decide]
          refine Rn.istore_n (pc := 66) dX12_putHex_66 rfl (by decide) rfl st4_2 ?_
          refine Rn.goto (pc := 67) (tgt := 12) dX12_putHex_67 (by decide) ?_
          refine Rn.iload_n (pc := 12) dX12_putHex_12 rfl rfl ?_
          refine Rn.if_lt (pc := 13) (y := 0) (tgt := 70) dX12_putHex_13 (by decide) (fun c13 => ?_) (fun c13 => ?_)
          · refine Rn.vret (pc := 70) rfl dX12_putHex_70 ?_
            refine ⟨rfl, ?_, rfl, rfl, fun i hi => ?_⟩
            · refine (((((Fr.refl M).sI ?_).sI ?_).sI ?_).sI ?_).sI ?_
              all_goals (unfold SHx; omega)
            · rcases (show i = 0 ∨ i = 1 by omega) with rfl | rfl
              · rw [mI_sI, if_neg (by omega), mI_sI, if_neg (by omega), mI_sI, if_neg (by omega), mI_sI, if_pos ⟨rfl, rfl, rfl⟩]
                show _ = nI (hc v 0)
                unfold hc dg; rw [if_pos rfl]; congr 1
                simp only [Nat.reducePow, Nat.div_one] at *
                split <;> omega
              · rw [mI_sI, if_neg (by omega), mI_sI, if_pos ⟨rfl, rfl, rfl⟩]
                show _ = nI (hc v 1)
                unfold hc dg; rw [if_neg (by decide)]; congr 1
                simp only [Nat.reducePow, Nat.div_one] at *
                split <;> omega
          · exact absurd (show (-4 : Int32) < 0 by decide) c13
        · refine Rn.bipush (pc := 37) (v := nI 48) dX12_putHex_37 (by decide) ?_
          refine Rn.iload_n (pc := 39) dX12_putHex_39 rfl rfl ?_
          refine Rn.iaddN (pc := 40) dX12_putHex_40 ?_
          refine Rn.goto (pc := 41) (tgt := 51) dX12_putHex_41 (by decide) ?_
          refine Rn.i2c (pc := 51) dX12_putHex_51 ?_
          rw [i2c_N (by omega)]
          refine Rn.castN (pc := 52) ak39 (by omega) (by decide) (vnc (by omega)) dX12_putHex_52 ?_
          refine Rn.aload_n (pc := 53) dX12_putHex_53 rfl rfl ?_
          refine Rn.dupR (pc := 54) (x := 0) (y := 0) dX12_putHex_54 ?_
          refine Rn.getI (pc := 55) (t := 0) flX12_405 (show _ = nI (h + 1) from rfl) dX12_putHex_55 ?_
          refine Rn.iconst (pc := 58) (v := nI 1) dX12_putHex_58 (by decide) ?_
          refine Rn.iaddN (pc := 59) dX12_putHex_59 ?_
          refine Rn.putI (pc := 60) (t := 0) flX12_405 rfl rfl dX12_putHex_60 ?_
          refine Rn.iload_n (pc := 63) dX12_putHex_63 rfl rfl ?_
          refine Rn.iconst (pc := 64) (v := nI 4) dX12_putHex_64 (by decide) ?_
          refine Rn.isub (pc := 65) dX12_putHex_65 ?_
          rw [show nI 0 - nI 4 = (-4 : Int32) by decide]
          refine Rn.istore_n (pc := 66) dX12_putHex_66 rfl (by decide) rfl st4_2 ?_
          refine Rn.goto (pc := 67) (tgt := 12) dX12_putHex_67 (by decide) ?_
          refine Rn.iload_n (pc := 12) dX12_putHex_12 rfl rfl ?_
          refine Rn.if_lt (pc := 13) (y := 0) (tgt := 70) dX12_putHex_13 (by decide) (fun c13 => ?_) (fun c13 => ?_)
          · refine Rn.vret (pc := 70) rfl dX12_putHex_70 ?_
            refine ⟨rfl, ?_, rfl, rfl, fun i hi => ?_⟩
            · refine (((((Fr.refl M).sI ?_).sI ?_).sI ?_).sI ?_).sI ?_
              all_goals (unfold SHx; omega)
            · rcases (show i = 0 ∨ i = 1 by omega) with rfl | rfl
              · rw [mI_sI, if_neg (by omega), mI_sI, if_neg (by omega), mI_sI, if_neg (by omega), mI_sI, if_pos ⟨rfl, rfl, rfl⟩]
                show _ = nI (hc v 0)
                unfold hc dg; rw [if_pos rfl]; congr 1
                simp only [Nat.reducePow, Nat.div_one] at *
                split <;> omega
              · rw [mI_sI, if_neg (by omega), mI_sI, if_pos ⟨rfl, rfl, rfl⟩]
                show _ = nI (hc v 1)
                unfold hc dg; rw [if_neg (by decide)]; congr 1
                simp only [Nat.reducePow, Nat.div_one] at *
                split <;> omega
          · exact absurd (show (-4 : Int32) < 0 by decide) c13

def HxI (F : Nat → Nat) (h b : Nat) (M : Mem) (j : Nat) (N : Mem) : Prop := Fr (SHx h b) M N ∧ mI N 11 0 39 = nI (rsum F j) ∧ mI N 11 0 37 = nI (h + 1 + 2 * j) ∧ mI N 39 0 h = nI 58 ∧ ∀ i, i < 2 * j → mI N 39 0 (h + 1 + i) = nI (hc (F (i / 2)) (i % 2))
theorem HxI.step {F : Nat → Nat} {h b j v : Nat} {M N N' : Mem} (k : HxI F h b M j N) (hv : v = F j) (hb : h + 1 + 2 * j + 2 ≤ b) (f : Fr (SHx (h + 1 + 2 * j) (h + 1 + 2 * j + 2)) N N') (h1 : mI N' 11 0 39 = nI (rsum F j + v)) (h2 : mI N' 11 0 37 = nI (h + 1 + 2 * j + 2)) (h3 : ∀ i, i < 2 → mI N' 39 0 (h + 1 + 2 * j + i) = nI (hc v i)) : HxI F h b M (j + 1) N' := by
  obtain ⟨k1, k2, k3, k4, k5⟩ := k
  refine ⟨k1.trans (f.mono ?_), ?_, ?_, ?_, fun i hi => ?_⟩
  · intro k j s h; unfold SHx at h ⊢; omega
  · rw [h1, hv, rsum]
  · rw [h2]; congr 1
  · rw [f.I (by unfold SHx; omega)]; exact k4
  · rcases Nat.lt_or_ge i (2 * j) with q | q
    · rw [f.I (by unfold SHx; omega)]; exact k5 i q
    · have h9 := h3 (i - 2 * j) (by omega)
      rw [show h + 1 + 2 * j + (i - 2 * j) = h + 1 + i by omega] at h9
      rw [h9, hv, show i / 2 = j by omega, show i % 2 = i - 2 * j by omega]
set_option maxRecDepth 20000 in
set_option maxHeartbeats 4000000 in
theorem c_record (G : GX) {M : Mem} (kd ad frm many h : Nat) (im : Nat → Nat) (hkd : kd < 256) (hmany : many ≤ 16) (had : ad < 65536) (hh : h + 12 + 2 * many ≤ 6400) (hsz : mI M 11 0 37 = nI h) (hfrm : frm ≤ 2048) (him : kd ≠ 4 → ∀ i, i < many → mI M 37 0 (frm + i) = nI (im i)) (hfr : kd ≠ 4 → frm + many ≤ 2048) (him8 : kd ≠ 4 → ∀ i, i < many → im i < 256) : MetM G yX12_record iX12_record [vR 11 0, vI (nI kd), vI (nI ad), vI (nI frm), vI (nI many)] M (fun r M' => r = none ∧ Fr (SHx h (h + 12 + 2 * many)) M M' ∧ mI M' 11 0 37 = nI (h + 12 + 2 * many) ∧ ∀ c, c < 12 + 2 * many → mI M' 39 0 (h + c) = nI (rch (rb kd ad many im) many c)) := by
  refine MetM.of (ls := [some (vR 11 0), some (vI (nI kd)), some (vI (nI ad)), some (vI (nI frm)), some (vI (nI many)), none]) (by decide) rfl (Nat.le_of_ble_eq_true rfl) rfl ?_
  intro hM0
  have hF9 : ∀ j, j < many + 5 → (rbs (rb kd ad many im) many) j < 256 := by
    intro j hj
    unfold rbs
    split
    · exact bt_lt
    · unfold rb
      split
      · omega
      · split
        · omega
        · split
          · omega
          · split
            · omega
            · split
              · omega
              · rename_i h4; exact him8 h4 _ (by omega)
  have hsum : ∀ j, j ≤ many + 5 → rsum (rbs (rb kd ad many im) many) j ≤ 256 * j := fun j hj => rsum_le j (fun i hi => hF9 i (by omega))
  have loop : ∀ (d t : Nat) (N : Mem), many - t = d → t ≤ many → HxI (rbs (rb kd ad many im) many) h (h + 12 + 2 * many) M (4 + t) N → Rn G iX12_record (fun r M' => r = none ∧ Fr (SHx h (h + 12 + 2 * many)) M M' ∧ mI M' 11 0 37 = nI (h + 12 + 2 * many) ∧ ∀ c, c < 12 + 2 * many → mI M' 39 0 (h + c) = nI (rch (rb kd ad many im) many c)) 57 [some (vR 11 0), some (vI (nI kd)), some (vI (nI ad)), some (vI (nI frm)), some (vI (nI many)), some (vI (nI t))] [] N := by
    intro d
    induction d using Nat.strongRecOn with
    | ind d ih9 =>
      intro t N hd ht kN
      have ih : ∀ (t' : Nat) (N : Mem), t < t' → t' ≤ many → HxI (rbs (rb kd ad many im) many) h (h + 12 + 2 * many) M (4 + t') N → Rn G iX12_record (fun r M' => r = none ∧ Fr (SHx h (h + 12 + 2 * many)) M M' ∧ mI M' 11 0 37 = nI (h + 12 + 2 * many) ∧ ∀ c, c < 12 + 2 * many → mI M' 39 0 (h + c) = nI (rch (rb kd ad many im) many c)) 57 [some (vR 11 0), some (vI (nI kd)), some (vI (nI ad)), some (vI (nI frm)), some (vI (nI many)), some (vI (nI t'))] [] N := fun t' N h1 h2 h3 => ih9 (many - t') (by omega) t' N rfl h2 h3
      refine Rn.iload (pc := 57) dX12_record_57 rfl ?_
      refine Rn.iload (pc := 59) dX12_record_59 rfl ?_
      refine Rn.icmp_geN (pc := 61) (tgt := 92) dX12_record_61 (by decide) (by omega) (by omega) (fun c61 => ?_) (fun c61 => ?_)
      · refine Rn.aload_n (pc := 92) dX12_record_92 rfl rfl ?_
        refine Rn.aload_n (pc := 93) dX12_record_93 rfl rfl ?_
        refine Rn.getI (pc := 94) (t := 0) flX12_402 (show mI N 11 0 39 = nI (rsum (rbs (rb kd ad many im) many) (4 + t)) from kN.2.1) dX12_record_94 ?_
        refine Rn.ineg (pc := 97) dX12_record_97 ?_
        refine Rn.sipush (pc := 98) (v := nI 255) dX12_record_98 (by decide) ?_
        refine Rn.iand (pc := 101) dX12_record_101 ?_
        rw [bt_0]
        refine Rn.callV (pc := 102) (as := [_]) cvX12_408 ⟨by decide, rfl⟩ ⟨by decide, by decide⟩ dX12_record_102 (Nat.le_of_ble_eq_true rfl) rfl (c_putHex G (bt (- nI (rsum (rbs (rb kd ad many im) many) (4 + t))) 0) (h + 1 + 2 * (4 + t)) (rsum (rbs (rb kd ad many im) many) (4 + t)) bt_lt (by omega) (by have := hsum (4 + t) (by omega); omega) kN.2.1 kN.2.2.1) ?_
        rintro _ Mk9 ⟨rfl, p1, p2, p3, p4⟩
        have k9 := kN.step (v := (bt (- nI (rsum (rbs (rb kd ad many im) many) (4 + t))) 0)) (by rw [show (rbs (rb kd ad many im) many) (4 + t) = bt (- nI (rsum (rb kd ad many im) (many + 4))) 0 by unfold rbs; rw [if_pos (by omega)], show 4 + t = many + 4 by omega, rsum_cg (many + 4) (fun j hj => show (rbs (rb kd ad many im) many) j = rb kd ad many im j by unfold rbs; rw [if_neg (by omega)])]) (by omega) p1 p2 p3 p4
        clear p1 p2 p3 p4
        refine Rn.aload_n (pc := 105) dX12_record_105 rfl rfl ?_
        refine Rn.getR (pc := 106) flX12_63 mu11_36 fx11_36 dX12_record_106 ?_
        refine Rn.aload_n (pc := 109) dX12_record_109 rfl rfl ?_
        refine Rn.getI (pc := 110) (t := 0) flX12_405 (show mI Mk9 11 0 37 = nI (h + 11 + 2 * many) by rw [k9.2.2.1]; congr 1; omega) dX12_record_110 ?_
        refine Rn.bipush (pc := 113) (v := nI 10) dX12_record_113 (by decide) ?_
        refine Rn.castN (pc := 115) ak39 (by omega) (by decide) (vnc (by decide)) dX12_record_115 ?_
        refine Rn.aload_n (pc := 116) dX12_record_116 rfl rfl ?_
        refine Rn.dupR (pc := 117) (x := 0) (y := 0) dX12_record_117 ?_
        refine Rn.getI (pc := 118) (t := 0) flX12_405 (show mI (sI Mk9 39 0 (h + 11 + 2 * many) (nI 10)) 11 0 37 = nI (h + 11 + 2 * many) by rw [mI_sI, if_neg (by omega), k9.2.2.1]; congr 1; omega) dX12_record_118 ?_
        refine Rn.iconst (pc := 121) (v := nI 1) dX12_record_121 (by decide) ?_
        refine Rn.iaddN (pc := 122) dX12_record_122 ?_
        refine Rn.putI (pc := 123) (t := 0) flX12_405 rfl rfl dX12_record_123 ?_
        refine Rn.vret (pc := 126) rfl dX12_record_126 ?_
        refine ⟨rfl, (k9.1.sI (by unfold SHx; omega)).sI (by unfold SHx; omega), by rw [mI_sI, if_pos ⟨rfl, rfl, rfl⟩]; congr 1; omega, fun c hc9 => ?_⟩
        rw [mI_sI, if_neg (by omega)]
        unfold rch
        by_cases q0 : c = 0
        · rw [if_pos q0, q0, mI_sI, if_neg (by omega)]; exact k9.2.2.2.1
        rw [if_neg q0]
        by_cases q1 : c = 11 + 2 * many
        · rw [if_pos q1, mI_sI, if_pos ⟨rfl, rfl, by omega⟩]
        rw [if_neg q1, mI_sI, if_neg (by omega), show h + c = h + 1 + (c - 1) by omega]
        exact k9.2.2.2.2 (c - 1) (by omega)
      · refine Rn.aload_n (pc := 64) dX12_record_64 rfl rfl ?_
        refine Rn.iload_n (pc := 65) dX12_record_65 rfl rfl ?_
        refine Rn.iconst (pc := 66) (v := nI 4) dX12_record_66 (by decide) ?_
        refine Rn.icmp_neN (pc := 67) (tgt := 74) dX12_record_67 (by decide) (by omega) (by omega) (fun c67 => ?_) (fun c67 => ?_)
        · refine Rn.aload_n (pc := 74) dX12_record_74 rfl rfl ?_
          refine Rn.getR (pc := 75) flX12_57 mu11_33 fx11_33 dX12_record_75 ?_
          refine Rn.iload_n (pc := 78) dX12_record_78 rfl rfl ?_
          refine Rn.iload (pc := 79) dX12_record_79 rfl ?_
          refine Rn.iaddN (pc := 81) dX12_record_81 ?_
          refine Rn.ialdN (pc := 82) ak37 (by omega) (by decide) (show mI N 37 0 (frm + t) = nI (im t) from (kN.1.I (by unfold SHx; omega)).trans (him c67 t (by omega))) dX12_record_82 ?_
          refine Rn.callV (pc := 83) (as := [_]) cvX12_408 ⟨by decide, rfl⟩ ⟨by decide, by decide⟩ dX12_record_83 (Nat.le_of_ble_eq_true rfl) rfl (c_putHex G (im t) (h + 1 + 2 * (4 + t)) (rsum (rbs (rb kd ad many im) many) (4 + t)) (him8 c67 t (by omega)) (by omega) (by have := hsum (4 + t) (by omega); omega) kN.2.1 kN.2.2.1) ?_
          rintro _ Mk9 ⟨rfl, p1, p2, p3, p4⟩
          have k9 := kN.step (v := (im t)) (by unfold rbs; rw [if_neg (by omega)]; unfold rb; rw [if_neg (by omega), if_neg (by omega), if_neg (by omega), if_neg (by omega), if_neg c67, Nat.add_sub_cancel_left]) (by omega) p1 p2 p3 p4
          clear p1 p2 p3 p4
          refine Rn.iincN (pc := 86) (n := 1) dX12_record_86 rfl (by decide) (by decide) rfl st6_5 ?_
          refine Rn.goto (pc := 89) (tgt := 57) dX12_record_89 (by decide) ?_
          exact ih (t + 1) Mk9 (by omega) (by omega) k9
        · refine Rn.iconst (pc := 70) (v := nI 0) dX12_record_70 (by decide) ?_
          refine Rn.goto (pc := 71) (tgt := 83) dX12_record_71 (by decide) ?_
          refine Rn.callV (pc := 83) (as := [_]) cvX12_408 ⟨by decide, rfl⟩ ⟨by decide, by decide⟩ dX12_record_83 (Nat.le_of_ble_eq_true rfl) rfl (c_putHex G 0 (h + 1 + 2 * (4 + t)) (rsum (rbs (rb kd ad many im) many) (4 + t)) (by decide) (by omega) (by have := hsum (4 + t) (by omega); omega) kN.2.1 kN.2.2.1) ?_
          rintro _ Mk9 ⟨rfl, p1, p2, p3, p4⟩
          have k9 := kN.step (v := 0) (by unfold rbs; rw [if_neg (by omega)]; unfold rb; rw [if_neg (by omega), if_neg (by omega), if_neg (by omega), if_neg (by omega), if_pos c67]) (by omega) p1 p2 p3 p4
          clear p1 p2 p3 p4
          refine Rn.iincN (pc := 86) (n := 1) dX12_record_86 rfl (by decide) (by decide) rfl st6_5 ?_
          refine Rn.goto (pc := 89) (tgt := 57) dX12_record_89 (by decide) ?_
          exact ih (t + 1) Mk9 (by omega) (by omega) k9
  refine Rn.aload_n (pc := 0) dX12_record_0 rfl rfl ?_
  refine Rn.getR (pc := 1) flX12_63 mu11_36 fx11_36 dX12_record_1 ?_
  refine Rn.aload_n (pc := 4) dX12_record_4 rfl rfl ?_
  refine Rn.getI (pc := 5) (t := 0) flX12_405 hsz dX12_record_5 ?_
  refine Rn.bipush (pc := 8) (v := nI 58) dX12_record_8 (by decide) ?_
  refine Rn.castN (pc := 10) ak39 (by omega) (by decide) (vnc (by decide)) dX12_record_10 ?_
  refine Rn.aload_n (pc := 11) dX12_record_11 rfl rfl ?_
  refine Rn.dupR (pc := 12) (x := 0) (y := 0) dX12_record_12 ?_
  refine Rn.getI (pc := 13) (t := 0) flX12_405 (show mI (sI M 39 0 h (nI 58)) 11 0 37 = nI h from hsz) dX12_record_13 ?_
  refine Rn.iconst (pc := 16) (v := nI 1) dX12_record_16 (by decide) ?_
  refine Rn.iaddN (pc := 17) dX12_record_17 ?_
  refine Rn.putI (pc := 18) (t := 0) flX12_405 rfl rfl dX12_record_18 ?_
  refine Rn.aload_n (pc := 21) dX12_record_21 rfl rfl ?_
  refine Rn.iconst (pc := 22) (v := nI 0) dX12_record_22 (by decide) ?_
  refine Rn.putI (pc := 23) (t := 0) flX12_402 rfl rfl dX12_record_23 ?_
  have k0 : HxI (rbs (rb kd ad many im) many) h (h + 12 + 2 * many) M 0 (sI (sI (sI M 39 0 h (nI 58)) 11 0 37 (nI (h + 1))) 11 0 39 (nI 0)) := by
    refine ⟨(((Fr.refl M).sI ?_).sI ?_).sI ?_, rfl, rfl, by rw [mI_sI, if_neg (by omega), mI_sI, if_neg (by omega), mI_sI, if_pos ⟨rfl, rfl, rfl⟩], fun i hi => absurd hi (by omega)⟩
    all_goals (unfold SHx; omega)
  refine Rn.aload_n (pc := 26) dX12_record_26 rfl rfl ?_
  refine Rn.iload (pc := 27) dX12_record_27 rfl ?_
  refine Rn.callV (pc := 29) (as := [_]) cvX12_408 ⟨by decide, rfl⟩ ⟨by decide, by decide⟩ dX12_record_29 (Nat.le_of_ble_eq_true rfl) rfl (c_putHex G many (h + 1 + 2 * 0) (rsum (rbs (rb kd ad many im) many) 0) (by omega) (by omega) (by have := hsum 0 (by omega); omega) k0.2.1 k0.2.2.1) ?_
  rintro _ Mk1 ⟨rfl, p1, p2, p3, p4⟩
  have k1 := k0.step (v := many) (by unfold rbs; rw [if_neg (by omega)]; unfold rb; rw [if_pos rfl]) (by omega) p1 p2 p3 p4
  clear p1 p2 p3 p4
  refine Rn.aload_n (pc := 32) dX12_record_32 rfl rfl ?_
  refine Rn.iload_n (pc := 33) dX12_record_33 rfl rfl ?_
  refine Rn.bipush (pc := 34) (v := nI 8) dX12_record_34 (by decide) ?_
  refine Rn.ishr (pc := 36) dX12_record_36 ?_
  rw [pk_shrN (by omega) _ 8 (by decide)]
  refine Rn.callV (pc := 37) (as := [_]) cvX12_408 ⟨by decide, rfl⟩ ⟨by decide, by decide⟩ dX12_record_37 (Nat.le_of_ble_eq_true rfl) rfl (c_putHex G (ad / 2 ^ 8) (h + 1 + 2 * 1) (rsum (rbs (rb kd ad many im) many) 1) (by omega) (by omega) (by have := hsum 1 (by omega); omega) k1.2.1 k1.2.2.1) ?_
  rintro _ Mk2 ⟨rfl, p1, p2, p3, p4⟩
  have k2 := k1.step (v := (ad / 2 ^ 8)) (by unfold rbs; rw [if_neg (by omega)]; unfold rb; rw [if_neg (by decide), if_pos rfl]) (by omega) p1 p2 p3 p4
  clear p1 p2 p3 p4
  refine Rn.aload_n (pc := 40) dX12_record_40 rfl rfl ?_
  refine Rn.iload_n (pc := 41) dX12_record_41 rfl rfl ?_
  refine Rn.sipush (pc := 42) (v := nI 255) dX12_record_42 (by decide) ?_
  refine Rn.iand (pc := 45) dX12_record_45 ?_
  rw [pk_andN (by omega) 8 (by decide)]
  refine Rn.callV (pc := 46) (as := [_]) cvX12_408 ⟨by decide, rfl⟩ ⟨by decide, by decide⟩ dX12_record_46 (Nat.le_of_ble_eq_true rfl) rfl (c_putHex G (ad % 2 ^ 8) (h + 1 + 2 * 2) (rsum (rbs (rb kd ad many im) many) 2) (by omega) (by omega) (by have := hsum 2 (by omega); omega) k2.2.1 k2.2.2.1) ?_
  rintro _ Mk3 ⟨rfl, p1, p2, p3, p4⟩
  have k3 := k2.step (v := (ad % 2 ^ 8)) (by unfold rbs; rw [if_neg (by omega)]; unfold rb; rw [if_neg (by decide), if_neg (by decide), if_pos rfl]) (by omega) p1 p2 p3 p4
  clear p1 p2 p3 p4
  refine Rn.aload_n (pc := 49) dX12_record_49 rfl rfl ?_
  refine Rn.iload_n (pc := 50) dX12_record_50 rfl rfl ?_
  refine Rn.callV (pc := 51) (as := [_]) cvX12_408 ⟨by decide, rfl⟩ ⟨by decide, by decide⟩ dX12_record_51 (Nat.le_of_ble_eq_true rfl) rfl (c_putHex G kd (h + 1 + 2 * 3) (rsum (rbs (rb kd ad many im) many) 3) (by omega) (by omega) (by have := hsum 3 (by omega); omega) k3.2.1 k3.2.2.1) ?_
  rintro _ Mk4 ⟨rfl, p1, p2, p3, p4⟩
  have k4 := k3.step (v := kd) (by unfold rbs; rw [if_neg (by omega)]; unfold rb; rw [if_neg (by decide), if_neg (by decide), if_neg (by decide), if_pos rfl]) (by omega) p1 p2 p3 p4
  clear p1 p2 p3 p4
  refine Rn.iconst (pc := 54) (v := nI 0) dX12_record_54 (by decide) ?_
  refine Rn.istore (pc := 55) dX12_record_55 (by decide) rfl st6_5 ?_
  exact loop many 0 Mk4 rfl (by omega) k4

/-- all the records' signs -/
def hx (z : Nat) (im : Nat → Nat) (k : Nat) : Nat :=
  if k < 16 then rch (rb 4 0 2 im) 2 k
  else if k - 16 < 12 * ((z + 15) / 16) + 2 * z then rch (rb 0 (16 * ((k - 16) / 44)) (min 16 (z - 16 * ((k - 16) / 44))) (fun q => im (16 * ((k - 16) / 44) + q))) (min 16 (z - 16 * ((k - 16) / 44))) ((k - 16) % 44)
  else rch (rb 1 0 0 im) 0 (k - 16 - (12 * ((z + 15) / 16) + 2 * z))
def hxz (z : Nat) : Nat := 28 + 12 * ((z + 15) / 16) + 2 * z
def HwI (z : Nat) (im : Nat → Nat) (M : Mem) (i : Nat) (N : Mem) : Prop := Fr (SHx 0 6400) M N ∧ mI N 11 0 37 = nI (16 + 12 * i + 2 * min (16 * i) z) ∧ ∀ k, k < 16 + 12 * i + 2 * min (16 * i) z → mI N 39 0 k = nI (hx z im k)
theorem HwI.step {z i : Nat} {im : Nat → Nat} {M N N' : Mem} (k : HwI z im M i N) (hi : 16 * i < z) (hz : z ≤ 2048) (f : Fr (SHx (16 + 44 * i) (16 + 44 * i + 12 + 2 * min 16 (z - 16 * i))) N N') (h2 : mI N' 11 0 37 = nI (16 + 44 * i + 12 + 2 * min 16 (z - 16 * i))) (h3 : ∀ c, c < 12 + 2 * min 16 (z - 16 * i) → mI N' 39 0 (16 + 44 * i + c) = nI (rch (rb 0 (16 * i) (min 16 (z - 16 * i)) (fun q => im (16 * i + q))) (min 16 (z - 16 * i)) c)) : HwI z im M (i + 1) N' := by
  obtain ⟨k1, k2, k3⟩ := k
  refine ⟨k1.trans (f.mono ?_), ?_, fun k hk => ?_⟩
  · intro k j s h; unfold SHx at h ⊢; omega
  · rw [h2]; congr 1; omega
  · rcases Nat.lt_or_ge k (16 + 44 * i) with q | q
    · rw [f.I (by unfold SHx; omega)]; exact k3 k (by omega)
    · have h9 := h3 (k - (16 + 44 * i)) (by omega)
      rw [show 16 + 44 * i + (k - (16 + 44 * i)) = k by omega] at h9
      rw [h9, hx, if_neg (by omega), if_pos (by omega), show (k - 16) / 44 = i by omega, show (k - 16) % 44 = k - (16 + 44 * i) by omega]
set_option maxRecDepth 20000 in
set_option maxHeartbeats 4000000 in
theorem c_write (G : GX) {M : Mem} (z : Nat) (im : Nat → Nat) (hz : z ≤ 2048) (hzM : mI M 11 0 34 = nI z) (him : ∀ k, k < 2048 → mI M 37 0 k = nI (im k)) (him8 : ∀ k, k < 2048 → im k < 256) : MetM G yX12_write iX12_write [vR 11 0] M (fun r M' => r = none ∧ Fr (SHx 0 6400) M M' ∧ mI M' 11 0 37 = nI (hxz z) ∧ ∀ k, k < hxz z → mI M' 39 0 k = nI (hx z im k)) := by
  refine MetM.of (ls := [some (vR 11 0), none]) (by decide) rfl (Nat.le_of_ble_eq_true rfl) rfl ?_
  intro hM0
  have loop : ∀ (d i : Nat) (N : Mem), (z + 15) / 16 - i = d → i ≤ (z + 15) / 16 → HwI z im M i N → Rn G iX12_write (fun r M' => r = none ∧ Fr (SHx 0 6400) M M' ∧ mI M' 11 0 37 = nI (hxz z) ∧ ∀ k, k < hxz z → mI M' 39 0 k = nI (hx z im k)) 15 [some (vR 11 0), some (vI (nI (16 * i)))] [] N := by
    intro d
    induction d using Nat.strongRecOn with
    | ind d ih9 =>
      intro i N hd hi kN
      have ih : ∀ (t' : Nat) (N : Mem), i < t' → t' ≤ (z + 15) / 16 → HwI z im M t' N → Rn G iX12_write (fun r M' => r = none ∧ Fr (SHx 0 6400) M M' ∧ mI M' 11 0 37 = nI (hxz z) ∧ ∀ k, k < hxz z → mI M' 39 0 k = nI (hx z im k)) 15 [some (vR 11 0), some (vI (nI (16 * t')))] [] N := fun t' N h1 h2 h3 => ih9 ((z + 15) / 16 - t') (by omega) t' N rfl h2 h3
      have hzN : mI N 11 0 34 = nI z := (kN.1.I (by unfold SHx; omega)).trans hzM
      refine Rn.iload_n (pc := 15) dX12_write_15 rfl rfl ?_
      refine Rn.aload_n (pc := 16) dX12_write_16 rfl rfl ?_
      refine Rn.getI (pc := 17) (t := 0) flX12_393 hzN dX12_write_17 ?_
      refine Rn.icmp_geN (pc := 20) (tgt := 60) dX12_write_20 (by decide) (by omega) (by omega) (fun c20 => ?_) (fun c20 => ?_)
      · refine Rn.aload_n (pc := 60) dX12_write_60 rfl rfl ?_
        refine Rn.iconst (pc := 61) (v := nI 1) dX12_write_61 (by decide) ?_
        refine Rn.iconst (pc := 62) (v := nI 0) dX12_write_62 (by decide) ?_
        refine Rn.iconst (pc := 63) (v := nI 0) dX12_write_63 (by decide) ?_
        refine Rn.iconst (pc := 64) (v := nI 0) dX12_write_64 (by decide) ?_
        refine Rn.callV (pc := 65) (as := [_, _, _, _]) cvX12_411 ⟨by decide, rfl⟩ ⟨by decide, by decide⟩ dX12_write_65 (Nat.le_of_ble_eq_true rfl) rfl (c_record G 1 0 0 0 (16 + 12 * i + 2 * min (16 * i) z) im (by decide) (by decide) (by decide) (by omega) kN.2.1 (by decide) (fun _ q hq => absurd hq (by omega)) (fun _ => by decide) (fun _ q hq => absurd hq (by omega))) ?_
        rintro _ M9 ⟨rfl, p1, p2, p3⟩
        refine Rn.vret (pc := 68) rfl dX12_write_68 ?_
        refine ⟨rfl, kN.1.trans (p1.mono ?_), ?_, fun k hk => ?_⟩
        · intro k j s h; unfold SHx at h ⊢; omega
        · rw [p2]; congr 1; unfold hxz; omega
        · unfold hxz at hk
          rcases Nat.lt_or_ge k (16 + 12 * i + 2 * min (16 * i) z) with q | q
          · rw [p1.I (by unfold SHx; omega)]; exact kN.2.2 k q
          · have h9 := p3 (k - (16 + 12 * i + 2 * min (16 * i) z)) (by omega)
            rw [show 16 + 12 * i + 2 * min (16 * i) z + (k - (16 + 12 * i + 2 * min (16 * i) z)) = k by omega] at h9
            rw [h9, hx, if_neg (by omega), if_neg (by omega)]
            congr 2; omega
      · have hi9 : 16 * i < z := c20
        refine Rn.aload_n (pc := 23) dX12_write_23 rfl rfl ?_
        refine Rn.iconst (pc := 24) (v := nI 0) dX12_write_24 (by decide) ?_
        refine Rn.iload_n (pc := 25) dX12_write_25 rfl rfl ?_
        refine Rn.iload_n (pc := 26) dX12_write_26 rfl rfl ?_
        refine Rn.aload_n (pc := 27) dX12_write_27 rfl rfl ?_
        refine Rn.getI (pc := 28) (t := 0) flX12_393 hzN dX12_write_28 ?_
        refine Rn.iload_n (pc := 31) dX12_write_31 rfl rfl ?_
        refine Rn.isub (pc := 32) dX12_write_32 ?_
        rw [pk_sub (by omega)]
        refine Rn.bipush (pc := 33) (v := nI 16) dX12_write_33 (by decide) ?_
        refine Rn.icmp_geN (pc := 35) (tgt := 47) dX12_write_35 (by decide) (by omega) (by omega) (fun c35 => ?_) (fun c35 => ?_)
        · refine Rn.bipush (pc := 47) (v := nI 16) dX12_write_47 (by decide) ?_
          rw [show nI 16 = nI (min 16 (z - 16 * i)) by congr 1; omega]
          refine Rn.callV (pc := 49) (as := [_, _, _, _]) cvX12_411 ⟨by decide, rfl⟩ ⟨by decide, by decide⟩ dX12_write_49 (Nat.le_of_ble_eq_true rfl) rfl (c_record G 0 (16 * i) (16 * i) (min 16 (z - 16 * i)) (16 + 44 * i) (fun q => im (16 * i + q)) (by decide) (by omega) (by omega) (by omega) (by rw [kN.2.1]; congr 1; omega) (by omega) (fun _ q hq => (kN.1.I (by unfold SHx; omega)).trans (him _ (by omega))) (fun _ => by omega) (fun _ q hq => him8 _ (by omega))) ?_
          rintro _ M9 ⟨rfl, p1, p2, p3⟩
          have k9 := kN.step hi9 hz p1 p2 p3
          refine Rn.iload_n (pc := 52) dX12_write_52 rfl rfl ?_
          refine Rn.bipush (pc := 53) (v := nI 16) dX12_write_53 (by decide) ?_
          refine Rn.iaddN (pc := 55) dX12_write_55 ?_
          rw [show nI (16 * i + 16) = nI (16 * (i + 1)) by congr 1]
          refine Rn.istore_n (pc := 56) dX12_write_56 rfl (by decide) rfl st2_1 ?_
          refine Rn.goto (pc := 57) (tgt := 15) dX12_write_57 (by decide) ?_
          exact ih (i + 1) M9 (by omega) (by omega) k9
        · refine Rn.aload_n (pc := 38) dX12_write_38 rfl rfl ?_
          refine Rn.getI (pc := 39) (t := 0) flX12_393 hzN dX12_write_39 ?_
          refine Rn.iload_n (pc := 42) dX12_write_42 rfl rfl ?_
          refine Rn.isub (pc := 43) dX12_write_43 ?_
          rw [pk_sub (by omega)]
          refine Rn.goto (pc := 44) (tgt := 49) dX12_write_44 (by decide) ?_
          rw [show nI (z - 16 * i) = nI (min 16 (z - 16 * i)) by congr 1; omega]
          refine Rn.callV (pc := 49) (as := [_, _, _, _]) cvX12_411 ⟨by decide, rfl⟩ ⟨by decide, by decide⟩ dX12_write_49 (Nat.le_of_ble_eq_true rfl) rfl (c_record G 0 (16 * i) (16 * i) (min 16 (z - 16 * i)) (16 + 44 * i) (fun q => im (16 * i + q)) (by decide) (by omega) (by omega) (by omega) (by rw [kN.2.1]; congr 1; omega) (by omega) (fun _ q hq => (kN.1.I (by unfold SHx; omega)).trans (him _ (by omega))) (fun _ => by omega) (fun _ q hq => him8 _ (by omega))) ?_
          rintro _ M9 ⟨rfl, p1, p2, p3⟩
          have k9 := kN.step hi9 hz p1 p2 p3
          refine Rn.iload_n (pc := 52) dX12_write_52 rfl rfl ?_
          refine Rn.bipush (pc := 53) (v := nI 16) dX12_write_53 (by decide) ?_
          refine Rn.iaddN (pc := 55) dX12_write_55 ?_
          rw [show nI (16 * i + 16) = nI (16 * (i + 1)) by congr 1]
          refine Rn.istore_n (pc := 56) dX12_write_56 rfl (by decide) rfl st2_1 ?_
          refine Rn.goto (pc := 57) (tgt := 15) dX12_write_57 (by decide) ?_
          exact ih (i + 1) M9 (by omega) (by omega) k9
  refine Rn.aload_n (pc := 0) dX12_write_0 rfl rfl ?_
  refine Rn.iconst (pc := 1) (v := nI 0) dX12_write_1 (by decide) ?_
  refine Rn.putI (pc := 2) (t := 0) flX12_405 rfl rfl dX12_write_2 ?_
  refine Rn.aload_n (pc := 5) dX12_write_5 rfl rfl ?_
  refine Rn.iconst (pc := 6) (v := nI 4) dX12_write_6 (by decide) ?_
  refine Rn.iconst (pc := 7) (v := nI 0) dX12_write_7 (by decide) ?_
  refine Rn.iconst (pc := 8) (v := nI 0) dX12_write_8 (by decide) ?_
  refine Rn.iconst (pc := 9) (v := nI 2) dX12_write_9 (by decide) ?_
  refine Rn.callV (pc := 10) (as := [_, _, _, _]) cvX12_411 ⟨by decide, rfl⟩ ⟨by decide, by decide⟩ dX12_write_10 (Nat.le_of_ble_eq_true rfl) rfl (c_record G 4 0 0 2 0 im (by decide) (by decide) (by decide) (by decide) rfl (by decide) (fun q => absurd rfl q) (fun q => absurd rfl q) (fun q => absurd rfl q)) ?_
  rintro _ M9 ⟨rfl, p1, p2, p3⟩
  refine Rn.iconst (pc := 13) (v := nI 0) dX12_write_13 (by decide) ?_
  refine Rn.istore_n (pc := 14) dX12_write_14 rfl (by decide) rfl st2_1 ?_
  refine loop ((z + 15) / 16) 0 M9 rfl (by omega) ⟨((Fr.refl M).sI (by unfold SHx; omega)).trans (p1.mono ?_), ?_, fun k hk => ?_⟩
  · intro k j s h; unfold SHx at h ⊢; omega
  · rw [p2]; congr 1
  · have h9 := p3 k (by omega)
    rw [Nat.zero_add] at h9
    rw [h9, hx, if_pos (by omega)]

