/-! THE MODEL'S PARSER: a line at the place o of its text, n characters L; position a (from o), fault f, its place fp -/
def wP (o : Nat) (M : Mem) (a : Nat) (f fp : Int32) : Mem := sI (sI (sI M 11 0 7 (nI (o + a))) 11 0 9 f) 11 0 10 fp
theorem wP_at {o : Nat} {M : Mem} {a : Nat} {f fp : Int32} : mI (wP o M a f fp) 11 0 7 = nI (o + a) := rfl
theorem wP_f {o : Nat} {M : Mem} {a : Nat} {f fp : Int32} : mI (wP o M a f fp) 11 0 9 = f := rfl
theorem wP_s7 {o : Nat} {M : Mem} {a b : Nat} {f fp : Int32} : sI (wP o M a f fp) 11 0 7 (nI (o + b)) = wP o M b f fp := by
  unfold wP
  rw [sI_comm (by decide), sI_comm (k := 11) (j := 0) (s := 9) (by decide), sI_sI]
theorem wP_s9 {o : Nat} {M : Mem} {a : Nat} {f g fp : Int32} : sI (wP o M a f fp) 11 0 9 g = wP o M a g fp := by
  unfold wP
  rw [sI_comm (by decide), sI_sI]
theorem wP_s10 {o : Nat} {M : Mem} {a : Nat} {f fp gp : Int32} : sI (wP o M a f fp) 11 0 10 gp = wP o M a f gp := by
  unfold wP
  rw [sI_sI]
/-- a line of the model's text -/
def LnOK (o n : Nat) (L : Nat → Nat) (M : Mem) : Prop := mI M 11 0 8 = nI (o + n) ∧ o + n ≤ 4608 ∧ n ≤ 48 ∧ (∀ i, i < n → mI M 25 0 (o + i) = nI (L i)) ∧ (∀ i, i < n → 0 < L i ∧ L i < 256) ∧ ∃ l : Nat, o = 48 * l ∧ mI M 11 0 6 = nI l
set_option maxRecDepth 20000 in
set_option maxHeartbeats 4000000 in
theorem c_isSmall (G : GX) {M : Mem} (x : Nat) (hx : x < 2 ^ 31) : MetM G yX12_isSmall iX12_isSmall [vI (nI x)] M (fun r M' => r = some (vI (bI (isLow x))) ∧ M' = M) := by
  refine MetM.of (ls := [some (vI (nI x))]) (by decide) rfl (Nat.le_of_ble_eq_true rfl) rfl ?_
  intro hM0
  refine Rn.iload_n dX12_isSmall_0 rfl rfl ?_
  refine Rn.bipush (v := nI 97) dX12_isSmall_1 (by decide) ?_
  refine Rn.icmp_ltN (tgt := 16) dX12_isSmall_3 (by decide) hx (by decide) (fun c3 => ?_) (fun c3 => ?_)
  · refine Rn.iconst (v := nI 0) dX12_isSmall_16 (by decide) ?_
    refine Rn.zret rfl rfl dX12_isSmall_17 ?_
    refine ⟨?_, rfl⟩; simp [isLow, bI, *]; try omega
  · refine Rn.iload_n dX12_isSmall_6 rfl rfl ?_
    refine Rn.bipush (v := nI 122) dX12_isSmall_7 (by decide) ?_
    refine Rn.icmp_gtN (tgt := 16) dX12_isSmall_9 (by decide) hx (by decide) (fun c9 => ?_) (fun c9 => ?_)
    · refine Rn.iconst (v := nI 0) dX12_isSmall_16 (by decide) ?_
      refine Rn.zret rfl rfl dX12_isSmall_17 ?_
      refine ⟨?_, rfl⟩; simp [isLow, bI, *]; try omega
    · refine Rn.iconst (v := nI 1) dX12_isSmall_12 (by decide) ?_
      refine Rn.goto (tgt := 17) dX12_isSmall_13 (by decide) ?_
      refine Rn.zret rfl rfl dX12_isSmall_17 ?_
      refine ⟨?_, rfl⟩; simp [isLow, bI, *]; try omega

set_option maxRecDepth 20000 in
set_option maxHeartbeats 4000000 in
theorem c_isDigit (G : GX) {M : Mem} (x : Nat) (hx : x < 2 ^ 31) : MetM G yX12_isDigit iX12_isDigit [vI (nI x)] M (fun r M' => r = some (vI (bI (isDig x))) ∧ M' = M) := by
  refine MetM.of (ls := [some (vI (nI x))]) (by decide) rfl (Nat.le_of_ble_eq_true rfl) rfl ?_
  intro hM0
  refine Rn.iload_n dX12_isDigit_0 rfl rfl ?_
  refine Rn.bipush (v := nI 48) dX12_isDigit_1 (by decide) ?_
  refine Rn.icmp_ltN (tgt := 16) dX12_isDigit_3 (by decide) hx (by decide) (fun c3 => ?_) (fun c3 => ?_)
  · refine Rn.iconst (v := nI 0) dX12_isDigit_16 (by decide) ?_
    refine Rn.zret rfl rfl dX12_isDigit_17 ?_
    refine ⟨?_, rfl⟩; simp [isDig, bI, *]; try omega
  · refine Rn.iload_n dX12_isDigit_6 rfl rfl ?_
    refine Rn.bipush (v := nI 57) dX12_isDigit_7 (by decide) ?_
    refine Rn.icmp_gtN (tgt := 16) dX12_isDigit_9 (by decide) hx (by decide) (fun c9 => ?_) (fun c9 => ?_)
    · refine Rn.iconst (v := nI 0) dX12_isDigit_16 (by decide) ?_
      refine Rn.zret rfl rfl dX12_isDigit_17 ?_
      refine ⟨?_, rfl⟩; simp [isDig, bI, *]; try omega
    · refine Rn.iconst (v := nI 1) dX12_isDigit_12 (by decide) ?_
      refine Rn.goto (tgt := 17) dX12_isDigit_13 (by decide) ?_
      refine Rn.zret rfl rfl dX12_isDigit_17 ?_
      refine ⟨?_, rfl⟩; simp [isDig, bI, *]; try omega

