theorem wb_tb (n : Nat) : (lN n).toBitVec = BitVec.ofNat 64 n := rfl
theorem wb_inj {a b : Int64} (h : a.toBitVec = b.toBitVec) : a = b := Int64.toBitVec_inj.mp h
theorem wb_tn {n : Nat} (h : n < 2 ^ 64) : (lN n).toBitVec.toNat = n := by rw [wb_tb, BitVec.toNat_ofNat, Nat.mod_eq_of_lt h]
theorem wb_c : ∀ k, k < 64 → ((nI k).toInt64 &&& 63) = lN k := by decide +kernel
theorem wb_sm : ∀ k, k < 64 → (BitVec.ofNat 64 k).smod 64 = BitVec.ofNat 64 k := by decide +kernel
theorem wb_lt2 {a b : Nat} (h : a < b) : 2 ^ a < 2 ^ b := Nat.pow_lt_pow_right (by decide) h
theorem wb_and {a b : Nat} (ha : a < 2 ^ 64) (hb : b < 2 ^ 64) : lN a &&& lN b = lN (a &&& b) := by
  apply wb_inj
  rw [Int64.toBitVec_and, wb_tb, wb_tb, wb_tb]
  apply BitVec.eq_of_toNat_eq
  rw [BitVec.toNat_and, BitVec.toNat_ofNat, BitVec.toNat_ofNat, BitVec.toNat_ofNat, Nat.mod_eq_of_lt ha, Nat.mod_eq_of_lt hb, Nat.mod_eq_of_lt (Nat.and_lt_two_pow _ hb)]
theorem wb_mask {n k : Nat} (hn : n < 2 ^ 64) (hk : k < 64) : lN n &&& lN (2 ^ k - 1) = lN (n % 2 ^ k) := by
  rw [wb_and hn (by have := wb_lt2 hk; omega), Nat.and_two_pow_sub_one_eq_mod]
theorem pf_lI {a : Nat} (h : a < 2 ^ 63) : (lN a).toInt = (a : Int) := lg_ofNat_toInt h
theorem pf_shr {a d : Nat} {D : Int64} (hD : (D.toBitVec.smod 64).toNat = d) (h : a < 2 ^ 62) : lN a >>> D = lN (a / 2 ^ d) := by
  have hd : a / 2 ^ d ≤ a := Nat.div_le_self _ _
  apply Int64.toInt_inj.mp
  have e : (lN a >>> D).toInt = (lN a).toInt >>> d := by
    rw [← hD]
    exact BitVec.toInt_sshiftRight ..
  rw [e, Int.shiftRight_eq_div_pow, pf_lI (by omega), pf_lI (by omega)]
  rfl
theorem shrJ {v k : Nat} (hv : v < 2 ^ 62) (hk : k < 64) : lN v >>> ((nI k).toInt64 &&& 63) = lN (v / 2 ^ k) := by
  rw [wb_c k hk]
  refine pf_shr ?_ hv
  rw [wb_tb, wb_sm k hk, BitVec.toNat_ofNat, Nat.mod_eq_of_lt (by omega)]
theorem andJ {v : Nat} (hv : v < 2 ^ 62) : lN v &&& lN 255 = lN (v % 256) := wb_mask (k := 8) (by omega) (by decide)
theorem i2c_N {m : Nat} (h : m < 65536) : ((nI m).toUInt32 % 65536).toInt32 = nI m := by rw [pk_char, pk_tn (by omega), Nat.mod_eq_of_lt h]
theorem lcmp0 {x : Int64} : lg_cmp x (lN 0) = 0 ↔ x = lN 0 := by
  unfold lg_cmp
  split
  · rename_i h; constructor
    · intro e; exact absurd e (by decide)
    · intro e; subst e; exact absurd h (by decide)
  · split
    · rename_i h; exact ⟨fun _ => h, fun _ => rfl⟩
    · rename_i h; exact ⟨fun e => absurd e (by decide), fun e => absurd e h⟩
def nbF : Nat → Nat → Nat
  | 0, _ => 0
  | f + 1, v => if v = 0 then 0 else nbF f (v / 256) + 1
def nb (v : Nat) : Nat := nbF 8 v
theorem nbF_s : ∀ (f v : Nat), v < 256 ^ f → nbF (f + 1) v = nbF f v
  | 0, v, h => by
    have : v = 0 := by simpa using h
    subst this; rfl
  | f + 1, v, h => by
    show (if v = 0 then 0 else nbF (f + 1) (v / 256) + 1) = (if v = 0 then 0 else nbF f (v / 256) + 1)
    rw [nbF_s f (v / 256) (by rw [Nat.pow_succ] at h; omega)]
theorem nb_0 : nb 0 = 0 := rfl
theorem nb_s {v : Nat} (h0 : v ≠ 0) (h : v < 256 ^ 7) : nb v = nb (v / 256) + 1 := by
  unfold nb
  rw [nbF_s 7 (v / 256) (by omega), nbF, if_neg h0]
theorem nb_le {v : Nat} : nb v ≤ 8 := by
  have key : ∀ f v, nbF f v ≤ f := by
    intro f
    induction f with
    | zero => intro v; exact Nat.le_refl 0
    | succ f ih => intro v; rw [nbF]; split; omega; have := ih (v / 256); omega
  exact key 8 v
def mtF (L : Nat → Nat) (a v n : Nat) : Nat → Nat → Bool
  | 0, _ => true
  | d + 1, k => decide (L (a + k) = v / 2 ^ (8 * (n - 1 - k)) % 256) && mtF L a v n d (k + 1)
def isW (L : Nat → Nat) (a e v : Nat) : Bool := decide (e - a = nb v) && mtF L a v (nb v) (nb v) 0
set_option maxRecDepth 20000 in
set_option maxHeartbeats 4000000 in
theorem c_isWord (G : GX) {o n : Nat} {L : Nat → Nat} {M : Mem} (h : LnOK o n L M) (s : PS) (a e v : Nat) (ha : a ≤ e) (he : e ≤ n) (hv : v < 256 ^ 7) : MetM G yX12_isWord iX12_isWord [vR 11 0, vI (nI (o + a)), vI (nI (o + e)), vJ (lN v)] (wS o M s) (fun r M' => r = some (vI (bI (isW L a e v))) ∧ M' = wS o M s) := by
  refine MetM.of (ls := [some (vR 11 0), some (vI (nI (o + a))), some (vI (nI (o + e))), some (vJ (lN v)), none, none, none, none]) (by decide) rfl (Nat.le_of_ble_eq_true rfl) rfl ?_
  intro hM0
  have hq1 := h.2.1
  have hq2 := h.2.2.1
  have loop2 : ∀ (d k : Nat) (b : Bool), k ≤ nb v → nb v - k = d → isW L a e v = (b && mtF L a v (nb v) (nb v - k) k) → (b = true → e - a = nb v) → Rn G iX12_isWord (fun r M' => r = some (vI (bI (isW L a e v))) ∧ M' = wS o M s) 44 [some (vR 11 0), some (vI (nI (o + a))), some (vI (nI (o + e))), some (vJ (lN v)), none, some (vI (nI (nb v))), some (vI (bI b)), some (vI (nI k))] [] (wS o M s) := by
    intro d
    induction d using Nat.strongRecOn with
    | ind d ih =>
      intro k b hk hd hw hbe
      refine Rn.iload (pc := 44) dX12_isWord_44 rfl ?_
      refine Rn.iload (pc := 46) dX12_isWord_46 rfl ?_
      refine Rn.icmp_geN (pc := 48) (tgt := 99) dX12_isWord_48 (by decide) (by have := nb_le (v := v); omega) (by have := nb_le (v := v); omega) (fun c48 => ?_) (fun c48 => ?_)
      · refine Rn.iload (pc := 99) dX12_isWord_99 rfl ?_
        refine Rn.zret (pc := 101) rfl bI_n dX12_isWord_101 ?_
        refine ⟨?_, rfl⟩; rw [hw, show nb v - k = 0 by omega, mtF, Bool.and_true]
      · refine Rn.iload (pc := 51) dX12_isWord_51 rfl ?_
        refine Rn.if_eqB (pc := 53) (tgt := 99) dX12_isWord_53 (by decide) (fun c53 => ?_) (fun c53 => ?_)
        · refine Rn.iload (pc := 99) dX12_isWord_99 rfl ?_
          refine Rn.zret (pc := 101) rfl bI_n dX12_isWord_101 ?_
          refine ⟨?_, rfl⟩; rw [hw, c53]; rfl
        · have hnb := nb_le (v := v)
          have hbe1 := hbe c53
          refine Rn.aload_n (pc := 56) dX12_isWord_56 rfl rfl ?_
          refine Rn.getR (pc := 57) flX12_20 mu11_5 fx11_5 dX12_isWord_57 ?_
          refine Rn.iload_n (pc := 60) dX12_isWord_60 rfl rfl ?_
          refine Rn.iload (pc := 61) dX12_isWord_61 rfl ?_
          refine Rn.iaddN (pc := 63) dX12_isWord_63 ?_
          rw [Nat.add_assoc]
          refine Rn.caldN (pc := 64) ak25 (by omega) (by decide) (wS_tx h (a + k) (by omega)) dX12_isWord_64 ?_
          refine Rn.lload_n (pc := 65) dX12_isWord_65 rfl rfl ?_
          refine Rn.bipush (pc := 66) (v := nI 8) dX12_isWord_66 (by decide) ?_
          refine Rn.iload (pc := 68) dX12_isWord_68 rfl ?_
          refine Rn.iconst (pc := 70) (v := nI 1) dX12_isWord_70 (by decide) ?_
          refine Rn.isub (pc := 71) dX12_isWord_71 ?_
          rw [pk_sub (by omega)]
          refine Rn.iload (pc := 72) dX12_isWord_72 rfl ?_
          refine Rn.isub (pc := 74) dX12_isWord_74 ?_
          rw [pk_sub (by omega)]
          refine Rn.imulN (pc := 75) dX12_isWord_75 ?_
          refine Rn.lshr (pc := 76) dX12_isWord_76 ?_
          rw [shrJ (by omega) (by omega)]
          refine Rn.ldc2 (pc := 77) dX12_isWord_77 wlX12_129 ?_
          refine Rn.land (pc := 80) dX12_isWord_80 ?_
          rw [andJ (Nat.lt_of_le_of_lt (Nat.div_le_self _ _) (by omega))]
          refine Rn.l2i (pc := 81) dX12_isWord_81 ?_
          rw [lN_i]
          refine Rn.i2c (pc := 82) dX12_isWord_82 ?_
          rw [i2c_N (by omega)]
          refine Rn.icmp_neN (pc := 83) (tgt := 90) dX12_isWord_83 (by decide) (by have := h.2.2.2.2.1 (a + k) (by omega); omega) (by omega) (fun c83 => ?_) (fun c83 => ?_)
          · refine Rn.iconst (pc := 90) (v := nI 0) dX12_isWord_90 (by decide) ?_
            refine Rn.istore (pc := 91) dX12_isWord_91 (by decide) rfl st8_6 ?_
            refine Rn.iincN (pc := 93) (n := 1) dX12_isWord_93 rfl (by decide) (by decide) rfl st8_7 ?_
            refine Rn.goto (pc := 96) (tgt := 44) dX12_isWord_96 (by decide) ?_
            refine ih (nb v - (k + 1)) (by omega) (k + 1) false (by omega) rfl ?_ (fun _ => hbe1)
            rw [hw, c53, show nb v - k = (nb v - (k + 1)) + 1 by omega, mtF]
            simp [c83]
          · refine Rn.iconst (pc := 86) (v := nI 1) dX12_isWord_86 (by decide) ?_
            refine Rn.goto (pc := 87) (tgt := 91) dX12_isWord_87 (by decide) ?_
            refine Rn.istore (pc := 91) dX12_isWord_91 (by decide) rfl st8_6 ?_
            refine Rn.iincN (pc := 93) (n := 1) dX12_isWord_93 rfl (by decide) (by decide) rfl st8_7 ?_
            refine Rn.goto (pc := 96) (tgt := 44) dX12_isWord_96 (by decide) ?_
            refine ih (nb v - (k + 1)) (by omega) (k + 1) true (by omega) rfl ?_ (fun _ => hbe1)
            rw [hw, c53, show nb v - k = (nb v - (k + 1)) + 1 by omega, mtF]
            simp [c83]
  have T26 : Rn G iX12_isWord (fun r M' => r = some (vI (bI (isW L a e v))) ∧ M' = wS o M s) 26 [some (vR 11 0), some (vI (nI (o + a))), some (vI (nI (o + e))), some (vJ (lN v)), none, some (vI (nI (nb v))), some (vJ (lN 0)), none] [] (wS o M s) := by
    refine Rn.iload_n (pc := 26) dX12_isWord_26 rfl rfl ?_
    refine Rn.iload_n (pc := 27) dX12_isWord_27 rfl rfl ?_
    refine Rn.isub (pc := 28) dX12_isWord_28 ?_
    rw [pk_sub (by omega), show o + e - (o + a) = e - a by omega]
    refine Rn.iload (pc := 29) dX12_isWord_29 rfl ?_
    refine Rn.icmp_neN (pc := 31) (tgt := 38) dX12_isWord_31 (by decide) (by omega) (by have := nb_le (v := v); omega) (fun c31 => ?_) (fun c31 => ?_)
    · refine Rn.iconst (pc := 38) (v := nI 0) dX12_isWord_38 (by decide) ?_
      refine Rn.istore (pc := 39) dX12_isWord_39 (by decide) rfl st8_6 ?_
      refine Rn.iconst (pc := 41) (v := nI 0) dX12_isWord_41 (by decide) ?_
      refine Rn.istore (pc := 42) dX12_isWord_42 (by decide) rfl st8_7 ?_
      exact loop2 _ 0 false (Nat.zero_le _) rfl (by simp [isW, c31]) (fun q => by cases q)
    · refine Rn.iconst (pc := 34) (v := nI 1) dX12_isWord_34 (by decide) ?_
      refine Rn.goto (pc := 35) (tgt := 39) dX12_isWord_35 (by decide) ?_
      refine Rn.istore (pc := 39) dX12_isWord_39 (by decide) rfl st8_6 ?_
      refine Rn.iconst (pc := 41) (v := nI 0) dX12_isWord_41 (by decide) ?_
      refine Rn.istore (pc := 42) dX12_isWord_42 (by decide) rfl st8_7 ?_
      exact loop2 _ 0 true (Nat.zero_le _) rfl (by simp [isW, c31]) (fun q => c31)
  have loop1 : ∀ (u c : Nat), u ≤ v → nb v = c + nb u → Rn G iX12_isWord (fun r M' => r = some (vI (bI (isW L a e v))) ∧ M' = wS o M s) 6 [some (vR 11 0), some (vI (nI (o + a))), some (vI (nI (o + e))), some (vJ (lN v)), none, some (vI (nI c)), some (vJ (lN u)), none] [] (wS o M s) := by
    intro u
    induction u using Nat.strongRecOn with
    | ind u ih =>
      intro c hu hn
      refine Rn.lload (pc := 6) dX12_isWord_6 rfl ?_
      refine Rn.lconst (pc := 8) (v := lN 0) dX12_isWord_8 (by decide) ?_
      refine Rn.lcmp (pc := 9) dX12_isWord_9 ?_
      refine Rn.if_eq (pc := 10) (y := 0) (tgt := 26) dX12_isWord_10 (by decide) (fun c10 => ?_) (fun c10 => ?_)
      · have hu0 : u = 0 := by
          have h9 := lcmp0.mp c10
          have h8 := congrArg Int64.toInt h9
          rw [pf_lI (by omega), pf_lI (by decide)] at h8
          omega
        subst hu0
        rw [nb_0, Nat.add_zero] at hn
        rw [← hn]
        exact T26
      · have hu0 : u ≠ 0 := fun e9 => c10 (by rw [e9]; exact lcmp0.mpr rfl)
        refine Rn.iincN (pc := 13) (n := 1) dX12_isWord_13 rfl (by decide) (by decide) rfl st8_5 ?_
        refine Rn.lload (pc := 16) dX12_isWord_16 rfl ?_
        refine Rn.bipush (pc := 18) (v := nI 8) dX12_isWord_18 (by decide) ?_
        refine Rn.lshr (pc := 20) dX12_isWord_20 ?_
        rw [shrJ (by omega) (by decide)]
        refine Rn.lstore (pc := 21) dX12_isWord_21 (by decide) rfl sl8_6 ?_
        refine Rn.goto (pc := 23) (tgt := 6) dX12_isWord_23 (by decide) ?_
        exact ih (u / 2 ^ 8) (by omega) (c + 1) (by omega) (by rw [hn, nb_s hu0 (by omega), show u / 256 = u / 2 ^ 8 from rfl]; omega)
  refine Rn.iconst (pc := 0) (v := nI 0) dX12_isWord_0 (by decide) ?_
  refine Rn.istore (pc := 1) dX12_isWord_1 (by decide) rfl st8_5 ?_
  refine Rn.lload_n (pc := 3) dX12_isWord_3 rfl rfl ?_
  refine Rn.lstore (pc := 4) dX12_isWord_4 (by decide) rfl sl8_6 ?_
  exact loop1 v 0 (Nat.le_refl _) (by omega)

