def up4 (v : Nat) : Nat := (v + 3) / 4 * 4
def pE (sz : Nat → Nat) (sec frm : Nat) : Nat → Nat
  | 0 => frm
  | m + 1 => if 0 < sz (3 * m + sec) then up4 (pE sz sec frm m) + sz (3 * m + sec) else pE sz sec frm m
theorem up4_b {v : Nat} : v ≤ up4 v ∧ up4 v ≤ v + 3 := by unfold up4; omega
theorem pE_b {sz : Nat → Nat} {sec frm : Nat} (h : ∀ s, sz s ≤ 1024) : ∀ m, frm ≤ pE sz sec frm m ∧ pE sz sec frm m ≤ frm + 1027 * m
  | 0 => ⟨Nat.le_refl _, Nat.le_refl _⟩
  | m + 1 => by
    have h1 := pE_b (sec := sec) (frm := frm) h m
    have h2 := up4_b (v := pE sz sec frm m)
    have h3 := h (3 * m + sec)
    rw [pE]
    split <;> omega
theorem pE_mono {sz : Nat → Nat} {sec frm : Nat} {m : Nat} : ∀ d, pE sz sec frm m ≤ pE sz sec frm (m + d)
  | 0 => Nat.le_refl _
  | d + 1 => by
    refine Nat.le_trans (pE_mono d) ?_
    rw [← Nat.add_assoc, pE]
    have h2 := up4_b (v := pE sz sec frm (m + d))
    split <;> omega
def bsA (sz : Nat → Nat) (s : Nat) : Nat := if s % 3 = 0 then up4 (pE sz 0 8 (s / 3)) else if s % 3 = 1 then up4 (pE sz 1 536870912 (s / 3)) else up4 (pE sz 2 (pE sz 1 536870912 4) (s / 3))
def fbA (sz : Nat → Nat) (m : Nat) : Nat := up4 (pE sz 1 (pE sz 0 8 4) m)
theorem bsA_b {sz : Nat → Nat} (h : ∀ s, sz s ≤ 1024) {s : Nat} (hs : s < 12) : bsA sz s ≤ 536880000 := by
  unfold bsA
  split
  · have h1 := (pE_b (sec := 0) (frm := 8) h (s / 3)).2
    have h2 := up4_b (v := pE sz 0 8 (s / 3))
    omega
  · split
    · have h1 := (pE_b (sec := 1) (frm := 536870912) h (s / 3)).2
      have h2 := up4_b (v := pE sz 1 536870912 (s / 3))
      omega
    · have h1 := (pE_b (sec := 2) (frm := pE sz 1 536870912 4) h (s / 3)).2
      have h3 := (pE_b (sec := 1) (frm := 536870912) h 4).2
      have h2 := up4_b (v := pE sz 2 (pE sz 1 536870912 4) (s / 3))
      omega
set_option maxRecDepth 20000 in
set_option maxHeartbeats 4000000 in
theorem c_up (G : GX) {M : Mem} (v : Nat) (hv : v < 2 ^ 30) : MetM G yX12_up iX12_up [vI (nI v)] M (fun r M' => r = some (vI (nI (up4 v))) ∧ M' = M) := by
  refine MetM.of (ls := [some (vI (nI v))]) (by decide) rfl (Nat.le_of_ble_eq_true rfl) rfl ?_
  intro hM0
  refine Rn.iload_n (pc := 0) dX12_up_0 rfl rfl ?_
  refine Rn.iconst (pc := 1) (v := nI 3) dX12_up_1 (by decide) ?_
  refine Rn.iaddN (pc := 2) dX12_up_2 ?_
  refine Rn.iconst (pc := 3) (v := nI 4) dX12_up_3 (by decide) ?_
  refine Rn.idiv (pc := 4) dX12_up_4 (by decide) ?_
  rw [pk_div (by omega) (by decide) (by decide)]
  refine Rn.iconst (pc := 5) (v := nI 4) dX12_up_5 (by decide) ?_
  refine Rn.imulN (pc := 6) dX12_up_6 ?_
  refine Rn.iret (pc := 7) rfl dX12_up_7 ?_
  exact ⟨rfl, rfl⟩

theorem Rn.lsEq {G : GX} {I : MIx} {Post : Option AV → Mem → Prop} {pc : Nat} {ls ls' : List (Option AV)} {st : List AV} {M : Mem} (h : ls' = ls) (k : Rn G I Post pc ls st M) : Rn G I Post pc ls' st M := h ▸ k
def SPl (kk sec k _j s : Nat) : Prop := k = kk ∧ s % 3 = sec
set_option maxRecDepth 20000 in
set_option maxHeartbeats 4000000 in
theorem c_place_f (G : GX) {M : Mem} (sz : Nat → Nat) (sec frm : Nat) (hsec : sec < 3) (hfrm : frm ≤ 536900000) (hz : ∀ s, sz s ≤ 1024) (hsz : ∀ s, s < 12 → mI M 31 0 s = nI (sz s)) : MetM G yX12_place iX12_place [vR 11 0, vI (nI sec), vI (nI frm), vI (bI true)] M (fun r M' => r = some (vI (nI (pE sz sec frm 4))) ∧ Fr (SPl 33 sec) M M' ∧ ∀ m, m < 4 → mI M' 33 0 (3 * m + sec) = nI (up4 (pE sz sec frm m))) := by
  refine MetM.of (ls := [some (vR 11 0), some (vI (nI sec)), some (vI (nI frm)), some (vI (bI true)), none, none, none]) (by decide) rfl (Nat.le_of_ble_eq_true rfl) rfl ?_
  intro hM0
  have loop : ∀ (d t : Nat) (N : Mem) (x6 : Option AV), 4 - t = d → t ≤ 4 → Fr (SPl 33 sec) M N → (∀ m, m < t → mI N 33 0 (3 * m + sec) = nI (up4 (pE sz sec frm m))) → Rn G iX12_place (fun r M' => r = some (vI (nI (pE sz sec frm 4))) ∧ Fr (SPl 33 sec) M M' ∧ ∀ m, m < 4 → mI M' 33 0 (3 * m + sec) = nI (up4 (pE sz sec frm m))) 6 [some (vR 11 0), some (vI (nI sec)), some (vI (nI frm)), some (vI (bI true)), some (vI (nI (pE sz sec frm t))), some (vI (nI t)), x6] [] N := by
    intro d
    induction d using Nat.strongRecOn with
    | ind d ih =>
      intro t N x6 hd ht4 fN hb9
      refine Rn.iload (pc := 6) dX12_place_6 rfl ?_
      refine Rn.iconst (pc := 8) (v := nI 4) dX12_place_8 (by decide) ?_
      refine Rn.icmp_geN (pc := 9) (tgt := 87) dX12_place_9 (by decide) (by omega) (by omega) (fun c9 => ?_) (fun c9 => ?_)
      · refine Rn.iload (pc := 87) dX12_place_87 rfl ?_
        refine Rn.iret (pc := 89) rfl dX12_place_89 ?_
        have h4 : t = 4 := by omega
        subst h4
        exact ⟨rfl, fN, hb9⟩
      · have ht : t < 4 := c9
        have hp := (pE_b (sec := sec) (frm := frm) hz t).2
        have hz9 := hz (3 * t + sec)
        refine Rn.iconst (pc := 12) (v := nI 3) dX12_place_12 (by decide) ?_
        refine Rn.iload (pc := 13) dX12_place_13 rfl ?_
        refine Rn.imulN (pc := 15) dX12_place_15 ?_
        refine Rn.iload_n (pc := 16) dX12_place_16 rfl rfl ?_
        refine Rn.iaddN (pc := 17) dX12_place_17 ?_
        refine Rn.istore (pc := 18) dX12_place_18 (by decide) rfl st7_6 ?_
        refine Rn.iload_n (pc := 20) dX12_place_20 rfl rfl ?_
        refine Rn.if_eqB (pc := 21) (tgt := 39) dX12_place_21 (by decide) (fun c21 => ?_) (fun c21 => ?_)
        · cases c21
        · refine Rn.aload_n (pc := 24) dX12_place_24 rfl rfl ?_
          refine Rn.getR (pc := 25) flX12_45 mu11_28 fx11_28 dX12_place_25 ?_
          refine Rn.iload (pc := 28) dX12_place_28 rfl ?_
          refine Rn.iload (pc := 30) dX12_place_30 rfl ?_
          refine Rn.callS (pc := 32) (as := [_]) csX12_353 ⟨by decide, by decide⟩ dX12_place_32 (Nat.le_of_ble_eq_true rfl) rfl (c_up G (pE sz sec frm t) (by omega)) ?_
          rintro _ M9 ⟨rfl, h9⟩
          rw [h9]
          refine Rn.iastN (pc := 35) ak33 (by omega) (by decide) dX12_place_35 ?_
          refine Rn.goto (pc := 36) (tgt := 51) dX12_place_36 (by decide) ?_
          have hs9 : mI (sI N 33 0 (3 * t + sec) (nI (up4 (pE sz sec frm t)))) 31 0 (3 * t + sec) = nI (sz (3 * t + sec)) := (fN.I (by unfold SPl; omega)).trans (hsz _ (by omega))
          refine Rn.aload_n (pc := 51) dX12_place_51 rfl rfl ?_
          refine Rn.getR (pc := 52) flX12_39 mu11_26 fx11_26 dX12_place_52 ?_
          refine Rn.iload (pc := 55) dX12_place_55 rfl ?_
          refine Rn.ialdN (pc := 57) ak31 (by omega) (by decide) hs9 dX12_place_57 ?_
          refine Rn.if_le (pc := 58) (y := 0) (tgt := 77) dX12_place_58 (by decide) (fun c58 => ?_) (fun c58 => ?_)
          · refine Rn.iload (pc := 77) dX12_place_77 rfl ?_
            refine Rn.istore (pc := 79) dX12_place_79 (by decide) rfl st7_4 ?_
            refine Rn.iincN (pc := 81) (n := 1) dX12_place_81 rfl (by decide) (by decide) rfl st7_5 ?_
            refine Rn.goto (pc := 84) (tgt := 6) dX12_place_84 (by decide) ?_
            refine Rn.lsEq (ls := [some (vR 11 0), some (vI (nI sec)), some (vI (nI frm)), some (vI (bI true)), some (vI (nI (pE sz sec frm (t + 1)))), some (vI (nI (t + 1))), some (vI (nI (3 * t + sec)))]) ?_ ?_
            · rw [show pE sz sec frm t = pE sz sec frm (t + 1) by rw [pE, if_neg (by have := nI_le0 (by omega) c58; omega)]]
            · refine ih (4 - (t + 1)) (by omega) (t + 1) _ _ rfl (by omega) (fN.sI ⟨rfl, by omega⟩) (fun m hm => ?_)
              rw [mI_sI]
              by_cases z : m = t
              · rw [if_pos ⟨rfl, rfl, by omega⟩, z]
              · rw [if_neg (fun y => z (by omega))]; exact hb9 m (by omega)
          · refine Rn.iload (pc := 61) dX12_place_61 rfl ?_
            refine Rn.callS (pc := 63) (as := [_]) csX12_353 ⟨by decide, by decide⟩ dX12_place_63 (Nat.le_of_ble_eq_true rfl) rfl (c_up G (pE sz sec frm t) (by omega)) ?_
            rintro _ M8 ⟨rfl, h8⟩
            rw [h8]
            refine Rn.aload_n (pc := 66) dX12_place_66 rfl rfl ?_
            refine Rn.getR (pc := 67) flX12_39 mu11_26 fx11_26 dX12_place_67 ?_
            refine Rn.iload (pc := 70) dX12_place_70 rfl ?_
            refine Rn.ialdN (pc := 72) ak31 (by omega) (by decide) hs9 dX12_place_72 ?_
            refine Rn.iaddN (pc := 73) dX12_place_73 ?_
            refine Rn.goto (pc := 74) (tgt := 79) dX12_place_74 (by decide) ?_
            refine Rn.istore (pc := 79) dX12_place_79 (by decide) rfl st7_4 ?_
            refine Rn.iincN (pc := 81) (n := 1) dX12_place_81 rfl (by decide) (by decide) rfl st7_5 ?_
            refine Rn.goto (pc := 84) (tgt := 6) dX12_place_84 (by decide) ?_
            refine Rn.lsEq (ls := [some (vR 11 0), some (vI (nI sec)), some (vI (nI frm)), some (vI (bI true)), some (vI (nI (pE sz sec frm (t + 1)))), some (vI (nI (t + 1))), some (vI (nI (3 * t + sec)))]) ?_ ?_
            · rw [show up4 (pE sz sec frm t) + sz (3 * t + sec) = pE sz sec frm (t + 1) by rw [pE, if_pos (by rcases Nat.eq_zero_or_pos (sz (3 * t + sec)) with q | q; exact absurd (by rw [q]; decide) c58; exact q)]]
            · refine ih (4 - (t + 1)) (by omega) (t + 1) _ _ rfl (by omega) (fN.sI ⟨rfl, by omega⟩) (fun m hm => ?_)
              rw [mI_sI]
              by_cases z : m = t
              · rw [if_pos ⟨rfl, rfl, by omega⟩, z]
              · rw [if_neg (fun y => z (by omega))]; exact hb9 m (by omega)
  refine Rn.iload_n (pc := 0) dX12_place_0 rfl rfl ?_
  refine Rn.istore (pc := 1) dX12_place_1 (by decide) rfl st7_4 ?_
  refine Rn.iconst (pc := 3) (v := nI 0) dX12_place_3 (by decide) ?_
  refine Rn.istore (pc := 4) dX12_place_4 (by decide) rfl st7_5 ?_
  exact loop 4 0 M _ rfl (by decide) (Fr.refl M) (fun m hm => absurd hm (Nat.not_lt_zero m))

set_option maxRecDepth 20000 in
set_option maxHeartbeats 4000000 in
theorem c_place (G : GX) {M : Mem} (sz : Nat → Nat) (sec frm : Nat) (hsec : sec < 3) (hfrm : frm ≤ 536900000) (hz : ∀ s, sz s ≤ 1024) (hsz : ∀ s, s < 12 → mI M 31 0 s = nI (sz s)) : MetM G yX12_place iX12_place [vR 11 0, vI (nI sec), vI (nI frm), vI (bI false)] M (fun r M' => r = some (vI (nI (pE sz sec frm 4))) ∧ Fr (SPl 32 sec) M M' ∧ ∀ m, m < 4 → mI M' 32 0 (3 * m + sec) = nI (up4 (pE sz sec frm m))) := by
  refine MetM.of (ls := [some (vR 11 0), some (vI (nI sec)), some (vI (nI frm)), some (vI (bI false)), none, none, none]) (by decide) rfl (Nat.le_of_ble_eq_true rfl) rfl ?_
  intro hM0
  have loop : ∀ (d t : Nat) (N : Mem) (x6 : Option AV), 4 - t = d → t ≤ 4 → Fr (SPl 32 sec) M N → (∀ m, m < t → mI N 32 0 (3 * m + sec) = nI (up4 (pE sz sec frm m))) → Rn G iX12_place (fun r M' => r = some (vI (nI (pE sz sec frm 4))) ∧ Fr (SPl 32 sec) M M' ∧ ∀ m, m < 4 → mI M' 32 0 (3 * m + sec) = nI (up4 (pE sz sec frm m))) 6 [some (vR 11 0), some (vI (nI sec)), some (vI (nI frm)), some (vI (bI false)), some (vI (nI (pE sz sec frm t))), some (vI (nI t)), x6] [] N := by
    intro d
    induction d using Nat.strongRecOn with
    | ind d ih =>
      intro t N x6 hd ht4 fN hb9
      refine Rn.iload (pc := 6) dX12_place_6 rfl ?_
      refine Rn.iconst (pc := 8) (v := nI 4) dX12_place_8 (by decide) ?_
      refine Rn.icmp_geN (pc := 9) (tgt := 87) dX12_place_9 (by decide) (by omega) (by omega) (fun c9 => ?_) (fun c9 => ?_)
      · refine Rn.iload (pc := 87) dX12_place_87 rfl ?_
        refine Rn.iret (pc := 89) rfl dX12_place_89 ?_
        have h4 : t = 4 := by omega
        subst h4
        exact ⟨rfl, fN, hb9⟩
      · have ht : t < 4 := c9
        have hp := (pE_b (sec := sec) (frm := frm) hz t).2
        have hz9 := hz (3 * t + sec)
        refine Rn.iconst (pc := 12) (v := nI 3) dX12_place_12 (by decide) ?_
        refine Rn.iload (pc := 13) dX12_place_13 rfl ?_
        refine Rn.imulN (pc := 15) dX12_place_15 ?_
        refine Rn.iload_n (pc := 16) dX12_place_16 rfl rfl ?_
        refine Rn.iaddN (pc := 17) dX12_place_17 ?_
        refine Rn.istore (pc := 18) dX12_place_18 (by decide) rfl st7_6 ?_
        refine Rn.iload_n (pc := 20) dX12_place_20 rfl rfl ?_
        refine Rn.if_eqB (pc := 21) (tgt := 39) dX12_place_21 (by decide) (fun c21 => ?_) (fun c21 => ?_)
        · refine Rn.aload_n (pc := 39) dX12_place_39 rfl rfl ?_
          refine Rn.getR (pc := 40) flX12_42 mu11_27 fx11_27 dX12_place_40 ?_
          refine Rn.iload (pc := 43) dX12_place_43 rfl ?_
          refine Rn.iload (pc := 45) dX12_place_45 rfl ?_
          refine Rn.callS (pc := 47) (as := [_]) csX12_353 ⟨by decide, by decide⟩ dX12_place_47 (Nat.le_of_ble_eq_true rfl) rfl (c_up G (pE sz sec frm t) (by omega)) ?_
          rintro _ M9 ⟨rfl, h9⟩
          rw [h9]
          refine Rn.iastN (pc := 50) ak32 (by omega) (by decide) dX12_place_50 ?_
          have hs9 : mI (sI N 32 0 (3 * t + sec) (nI (up4 (pE sz sec frm t)))) 31 0 (3 * t + sec) = nI (sz (3 * t + sec)) := (fN.I (by unfold SPl; omega)).trans (hsz _ (by omega))
          refine Rn.aload_n (pc := 51) dX12_place_51 rfl rfl ?_
          refine Rn.getR (pc := 52) flX12_39 mu11_26 fx11_26 dX12_place_52 ?_
          refine Rn.iload (pc := 55) dX12_place_55 rfl ?_
          refine Rn.ialdN (pc := 57) ak31 (by omega) (by decide) hs9 dX12_place_57 ?_
          refine Rn.if_le (pc := 58) (y := 0) (tgt := 77) dX12_place_58 (by decide) (fun c58 => ?_) (fun c58 => ?_)
          · refine Rn.iload (pc := 77) dX12_place_77 rfl ?_
            refine Rn.istore (pc := 79) dX12_place_79 (by decide) rfl st7_4 ?_
            refine Rn.iincN (pc := 81) (n := 1) dX12_place_81 rfl (by decide) (by decide) rfl st7_5 ?_
            refine Rn.goto (pc := 84) (tgt := 6) dX12_place_84 (by decide) ?_
            refine Rn.lsEq (ls := [some (vR 11 0), some (vI (nI sec)), some (vI (nI frm)), some (vI (bI false)), some (vI (nI (pE sz sec frm (t + 1)))), some (vI (nI (t + 1))), some (vI (nI (3 * t + sec)))]) ?_ ?_
            · rw [show pE sz sec frm t = pE sz sec frm (t + 1) by rw [pE, if_neg (by have := nI_le0 (by omega) c58; omega)]]
            · refine ih (4 - (t + 1)) (by omega) (t + 1) _ _ rfl (by omega) (fN.sI ⟨rfl, by omega⟩) (fun m hm => ?_)
              rw [mI_sI]
              by_cases z : m = t
              · rw [if_pos ⟨rfl, rfl, by omega⟩, z]
              · rw [if_neg (fun y => z (by omega))]; exact hb9 m (by omega)
          · refine Rn.iload (pc := 61) dX12_place_61 rfl ?_
            refine Rn.callS (pc := 63) (as := [_]) csX12_353 ⟨by decide, by decide⟩ dX12_place_63 (Nat.le_of_ble_eq_true rfl) rfl (c_up G (pE sz sec frm t) (by omega)) ?_
            rintro _ M8 ⟨rfl, h8⟩
            rw [h8]
            refine Rn.aload_n (pc := 66) dX12_place_66 rfl rfl ?_
            refine Rn.getR (pc := 67) flX12_39 mu11_26 fx11_26 dX12_place_67 ?_
            refine Rn.iload (pc := 70) dX12_place_70 rfl ?_
            refine Rn.ialdN (pc := 72) ak31 (by omega) (by decide) hs9 dX12_place_72 ?_
            refine Rn.iaddN (pc := 73) dX12_place_73 ?_
            refine Rn.goto (pc := 74) (tgt := 79) dX12_place_74 (by decide) ?_
            refine Rn.istore (pc := 79) dX12_place_79 (by decide) rfl st7_4 ?_
            refine Rn.iincN (pc := 81) (n := 1) dX12_place_81 rfl (by decide) (by decide) rfl st7_5 ?_
            refine Rn.goto (pc := 84) (tgt := 6) dX12_place_84 (by decide) ?_
            refine Rn.lsEq (ls := [some (vR 11 0), some (vI (nI sec)), some (vI (nI frm)), some (vI (bI false)), some (vI (nI (pE sz sec frm (t + 1)))), some (vI (nI (t + 1))), some (vI (nI (3 * t + sec)))]) ?_ ?_
            · rw [show up4 (pE sz sec frm t) + sz (3 * t + sec) = pE sz sec frm (t + 1) by rw [pE, if_pos (by rcases Nat.eq_zero_or_pos (sz (3 * t + sec)) with q | q; exact absurd (by rw [q]; decide) c58; exact q)]]
            · refine ih (4 - (t + 1)) (by omega) (t + 1) _ _ rfl (by omega) (fN.sI ⟨rfl, by omega⟩) (fun m hm => ?_)
              rw [mI_sI]
              by_cases z : m = t
              · rw [if_pos ⟨rfl, rfl, by omega⟩, z]
              · rw [if_neg (fun y => z (by omega))]; exact hb9 m (by omega)
        · cases c21
  refine Rn.iload_n (pc := 0) dX12_place_0 rfl rfl ?_
  refine Rn.istore (pc := 1) dX12_place_1 (by decide) rfl st7_4 ?_
  refine Rn.iconst (pc := 3) (v := nI 0) dX12_place_3 (by decide) ?_
  refine Rn.istore (pc := 4) dX12_place_4 (by decide) rfl st7_5 ?_
  exact loop 4 0 M _ rfl (by decide) (Fr.refl M) (fun m hm => absurd hm (Nat.not_lt_zero m))

def ad (bs : Nat → Nat) (B : LB) (k : Nat) : Nat := bs (3 * (B.2 k).1 + (B.2 k).2.1) + (B.2 k).2.2.1
set_option maxRecDepth 20000 in
set_option maxHeartbeats 4000000 in
theorem c_addressOf (G : GX) {M : Mem} (bs : Nat → Nat) (B : LB) (k : Nat) (hk : k < B.1) (h96 : B.1 ≤ 96) (hW : LbW B) (hB : LbM 0 B M) (hbs : ∀ s, s < 12 → mI M 32 0 s = nI (bs s)) : MetM G yX12_addressOf iX12_addressOf [vR 11 0, vI (nI k)] M (fun r M' => r = some (vI (nI (ad bs B k))) ∧ M' = M) := by
  refine MetM.of (ls := [some (vR 11 0), some (vI (nI k))]) (by decide) rfl (Nat.le_of_ble_eq_true rfl) rfl ?_
  intro hM0
  obtain ⟨hb1, hb2, hb3, _⟩ := hB k hk
  rw [Nat.zero_add] at hb1 hb2 hb3
  have hw := hW.1 k hk
  refine Rn.aload_n (pc := 0) dX12_addressOf_0 rfl rfl ?_
  refine Rn.getR (pc := 1) flX12_42 mu11_27 fx11_27 dX12_addressOf_1 ?_
  refine Rn.iconst (pc := 4) (v := nI 3) dX12_addressOf_4 (by decide) ?_
  refine Rn.aload_n (pc := 5) dX12_addressOf_5 rfl rfl ?_
  refine Rn.getR (pc := 6) flX12_26 mu11_22 fx11_22 dX12_addressOf_6 ?_
  refine Rn.iload_n (pc := 9) dX12_addressOf_9 rfl rfl ?_
  refine Rn.ialdN (pc := 10) ak27 (by omega) (by decide) hb1 dX12_addressOf_10 ?_
  refine Rn.imulN (pc := 11) dX12_addressOf_11 ?_
  refine Rn.aload_n (pc := 12) dX12_addressOf_12 rfl rfl ?_
  refine Rn.getR (pc := 13) flX12_29 mu11_23 fx11_23 dX12_addressOf_13 ?_
  refine Rn.iload_n (pc := 16) dX12_addressOf_16 rfl rfl ?_
  refine Rn.ialdN (pc := 17) ak28 (by omega) (by decide) hb2 dX12_addressOf_17 ?_
  refine Rn.iaddN (pc := 18) dX12_addressOf_18 ?_
  refine Rn.ialdN (pc := 19) ak32 (by omega) (by decide) (hbs _ (by omega)) dX12_addressOf_19 ?_
  refine Rn.aload_n (pc := 20) dX12_addressOf_20 rfl rfl ?_
  refine Rn.getR (pc := 21) flX12_32 mu11_24 fx11_24 dX12_addressOf_21 ?_
  refine Rn.iload_n (pc := 24) dX12_addressOf_24 rfl rfl ?_
  refine Rn.ialdN (pc := 25) ak29 (by omega) (by decide) hb3 dX12_addressOf_25 ?_
  refine Rn.iaddN (pc := 26) dX12_addressOf_26 ?_
  refine Rn.iret (pc := 27) rfl dX12_addressOf_27 ?_
  exact ⟨rfl, rfl⟩

def sH (M : Mem) (s p : Nat) (v : Int32) : Mem := sI (sI M 34 0 (1024 * s + p) (nI (bt v 0))) 34 0 (1024 * s + p + 1) (nI (bt v 1))
theorem bt_0 (v : Int32) : v &&& nI 255 = nI (bt v 0) := by
  rw [← bt_shr v 0 (by decide)]; congr 1; exact (Int32.shiftRight_zero (a := v)).symm
theorem bt_1 (v : Int32) : v >>> (nI 8 &&& 31) &&& nI 255 = nI (bt v 1) := bt_shr v 1 (by decide)
set_option maxRecDepth 20000 in
set_option maxHeartbeats 4000000 in
theorem c_setHalf (G : GX) {M : Mem} (s p : Nat) (v : Int32) (hs : s < 12) (hp : p + 1 < 1024) : MetM G yX12_setHalf iX12_setHalf [vR 11 0, vI (nI s), vI (nI p), vI v] M (fun r M' => r = none ∧ M' = sH M s p v) := by
  refine MetM.of (ls := [some (vR 11 0), some (vI (nI s)), some (vI (nI p)), some (vI v)]) (by decide) rfl (Nat.le_of_ble_eq_true rfl) rfl ?_
  intro hM0
  refine Rn.aload_n (pc := 0) dX12_setHalf_0 rfl rfl ?_
  refine Rn.getR (pc := 1) flX12_48 mu11_29 fx11_29 dX12_setHalf_1 ?_
  refine Rn.sipush (pc := 4) (v := nI 1024) dX12_setHalf_4 (by decide) ?_
  refine Rn.iload_n (pc := 7) dX12_setHalf_7 rfl rfl ?_
  refine Rn.imulN (pc := 8) dX12_setHalf_8 ?_
  refine Rn.iload_n (pc := 9) dX12_setHalf_9 rfl rfl ?_
  refine Rn.iaddN (pc := 10) dX12_setHalf_10 ?_
  refine Rn.iload_n (pc := 11) dX12_setHalf_11 rfl rfl ?_
  refine Rn.sipush (pc := 12) (v := nI 255) dX12_setHalf_12 (by decide) ?_
  refine Rn.iand (pc := 15) dX12_setHalf_15 ?_
  rw [bt_0]
  refine Rn.iastN (pc := 16) ak34 (by omega) (by decide) dX12_setHalf_16 ?_
  refine Rn.aload_n (pc := 17) dX12_setHalf_17 rfl rfl ?_
  refine Rn.getR (pc := 18) flX12_48 mu11_29 fx11_29 dX12_setHalf_18 ?_
  refine Rn.sipush (pc := 21) (v := nI 1024) dX12_setHalf_21 (by decide) ?_
  refine Rn.iload_n (pc := 24) dX12_setHalf_24 rfl rfl ?_
  refine Rn.imulN (pc := 25) dX12_setHalf_25 ?_
  refine Rn.iload_n (pc := 26) dX12_setHalf_26 rfl rfl ?_
  refine Rn.iaddN (pc := 27) dX12_setHalf_27 ?_
  refine Rn.iconst (pc := 28) (v := nI 1) dX12_setHalf_28 (by decide) ?_
  refine Rn.iaddN (pc := 29) dX12_setHalf_29 ?_
  refine Rn.iload_n (pc := 30) dX12_setHalf_30 rfl rfl ?_
  refine Rn.bipush (pc := 31) (v := nI 8) dX12_setHalf_31 (by decide) ?_
  refine Rn.ishr (pc := 33) dX12_setHalf_33 ?_
  refine Rn.sipush (pc := 34) (v := nI 255) dX12_setHalf_34 (by decide) ?_
  refine Rn.iand (pc := 37) dX12_setHalf_37 ?_
  rw [bt_1]
  refine Rn.iastN (pc := 38) ak34 (by omega) (by decide) dX12_setHalf_38 ?_
  refine Rn.vret (pc := 39) rfl dX12_setHalf_39 ?_
  exact ⟨rfl, rfl⟩

def S34 (a b k _j s : Nat) : Prop := k = 34 ∧ a ≤ s ∧ s < b
theorem sH_fr {M : Mem} {s p : Nat} {v : Int32} : Fr (S34 (1024 * s + p) (1024 * s + p + 2)) M (sH M s p v) := ((Fr.refl M).sI ⟨rfl, by omega, by omega⟩).sI ⟨rfl, by omega, by omega⟩
theorem sH_b {M : Mem} {s p : Nat} {v : Int32} : ∀ j, j < 2 → mI (sH M s p v) 34 0 (1024 * s + p + j) = nI (bt v j)
  | 0, _ => by unfold sH; rw [Nat.add_zero, mI_sI, if_neg (by omega), mI_sI, if_pos ⟨rfl, rfl, rfl⟩]
  | 1, _ => by unfold sH; rw [mI_sI, if_pos ⟨rfl, rfl, rfl⟩]
  | n + 2, h => absurd h (by omega)
theorem sH2_b {M : Mem} {s p : Nat} {v u : Int32} {f : Nat → Nat} (h0 : ∀ j, j < 2 → bt v j = f j) (h1 : ∀ j, j < 2 → bt u j = f (j + 2)) : ∀ j, j < 4 → mI (sH (sH M s p v) s (p + 2) u) 34 0 (1024 * s + p + j) = nI (f j) := by
  intro j hj
  rcases Nat.lt_or_ge j 2 with q | q
  · rw [sH_fr.I (by unfold S34; omega), sH_b j q, h0 j q]
  · have h9 := sH_b (M := sH M s p v) (s := s) (p := p + 2) (v := u) (j - 2) (by omega)
    rw [show 1024 * s + (p + 2) + (j - 2) = 1024 * s + p + j by omega] at h9
    rw [h9, h1 (j - 2) (by omega)]
    congr 2; omega
theorem bt_16 (v : Int32) : ∀ j, j < 2 → bt (v >>> (nI 16 &&& 31)) j = bt v (j + 2) := by
  intro j hj
  have h := pk_shr v (nI 16 &&& 31) 16 (by decide)
  have h1 := i_toInt (v >>> (nI 16 &&& 31))
  have h2 := i_toInt v
  have b1 := v.toBitVec.isLt
  have b2 := (v >>> (nI 16 &&& 31)).toBitVec.isLt
  rw [h, Int.shiftRight_eq_div_pow] at h1
  unfold bt
  rcases (show j = 0 ∨ j = 1 by omega) with rfl | rfl <;> · split at h1 <;> split at h2 <;> omega
set_option maxRecDepth 20000 in
set_option maxHeartbeats 4000000 in
theorem c_sizeOf_0 (G : GX) {M : Mem} (p num : Nat) (hst : mI M 11 0 13 = nI 0) (hp : p ≤ 1024) : MetM G yX12_sizeOf iX12_sizeOf [vR 11 0, vI (nI p)] M (fun r M' => r = some (vI (nI (if 0 < 5 then 0 else lyN 0 p num))) ∧ M' = M) := by
  refine MetM.of (ls := [some (vR 11 0), some (vI (nI p))]) (by decide) rfl (Nat.le_of_ble_eq_true rfl) rfl ?_
  intro hM0
  refine Rn.aload_n (pc := 0) dX12_sizeOf_0 rfl rfl ?_
  refine Rn.getI (pc := 1) (t := 0) flX12_156 (show mI M 11 0 13 = nI 0 from hst) dX12_sizeOf_1 ?_
  refine Rn.bipush (pc := 4) (v := nI 8) dX12_sizeOf_4 (by decide) ?_
  refine Rn.icmp_neN (pc := 6) (tgt := 16) dX12_sizeOf_6 (by decide) (by omega) (by omega) (fun c6 => ?_) (fun c6 => ?_)
  · refine Rn.aload_n (pc := 16) dX12_sizeOf_16 rfl rfl ?_
    refine Rn.getI (pc := 17) (t := 0) flX12_156 (show mI M 11 0 13 = nI 0 from hst) dX12_sizeOf_17 ?_
    refine Rn.bipush (pc := 20) (v := nI 9) dX12_sizeOf_20 (by decide) ?_
    refine Rn.icmp_neN (pc := 22) (tgt := 34) dX12_sizeOf_22 (by decide) (by omega) (by omega) (fun c22 => ?_) (fun c22 => ?_)
    · refine Rn.aload_n (pc := 34) dX12_sizeOf_34 rfl rfl ?_
      refine Rn.getI (pc := 35) (t := 0) flX12_156 (show mI M 11 0 13 = nI 0 from hst) dX12_sizeOf_35 ?_
      refine Rn.bipush (pc := 38) (v := nI 7) dX12_sizeOf_38 (by decide) ?_
      refine Rn.icmp_neN (pc := 40) (tgt := 47) dX12_sizeOf_40 (by decide) (by omega) (by omega) (fun c40 => ?_) (fun c40 => ?_)
      · refine Rn.aload_n (pc := 47) dX12_sizeOf_47 rfl rfl ?_
        refine Rn.getI (pc := 48) (t := 0) flX12_156 (show mI M 11 0 13 = nI 0 from hst) dX12_sizeOf_48 ?_
        refine Rn.iconst (pc := 51) (v := nI 5) dX12_sizeOf_51 (by decide) ?_
        refine Rn.icmp_eqN (pc := 52) (tgt := 73) dX12_sizeOf_52 (by decide) (by omega) (by omega) (fun c52 => ?_) (fun c52 => ?_)
        · exact absurd c52 (by decide)
        · refine Rn.aload_n (pc := 55) dX12_sizeOf_55 rfl rfl ?_
          refine Rn.getI (pc := 56) (t := 0) flX12_156 (show mI M 11 0 13 = nI 0 from hst) dX12_sizeOf_56 ?_
          refine Rn.bipush (pc := 59) (v := nI 6) dX12_sizeOf_59 (by decide) ?_
          refine Rn.icmp_eqN (pc := 61) (tgt := 73) dX12_sizeOf_61 (by decide) (by omega) (by omega) (fun c61 => ?_) (fun c61 => ?_)
          · exact absurd c61 (by decide)
          · refine Rn.aload_n (pc := 64) dX12_sizeOf_64 rfl rfl ?_
            refine Rn.getI (pc := 65) (t := 0) flX12_156 (show mI M 11 0 13 = nI 0 from hst) dX12_sizeOf_65 ?_
            refine Rn.bipush (pc := 68) (v := nI 13) dX12_sizeOf_68 (by decide) ?_
            refine Rn.icmp_neN (pc := 70) (tgt := 77) dX12_sizeOf_70 (by decide) (by omega) (by omega) (fun c70 => ?_) (fun c70 => ?_)
            · refine Rn.aload_n (pc := 77) dX12_sizeOf_77 rfl rfl ?_
              refine Rn.getI (pc := 78) (t := 0) flX12_156 (show mI M 11 0 13 = nI 0 from hst) dX12_sizeOf_78 ?_
              refine Rn.bipush (pc := 81) (v := nI 10) dX12_sizeOf_81 (by decide) ?_
              refine Rn.icmp_ltN (pc := 83) (tgt := 90) dX12_sizeOf_83 (by decide) (by omega) (by omega) (fun c83 => ?_) (fun c83 => ?_)
              · refine Rn.iconst (pc := 90) (v := nI 0) dX12_sizeOf_90 (by decide) ?_
                refine Rn.iret (pc := 91) rfl dX12_sizeOf_91 ?_
                exact ⟨rfl, rfl⟩
              · exact absurd c83 (by decide)
            · exact absurd c70 (by decide)
      · exact absurd c40 (by decide)
    · exact absurd c22 (by decide)
  · exact absurd c6 (by decide)

set_option maxRecDepth 20000 in
set_option maxHeartbeats 4000000 in
theorem c_sizeOf_1 (G : GX) {M : Mem} (p num : Nat) (hst : mI M 11 0 13 = nI 1) (hp : p ≤ 1024) : MetM G yX12_sizeOf iX12_sizeOf [vR 11 0, vI (nI p)] M (fun r M' => r = some (vI (nI (if 1 < 5 then 0 else lyN 1 p num))) ∧ M' = M) := by
  refine MetM.of (ls := [some (vR 11 0), some (vI (nI p))]) (by decide) rfl (Nat.le_of_ble_eq_true rfl) rfl ?_
  intro hM0
  refine Rn.aload_n (pc := 0) dX12_sizeOf_0 rfl rfl ?_
  refine Rn.getI (pc := 1) (t := 0) flX12_156 (show mI M 11 0 13 = nI 1 from hst) dX12_sizeOf_1 ?_
  refine Rn.bipush (pc := 4) (v := nI 8) dX12_sizeOf_4 (by decide) ?_
  refine Rn.icmp_neN (pc := 6) (tgt := 16) dX12_sizeOf_6 (by decide) (by omega) (by omega) (fun c6 => ?_) (fun c6 => ?_)
  · refine Rn.aload_n (pc := 16) dX12_sizeOf_16 rfl rfl ?_
    refine Rn.getI (pc := 17) (t := 0) flX12_156 (show mI M 11 0 13 = nI 1 from hst) dX12_sizeOf_17 ?_
    refine Rn.bipush (pc := 20) (v := nI 9) dX12_sizeOf_20 (by decide) ?_
    refine Rn.icmp_neN (pc := 22) (tgt := 34) dX12_sizeOf_22 (by decide) (by omega) (by omega) (fun c22 => ?_) (fun c22 => ?_)
    · refine Rn.aload_n (pc := 34) dX12_sizeOf_34 rfl rfl ?_
      refine Rn.getI (pc := 35) (t := 0) flX12_156 (show mI M 11 0 13 = nI 1 from hst) dX12_sizeOf_35 ?_
      refine Rn.bipush (pc := 38) (v := nI 7) dX12_sizeOf_38 (by decide) ?_
      refine Rn.icmp_neN (pc := 40) (tgt := 47) dX12_sizeOf_40 (by decide) (by omega) (by omega) (fun c40 => ?_) (fun c40 => ?_)
      · refine Rn.aload_n (pc := 47) dX12_sizeOf_47 rfl rfl ?_
        refine Rn.getI (pc := 48) (t := 0) flX12_156 (show mI M 11 0 13 = nI 1 from hst) dX12_sizeOf_48 ?_
        refine Rn.iconst (pc := 51) (v := nI 5) dX12_sizeOf_51 (by decide) ?_
        refine Rn.icmp_eqN (pc := 52) (tgt := 73) dX12_sizeOf_52 (by decide) (by omega) (by omega) (fun c52 => ?_) (fun c52 => ?_)
        · exact absurd c52 (by decide)
        · refine Rn.aload_n (pc := 55) dX12_sizeOf_55 rfl rfl ?_
          refine Rn.getI (pc := 56) (t := 0) flX12_156 (show mI M 11 0 13 = nI 1 from hst) dX12_sizeOf_56 ?_
          refine Rn.bipush (pc := 59) (v := nI 6) dX12_sizeOf_59 (by decide) ?_
          refine Rn.icmp_eqN (pc := 61) (tgt := 73) dX12_sizeOf_61 (by decide) (by omega) (by omega) (fun c61 => ?_) (fun c61 => ?_)
          · exact absurd c61 (by decide)
          · refine Rn.aload_n (pc := 64) dX12_sizeOf_64 rfl rfl ?_
            refine Rn.getI (pc := 65) (t := 0) flX12_156 (show mI M 11 0 13 = nI 1 from hst) dX12_sizeOf_65 ?_
            refine Rn.bipush (pc := 68) (v := nI 13) dX12_sizeOf_68 (by decide) ?_
            refine Rn.icmp_neN (pc := 70) (tgt := 77) dX12_sizeOf_70 (by decide) (by omega) (by omega) (fun c70 => ?_) (fun c70 => ?_)
            · refine Rn.aload_n (pc := 77) dX12_sizeOf_77 rfl rfl ?_
              refine Rn.getI (pc := 78) (t := 0) flX12_156 (show mI M 11 0 13 = nI 1 from hst) dX12_sizeOf_78 ?_
              refine Rn.bipush (pc := 81) (v := nI 10) dX12_sizeOf_81 (by decide) ?_
              refine Rn.icmp_ltN (pc := 83) (tgt := 90) dX12_sizeOf_83 (by decide) (by omega) (by omega) (fun c83 => ?_) (fun c83 => ?_)
              · refine Rn.iconst (pc := 90) (v := nI 0) dX12_sizeOf_90 (by decide) ?_
                refine Rn.iret (pc := 91) rfl dX12_sizeOf_91 ?_
                exact ⟨rfl, rfl⟩
              · exact absurd c83 (by decide)
            · exact absurd c70 (by decide)
      · exact absurd c40 (by decide)
    · exact absurd c22 (by decide)
  · exact absurd c6 (by decide)

set_option maxRecDepth 20000 in
set_option maxHeartbeats 4000000 in
theorem c_sizeOf_2 (G : GX) {M : Mem} (p num : Nat) (hst : mI M 11 0 13 = nI 2) (hp : p ≤ 1024) : MetM G yX12_sizeOf iX12_sizeOf [vR 11 0, vI (nI p)] M (fun r M' => r = some (vI (nI (if 2 < 5 then 0 else lyN 2 p num))) ∧ M' = M) := by
  refine MetM.of (ls := [some (vR 11 0), some (vI (nI p))]) (by decide) rfl (Nat.le_of_ble_eq_true rfl) rfl ?_
  intro hM0
  refine Rn.aload_n (pc := 0) dX12_sizeOf_0 rfl rfl ?_
  refine Rn.getI (pc := 1) (t := 0) flX12_156 (show mI M 11 0 13 = nI 2 from hst) dX12_sizeOf_1 ?_
  refine Rn.bipush (pc := 4) (v := nI 8) dX12_sizeOf_4 (by decide) ?_
  refine Rn.icmp_neN (pc := 6) (tgt := 16) dX12_sizeOf_6 (by decide) (by omega) (by omega) (fun c6 => ?_) (fun c6 => ?_)
  · refine Rn.aload_n (pc := 16) dX12_sizeOf_16 rfl rfl ?_
    refine Rn.getI (pc := 17) (t := 0) flX12_156 (show mI M 11 0 13 = nI 2 from hst) dX12_sizeOf_17 ?_
    refine Rn.bipush (pc := 20) (v := nI 9) dX12_sizeOf_20 (by decide) ?_
    refine Rn.icmp_neN (pc := 22) (tgt := 34) dX12_sizeOf_22 (by decide) (by omega) (by omega) (fun c22 => ?_) (fun c22 => ?_)
    · refine Rn.aload_n (pc := 34) dX12_sizeOf_34 rfl rfl ?_
      refine Rn.getI (pc := 35) (t := 0) flX12_156 (show mI M 11 0 13 = nI 2 from hst) dX12_sizeOf_35 ?_
      refine Rn.bipush (pc := 38) (v := nI 7) dX12_sizeOf_38 (by decide) ?_
      refine Rn.icmp_neN (pc := 40) (tgt := 47) dX12_sizeOf_40 (by decide) (by omega) (by omega) (fun c40 => ?_) (fun c40 => ?_)
      · refine Rn.aload_n (pc := 47) dX12_sizeOf_47 rfl rfl ?_
        refine Rn.getI (pc := 48) (t := 0) flX12_156 (show mI M 11 0 13 = nI 2 from hst) dX12_sizeOf_48 ?_
        refine Rn.iconst (pc := 51) (v := nI 5) dX12_sizeOf_51 (by decide) ?_
        refine Rn.icmp_eqN (pc := 52) (tgt := 73) dX12_sizeOf_52 (by decide) (by omega) (by omega) (fun c52 => ?_) (fun c52 => ?_)
        · exact absurd c52 (by decide)
        · refine Rn.aload_n (pc := 55) dX12_sizeOf_55 rfl rfl ?_
          refine Rn.getI (pc := 56) (t := 0) flX12_156 (show mI M 11 0 13 = nI 2 from hst) dX12_sizeOf_56 ?_
          refine Rn.bipush (pc := 59) (v := nI 6) dX12_sizeOf_59 (by decide) ?_
          refine Rn.icmp_eqN (pc := 61) (tgt := 73) dX12_sizeOf_61 (by decide) (by omega) (by omega) (fun c61 => ?_) (fun c61 => ?_)
          · exact absurd c61 (by decide)
          · refine Rn.aload_n (pc := 64) dX12_sizeOf_64 rfl rfl ?_
            refine Rn.getI (pc := 65) (t := 0) flX12_156 (show mI M 11 0 13 = nI 2 from hst) dX12_sizeOf_65 ?_
            refine Rn.bipush (pc := 68) (v := nI 13) dX12_sizeOf_68 (by decide) ?_
            refine Rn.icmp_neN (pc := 70) (tgt := 77) dX12_sizeOf_70 (by decide) (by omega) (by omega) (fun c70 => ?_) (fun c70 => ?_)
            · refine Rn.aload_n (pc := 77) dX12_sizeOf_77 rfl rfl ?_
              refine Rn.getI (pc := 78) (t := 0) flX12_156 (show mI M 11 0 13 = nI 2 from hst) dX12_sizeOf_78 ?_
              refine Rn.bipush (pc := 81) (v := nI 10) dX12_sizeOf_81 (by decide) ?_
              refine Rn.icmp_ltN (pc := 83) (tgt := 90) dX12_sizeOf_83 (by decide) (by omega) (by omega) (fun c83 => ?_) (fun c83 => ?_)
              · refine Rn.iconst (pc := 90) (v := nI 0) dX12_sizeOf_90 (by decide) ?_
                refine Rn.iret (pc := 91) rfl dX12_sizeOf_91 ?_
                exact ⟨rfl, rfl⟩
              · exact absurd c83 (by decide)
            · exact absurd c70 (by decide)
      · exact absurd c40 (by decide)
    · exact absurd c22 (by decide)
  · exact absurd c6 (by decide)

set_option maxRecDepth 20000 in
set_option maxHeartbeats 4000000 in
theorem c_sizeOf_3 (G : GX) {M : Mem} (p num : Nat) (hst : mI M 11 0 13 = nI 3) (hp : p ≤ 1024) : MetM G yX12_sizeOf iX12_sizeOf [vR 11 0, vI (nI p)] M (fun r M' => r = some (vI (nI (if 3 < 5 then 0 else lyN 3 p num))) ∧ M' = M) := by
  refine MetM.of (ls := [some (vR 11 0), some (vI (nI p))]) (by decide) rfl (Nat.le_of_ble_eq_true rfl) rfl ?_
  intro hM0
  refine Rn.aload_n (pc := 0) dX12_sizeOf_0 rfl rfl ?_
  refine Rn.getI (pc := 1) (t := 0) flX12_156 (show mI M 11 0 13 = nI 3 from hst) dX12_sizeOf_1 ?_
  refine Rn.bipush (pc := 4) (v := nI 8) dX12_sizeOf_4 (by decide) ?_
  refine Rn.icmp_neN (pc := 6) (tgt := 16) dX12_sizeOf_6 (by decide) (by omega) (by omega) (fun c6 => ?_) (fun c6 => ?_)
  · refine Rn.aload_n (pc := 16) dX12_sizeOf_16 rfl rfl ?_
    refine Rn.getI (pc := 17) (t := 0) flX12_156 (show mI M 11 0 13 = nI 3 from hst) dX12_sizeOf_17 ?_
    refine Rn.bipush (pc := 20) (v := nI 9) dX12_sizeOf_20 (by decide) ?_
    refine Rn.icmp_neN (pc := 22) (tgt := 34) dX12_sizeOf_22 (by decide) (by omega) (by omega) (fun c22 => ?_) (fun c22 => ?_)
    · refine Rn.aload_n (pc := 34) dX12_sizeOf_34 rfl rfl ?_
      refine Rn.getI (pc := 35) (t := 0) flX12_156 (show mI M 11 0 13 = nI 3 from hst) dX12_sizeOf_35 ?_
      refine Rn.bipush (pc := 38) (v := nI 7) dX12_sizeOf_38 (by decide) ?_
      refine Rn.icmp_neN (pc := 40) (tgt := 47) dX12_sizeOf_40 (by decide) (by omega) (by omega) (fun c40 => ?_) (fun c40 => ?_)
      · refine Rn.aload_n (pc := 47) dX12_sizeOf_47 rfl rfl ?_
        refine Rn.getI (pc := 48) (t := 0) flX12_156 (show mI M 11 0 13 = nI 3 from hst) dX12_sizeOf_48 ?_
        refine Rn.iconst (pc := 51) (v := nI 5) dX12_sizeOf_51 (by decide) ?_
        refine Rn.icmp_eqN (pc := 52) (tgt := 73) dX12_sizeOf_52 (by decide) (by omega) (by omega) (fun c52 => ?_) (fun c52 => ?_)
        · exact absurd c52 (by decide)
        · refine Rn.aload_n (pc := 55) dX12_sizeOf_55 rfl rfl ?_
          refine Rn.getI (pc := 56) (t := 0) flX12_156 (show mI M 11 0 13 = nI 3 from hst) dX12_sizeOf_56 ?_
          refine Rn.bipush (pc := 59) (v := nI 6) dX12_sizeOf_59 (by decide) ?_
          refine Rn.icmp_eqN (pc := 61) (tgt := 73) dX12_sizeOf_61 (by decide) (by omega) (by omega) (fun c61 => ?_) (fun c61 => ?_)
          · exact absurd c61 (by decide)
          · refine Rn.aload_n (pc := 64) dX12_sizeOf_64 rfl rfl ?_
            refine Rn.getI (pc := 65) (t := 0) flX12_156 (show mI M 11 0 13 = nI 3 from hst) dX12_sizeOf_65 ?_
            refine Rn.bipush (pc := 68) (v := nI 13) dX12_sizeOf_68 (by decide) ?_
            refine Rn.icmp_neN (pc := 70) (tgt := 77) dX12_sizeOf_70 (by decide) (by omega) (by omega) (fun c70 => ?_) (fun c70 => ?_)
            · refine Rn.aload_n (pc := 77) dX12_sizeOf_77 rfl rfl ?_
              refine Rn.getI (pc := 78) (t := 0) flX12_156 (show mI M 11 0 13 = nI 3 from hst) dX12_sizeOf_78 ?_
              refine Rn.bipush (pc := 81) (v := nI 10) dX12_sizeOf_81 (by decide) ?_
              refine Rn.icmp_ltN (pc := 83) (tgt := 90) dX12_sizeOf_83 (by decide) (by omega) (by omega) (fun c83 => ?_) (fun c83 => ?_)
              · refine Rn.iconst (pc := 90) (v := nI 0) dX12_sizeOf_90 (by decide) ?_
                refine Rn.iret (pc := 91) rfl dX12_sizeOf_91 ?_
                exact ⟨rfl, rfl⟩
              · exact absurd c83 (by decide)
            · exact absurd c70 (by decide)
      · exact absurd c40 (by decide)
    · exact absurd c22 (by decide)
  · exact absurd c6 (by decide)

set_option maxRecDepth 20000 in
set_option maxHeartbeats 4000000 in
theorem c_sizeOf_4 (G : GX) {M : Mem} (p num : Nat) (hst : mI M 11 0 13 = nI 4) (hp : p ≤ 1024) : MetM G yX12_sizeOf iX12_sizeOf [vR 11 0, vI (nI p)] M (fun r M' => r = some (vI (nI (if 4 < 5 then 0 else lyN 4 p num))) ∧ M' = M) := by
  refine MetM.of (ls := [some (vR 11 0), some (vI (nI p))]) (by decide) rfl (Nat.le_of_ble_eq_true rfl) rfl ?_
  intro hM0
  refine Rn.aload_n (pc := 0) dX12_sizeOf_0 rfl rfl ?_
  refine Rn.getI (pc := 1) (t := 0) flX12_156 (show mI M 11 0 13 = nI 4 from hst) dX12_sizeOf_1 ?_
  refine Rn.bipush (pc := 4) (v := nI 8) dX12_sizeOf_4 (by decide) ?_
  refine Rn.icmp_neN (pc := 6) (tgt := 16) dX12_sizeOf_6 (by decide) (by omega) (by omega) (fun c6 => ?_) (fun c6 => ?_)
  · refine Rn.aload_n (pc := 16) dX12_sizeOf_16 rfl rfl ?_
    refine Rn.getI (pc := 17) (t := 0) flX12_156 (show mI M 11 0 13 = nI 4 from hst) dX12_sizeOf_17 ?_
    refine Rn.bipush (pc := 20) (v := nI 9) dX12_sizeOf_20 (by decide) ?_
    refine Rn.icmp_neN (pc := 22) (tgt := 34) dX12_sizeOf_22 (by decide) (by omega) (by omega) (fun c22 => ?_) (fun c22 => ?_)
    · refine Rn.aload_n (pc := 34) dX12_sizeOf_34 rfl rfl ?_
      refine Rn.getI (pc := 35) (t := 0) flX12_156 (show mI M 11 0 13 = nI 4 from hst) dX12_sizeOf_35 ?_
      refine Rn.bipush (pc := 38) (v := nI 7) dX12_sizeOf_38 (by decide) ?_
      refine Rn.icmp_neN (pc := 40) (tgt := 47) dX12_sizeOf_40 (by decide) (by omega) (by omega) (fun c40 => ?_) (fun c40 => ?_)
      · refine Rn.aload_n (pc := 47) dX12_sizeOf_47 rfl rfl ?_
        refine Rn.getI (pc := 48) (t := 0) flX12_156 (show mI M 11 0 13 = nI 4 from hst) dX12_sizeOf_48 ?_
        refine Rn.iconst (pc := 51) (v := nI 5) dX12_sizeOf_51 (by decide) ?_
        refine Rn.icmp_eqN (pc := 52) (tgt := 73) dX12_sizeOf_52 (by decide) (by omega) (by omega) (fun c52 => ?_) (fun c52 => ?_)
        · exact absurd c52 (by decide)
        · refine Rn.aload_n (pc := 55) dX12_sizeOf_55 rfl rfl ?_
          refine Rn.getI (pc := 56) (t := 0) flX12_156 (show mI M 11 0 13 = nI 4 from hst) dX12_sizeOf_56 ?_
          refine Rn.bipush (pc := 59) (v := nI 6) dX12_sizeOf_59 (by decide) ?_
          refine Rn.icmp_eqN (pc := 61) (tgt := 73) dX12_sizeOf_61 (by decide) (by omega) (by omega) (fun c61 => ?_) (fun c61 => ?_)
          · exact absurd c61 (by decide)
          · refine Rn.aload_n (pc := 64) dX12_sizeOf_64 rfl rfl ?_
            refine Rn.getI (pc := 65) (t := 0) flX12_156 (show mI M 11 0 13 = nI 4 from hst) dX12_sizeOf_65 ?_
            refine Rn.bipush (pc := 68) (v := nI 13) dX12_sizeOf_68 (by decide) ?_
            refine Rn.icmp_neN (pc := 70) (tgt := 77) dX12_sizeOf_70 (by decide) (by omega) (by omega) (fun c70 => ?_) (fun c70 => ?_)
            · refine Rn.aload_n (pc := 77) dX12_sizeOf_77 rfl rfl ?_
              refine Rn.getI (pc := 78) (t := 0) flX12_156 (show mI M 11 0 13 = nI 4 from hst) dX12_sizeOf_78 ?_
              refine Rn.bipush (pc := 81) (v := nI 10) dX12_sizeOf_81 (by decide) ?_
              refine Rn.icmp_ltN (pc := 83) (tgt := 90) dX12_sizeOf_83 (by decide) (by omega) (by omega) (fun c83 => ?_) (fun c83 => ?_)
              · refine Rn.iconst (pc := 90) (v := nI 0) dX12_sizeOf_90 (by decide) ?_
                refine Rn.iret (pc := 91) rfl dX12_sizeOf_91 ?_
                exact ⟨rfl, rfl⟩
              · exact absurd c83 (by decide)
            · exact absurd c70 (by decide)
      · exact absurd c40 (by decide)
    · exact absurd c22 (by decide)
  · exact absurd c6 (by decide)

set_option maxRecDepth 20000 in
set_option maxHeartbeats 4000000 in
theorem c_sizeOf_5 (G : GX) {M : Mem} (p num : Nat) (hst : mI M 11 0 13 = nI 5) (hp : p ≤ 1024) : MetM G yX12_sizeOf iX12_sizeOf [vR 11 0, vI (nI p)] M (fun r M' => r = some (vI (nI (if 5 < 5 then 0 else lyN 5 p num))) ∧ M' = M) := by
  refine MetM.of (ls := [some (vR 11 0), some (vI (nI p))]) (by decide) rfl (Nat.le_of_ble_eq_true rfl) rfl ?_
  intro hM0
  refine Rn.aload_n (pc := 0) dX12_sizeOf_0 rfl rfl ?_
  refine Rn.getI (pc := 1) (t := 0) flX12_156 (show mI M 11 0 13 = nI 5 from hst) dX12_sizeOf_1 ?_
  refine Rn.bipush (pc := 4) (v := nI 8) dX12_sizeOf_4 (by decide) ?_
  refine Rn.icmp_neN (pc := 6) (tgt := 16) dX12_sizeOf_6 (by decide) (by omega) (by omega) (fun c6 => ?_) (fun c6 => ?_)
  · refine Rn.aload_n (pc := 16) dX12_sizeOf_16 rfl rfl ?_
    refine Rn.getI (pc := 17) (t := 0) flX12_156 (show mI M 11 0 13 = nI 5 from hst) dX12_sizeOf_17 ?_
    refine Rn.bipush (pc := 20) (v := nI 9) dX12_sizeOf_20 (by decide) ?_
    refine Rn.icmp_neN (pc := 22) (tgt := 34) dX12_sizeOf_22 (by decide) (by omega) (by omega) (fun c22 => ?_) (fun c22 => ?_)
    · refine Rn.aload_n (pc := 34) dX12_sizeOf_34 rfl rfl ?_
      refine Rn.getI (pc := 35) (t := 0) flX12_156 (show mI M 11 0 13 = nI 5 from hst) dX12_sizeOf_35 ?_
      refine Rn.bipush (pc := 38) (v := nI 7) dX12_sizeOf_38 (by decide) ?_
      refine Rn.icmp_neN (pc := 40) (tgt := 47) dX12_sizeOf_40 (by decide) (by omega) (by omega) (fun c40 => ?_) (fun c40 => ?_)
      · refine Rn.aload_n (pc := 47) dX12_sizeOf_47 rfl rfl ?_
        refine Rn.getI (pc := 48) (t := 0) flX12_156 (show mI M 11 0 13 = nI 5 from hst) dX12_sizeOf_48 ?_
        refine Rn.iconst (pc := 51) (v := nI 5) dX12_sizeOf_51 (by decide) ?_
        refine Rn.icmp_eqN (pc := 52) (tgt := 73) dX12_sizeOf_52 (by decide) (by omega) (by omega) (fun c52 => ?_) (fun c52 => ?_)
        · refine Rn.iconst (pc := 73) (v := nI 4) dX12_sizeOf_73 (by decide) ?_
          refine Rn.goto (pc := 74) (tgt := 91) dX12_sizeOf_74 (by decide) ?_
          refine Rn.iret (pc := 91) rfl dX12_sizeOf_91 ?_
          exact ⟨rfl, rfl⟩
        · exact absurd c52 (by decide)
      · exact absurd c40 (by decide)
    · exact absurd c22 (by decide)
  · exact absurd c6 (by decide)

set_option maxRecDepth 20000 in
set_option maxHeartbeats 4000000 in
theorem c_sizeOf_6 (G : GX) {M : Mem} (p num : Nat) (hst : mI M 11 0 13 = nI 6) (hp : p ≤ 1024) : MetM G yX12_sizeOf iX12_sizeOf [vR 11 0, vI (nI p)] M (fun r M' => r = some (vI (nI (if 6 < 5 then 0 else lyN 6 p num))) ∧ M' = M) := by
  refine MetM.of (ls := [some (vR 11 0), some (vI (nI p))]) (by decide) rfl (Nat.le_of_ble_eq_true rfl) rfl ?_
  intro hM0
  refine Rn.aload_n (pc := 0) dX12_sizeOf_0 rfl rfl ?_
  refine Rn.getI (pc := 1) (t := 0) flX12_156 (show mI M 11 0 13 = nI 6 from hst) dX12_sizeOf_1 ?_
  refine Rn.bipush (pc := 4) (v := nI 8) dX12_sizeOf_4 (by decide) ?_
  refine Rn.icmp_neN (pc := 6) (tgt := 16) dX12_sizeOf_6 (by decide) (by omega) (by omega) (fun c6 => ?_) (fun c6 => ?_)
  · refine Rn.aload_n (pc := 16) dX12_sizeOf_16 rfl rfl ?_
    refine Rn.getI (pc := 17) (t := 0) flX12_156 (show mI M 11 0 13 = nI 6 from hst) dX12_sizeOf_17 ?_
    refine Rn.bipush (pc := 20) (v := nI 9) dX12_sizeOf_20 (by decide) ?_
    refine Rn.icmp_neN (pc := 22) (tgt := 34) dX12_sizeOf_22 (by decide) (by omega) (by omega) (fun c22 => ?_) (fun c22 => ?_)
    · refine Rn.aload_n (pc := 34) dX12_sizeOf_34 rfl rfl ?_
      refine Rn.getI (pc := 35) (t := 0) flX12_156 (show mI M 11 0 13 = nI 6 from hst) dX12_sizeOf_35 ?_
      refine Rn.bipush (pc := 38) (v := nI 7) dX12_sizeOf_38 (by decide) ?_
      refine Rn.icmp_neN (pc := 40) (tgt := 47) dX12_sizeOf_40 (by decide) (by omega) (by omega) (fun c40 => ?_) (fun c40 => ?_)
      · refine Rn.aload_n (pc := 47) dX12_sizeOf_47 rfl rfl ?_
        refine Rn.getI (pc := 48) (t := 0) flX12_156 (show mI M 11 0 13 = nI 6 from hst) dX12_sizeOf_48 ?_
        refine Rn.iconst (pc := 51) (v := nI 5) dX12_sizeOf_51 (by decide) ?_
        refine Rn.icmp_eqN (pc := 52) (tgt := 73) dX12_sizeOf_52 (by decide) (by omega) (by omega) (fun c52 => ?_) (fun c52 => ?_)
        · exact absurd c52 (by decide)
        · refine Rn.aload_n (pc := 55) dX12_sizeOf_55 rfl rfl ?_
          refine Rn.getI (pc := 56) (t := 0) flX12_156 (show mI M 11 0 13 = nI 6 from hst) dX12_sizeOf_56 ?_
          refine Rn.bipush (pc := 59) (v := nI 6) dX12_sizeOf_59 (by decide) ?_
          refine Rn.icmp_eqN (pc := 61) (tgt := 73) dX12_sizeOf_61 (by decide) (by omega) (by omega) (fun c61 => ?_) (fun c61 => ?_)
          · refine Rn.iconst (pc := 73) (v := nI 4) dX12_sizeOf_73 (by decide) ?_
            refine Rn.goto (pc := 74) (tgt := 91) dX12_sizeOf_74 (by decide) ?_
            refine Rn.iret (pc := 91) rfl dX12_sizeOf_91 ?_
            exact ⟨rfl, rfl⟩
          · exact absurd c61 (by decide)
      · exact absurd c40 (by decide)
    · exact absurd c22 (by decide)
  · exact absurd c6 (by decide)

set_option maxRecDepth 20000 in
set_option maxHeartbeats 4000000 in
theorem c_sizeOf_7 (G : GX) {M : Mem} (p num : Nat) (hst : mI M 11 0 13 = nI 7) (hp : p ≤ 1024) : MetM G yX12_sizeOf iX12_sizeOf [vR 11 0, vI (nI p)] M (fun r M' => r = some (vI (nI (if 7 < 5 then 0 else lyN 7 p num))) ∧ M' = M) := by
  refine MetM.of (ls := [some (vR 11 0), some (vI (nI p))]) (by decide) rfl (Nat.le_of_ble_eq_true rfl) rfl ?_
  intro hM0
  refine Rn.aload_n (pc := 0) dX12_sizeOf_0 rfl rfl ?_
  refine Rn.getI (pc := 1) (t := 0) flX12_156 (show mI M 11 0 13 = nI 7 from hst) dX12_sizeOf_1 ?_
  refine Rn.bipush (pc := 4) (v := nI 8) dX12_sizeOf_4 (by decide) ?_
  refine Rn.icmp_neN (pc := 6) (tgt := 16) dX12_sizeOf_6 (by decide) (by omega) (by omega) (fun c6 => ?_) (fun c6 => ?_)
  · refine Rn.aload_n (pc := 16) dX12_sizeOf_16 rfl rfl ?_
    refine Rn.getI (pc := 17) (t := 0) flX12_156 (show mI M 11 0 13 = nI 7 from hst) dX12_sizeOf_17 ?_
    refine Rn.bipush (pc := 20) (v := nI 9) dX12_sizeOf_20 (by decide) ?_
    refine Rn.icmp_neN (pc := 22) (tgt := 34) dX12_sizeOf_22 (by decide) (by omega) (by omega) (fun c22 => ?_) (fun c22 => ?_)
    · refine Rn.aload_n (pc := 34) dX12_sizeOf_34 rfl rfl ?_
      refine Rn.getI (pc := 35) (t := 0) flX12_156 (show mI M 11 0 13 = nI 7 from hst) dX12_sizeOf_35 ?_
      refine Rn.bipush (pc := 38) (v := nI 7) dX12_sizeOf_38 (by decide) ?_
      refine Rn.icmp_neN (pc := 40) (tgt := 47) dX12_sizeOf_40 (by decide) (by omega) (by omega) (fun c40 => ?_) (fun c40 => ?_)
      · exact absurd c40 (by decide)
      · refine Rn.iconst (pc := 43) (v := nI 1) dX12_sizeOf_43 (by decide) ?_
        refine Rn.goto (pc := 44) (tgt := 91) dX12_sizeOf_44 (by decide) ?_
        refine Rn.iret (pc := 91) rfl dX12_sizeOf_91 ?_
        exact ⟨rfl, rfl⟩
    · exact absurd c22 (by decide)
  · exact absurd c6 (by decide)

set_option maxRecDepth 20000 in
set_option maxHeartbeats 4000000 in
theorem c_sizeOf_8 (G : GX) {M : Mem} (p num : Nat) (hst : mI M 11 0 13 = nI 8) (hp : p ≤ 1024) (h8 : mI M 11 0 16 = nI num) : MetM G yX12_sizeOf iX12_sizeOf [vR 11 0, vI (nI p)] M (fun r M' => r = some (vI (nI (if 8 < 5 then 0 else lyN 8 p num))) ∧ M' = M) := by
  refine MetM.of (ls := [some (vR 11 0), some (vI (nI p))]) (by decide) rfl (Nat.le_of_ble_eq_true rfl) rfl ?_
  intro hM0
  refine Rn.aload_n (pc := 0) dX12_sizeOf_0 rfl rfl ?_
  refine Rn.getI (pc := 1) (t := 0) flX12_156 (show mI M 11 0 13 = nI 8 from hst) dX12_sizeOf_1 ?_
  refine Rn.bipush (pc := 4) (v := nI 8) dX12_sizeOf_4 (by decide) ?_
  refine Rn.icmp_neN (pc := 6) (tgt := 16) dX12_sizeOf_6 (by decide) (by omega) (by omega) (fun c6 => ?_) (fun c6 => ?_)
  · exact absurd c6 (by decide)
  · refine Rn.aload_n (pc := 9) dX12_sizeOf_9 rfl rfl ?_
    refine Rn.getI (pc := 10) (t := 0) flX12_193 h8 dX12_sizeOf_10 ?_
    refine Rn.goto (pc := 13) (tgt := 91) dX12_sizeOf_13 (by decide) ?_
    refine Rn.iret (pc := 91) rfl dX12_sizeOf_91 ?_
    exact ⟨rfl, rfl⟩

set_option maxRecDepth 20000 in
set_option maxHeartbeats 4000000 in
theorem c_sizeOf_9 (G : GX) {M : Mem} (p num : Nat) (hst : mI M 11 0 13 = nI 9) (hp : p ≤ 1024) : MetM G yX12_sizeOf iX12_sizeOf [vR 11 0, vI (nI p)] M (fun r M' => r = some (vI (nI (if 9 < 5 then 0 else lyN 9 p num))) ∧ M' = M) := by
  refine MetM.of (ls := [some (vR 11 0), some (vI (nI p))]) (by decide) rfl (Nat.le_of_ble_eq_true rfl) rfl ?_
  intro hM0
  refine Rn.aload_n (pc := 0) dX12_sizeOf_0 rfl rfl ?_
  refine Rn.getI (pc := 1) (t := 0) flX12_156 (show mI M 11 0 13 = nI 9 from hst) dX12_sizeOf_1 ?_
  refine Rn.bipush (pc := 4) (v := nI 8) dX12_sizeOf_4 (by decide) ?_
  refine Rn.icmp_neN (pc := 6) (tgt := 16) dX12_sizeOf_6 (by decide) (by omega) (by omega) (fun c6 => ?_) (fun c6 => ?_)
  · refine Rn.aload_n (pc := 16) dX12_sizeOf_16 rfl rfl ?_
    refine Rn.getI (pc := 17) (t := 0) flX12_156 (show mI M 11 0 13 = nI 9 from hst) dX12_sizeOf_17 ?_
    refine Rn.bipush (pc := 20) (v := nI 9) dX12_sizeOf_20 (by decide) ?_
    refine Rn.icmp_neN (pc := 22) (tgt := 34) dX12_sizeOf_22 (by decide) (by omega) (by omega) (fun c22 => ?_) (fun c22 => ?_)
    · exact absurd c22 (by decide)
    · refine Rn.iload_n (pc := 25) dX12_sizeOf_25 rfl rfl ?_
      refine Rn.callS (pc := 26) (as := [_]) csX12_353 ⟨by decide, by decide⟩ dX12_sizeOf_26 (Nat.le_of_ble_eq_true rfl) rfl (c_up G p (by omega)) ?_
      rintro _ M9 ⟨rfl, h9⟩
      rw [h9]
      refine Rn.iload_n (pc := 29) dX12_sizeOf_29 rfl rfl ?_
      refine Rn.isub (pc := 30) dX12_sizeOf_30 ?_
      have hu := up4_b (v := p)
      rw [pk_sub hu.1]
      refine Rn.goto (pc := 31) (tgt := 91) dX12_sizeOf_31 (by decide) ?_
      refine Rn.iret (pc := 91) rfl dX12_sizeOf_91 ?_
      refine ⟨?_, rfl⟩
      rw [if_neg (by decide), lyN, if_pos rfl, show up4 p - p = (4 - p % 4) % 4 by unfold up4; omega]
  · exact absurd c6 (by decide)

set_option maxRecDepth 20000 in
set_option maxHeartbeats 4000000 in
theorem c_sizeOf_10 (G : GX) {M : Mem} (p num : Nat) (hst : mI M 11 0 13 = nI 10) (hp : p ≤ 1024) : MetM G yX12_sizeOf iX12_sizeOf [vR 11 0, vI (nI p)] M (fun r M' => r = some (vI (nI (if 10 < 5 then 0 else lyN 10 p num))) ∧ M' = M) := by
  refine MetM.of (ls := [some (vR 11 0), some (vI (nI p))]) (by decide) rfl (Nat.le_of_ble_eq_true rfl) rfl ?_
  intro hM0
  refine Rn.aload_n (pc := 0) dX12_sizeOf_0 rfl rfl ?_
  refine Rn.getI (pc := 1) (t := 0) flX12_156 (show mI M 11 0 13 = nI 10 from hst) dX12_sizeOf_1 ?_
  refine Rn.bipush (pc := 4) (v := nI 8) dX12_sizeOf_4 (by decide) ?_
  refine Rn.icmp_neN (pc := 6) (tgt := 16) dX12_sizeOf_6 (by decide) (by omega) (by omega) (fun c6 => ?_) (fun c6 => ?_)
  · refine Rn.aload_n (pc := 16) dX12_sizeOf_16 rfl rfl ?_
    refine Rn.getI (pc := 17) (t := 0) flX12_156 (show mI M 11 0 13 = nI 10 from hst) dX12_sizeOf_17 ?_
    refine Rn.bipush (pc := 20) (v := nI 9) dX12_sizeOf_20 (by decide) ?_
    refine Rn.icmp_neN (pc := 22) (tgt := 34) dX12_sizeOf_22 (by decide) (by omega) (by omega) (fun c22 => ?_) (fun c22 => ?_)
    · refine Rn.aload_n (pc := 34) dX12_sizeOf_34 rfl rfl ?_
      refine Rn.getI (pc := 35) (t := 0) flX12_156 (show mI M 11 0 13 = nI 10 from hst) dX12_sizeOf_35 ?_
      refine Rn.bipush (pc := 38) (v := nI 7) dX12_sizeOf_38 (by decide) ?_
      refine Rn.icmp_neN (pc := 40) (tgt := 47) dX12_sizeOf_40 (by decide) (by omega) (by omega) (fun c40 => ?_) (fun c40 => ?_)
      · refine Rn.aload_n (pc := 47) dX12_sizeOf_47 rfl rfl ?_
        refine Rn.getI (pc := 48) (t := 0) flX12_156 (show mI M 11 0 13 = nI 10 from hst) dX12_sizeOf_48 ?_
        refine Rn.iconst (pc := 51) (v := nI 5) dX12_sizeOf_51 (by decide) ?_
        refine Rn.icmp_eqN (pc := 52) (tgt := 73) dX12_sizeOf_52 (by decide) (by omega) (by omega) (fun c52 => ?_) (fun c52 => ?_)
        · exact absurd c52 (by decide)
        · refine Rn.aload_n (pc := 55) dX12_sizeOf_55 rfl rfl ?_
          refine Rn.getI (pc := 56) (t := 0) flX12_156 (show mI M 11 0 13 = nI 10 from hst) dX12_sizeOf_56 ?_
          refine Rn.bipush (pc := 59) (v := nI 6) dX12_sizeOf_59 (by decide) ?_
          refine Rn.icmp_eqN (pc := 61) (tgt := 73) dX12_sizeOf_61 (by decide) (by omega) (by omega) (fun c61 => ?_) (fun c61 => ?_)
          · exact absurd c61 (by decide)
          · refine Rn.aload_n (pc := 64) dX12_sizeOf_64 rfl rfl ?_
            refine Rn.getI (pc := 65) (t := 0) flX12_156 (show mI M 11 0 13 = nI 10 from hst) dX12_sizeOf_65 ?_
            refine Rn.bipush (pc := 68) (v := nI 13) dX12_sizeOf_68 (by decide) ?_
            refine Rn.icmp_neN (pc := 70) (tgt := 77) dX12_sizeOf_70 (by decide) (by omega) (by omega) (fun c70 => ?_) (fun c70 => ?_)
            · refine Rn.aload_n (pc := 77) dX12_sizeOf_77 rfl rfl ?_
              refine Rn.getI (pc := 78) (t := 0) flX12_156 (show mI M 11 0 13 = nI 10 from hst) dX12_sizeOf_78 ?_
              refine Rn.bipush (pc := 81) (v := nI 10) dX12_sizeOf_81 (by decide) ?_
              refine Rn.icmp_ltN (pc := 83) (tgt := 90) dX12_sizeOf_83 (by decide) (by omega) (by omega) (fun c83 => ?_) (fun c83 => ?_)
              · exact absurd c83 (by decide)
              · refine Rn.iconst (pc := 86) (v := nI 2) dX12_sizeOf_86 (by decide) ?_
                refine Rn.goto (pc := 87) (tgt := 91) dX12_sizeOf_87 (by decide) ?_
                refine Rn.iret (pc := 91) rfl dX12_sizeOf_91 ?_
                exact ⟨rfl, rfl⟩
            · exact absurd c70 (by decide)
      · exact absurd c40 (by decide)
    · exact absurd c22 (by decide)
  · exact absurd c6 (by decide)

set_option maxRecDepth 20000 in
set_option maxHeartbeats 4000000 in
theorem c_sizeOf_11 (G : GX) {M : Mem} (p num : Nat) (hst : mI M 11 0 13 = nI 11) (hp : p ≤ 1024) : MetM G yX12_sizeOf iX12_sizeOf [vR 11 0, vI (nI p)] M (fun r M' => r = some (vI (nI (if 11 < 5 then 0 else lyN 11 p num))) ∧ M' = M) := by
  refine MetM.of (ls := [some (vR 11 0), some (vI (nI p))]) (by decide) rfl (Nat.le_of_ble_eq_true rfl) rfl ?_
  intro hM0
  refine Rn.aload_n (pc := 0) dX12_sizeOf_0 rfl rfl ?_
  refine Rn.getI (pc := 1) (t := 0) flX12_156 (show mI M 11 0 13 = nI 11 from hst) dX12_sizeOf_1 ?_
  refine Rn.bipush (pc := 4) (v := nI 8) dX12_sizeOf_4 (by decide) ?_
  refine Rn.icmp_neN (pc := 6) (tgt := 16) dX12_sizeOf_6 (by decide) (by omega) (by omega) (fun c6 => ?_) (fun c6 => ?_)
  · refine Rn.aload_n (pc := 16) dX12_sizeOf_16 rfl rfl ?_
    refine Rn.getI (pc := 17) (t := 0) flX12_156 (show mI M 11 0 13 = nI 11 from hst) dX12_sizeOf_17 ?_
    refine Rn.bipush (pc := 20) (v := nI 9) dX12_sizeOf_20 (by decide) ?_
    refine Rn.icmp_neN (pc := 22) (tgt := 34) dX12_sizeOf_22 (by decide) (by omega) (by omega) (fun c22 => ?_) (fun c22 => ?_)
    · refine Rn.aload_n (pc := 34) dX12_sizeOf_34 rfl rfl ?_
      refine Rn.getI (pc := 35) (t := 0) flX12_156 (show mI M 11 0 13 = nI 11 from hst) dX12_sizeOf_35 ?_
      refine Rn.bipush (pc := 38) (v := nI 7) dX12_sizeOf_38 (by decide) ?_
      refine Rn.icmp_neN (pc := 40) (tgt := 47) dX12_sizeOf_40 (by decide) (by omega) (by omega) (fun c40 => ?_) (fun c40 => ?_)
      · refine Rn.aload_n (pc := 47) dX12_sizeOf_47 rfl rfl ?_
        refine Rn.getI (pc := 48) (t := 0) flX12_156 (show mI M 11 0 13 = nI 11 from hst) dX12_sizeOf_48 ?_
        refine Rn.iconst (pc := 51) (v := nI 5) dX12_sizeOf_51 (by decide) ?_
        refine Rn.icmp_eqN (pc := 52) (tgt := 73) dX12_sizeOf_52 (by decide) (by omega) (by omega) (fun c52 => ?_) (fun c52 => ?_)
        · exact absurd c52 (by decide)
        · refine Rn.aload_n (pc := 55) dX12_sizeOf_55 rfl rfl ?_
          refine Rn.getI (pc := 56) (t := 0) flX12_156 (show mI M 11 0 13 = nI 11 from hst) dX12_sizeOf_56 ?_
          refine Rn.bipush (pc := 59) (v := nI 6) dX12_sizeOf_59 (by decide) ?_
          refine Rn.icmp_eqN (pc := 61) (tgt := 73) dX12_sizeOf_61 (by decide) (by omega) (by omega) (fun c61 => ?_) (fun c61 => ?_)
          · exact absurd c61 (by decide)
          · refine Rn.aload_n (pc := 64) dX12_sizeOf_64 rfl rfl ?_
            refine Rn.getI (pc := 65) (t := 0) flX12_156 (show mI M 11 0 13 = nI 11 from hst) dX12_sizeOf_65 ?_
            refine Rn.bipush (pc := 68) (v := nI 13) dX12_sizeOf_68 (by decide) ?_
            refine Rn.icmp_neN (pc := 70) (tgt := 77) dX12_sizeOf_70 (by decide) (by omega) (by omega) (fun c70 => ?_) (fun c70 => ?_)
            · refine Rn.aload_n (pc := 77) dX12_sizeOf_77 rfl rfl ?_
              refine Rn.getI (pc := 78) (t := 0) flX12_156 (show mI M 11 0 13 = nI 11 from hst) dX12_sizeOf_78 ?_
              refine Rn.bipush (pc := 81) (v := nI 10) dX12_sizeOf_81 (by decide) ?_
              refine Rn.icmp_ltN (pc := 83) (tgt := 90) dX12_sizeOf_83 (by decide) (by omega) (by omega) (fun c83 => ?_) (fun c83 => ?_)
              · exact absurd c83 (by decide)
              · refine Rn.iconst (pc := 86) (v := nI 2) dX12_sizeOf_86 (by decide) ?_
                refine Rn.goto (pc := 87) (tgt := 91) dX12_sizeOf_87 (by decide) ?_
                refine Rn.iret (pc := 91) rfl dX12_sizeOf_91 ?_
                exact ⟨rfl, rfl⟩
            · exact absurd c70 (by decide)
      · exact absurd c40 (by decide)
    · exact absurd c22 (by decide)
  · exact absurd c6 (by decide)

set_option maxRecDepth 20000 in
set_option maxHeartbeats 4000000 in
theorem c_sizeOf_12 (G : GX) {M : Mem} (p num : Nat) (hst : mI M 11 0 13 = nI 12) (hp : p ≤ 1024) : MetM G yX12_sizeOf iX12_sizeOf [vR 11 0, vI (nI p)] M (fun r M' => r = some (vI (nI (if 12 < 5 then 0 else lyN 12 p num))) ∧ M' = M) := by
  refine MetM.of (ls := [some (vR 11 0), some (vI (nI p))]) (by decide) rfl (Nat.le_of_ble_eq_true rfl) rfl ?_
  intro hM0
  refine Rn.aload_n (pc := 0) dX12_sizeOf_0 rfl rfl ?_
  refine Rn.getI (pc := 1) (t := 0) flX12_156 (show mI M 11 0 13 = nI 12 from hst) dX12_sizeOf_1 ?_
  refine Rn.bipush (pc := 4) (v := nI 8) dX12_sizeOf_4 (by decide) ?_
  refine Rn.icmp_neN (pc := 6) (tgt := 16) dX12_sizeOf_6 (by decide) (by omega) (by omega) (fun c6 => ?_) (fun c6 => ?_)
  · refine Rn.aload_n (pc := 16) dX12_sizeOf_16 rfl rfl ?_
    refine Rn.getI (pc := 17) (t := 0) flX12_156 (show mI M 11 0 13 = nI 12 from hst) dX12_sizeOf_17 ?_
    refine Rn.bipush (pc := 20) (v := nI 9) dX12_sizeOf_20 (by decide) ?_
    refine Rn.icmp_neN (pc := 22) (tgt := 34) dX12_sizeOf_22 (by decide) (by omega) (by omega) (fun c22 => ?_) (fun c22 => ?_)
    · refine Rn.aload_n (pc := 34) dX12_sizeOf_34 rfl rfl ?_
      refine Rn.getI (pc := 35) (t := 0) flX12_156 (show mI M 11 0 13 = nI 12 from hst) dX12_sizeOf_35 ?_
      refine Rn.bipush (pc := 38) (v := nI 7) dX12_sizeOf_38 (by decide) ?_
      refine Rn.icmp_neN (pc := 40) (tgt := 47) dX12_sizeOf_40 (by decide) (by omega) (by omega) (fun c40 => ?_) (fun c40 => ?_)
      · refine Rn.aload_n (pc := 47) dX12_sizeOf_47 rfl rfl ?_
        refine Rn.getI (pc := 48) (t := 0) flX12_156 (show mI M 11 0 13 = nI 12 from hst) dX12_sizeOf_48 ?_
        refine Rn.iconst (pc := 51) (v := nI 5) dX12_sizeOf_51 (by decide) ?_
        refine Rn.icmp_eqN (pc := 52) (tgt := 73) dX12_sizeOf_52 (by decide) (by omega) (by omega) (fun c52 => ?_) (fun c52 => ?_)
        · exact absurd c52 (by decide)
        · refine Rn.aload_n (pc := 55) dX12_sizeOf_55 rfl rfl ?_
          refine Rn.getI (pc := 56) (t := 0) flX12_156 (show mI M 11 0 13 = nI 12 from hst) dX12_sizeOf_56 ?_
          refine Rn.bipush (pc := 59) (v := nI 6) dX12_sizeOf_59 (by decide) ?_
          refine Rn.icmp_eqN (pc := 61) (tgt := 73) dX12_sizeOf_61 (by decide) (by omega) (by omega) (fun c61 => ?_) (fun c61 => ?_)
          · exact absurd c61 (by decide)
          · refine Rn.aload_n (pc := 64) dX12_sizeOf_64 rfl rfl ?_
            refine Rn.getI (pc := 65) (t := 0) flX12_156 (show mI M 11 0 13 = nI 12 from hst) dX12_sizeOf_65 ?_
            refine Rn.bipush (pc := 68) (v := nI 13) dX12_sizeOf_68 (by decide) ?_
            refine Rn.icmp_neN (pc := 70) (tgt := 77) dX12_sizeOf_70 (by decide) (by omega) (by omega) (fun c70 => ?_) (fun c70 => ?_)
            · refine Rn.aload_n (pc := 77) dX12_sizeOf_77 rfl rfl ?_
              refine Rn.getI (pc := 78) (t := 0) flX12_156 (show mI M 11 0 13 = nI 12 from hst) dX12_sizeOf_78 ?_
              refine Rn.bipush (pc := 81) (v := nI 10) dX12_sizeOf_81 (by decide) ?_
              refine Rn.icmp_ltN (pc := 83) (tgt := 90) dX12_sizeOf_83 (by decide) (by omega) (by omega) (fun c83 => ?_) (fun c83 => ?_)
              · exact absurd c83 (by decide)
              · refine Rn.iconst (pc := 86) (v := nI 2) dX12_sizeOf_86 (by decide) ?_
                refine Rn.goto (pc := 87) (tgt := 91) dX12_sizeOf_87 (by decide) ?_
                refine Rn.iret (pc := 91) rfl dX12_sizeOf_91 ?_
                exact ⟨rfl, rfl⟩
            · exact absurd c70 (by decide)
      · exact absurd c40 (by decide)
    · exact absurd c22 (by decide)
  · exact absurd c6 (by decide)

set_option maxRecDepth 20000 in
set_option maxHeartbeats 4000000 in
theorem c_sizeOf_13 (G : GX) {M : Mem} (p num : Nat) (hst : mI M 11 0 13 = nI 13) (hp : p ≤ 1024) : MetM G yX12_sizeOf iX12_sizeOf [vR 11 0, vI (nI p)] M (fun r M' => r = some (vI (nI (if 13 < 5 then 0 else lyN 13 p num))) ∧ M' = M) := by
  refine MetM.of (ls := [some (vR 11 0), some (vI (nI p))]) (by decide) rfl (Nat.le_of_ble_eq_true rfl) rfl ?_
  intro hM0
  refine Rn.aload_n (pc := 0) dX12_sizeOf_0 rfl rfl ?_
  refine Rn.getI (pc := 1) (t := 0) flX12_156 (show mI M 11 0 13 = nI 13 from hst) dX12_sizeOf_1 ?_
  refine Rn.bipush (pc := 4) (v := nI 8) dX12_sizeOf_4 (by decide) ?_
  refine Rn.icmp_neN (pc := 6) (tgt := 16) dX12_sizeOf_6 (by decide) (by omega) (by omega) (fun c6 => ?_) (fun c6 => ?_)
  · refine Rn.aload_n (pc := 16) dX12_sizeOf_16 rfl rfl ?_
    refine Rn.getI (pc := 17) (t := 0) flX12_156 (show mI M 11 0 13 = nI 13 from hst) dX12_sizeOf_17 ?_
    refine Rn.bipush (pc := 20) (v := nI 9) dX12_sizeOf_20 (by decide) ?_
    refine Rn.icmp_neN (pc := 22) (tgt := 34) dX12_sizeOf_22 (by decide) (by omega) (by omega) (fun c22 => ?_) (fun c22 => ?_)
    · refine Rn.aload_n (pc := 34) dX12_sizeOf_34 rfl rfl ?_
      refine Rn.getI (pc := 35) (t := 0) flX12_156 (show mI M 11 0 13 = nI 13 from hst) dX12_sizeOf_35 ?_
      refine Rn.bipush (pc := 38) (v := nI 7) dX12_sizeOf_38 (by decide) ?_
      refine Rn.icmp_neN (pc := 40) (tgt := 47) dX12_sizeOf_40 (by decide) (by omega) (by omega) (fun c40 => ?_) (fun c40 => ?_)
      · refine Rn.aload_n (pc := 47) dX12_sizeOf_47 rfl rfl ?_
        refine Rn.getI (pc := 48) (t := 0) flX12_156 (show mI M 11 0 13 = nI 13 from hst) dX12_sizeOf_48 ?_
        refine Rn.iconst (pc := 51) (v := nI 5) dX12_sizeOf_51 (by decide) ?_
        refine Rn.icmp_eqN (pc := 52) (tgt := 73) dX12_sizeOf_52 (by decide) (by omega) (by omega) (fun c52 => ?_) (fun c52 => ?_)
        · exact absurd c52 (by decide)
        · refine Rn.aload_n (pc := 55) dX12_sizeOf_55 rfl rfl ?_
          refine Rn.getI (pc := 56) (t := 0) flX12_156 (show mI M 11 0 13 = nI 13 from hst) dX12_sizeOf_56 ?_
          refine Rn.bipush (pc := 59) (v := nI 6) dX12_sizeOf_59 (by decide) ?_
          refine Rn.icmp_eqN (pc := 61) (tgt := 73) dX12_sizeOf_61 (by decide) (by omega) (by omega) (fun c61 => ?_) (fun c61 => ?_)
          · exact absurd c61 (by decide)
          · refine Rn.aload_n (pc := 64) dX12_sizeOf_64 rfl rfl ?_
            refine Rn.getI (pc := 65) (t := 0) flX12_156 (show mI M 11 0 13 = nI 13 from hst) dX12_sizeOf_65 ?_
            refine Rn.bipush (pc := 68) (v := nI 13) dX12_sizeOf_68 (by decide) ?_
            refine Rn.icmp_neN (pc := 70) (tgt := 77) dX12_sizeOf_70 (by decide) (by omega) (by omega) (fun c70 => ?_) (fun c70 => ?_)
            · exact absurd c70 (by decide)
            · refine Rn.iconst (pc := 73) (v := nI 4) dX12_sizeOf_73 (by decide) ?_
              refine Rn.goto (pc := 74) (tgt := 91) dX12_sizeOf_74 (by decide) ?_
              refine Rn.iret (pc := 91) rfl dX12_sizeOf_91 ?_
              exact ⟨rfl, rfl⟩
      · exact absurd c40 (by decide)
    · exact absurd c22 (by decide)
  · exact absurd c6 (by decide)

set_option maxRecDepth 20000 in
set_option maxHeartbeats 4000000 in
theorem c_sizeOf_14 (G : GX) {M : Mem} (p num : Nat) (hst : mI M 11 0 13 = nI 14) (hp : p ≤ 1024) : MetM G yX12_sizeOf iX12_sizeOf [vR 11 0, vI (nI p)] M (fun r M' => r = some (vI (nI (if 14 < 5 then 0 else lyN 14 p num))) ∧ M' = M) := by
  refine MetM.of (ls := [some (vR 11 0), some (vI (nI p))]) (by decide) rfl (Nat.le_of_ble_eq_true rfl) rfl ?_
  intro hM0
  refine Rn.aload_n (pc := 0) dX12_sizeOf_0 rfl rfl ?_
  refine Rn.getI (pc := 1) (t := 0) flX12_156 (show mI M 11 0 13 = nI 14 from hst) dX12_sizeOf_1 ?_
  refine Rn.bipush (pc := 4) (v := nI 8) dX12_sizeOf_4 (by decide) ?_
  refine Rn.icmp_neN (pc := 6) (tgt := 16) dX12_sizeOf_6 (by decide) (by omega) (by omega) (fun c6 => ?_) (fun c6 => ?_)
  · refine Rn.aload_n (pc := 16) dX12_sizeOf_16 rfl rfl ?_
    refine Rn.getI (pc := 17) (t := 0) flX12_156 (show mI M 11 0 13 = nI 14 from hst) dX12_sizeOf_17 ?_
    refine Rn.bipush (pc := 20) (v := nI 9) dX12_sizeOf_20 (by decide) ?_
    refine Rn.icmp_neN (pc := 22) (tgt := 34) dX12_sizeOf_22 (by decide) (by omega) (by omega) (fun c22 => ?_) (fun c22 => ?_)
    · refine Rn.aload_n (pc := 34) dX12_sizeOf_34 rfl rfl ?_
      refine Rn.getI (pc := 35) (t := 0) flX12_156 (show mI M 11 0 13 = nI 14 from hst) dX12_sizeOf_35 ?_
      refine Rn.bipush (pc := 38) (v := nI 7) dX12_sizeOf_38 (by decide) ?_
      refine Rn.icmp_neN (pc := 40) (tgt := 47) dX12_sizeOf_40 (by decide) (by omega) (by omega) (fun c40 => ?_) (fun c40 => ?_)
      · refine Rn.aload_n (pc := 47) dX12_sizeOf_47 rfl rfl ?_
        refine Rn.getI (pc := 48) (t := 0) flX12_156 (show mI M 11 0 13 = nI 14 from hst) dX12_sizeOf_48 ?_
        refine Rn.iconst (pc := 51) (v := nI 5) dX12_sizeOf_51 (by decide) ?_
        refine Rn.icmp_eqN (pc := 52) (tgt := 73) dX12_sizeOf_52 (by decide) (by omega) (by omega) (fun c52 => ?_) (fun c52 => ?_)
        · exact absurd c52 (by decide)
        · refine Rn.aload_n (pc := 55) dX12_sizeOf_55 rfl rfl ?_
          refine Rn.getI (pc := 56) (t := 0) flX12_156 (show mI M 11 0 13 = nI 14 from hst) dX12_sizeOf_56 ?_
          refine Rn.bipush (pc := 59) (v := nI 6) dX12_sizeOf_59 (by decide) ?_
          refine Rn.icmp_eqN (pc := 61) (tgt := 73) dX12_sizeOf_61 (by decide) (by omega) (by omega) (fun c61 => ?_) (fun c61 => ?_)
          · exact absurd c61 (by decide)
          · refine Rn.aload_n (pc := 64) dX12_sizeOf_64 rfl rfl ?_
            refine Rn.getI (pc := 65) (t := 0) flX12_156 (show mI M 11 0 13 = nI 14 from hst) dX12_sizeOf_65 ?_
            refine Rn.bipush (pc := 68) (v := nI 13) dX12_sizeOf_68 (by decide) ?_
            refine Rn.icmp_neN (pc := 70) (tgt := 77) dX12_sizeOf_70 (by decide) (by omega) (by omega) (fun c70 => ?_) (fun c70 => ?_)
            · refine Rn.aload_n (pc := 77) dX12_sizeOf_77 rfl rfl ?_
              refine Rn.getI (pc := 78) (t := 0) flX12_156 (show mI M 11 0 13 = nI 14 from hst) dX12_sizeOf_78 ?_
              refine Rn.bipush (pc := 81) (v := nI 10) dX12_sizeOf_81 (by decide) ?_
              refine Rn.icmp_ltN (pc := 83) (tgt := 90) dX12_sizeOf_83 (by decide) (by omega) (by omega) (fun c83 => ?_) (fun c83 => ?_)
              · exact absurd c83 (by decide)
              · refine Rn.iconst (pc := 86) (v := nI 2) dX12_sizeOf_86 (by decide) ?_
                refine Rn.goto (pc := 87) (tgt := 91) dX12_sizeOf_87 (by decide) ?_
                refine Rn.iret (pc := 91) rfl dX12_sizeOf_91 ?_
                exact ⟨rfl, rfl⟩
            · exact absurd c70 (by decide)
      · exact absurd c40 (by decide)
    · exact absurd c22 (by decide)
  · exact absurd c6 (by decide)

theorem c_sizeOf (G : GX) {M : Mem} (p num st : Nat) (h15 : st < 15) (hst : mI M 11 0 13 = nI st) (hp : p ≤ 1024) (h8 : st = 8 → mI M 11 0 16 = nI num) : MetM G yX12_sizeOf iX12_sizeOf [vR 11 0, vI (nI p)] M (fun r M' => r = some (vI (nI (if st < 5 then 0 else lyN st p num))) ∧ M' = M) := by
  match st, h15, hst, h8 with
  | 0, _, hst, _ => exact c_sizeOf_0 G p num hst hp
  | 1, _, hst, _ => exact c_sizeOf_1 G p num hst hp
  | 2, _, hst, _ => exact c_sizeOf_2 G p num hst hp
  | 3, _, hst, _ => exact c_sizeOf_3 G p num hst hp
  | 4, _, hst, _ => exact c_sizeOf_4 G p num hst hp
  | 5, _, hst, _ => exact c_sizeOf_5 G p num hst hp
  | 6, _, hst, _ => exact c_sizeOf_6 G p num hst hp
  | 7, _, hst, _ => exact c_sizeOf_7 G p num hst hp
  | 8, _, hst, h8 => exact c_sizeOf_8 G p num hst hp (h8 rfl)
  | 9, _, hst, _ => exact c_sizeOf_9 G p num hst hp
  | 10, _, hst, _ => exact c_sizeOf_10 G p num hst hp
  | 11, _, hst, _ => exact c_sizeOf_11 G p num hst hp
  | 12, _, hst, _ => exact c_sizeOf_12 G p num hst hp
  | 13, _, hst, _ => exact c_sizeOf_13 G p num hst hp
  | 14, _, hst, _ => exact c_sizeOf_14 G p num hst hp
  | n + 15, h, _, _ => exact absurd h (by omega)
