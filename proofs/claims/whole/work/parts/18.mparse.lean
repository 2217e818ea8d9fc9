theorem nI_or {a b : Nat} : nI a ||| nI b = nI (a ||| b) := Int32.toBitVec_inj.mp (by
  rw [Int32.toBitVec_or]
  show BitVec.ofNat 32 a ||| BitVec.ofNat 32 b = BitVec.ofNat 32 (a ||| b)
  rw [BitVec.ofNat_or])
theorem nI_2 {x y : Nat} (hx : x < 256) (hy : y < 256) : nI x <<< (nI 8 &&& 31) ||| nI y = nI (x * 256 + y) := by
  rw [pk_shlN (nI 8 &&& 31) 8 (by decide) (by omega), nI_or]
  congr 1
  have := Nat.shiftLeft_add_eq_or_of_lt (i := 8) (b := y) (by omega) x
  rw [Nat.shiftLeft_eq] at this
  omega
def cdF (c : Nat) : Option Nat := if c = 25443 then some 3 else if c = 25459 then some 2 else if c = 25969 then some 0 else if c = 26469 then some 10 else if c = 26484 then some 12 else if c = 26729 then some 8 else if c = 27749 then some 13 else if c = 27763 then some 9 else if c = 27764 then some 11 else if c = 28009 then some 4 else if c = 28261 then some 1 else if c = 28780 then some 5 else if c = 30307 then some 7 else if c = 30323 then some 6 else none
def prV : Option Nat → Int32
  | none => -1
  | some k => nI k
def cdN (L : Nat → Nat) (a e : Nat) : Option Nat := if e - a = 2 then cdF (L a * 256 + L (a + 1)) else none
set_option maxRecDepth 20000 in
set_option maxHeartbeats 4000000 in
theorem c_condition (G : GX) {o n : Nat} {L : Nat → Nat} {M : Mem} (h : LnOK o n L M) (s : PS) (a e : Nat) (ha : a ≤ e) (he : e ≤ n) : MetM G yX12_condition iX12_condition [vR 11 0, vI (nI (o + a)), vI (nI (o + e))] (wS o M s) (fun r M' => r = some (vI (prV (cdN L a e))) ∧ M' = wS o M s) := by
  refine MetM.of (ls := [some (vR 11 0), some (vI (nI (o + a))), some (vI (nI (o + e))), none]) (by decide) rfl (Nat.le_of_ble_eq_true rfl) rfl ?_
  intro hM0
  have hq1 := h.2.1
  have hq2 := h.2.2.1
  refine Rn.iload_n (pc := 0) dX12_condition_0 rfl rfl ?_
  refine Rn.iload_n (pc := 1) dX12_condition_1 rfl rfl ?_
  refine Rn.isub (pc := 2) dX12_condition_2 ?_
  rw [pk_sub (by omega), show o + e - (o + a) = e - a by omega]
  refine Rn.iconst (pc := 3) (v := nI 2) dX12_condition_3 (by decide) ?_
  refine Rn.icmp_eqN (pc := 4) (tgt := 9) dX12_condition_4 (by decide) (by omega) (by omega) (fun c4 => ?_) (fun c4 => ?_)
  · refine Rn.aload_n (pc := 9) dX12_condition_9 rfl rfl ?_
    refine Rn.getR (pc := 10) flX12_20 mu11_5 fx11_5 dX12_condition_10 ?_
    refine Rn.iload_n (pc := 13) dX12_condition_13 rfl rfl ?_
    refine Rn.caldN (pc := 14) ak25 (by omega) (by decide) (wS_tx h a (by omega)) dX12_condition_14 ?_
    refine Rn.bipush (pc := 15) (v := nI 8) dX12_condition_15 (by decide) ?_
    refine Rn.ishl (pc := 17) dX12_condition_17 ?_
    refine Rn.aload_n (pc := 18) dX12_condition_18 rfl rfl ?_
    refine Rn.getR (pc := 19) flX12_20 mu11_5 fx11_5 dX12_condition_19 ?_
    refine Rn.iload_n (pc := 22) dX12_condition_22 rfl rfl ?_
    refine Rn.iconst (pc := 23) (v := nI 1) dX12_condition_23 (by decide) ?_
    refine Rn.iaddN (pc := 24) dX12_condition_24 ?_
    rw [Nat.add_assoc]
    refine Rn.caldN (pc := 25) ak25 (by omega) (by decide) (wS_tx h (a + 1) (by omega)) dX12_condition_25 ?_
    refine Rn.ior (pc := 26) dX12_condition_26 ?_
    rw [nI_2 (h.2.2.2.2.1 a (by omega)).2 (h.2.2.2.2.1 (a + 1) (by omega)).2]
    refine Rn.istore_n (pc := 27) dX12_condition_27 rfl (by decide) rfl st4_3 ?_
    refine Rn.iload_n (pc := 28) dX12_condition_28 rfl rfl ?_
    obtain ⟨c, hc⟩ : ∃ c, c = L a * 256 + L (a + 1) := ⟨_, rfl⟩
    rw [← hc]
    have hc2 : c < 65536 := by have := h.2.2.2.2.1 a (by omega); have := h.2.2.2.2.1 (a + 1) (by omega); omega
    by_cases q25443 : c = 25443
    · subst q25443
      refine Rn.lookup (pc := 29) (off := 129) (tgt := 158) dX12_condition_29 (by decide) (by decide) (by decide) ?_
      refine Rn.iconst (pc := 158) (v := nI 3) dX12_condition_158 (by decide) ?_
      refine Rn.iret (pc := 159) rfl dX12_condition_159 ?_
      refine ⟨?_, rfl⟩; rw [cdN, if_pos c4, ← hc]; rfl
    by_cases q25459 : c = 25459
    · subst q25459
      refine Rn.lookup (pc := 29) (off := 127) (tgt := 156) dX12_condition_29 (by decide) (by decide) (by decide) ?_
      refine Rn.iconst (pc := 156) (v := nI 2) dX12_condition_156 (by decide) ?_
      refine Rn.iret (pc := 157) rfl dX12_condition_157 ?_
      refine ⟨?_, rfl⟩; rw [cdN, if_pos c4, ← hc]; rfl
    by_cases q25969 : c = 25969
    · subst q25969
      refine Rn.lookup (pc := 29) (off := 123) (tgt := 152) dX12_condition_29 (by decide) (by decide) (by decide) ?_
      refine Rn.iconst (pc := 152) (v := nI 0) dX12_condition_152 (by decide) ?_
      refine Rn.iret (pc := 153) rfl dX12_condition_153 ?_
      refine ⟨?_, rfl⟩; rw [cdN, if_pos c4, ← hc]; rfl
    by_cases q26469 : c = 26469
    · subst q26469
      refine Rn.lookup (pc := 29) (off := 147) (tgt := 176) dX12_condition_29 (by decide) (by decide) (by decide) ?_
      refine Rn.bipush (pc := 176) (v := nI 10) dX12_condition_176 (by decide) ?_
      refine Rn.iret (pc := 178) rfl dX12_condition_178 ?_
      refine ⟨?_, rfl⟩; rw [cdN, if_pos c4, ← hc]; rfl
    by_cases q26484 : c = 26484
    · subst q26484
      refine Rn.lookup (pc := 29) (off := 153) (tgt := 182) dX12_condition_29 (by decide) (by decide) (by decide) ?_
      refine Rn.bipush (pc := 182) (v := nI 12) dX12_condition_182 (by decide) ?_
      refine Rn.iret (pc := 184) rfl dX12_condition_184 ?_
      refine ⟨?_, rfl⟩; rw [cdN, if_pos c4, ← hc]; rfl
    by_cases q26729 : c = 26729
    · subst q26729
      refine Rn.lookup (pc := 29) (off := 141) (tgt := 170) dX12_condition_29 (by decide) (by decide) (by decide) ?_
      refine Rn.bipush (pc := 170) (v := nI 8) dX12_condition_170 (by decide) ?_
      refine Rn.iret (pc := 172) rfl dX12_condition_172 ?_
      refine ⟨?_, rfl⟩; rw [cdN, if_pos c4, ← hc]; rfl
    by_cases q27749 : c = 27749
    · subst q27749
      refine Rn.lookup (pc := 29) (off := 156) (tgt := 185) dX12_condition_29 (by decide) (by decide) (by decide) ?_
      refine Rn.bipush (pc := 185) (v := nI 13) dX12_condition_185 (by decide) ?_
      refine Rn.iret (pc := 187) rfl dX12_condition_187 ?_
      refine ⟨?_, rfl⟩; rw [cdN, if_pos c4, ← hc]; rfl
    by_cases q27763 : c = 27763
    · subst q27763
      refine Rn.lookup (pc := 29) (off := 144) (tgt := 173) dX12_condition_29 (by decide) (by decide) (by decide) ?_
      refine Rn.bipush (pc := 173) (v := nI 9) dX12_condition_173 (by decide) ?_
      refine Rn.iret (pc := 175) rfl dX12_condition_175 ?_
      refine ⟨?_, rfl⟩; rw [cdN, if_pos c4, ← hc]; rfl
    by_cases q27764 : c = 27764
    · subst q27764
      refine Rn.lookup (pc := 29) (off := 150) (tgt := 179) dX12_condition_29 (by decide) (by decide) (by decide) ?_
      refine Rn.bipush (pc := 179) (v := nI 11) dX12_condition_179 (by decide) ?_
      refine Rn.iret (pc := 181) rfl dX12_condition_181 ?_
      refine ⟨?_, rfl⟩; rw [cdN, if_pos c4, ← hc]; rfl
    by_cases q28009 : c = 28009
    · subst q28009
      refine Rn.lookup (pc := 29) (off := 131) (tgt := 160) dX12_condition_29 (by decide) (by decide) (by decide) ?_
      refine Rn.iconst (pc := 160) (v := nI 4) dX12_condition_160 (by decide) ?_
      refine Rn.iret (pc := 161) rfl dX12_condition_161 ?_
      refine ⟨?_, rfl⟩; rw [cdN, if_pos c4, ← hc]; rfl
    by_cases q28261 : c = 28261
    · subst q28261
      refine Rn.lookup (pc := 29) (off := 125) (tgt := 154) dX12_condition_29 (by decide) (by decide) (by decide) ?_
      refine Rn.iconst (pc := 154) (v := nI 1) dX12_condition_154 (by decide) ?_
      refine Rn.iret (pc := 155) rfl dX12_condition_155 ?_
      refine ⟨?_, rfl⟩; rw [cdN, if_pos c4, ← hc]; rfl
    by_cases q28780 : c = 28780
    · subst q28780
      refine Rn.lookup (pc := 29) (off := 133) (tgt := 162) dX12_condition_29 (by decide) (by decide) (by decide) ?_
      refine Rn.iconst (pc := 162) (v := nI 5) dX12_condition_162 (by decide) ?_
      refine Rn.iret (pc := 163) rfl dX12_condition_163 ?_
      refine ⟨?_, rfl⟩; rw [cdN, if_pos c4, ← hc]; rfl
    by_cases q30307 : c = 30307
    · subst q30307
      refine Rn.lookup (pc := 29) (off := 138) (tgt := 167) dX12_condition_29 (by decide) (by decide) (by decide) ?_
      refine Rn.bipush (pc := 167) (v := nI 7) dX12_condition_167 (by decide) ?_
      refine Rn.iret (pc := 169) rfl dX12_condition_169 ?_
      refine ⟨?_, rfl⟩; rw [cdN, if_pos c4, ← hc]; rfl
    by_cases q30323 : c = 30323
    · subst q30323
      refine Rn.lookup (pc := 29) (off := 135) (tgt := 164) dX12_condition_29 (by decide) (by decide) (by decide) ?_
      refine Rn.bipush (pc := 164) (v := nI 6) dX12_condition_164 (by decide) ?_
      refine Rn.iret (pc := 166) rfl dX12_condition_166 ?_
      refine ⟨?_, rfl⟩; rw [cdN, if_pos c4, ← hc]; rfl
    refine Rn.lookup (pc := 29) (tgt := 188) dX12_condition_29 (by decide) (show Op.lookupswitch.offset [(25443, 129), (25459, 127), (25969, 123), (26469, 147), (26484, 153), (26729, 141), (27749, 156), (27763, 144), (27764, 150), (28009, 131), (28261, 125), (28780, 133), (30307, 138), (30323, 135)] 159 _ = 159 by rw [lv_osw (k := nI 25443) (fun q => q25443 ((nI_eq (by omega) (by decide)).mp q)) (by decide), lv_osw (k := nI 25459) (fun q => q25459 ((nI_eq (by omega) (by decide)).mp q)) (by decide), lv_osw (k := nI 25969) (fun q => q25969 ((nI_eq (by omega) (by decide)).mp q)) (by decide), lv_osw (k := nI 26469) (fun q => q26469 ((nI_eq (by omega) (by decide)).mp q)) (by decide), lv_osw (k := nI 26484) (fun q => q26484 ((nI_eq (by omega) (by decide)).mp q)) (by decide), lv_osw (k := nI 26729) (fun q => q26729 ((nI_eq (by omega) (by decide)).mp q)) (by decide), lv_osw (k := nI 27749) (fun q => q27749 ((nI_eq (by omega) (by decide)).mp q)) (by decide), lv_osw (k := nI 27763) (fun q => q27763 ((nI_eq (by omega) (by decide)).mp q)) (by decide), lv_osw (k := nI 27764) (fun q => q27764 ((nI_eq (by omega) (by decide)).mp q)) (by decide), lv_osw (k := nI 28009) (fun q => q28009 ((nI_eq (by omega) (by decide)).mp q)) (by decide), lv_osw (k := nI 28261) (fun q => q28261 ((nI_eq (by omega) (by decide)).mp q)) (by decide), lv_osw (k := nI 28780) (fun q => q28780 ((nI_eq (by omega) (by decide)).mp q)) (by decide), lv_osw (k := nI 30307) (fun q => q30307 ((nI_eq (by omega) (by decide)).mp q)) (by decide), lv_osw (k := nI 30323) (fun q => q30323 ((nI_eq (by omega) (by decide)).mp q)) (by decide)]; rfl) (by decide) ?_
    refine Rn.iconst (pc := 188) (v := -1) dX12_condition_188 (by decide) ?_
    refine Rn.iret (pc := 189) rfl dX12_condition_189 ?_
    refine ⟨?_, rfl⟩; rw [cdN, if_pos c4, ← hc, cdF, if_neg q25443, if_neg q25459, if_neg q25969, if_neg q26469, if_neg q26484, if_neg q26729, if_neg q27749, if_neg q27763, if_neg q27764, if_neg q28009, if_neg q28261, if_neg q28780, if_neg q30307, if_neg q30323]; rfl
  · refine Rn.iconst (pc := 7) (v := -1) dX12_condition_7 (by decide) ?_
    refine Rn.iret (pc := 8) rfl dX12_condition_8 ?_
    refine ⟨?_, rfl⟩; rw [cdN, if_neg c4]; rfl

def prN (L : Nat → Nat) (a e : Nat) : Option Nat := if isW L a e 1634624627 = true then some 0 else if isW L a e 1701802611 = true then some 1 else if isW L a e 1633969011 = true then some 5 else if isW L a e 1935827827 = true then some 6 else if isW L a e 7631732 = true then some 8 else if isW L a e 1852139379 = true then some 9 else if isW L a e 1869771379 = true then some 12 else if isW L a e 1836412019 = true then some 13 else if isW L a e 1651073907 = true then some 14 else if isW L a e 1836478067 = true then some 15 else none
set_option maxRecDepth 20000 in
set_option maxHeartbeats 4000000 in
theorem c_pairOf (G : GX) {o n : Nat} {L : Nat → Nat} {M : Mem} (h : LnOK o n L M) (s : PS) (a e : Nat) (ha : a ≤ e) (he : e ≤ n) : MetM G yX12_pairOf iX12_pairOf [vR 11 0, vI (nI (o + a)), vI (nI (o + e))] (wS o M s) (fun r M' => r = some (vI (prV (prN L a e))) ∧ M' = wS o M s) := by
  refine MetM.of (ls := [some (vR 11 0), some (vI (nI (o + a))), some (vI (nI (o + e)))]) (by decide) rfl (Nat.le_of_ble_eq_true rfl) rfl ?_
  intro hM0
  have hq1 := h.2.1
  have hq2 := h.2.2.1
  refine Rn.aload_n (pc := 0) dX12_pairOf_0 rfl rfl ?_
  refine Rn.iload_n (pc := 1) dX12_pairOf_1 rfl rfl ?_
  refine Rn.iload_n (pc := 2) dX12_pairOf_2 rfl rfl ?_
  refine Rn.ldc2 (pc := 3) dX12_pairOf_3 wlX12_234 ?_
  refine Rn.callV (pc := 6) (as := [_, _, _]) cvX12_174 ⟨by decide, rfl⟩ ⟨by decide, by decide⟩ dX12_pairOf_6 (Nat.le_of_ble_eq_true rfl) rfl (c_isWord G h s a e 1634624627 ha he (by decide)) ?_
  rintro _ _ ⟨rfl, rfl⟩
  refine Rn.if_eqB (pc := 9) (tgt := 16) dX12_pairOf_9 (by decide) (fun c9 => ?_) (fun c9 => ?_)
  · refine Rn.aload_n (pc := 16) dX12_pairOf_16 rfl rfl ?_
    refine Rn.iload_n (pc := 17) dX12_pairOf_17 rfl rfl ?_
    refine Rn.iload_n (pc := 18) dX12_pairOf_18 rfl rfl ?_
    refine Rn.ldc2 (pc := 19) dX12_pairOf_19 wlX12_236 ?_
    refine Rn.callV (pc := 22) (as := [_, _, _]) cvX12_174 ⟨by decide, rfl⟩ ⟨by decide, by decide⟩ dX12_pairOf_22 (Nat.le_of_ble_eq_true rfl) rfl (c_isWord G h s a e 1701802611 ha he (by decide)) ?_
    rintro _ _ ⟨rfl, rfl⟩
    refine Rn.if_eqB (pc := 25) (tgt := 32) dX12_pairOf_25 (by decide) (fun c25 => ?_) (fun c25 => ?_)
    · refine Rn.aload_n (pc := 32) dX12_pairOf_32 rfl rfl ?_
      refine Rn.iload_n (pc := 33) dX12_pairOf_33 rfl rfl ?_
      refine Rn.iload_n (pc := 34) dX12_pairOf_34 rfl rfl ?_
      refine Rn.ldc2 (pc := 35) dX12_pairOf_35 wlX12_238 ?_
      refine Rn.callV (pc := 38) (as := [_, _, _]) cvX12_174 ⟨by decide, rfl⟩ ⟨by decide, by decide⟩ dX12_pairOf_38 (Nat.le_of_ble_eq_true rfl) rfl (c_isWord G h s a e 1633969011 ha he (by decide)) ?_
      rintro _ _ ⟨rfl, rfl⟩
      refine Rn.if_eqB (pc := 41) (tgt := 48) dX12_pairOf_41 (by decide) (fun c41 => ?_) (fun c41 => ?_)
      · refine Rn.aload_n (pc := 48) dX12_pairOf_48 rfl rfl ?_
        refine Rn.iload_n (pc := 49) dX12_pairOf_49 rfl rfl ?_
        refine Rn.iload_n (pc := 50) dX12_pairOf_50 rfl rfl ?_
        refine Rn.ldc2 (pc := 51) dX12_pairOf_51 wlX12_240 ?_
        refine Rn.callV (pc := 54) (as := [_, _, _]) cvX12_174 ⟨by decide, rfl⟩ ⟨by decide, by decide⟩ dX12_pairOf_54 (Nat.le_of_ble_eq_true rfl) rfl (c_isWord G h s a e 1935827827 ha he (by decide)) ?_
        rintro _ _ ⟨rfl, rfl⟩
        refine Rn.if_eqB (pc := 57) (tgt := 65) dX12_pairOf_57 (by decide) (fun c57 => ?_) (fun c57 => ?_)
        · refine Rn.aload_n (pc := 65) dX12_pairOf_65 rfl rfl ?_
          refine Rn.iload_n (pc := 66) dX12_pairOf_66 rfl rfl ?_
          refine Rn.iload_n (pc := 67) dX12_pairOf_67 rfl rfl ?_
          refine Rn.ldc2 (pc := 68) dX12_pairOf_68 wlX12_242 ?_
          refine Rn.callV (pc := 71) (as := [_, _, _]) cvX12_174 ⟨by decide, rfl⟩ ⟨by decide, by decide⟩ dX12_pairOf_71 (Nat.le_of_ble_eq_true rfl) rfl (c_isWord G h s a e 7631732 ha he (by decide)) ?_
          rintro _ _ ⟨rfl, rfl⟩
          refine Rn.if_eqB (pc := 74) (tgt := 82) dX12_pairOf_74 (by decide) (fun c74 => ?_) (fun c74 => ?_)
          · refine Rn.aload_n (pc := 82) dX12_pairOf_82 rfl rfl ?_
            refine Rn.iload_n (pc := 83) dX12_pairOf_83 rfl rfl ?_
            refine Rn.iload_n (pc := 84) dX12_pairOf_84 rfl rfl ?_
            refine Rn.ldc2 (pc := 85) dX12_pairOf_85 wlX12_244 ?_
            refine Rn.callV (pc := 88) (as := [_, _, _]) cvX12_174 ⟨by decide, rfl⟩ ⟨by decide, by decide⟩ dX12_pairOf_88 (Nat.le_of_ble_eq_true rfl) rfl (c_isWord G h s a e 1852139379 ha he (by decide)) ?_
            rintro _ _ ⟨rfl, rfl⟩
            refine Rn.if_eqB (pc := 91) (tgt := 99) dX12_pairOf_91 (by decide) (fun c91 => ?_) (fun c91 => ?_)
            · refine Rn.aload_n (pc := 99) dX12_pairOf_99 rfl rfl ?_
              refine Rn.iload_n (pc := 100) dX12_pairOf_100 rfl rfl ?_
              refine Rn.iload_n (pc := 101) dX12_pairOf_101 rfl rfl ?_
              refine Rn.ldc2 (pc := 102) dX12_pairOf_102 wlX12_246 ?_
              refine Rn.callV (pc := 105) (as := [_, _, _]) cvX12_174 ⟨by decide, rfl⟩ ⟨by decide, by decide⟩ dX12_pairOf_105 (Nat.le_of_ble_eq_true rfl) rfl (c_isWord G h s a e 1869771379 ha he (by decide)) ?_
              rintro _ _ ⟨rfl, rfl⟩
              refine Rn.if_eqB (pc := 108) (tgt := 116) dX12_pairOf_108 (by decide) (fun c108 => ?_) (fun c108 => ?_)
              · refine Rn.aload_n (pc := 116) dX12_pairOf_116 rfl rfl ?_
                refine Rn.iload_n (pc := 117) dX12_pairOf_117 rfl rfl ?_
                refine Rn.iload_n (pc := 118) dX12_pairOf_118 rfl rfl ?_
                refine Rn.ldc2 (pc := 119) dX12_pairOf_119 wlX12_248 ?_
                refine Rn.callV (pc := 122) (as := [_, _, _]) cvX12_174 ⟨by decide, rfl⟩ ⟨by decide, by decide⟩ dX12_pairOf_122 (Nat.le_of_ble_eq_true rfl) rfl (c_isWord G h s a e 1836412019 ha he (by decide)) ?_
                rintro _ _ ⟨rfl, rfl⟩
                refine Rn.if_eqB (pc := 125) (tgt := 133) dX12_pairOf_125 (by decide) (fun c125 => ?_) (fun c125 => ?_)
                · refine Rn.aload_n (pc := 133) dX12_pairOf_133 rfl rfl ?_
                  refine Rn.iload_n (pc := 134) dX12_pairOf_134 rfl rfl ?_
                  refine Rn.iload_n (pc := 135) dX12_pairOf_135 rfl rfl ?_
                  refine Rn.ldc2 (pc := 136) dX12_pairOf_136 wlX12_250 ?_
                  refine Rn.callV (pc := 139) (as := [_, _, _]) cvX12_174 ⟨by decide, rfl⟩ ⟨by decide, by decide⟩ dX12_pairOf_139 (Nat.le_of_ble_eq_true rfl) rfl (c_isWord G h s a e 1651073907 ha he (by decide)) ?_
                  rintro _ _ ⟨rfl, rfl⟩
                  refine Rn.if_eqB (pc := 142) (tgt := 150) dX12_pairOf_142 (by decide) (fun c142 => ?_) (fun c142 => ?_)
                  · refine Rn.aload_n (pc := 150) dX12_pairOf_150 rfl rfl ?_
                    refine Rn.iload_n (pc := 151) dX12_pairOf_151 rfl rfl ?_
                    refine Rn.iload_n (pc := 152) dX12_pairOf_152 rfl rfl ?_
                    refine Rn.ldc2 (pc := 153) dX12_pairOf_153 wlX12_252 ?_
                    refine Rn.callV (pc := 156) (as := [_, _, _]) cvX12_174 ⟨by decide, rfl⟩ ⟨by decide, by decide⟩ dX12_pairOf_156 (Nat.le_of_ble_eq_true rfl) rfl (c_isWord G h s a e 1836478067 ha he (by decide)) ?_
                    rintro _ _ ⟨rfl, rfl⟩
                    refine Rn.if_eqB (pc := 159) (tgt := 167) dX12_pairOf_159 (by decide) (fun c159 => ?_) (fun c159 => ?_)
                    · refine Rn.iconst (pc := 167) (v := -1) dX12_pairOf_167 (by decide) ?_
                      refine Rn.iret (pc := 168) rfl dX12_pairOf_168 ?_
                      refine ⟨?_, rfl⟩; rw [prN, if_neg (by rw [c9]; decide), if_neg (by rw [c25]; decide), if_neg (by rw [c41]; decide), if_neg (by rw [c57]; decide), if_neg (by rw [c74]; decide), if_neg (by rw [c91]; decide), if_neg (by rw [c108]; decide), if_neg (by rw [c125]; decide), if_neg (by rw [c142]; decide), if_neg (by rw [c159]; decide)]; rfl
                    · refine Rn.bipush (pc := 162) (v := nI 15) dX12_pairOf_162 (by decide) ?_
                      refine Rn.goto (pc := 164) (tgt := 168) dX12_pairOf_164 (by decide) ?_
                      refine Rn.iret (pc := 168) rfl dX12_pairOf_168 ?_
                      refine ⟨?_, rfl⟩; rw [prN, if_neg (by rw [c9]; decide), if_neg (by rw [c25]; decide), if_neg (by rw [c41]; decide), if_neg (by rw [c57]; decide), if_neg (by rw [c74]; decide), if_neg (by rw [c91]; decide), if_neg (by rw [c108]; decide), if_neg (by rw [c125]; decide), if_neg (by rw [c142]; decide), if_pos c159]; rfl
                  · refine Rn.bipush (pc := 145) (v := nI 14) dX12_pairOf_145 (by decide) ?_
                    refine Rn.goto (pc := 147) (tgt := 168) dX12_pairOf_147 (by decide) ?_
                    refine Rn.iret (pc := 168) rfl dX12_pairOf_168 ?_
                    refine ⟨?_, rfl⟩; rw [prN, if_neg (by rw [c9]; decide), if_neg (by rw [c25]; decide), if_neg (by rw [c41]; decide), if_neg (by rw [c57]; decide), if_neg (by rw [c74]; decide), if_neg (by rw [c91]; decide), if_neg (by rw [c108]; decide), if_neg (by rw [c125]; decide), if_pos c142]; rfl
                · refine Rn.bipush (pc := 128) (v := nI 13) dX12_pairOf_128 (by decide) ?_
                  refine Rn.goto (pc := 130) (tgt := 168) dX12_pairOf_130 (by decide) ?_
                  refine Rn.iret (pc := 168) rfl dX12_pairOf_168 ?_
                  refine ⟨?_, rfl⟩; rw [prN, if_neg (by rw [c9]; decide), if_neg (by rw [c25]; decide), if_neg (by rw [c41]; decide), if_neg (by rw [c57]; decide), if_neg (by rw [c74]; decide), if_neg (by rw [c91]; decide), if_neg (by rw [c108]; decide), if_pos c125]; rfl
              · refine Rn.bipush (pc := 111) (v := nI 12) dX12_pairOf_111 (by decide) ?_
                refine Rn.goto (pc := 113) (tgt := 168) dX12_pairOf_113 (by decide) ?_
                refine Rn.iret (pc := 168) rfl dX12_pairOf_168 ?_
                refine ⟨?_, rfl⟩; rw [prN, if_neg (by rw [c9]; decide), if_neg (by rw [c25]; decide), if_neg (by rw [c41]; decide), if_neg (by rw [c57]; decide), if_neg (by rw [c74]; decide), if_neg (by rw [c91]; decide), if_pos c108]; rfl
            · refine Rn.bipush (pc := 94) (v := nI 9) dX12_pairOf_94 (by decide) ?_
              refine Rn.goto (pc := 96) (tgt := 168) dX12_pairOf_96 (by decide) ?_
              refine Rn.iret (pc := 168) rfl dX12_pairOf_168 ?_
              refine ⟨?_, rfl⟩; rw [prN, if_neg (by rw [c9]; decide), if_neg (by rw [c25]; decide), if_neg (by rw [c41]; decide), if_neg (by rw [c57]; decide), if_neg (by rw [c74]; decide), if_pos c91]; rfl
          · refine Rn.bipush (pc := 77) (v := nI 8) dX12_pairOf_77 (by decide) ?_
            refine Rn.goto (pc := 79) (tgt := 168) dX12_pairOf_79 (by decide) ?_
            refine Rn.iret (pc := 168) rfl dX12_pairOf_168 ?_
            refine ⟨?_, rfl⟩; rw [prN, if_neg (by rw [c9]; decide), if_neg (by rw [c25]; decide), if_neg (by rw [c41]; decide), if_neg (by rw [c57]; decide), if_pos c74]; rfl
        · refine Rn.bipush (pc := 60) (v := nI 6) dX12_pairOf_60 (by decide) ?_
          refine Rn.goto (pc := 62) (tgt := 168) dX12_pairOf_62 (by decide) ?_
          refine Rn.iret (pc := 168) rfl dX12_pairOf_168 ?_
          refine ⟨?_, rfl⟩; rw [prN, if_neg (by rw [c9]; decide), if_neg (by rw [c25]; decide), if_neg (by rw [c41]; decide), if_pos c57]; rfl
      · refine Rn.iconst (pc := 44) (v := nI 5) dX12_pairOf_44 (by decide) ?_
        refine Rn.goto (pc := 45) (tgt := 168) dX12_pairOf_45 (by decide) ?_
        refine Rn.iret (pc := 168) rfl dX12_pairOf_168 ?_
        refine ⟨?_, rfl⟩; rw [prN, if_neg (by rw [c9]; decide), if_neg (by rw [c25]; decide), if_pos c41]; rfl
    · refine Rn.iconst (pc := 28) (v := nI 1) dX12_pairOf_28 (by decide) ?_
      refine Rn.goto (pc := 29) (tgt := 168) dX12_pairOf_29 (by decide) ?_
      refine Rn.iret (pc := 168) rfl dX12_pairOf_168 ?_
      refine ⟨?_, rfl⟩; rw [prN, if_neg (by rw [c9]; decide), if_pos c25]; rfl
  · refine Rn.iconst (pc := 12) (v := nI 0) dX12_pairOf_12 (by decide) ?_
    refine Rn.goto (pc := 13) (tgt := 168) dX12_pairOf_13 (by decide) ?_
    refine Rn.iret (pc := 168) rfl dX12_pairOf_168 ?_
    refine ⟨?_, rfl⟩; rw [prN, if_pos c9]; rfl

def fWrd (o : Nat) (L : Nat → Nat) (n : Nat) (r : SR) (s : PS) : SR × PS :=
  if chA L n (skp L n s.1) = 45 ∨ isDig (chA L n (skp L n s.1)) = true then ((nI 5, r.2.1, (pNu L n (-9999) (nI 9999) (nI 1) (skp L n s.1, s.2)).1, r.2.2.2), (pNu L n (-9999) (nI 9999) (nI 1) (skp L n s.1, s.2)).2)
  else if (pTk L n 43 (fNa o L n (nI 6, r.2.1, nI 0, r.2.2.2) (skp L n s.1, s.2)).2).1 = true then (((fNa o L n (nI 6, r.2.1, nI 0, r.2.2.2) (skp L n s.1, s.2)).1.1, (fNa o L n (nI 6, r.2.1, nI 0, r.2.2.2) (skp L n s.1, s.2)).1.2.1, nI (pDg L n (pTk L n 43 (fNa o L n (nI 6, r.2.1, nI 0, r.2.2.2) (skp L n s.1, s.2)).2).2).1, (fNa o L n (nI 6, r.2.1, nI 0, r.2.2.2) (skp L n s.1, s.2)).1.2.2.2), (pDg L n (pTk L n 43 (fNa o L n (nI 6, r.2.1, nI 0, r.2.2.2) (skp L n s.1, s.2)).2).2).2)
  else if (pTk L n 45 (pTk L n 43 (fNa o L n (nI 6, r.2.1, nI 0, r.2.2.2) (skp L n s.1, s.2)).2).2).1 = true then (((fNa o L n (nI 6, r.2.1, nI 0, r.2.2.2) (skp L n s.1, s.2)).1.1, (fNa o L n (nI 6, r.2.1, nI 0, r.2.2.2) (skp L n s.1, s.2)).1.2.1, -nI (pDg L n (pTk L n 45 (pTk L n 43 (fNa o L n (nI 6, r.2.1, nI 0, r.2.2.2) (skp L n s.1, s.2)).2).2).2).1, (fNa o L n (nI 6, r.2.1, nI 0, r.2.2.2) (skp L n s.1, s.2)).1.2.2.2), (pDg L n (pTk L n 45 (pTk L n 43 (fNa o L n (nI 6, r.2.1, nI 0, r.2.2.2) (skp L n s.1, s.2)).2).2).2).2)
  else ((fNa o L n (nI 6, r.2.1, nI 0, r.2.2.2) (skp L n s.1, s.2)).1, (pTk L n 45 (pTk L n 43 (fNa o L n (nI 6, r.2.1, nI 0, r.2.2.2) (skp L n s.1, s.2)).2).2).2)
set_option maxRecDepth 20000 in
set_option maxHeartbeats 4000000 in
theorem c_word (G : GX) {o n : Nat} {L : Nat → Nat} {M : Mem} (h : LnOK o n L M) (r : SR) (s : PS) (hs : s.1 ≤ n) : MetM G yX12_word iX12_word [vR 11 0] (wS o (stS M r) s) (fun q M' => q = none ∧ M' = wS o (stS M (fWrd o L n r s).1) (fWrd o L n r s).2) := by
  refine MetM.of (ls := [some (vR 11 0), none]) (by decide) rfl (Nat.le_of_ble_eq_true rfl) rfl ?_
  intro hM0
  have hq1 := h.2.1
  have hq2 := h.2.2.1
  refine Rn.aload_n (pc := 0) dX12_word_0 rfl rfl ?_
  refine Rn.callV (pc := 1) (as := []) cvX12_116 ⟨by decide, rfl⟩ ⟨by decide, by decide⟩ dX12_word_1 (Nat.le_of_ble_eq_true rfl) rfl (c_next G (h.st r) s.1 hs s.2.1 s.2.2) ?_
  rintro _ _ ⟨rfl, rfl⟩
  rw [show wP o (stS M r) (skp L n s.1) s.2.1 s.2.2 = wS o (stS M r) (skp L n s.1, s.2) from rfl]
  refine Rn.istore_n (pc := 4) dX12_word_4 rfl (by decide) rfl st2_1 ?_
  refine Rn.iload_n (pc := 5) dX12_word_5 rfl rfl ?_
  refine Rn.bipush (pc := 6) (v := nI 45) dX12_word_6 (by decide) ?_
  refine Rn.icmp_eqN (pc := 8) (tgt := 18) dX12_word_8 (by decide) (by have := chA_lt h (skp L n s.1); omega) (by decide) (fun c8 => ?_) (fun c8 => ?_)
  · refine Rn.aload_n (pc := 18) dX12_word_18 rfl rfl ?_
    refine Rn.iconst (pc := 19) (v := nI 5) dX12_word_19 (by decide) ?_
    refine Rn.putI (pc := 20) (t := 0) flX12_156 rfl rfl dX12_word_20 ?_
    rw [wQ_13]
    refine Rn.aload_n (pc := 23) dX12_word_23 rfl rfl ?_
    refine Rn.aload_n (pc := 24) dX12_word_24 rfl rfl ?_
    refine Rn.sipush (pc := 25) (v := -9999) dX12_word_25 (by decide) ?_
    refine Rn.sipush (pc := 28) (v := nI 9999) dX12_word_28 (by decide) ?_
    refine Rn.iconst (pc := 31) (v := nI 1) dX12_word_31 (by decide) ?_
    refine Rn.callV (pc := 32) (as := [_, _, _]) cvX12_152 ⟨by decide, rfl⟩ ⟨by decide, by decide⟩ dX12_word_32 (Nat.le_of_ble_eq_true rfl) rfl (c_readNumber G (h.st (nI 5, r.2)) (skp L n s.1, s.2) (skp_le hs) (-9999) (nI 9999) (nI 1) (by decide)) ?_
    rintro _ _ ⟨rfl, rfl⟩
    refine Rn.putI (pc := 35) (t := 0) flX12_193 rfl rfl dX12_word_35 ?_
    rw [wQ_16]
    refine Rn.vret (pc := 38) rfl dX12_word_38 ?_
    refine ⟨rfl, ?_⟩; rw [fWrd, if_pos (Or.inl c8)]
  · refine Rn.iload_n (pc := 11) dX12_word_11 rfl rfl ?_
    refine Rn.callS (pc := 12) (as := [_]) csX12_113 ⟨by decide, by decide⟩ dX12_word_12 (Nat.le_of_ble_eq_true rfl) rfl (c_isDigit G _ (by have := chA_lt h (skp L n s.1); omega)) ?_
    rintro _ _ ⟨rfl, rfl⟩
    refine Rn.if_eqB (pc := 15) (tgt := 39) dX12_word_15 (by decide) (fun c15 => ?_) (fun c15 => ?_)
    · refine Rn.aload_n (pc := 39) dX12_word_39 rfl rfl ?_
      refine Rn.bipush (pc := 40) (v := nI 6) dX12_word_40 (by decide) ?_
      refine Rn.putI (pc := 42) (t := 0) flX12_156 rfl rfl dX12_word_42 ?_
      rw [wQ_13]
      refine Rn.aload_n (pc := 45) dX12_word_45 rfl rfl ?_
      refine Rn.iconst (pc := 46) (v := nI 0) dX12_word_46 (by decide) ?_
      refine Rn.putI (pc := 47) (t := 0) flX12_193 rfl rfl dX12_word_47 ?_
      rw [wQ_16]
      refine Rn.aload_n (pc := 50) dX12_word_50 rfl rfl ?_
      refine Rn.callV (pc := 51) (as := []) cvX12_171 ⟨by decide, rfl⟩ ⟨by decide, by decide⟩ dX12_word_51 (Nat.le_of_ble_eq_true rfl) rfl (c_readName G h (nI 6, r.2.1, nI 0, r.2.2.2) (skp L n s.1, s.2) (skp_le hs)) ?_
      rintro _ _ ⟨rfl, rfl⟩
      refine Rn.aload_n (pc := 54) dX12_word_54 rfl rfl ?_
      refine Rn.bipush (pc := 55) (v := nI 43) dX12_word_55 (by decide) ?_
      refine Rn.callV (pc := 57) (as := [_]) cvX12_120 ⟨by decide, rfl⟩ ⟨by decide, by decide⟩ dX12_word_57 (Nat.le_of_ble_eq_true rfl) rfl (c_takes G (h.st (fNa o L n (nI 6, r.2.1, nI 0, r.2.2.2) (skp L n s.1, s.2)).1) (fNa o L n (nI 6, r.2.1, nI 0, r.2.2.2) (skp L n s.1, s.2)).2 (fNa_le (o := o) (L := L) (r := (nI 6, r.2.1, nI 0, r.2.2.2)) (s := (skp L n s.1, s.2)) (skp_le hs)) 43 (by decide) (by decide)) ?_
      rintro _ _ ⟨rfl, rfl⟩
      refine Rn.if_eqB (pc := 60) (tgt := 74) dX12_word_60 (by decide) (fun c60 => ?_) (fun c60 => ?_)
      · refine Rn.aload_n (pc := 74) dX12_word_74 rfl rfl ?_
        refine Rn.bipush (pc := 75) (v := nI 45) dX12_word_75 (by decide) ?_
        refine Rn.callV (pc := 77) (as := [_]) cvX12_120 ⟨by decide, rfl⟩ ⟨by decide, by decide⟩ dX12_word_77 (Nat.le_of_ble_eq_true rfl) rfl (c_takes G (h.st (fNa o L n (nI 6, r.2.1, nI 0, r.2.2.2) (skp L n s.1, s.2)).1) (pTk L n 43 (fNa o L n (nI 6, r.2.1, nI 0, r.2.2.2) (skp L n s.1, s.2)).2).2 (pTk_le (fNa_le (o := o) (L := L) (r := (nI 6, r.2.1, nI 0, r.2.2.2)) (s := (skp L n s.1, s.2)) (skp_le hs)) (by decide)) 45 (by decide) (by decide)) ?_
        rintro _ _ ⟨rfl, rfl⟩
        refine Rn.if_eqB (pc := 80) (tgt := 92) dX12_word_80 (by decide) (fun c80 => ?_) (fun c80 => ?_)
        · refine Rn.vret (pc := 92) rfl dX12_word_92 ?_
          refine ⟨rfl, ?_⟩; rw [fWrd, if_neg (by rw [c15]; exact fun q => q.elim c8 (by decide)), if_neg (by rw [c60]; decide), if_neg (by rw [c80]; decide)]
        · refine Rn.aload_n (pc := 83) dX12_word_83 rfl rfl ?_
          refine Rn.aload_n (pc := 84) dX12_word_84 rfl rfl ?_
          refine Rn.callV (pc := 85) (as := []) cvX12_135 ⟨by decide, rfl⟩ ⟨by decide, by decide⟩ dX12_word_85 (Nat.le_of_ble_eq_true rfl) rfl (c_digits G (h.st (fNa o L n (nI 6, r.2.1, nI 0, r.2.2.2) (skp L n s.1, s.2)).1) (pTk L n 45 (pTk L n 43 (fNa o L n (nI 6, r.2.1, nI 0, r.2.2.2) (skp L n s.1, s.2)).2).2).2 (pTk_le (pTk_le (fNa_le (o := o) (L := L) (r := (nI 6, r.2.1, nI 0, r.2.2.2)) (s := (skp L n s.1, s.2)) (skp_le hs)) (by decide)) (by decide))) ?_
          rintro _ _ ⟨rfl, rfl⟩
          refine Rn.ineg (pc := 88) dX12_word_88 ?_
          refine Rn.putI (pc := 89) (t := 0) flX12_193 rfl rfl dX12_word_89 ?_
          rw [wQ_16]
          refine Rn.vret (pc := 92) rfl dX12_word_92 ?_
          refine ⟨rfl, ?_⟩; rw [fWrd, if_neg (by rw [c15]; exact fun q => q.elim c8 (by decide)), if_neg (by rw [c60]; decide), if_pos c80]
      · refine Rn.aload_n (pc := 63) dX12_word_63 rfl rfl ?_
        refine Rn.aload_n (pc := 64) dX12_word_64 rfl rfl ?_
        refine Rn.callV (pc := 65) (as := []) cvX12_135 ⟨by decide, rfl⟩ ⟨by decide, by decide⟩ dX12_word_65 (Nat.le_of_ble_eq_true rfl) rfl (c_digits G (h.st (fNa o L n (nI 6, r.2.1, nI 0, r.2.2.2) (skp L n s.1, s.2)).1) (pTk L n 43 (fNa o L n (nI 6, r.2.1, nI 0, r.2.2.2) (skp L n s.1, s.2)).2).2 (pTk_le (fNa_le (o := o) (L := L) (r := (nI 6, r.2.1, nI 0, r.2.2.2)) (s := (skp L n s.1, s.2)) (skp_le hs)) (by decide))) ?_
        rintro _ _ ⟨rfl, rfl⟩
        refine Rn.putI (pc := 68) (t := 0) flX12_193 rfl rfl dX12_word_68 ?_
        rw [wQ_16]
        refine Rn.goto (pc := 71) (tgt := 92) dX12_word_71 (by decide) ?_
        refine Rn.vret (pc := 92) rfl dX12_word_92 ?_
        refine ⟨rfl, ?_⟩; rw [fWrd, if_neg (by rw [c15]; exact fun q => q.elim c8 (by decide)), if_pos c60]
    · refine Rn.aload_n (pc := 18) dX12_word_18 rfl rfl ?_
      refine Rn.iconst (pc := 19) (v := nI 5) dX12_word_19 (by decide) ?_
      refine Rn.putI (pc := 20) (t := 0) flX12_156 rfl rfl dX12_word_20 ?_
      rw [wQ_13]
      refine Rn.aload_n (pc := 23) dX12_word_23 rfl rfl ?_
      refine Rn.aload_n (pc := 24) dX12_word_24 rfl rfl ?_
      refine Rn.sipush (pc := 25) (v := -9999) dX12_word_25 (by decide) ?_
      refine Rn.sipush (pc := 28) (v := nI 9999) dX12_word_28 (by decide) ?_
      refine Rn.iconst (pc := 31) (v := nI 1) dX12_word_31 (by decide) ?_
      refine Rn.callV (pc := 32) (as := [_, _, _]) cvX12_152 ⟨by decide, rfl⟩ ⟨by decide, by decide⟩ dX12_word_32 (Nat.le_of_ble_eq_true rfl) rfl (c_readNumber G (h.st (nI 5, r.2)) (skp L n s.1, s.2) (skp_le hs) (-9999) (nI 9999) (nI 1) (by decide)) ?_
      rintro _ _ ⟨rfl, rfl⟩
      refine Rn.putI (pc := 35) (t := 0) flX12_193 rfl rfl dX12_word_35 ?_
      rw [wQ_16]
      refine Rn.vret (pc := 38) rfl dX12_word_38 ?_
      refine ⟨rfl, ?_⟩; rw [fWrd, if_pos (Or.inr c15)]

