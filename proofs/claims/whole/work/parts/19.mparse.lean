section
variable {G : GX} {I : MIx} {Post : Option AV → Mem → Prop} {pc : Nat} {ls : List (Option AV)} {st : List AV} {M : Mem}
theorem Rn.ldc_w {index : Nat} {v : Int32} (hd : decode I.1 pc = .ok (.ldc_w index, 3)) (hw : Cond.constant I.2.1 index v ∈ gw_tbl) (k : Rn G I Post (pc + 3) ls (vI v :: st) M) : Rn G I Post pc ls st M :=
  fun p e s m args below meth c hc H locs lsA hP hS hL hM hLs hSt => lv_ldcw hc.1 hc.2.1 hc.2.2.2.2.1 (hc.2.2.2.2.2.1 _ hw) hd (k p e s m args below meth c hc H locs lsA hP hS hL hM hLs (hSt.I _))
end
theorem isW_len {L : Nat → Nat} {a e v : Nat} (h : isW L a e v = true) : e - a = nb v := by
  simp only [isW, Bool.and_eq_true, decide_eq_true_eq] at h
  exact h.1
def fDir (o : Nat) (L : Nat → Nat) (n a e : Nat) (r : SR) (s : PS) : Bool × SR × PS :=
  if isW L a e 199521302644 = true ∨ isW L a e 199252604001 = true ∨ isW L a e 778204019 = true then (true, ((if L (a + 1) = 116 then nI (1 + 0) else if L (a + 1) = 100 then nI (1 + 1) else nI (1 + 2)), r.2), s)
  else if isW L a e 13061564351537516 = true then (true, (fNa o L n (nI 4, r.2) s).1, (fNa o L n (nI 4, r.2) s).2)
  else if isW L a e 199572288100 = true then (true, (fWrd o L n r s).1, (fWrd o L n r s).2)
  else if isW L a e 199220622437 = true then (true, (nI 7, r.2.1, (pNu L n (-128) (nI 255) (nI 1) s).1, r.2.2.2), (pNu L n (-128) (nI 255) (nI 1) s).2)
  else if isW L a e 51073341547365 = true then (true, (nI 8, r.2.1, (pNu L n (nI 0) (nI 512) (nI 1) s).1, r.2.2.2), (pNu L n (nI 0) (nI 512) (nI 1) s).2)
  else if isW L a e 50995965552494 = true then (true, (nI 9, r.2), s)
  else (false, r, s)
set_option maxRecDepth 20000 in
set_option maxHeartbeats 4000000 in
theorem c_directive (G : GX) {o n : Nat} {L : Nat → Nat} {M : Mem} (h : LnOK o n L M) (r : SR) (s : PS) (hs : s.1 ≤ n) (a e : Nat) (ha : a ≤ e) (he : e ≤ n) : MetM G yX12_directive iX12_directive [vR 11 0, vI (nI (o + a)), vI (nI (o + e))] (wS o (stS M r) s) (fun q M' => q = some (vI (bI (fDir o L n a e r s).1)) ∧ M' = wS o (stS M (fDir o L n a e r s).2.1) (fDir o L n a e r s).2.2) := by
  refine MetM.of (ls := [some (vR 11 0), some (vI (nI (o + a))), some (vI (nI (o + e)))]) (by decide) rfl (Nat.le_of_ble_eq_true rfl) rfl ?_
  intro hM0
  have hq1 := h.2.1
  have hq2 := h.2.2.1
  have J36 : (isW L a e 199521302644 = true ∨ isW L a e 199252604001 = true ∨ isW L a e 778204019 = true) → a + 1 < n → Rn G iX12_directive (fun q M' => q = some (vI (bI (fDir o L n a e r s).1)) ∧ M' = wS o (stS M (fDir o L n a e r s).2.1) (fDir o L n a e r s).2.2) 36 [some (vR 11 0), some (vI (nI (o + a))), some (vI (nI (o + e)))] [] (wS o (stS M r) s) := by
    intro h3 hlt
    refine Rn.aload_n (pc := 36) dX12_directive_36 rfl rfl ?_
    refine Rn.iconst (pc := 37) (v := nI 1) dX12_directive_37 (by decide) ?_
    refine Rn.aload_n (pc := 38) dX12_directive_38 rfl rfl ?_
    refine Rn.getR (pc := 39) flX12_20 mu11_5 fx11_5 dX12_directive_39 ?_
    refine Rn.iload_n (pc := 42) dX12_directive_42 rfl rfl ?_
    refine Rn.iconst (pc := 43) (v := nI 1) dX12_directive_43 (by decide) ?_
    refine Rn.iaddN (pc := 44) dX12_directive_44 ?_
    rw [Nat.add_assoc]
    refine Rn.caldN (pc := 45) ak25 (by omega) (by decide) (wS_tx (h.st r) (a + 1) (by omega)) dX12_directive_45 ?_
    refine Rn.bipush (pc := 46) (v := nI 116) dX12_directive_46 (by decide) ?_
    refine Rn.icmp_neN (pc := 48) (tgt := 55) dX12_directive_48 (by decide) (by have := h.2.2.2.2.1 (a + 1) (by omega); omega) (by decide) (fun c48 => ?_) (fun c48 => ?_)
    · refine Rn.aload_n (pc := 55) dX12_directive_55 rfl rfl ?_
      refine Rn.getR (pc := 56) flX12_20 mu11_5 fx11_5 dX12_directive_56 ?_
      refine Rn.iload_n (pc := 59) dX12_directive_59 rfl rfl ?_
      refine Rn.iconst (pc := 60) (v := nI 1) dX12_directive_60 (by decide) ?_
      refine Rn.iaddN (pc := 61) dX12_directive_61 ?_
      rw [Nat.add_assoc]
      refine Rn.caldN (pc := 62) ak25 (by omega) (by decide) (wS_tx (h.st r) (a + 1) (by omega)) dX12_directive_62 ?_
      refine Rn.bipush (pc := 63) (v := nI 100) dX12_directive_63 (by decide) ?_
      refine Rn.icmp_neN (pc := 65) (tgt := 72) dX12_directive_65 (by decide) (by have := h.2.2.2.2.1 (a + 1) (by omega); omega) (by decide) (fun c65 => ?_) (fun c65 => ?_)
      · refine Rn.iconst (pc := 72) (v := nI 2) dX12_directive_72 (by decide) ?_
        refine Rn.iaddN (pc := 73) dX12_directive_73 ?_
        refine Rn.putI (pc := 74) (t := 0) flX12_156 rfl rfl dX12_directive_74 ?_
        rw [wQ_13]
        refine Rn.goto (pc := 77) (tgt := 215) dX12_directive_77 (by decide) ?_
        refine Rn.iconst (pc := 215) (v := nI 1) dX12_directive_215 (by decide) ?_
        refine Rn.zret (pc := 216) rfl rfl dX12_directive_216 ?_
        rw [fDir, if_pos h3, if_neg c48, if_neg c65]; exact ⟨rfl, rfl⟩
      · refine Rn.iconst (pc := 68) (v := nI 1) dX12_directive_68 (by decide) ?_
        refine Rn.goto (pc := 69) (tgt := 73) dX12_directive_69 (by decide) ?_
        refine Rn.iaddN (pc := 73) dX12_directive_73 ?_
        refine Rn.putI (pc := 74) (t := 0) flX12_156 rfl rfl dX12_directive_74 ?_
        rw [wQ_13]
        refine Rn.goto (pc := 77) (tgt := 215) dX12_directive_77 (by decide) ?_
        refine Rn.iconst (pc := 215) (v := nI 1) dX12_directive_215 (by decide) ?_
        refine Rn.zret (pc := 216) rfl rfl dX12_directive_216 ?_
        rw [fDir, if_pos h3, if_neg c48, if_pos c65]; exact ⟨rfl, rfl⟩
    · refine Rn.iconst (pc := 51) (v := nI 0) dX12_directive_51 (by decide) ?_
      refine Rn.goto (pc := 52) (tgt := 73) dX12_directive_52 (by decide) ?_
      refine Rn.iaddN (pc := 73) dX12_directive_73 ?_
      refine Rn.putI (pc := 74) (t := 0) flX12_156 rfl rfl dX12_directive_74 ?_
      rw [wQ_13]
      refine Rn.goto (pc := 77) (tgt := 215) dX12_directive_77 (by decide) ?_
      refine Rn.iconst (pc := 215) (v := nI 1) dX12_directive_215 (by decide) ?_
      refine Rn.zret (pc := 216) rfl rfl dX12_directive_216 ?_
      rw [fDir, if_pos h3, if_pos c48]; exact ⟨rfl, rfl⟩
  refine Rn.aload_n (pc := 0) dX12_directive_0 rfl rfl ?_
  refine Rn.iload_n (pc := 1) dX12_directive_1 rfl rfl ?_
  refine Rn.iload_n (pc := 2) dX12_directive_2 rfl rfl ?_
  refine Rn.ldc2 (pc := 3) dX12_directive_3 wlX12_178 ?_
  refine Rn.callV (pc := 6) (as := [_, _, _]) cvX12_174 ⟨by decide, rfl⟩ ⟨by decide, by decide⟩ dX12_directive_6 (Nat.le_of_ble_eq_true rfl) rfl (c_isWord G (h.st r) s a e 199521302644 ha he (by decide)) ?_
  rintro _ _ ⟨rfl, rfl⟩
  refine Rn.if_neB (pc := 9) (tgt := 36) dX12_directive_9 (by decide) (fun c9 => ?_) (fun c9 => ?_)
  · exact J36 (Or.inl c9) (by have := isW_len c9; rw [show nb 199521302644 = 5 by decide] at this; omega)
  · refine Rn.aload_n (pc := 12) dX12_directive_12 rfl rfl ?_
    refine Rn.iload_n (pc := 13) dX12_directive_13 rfl rfl ?_
    refine Rn.iload_n (pc := 14) dX12_directive_14 rfl rfl ?_
    refine Rn.ldc2 (pc := 15) dX12_directive_15 wlX12_180 ?_
    refine Rn.callV (pc := 18) (as := [_, _, _]) cvX12_174 ⟨by decide, rfl⟩ ⟨by decide, by decide⟩ dX12_directive_18 (Nat.le_of_ble_eq_true rfl) rfl (c_isWord G (h.st r) s a e 199252604001 ha he (by decide)) ?_
    rintro _ _ ⟨rfl, rfl⟩
    refine Rn.if_neB (pc := 21) (tgt := 36) dX12_directive_21 (by decide) (fun c21 => ?_) (fun c21 => ?_)
    · exact J36 (Or.inr (Or.inl c21)) (by have := isW_len c21; rw [show nb 199252604001 = 5 by decide] at this; omega)
    · refine Rn.aload_n (pc := 24) dX12_directive_24 rfl rfl ?_
      refine Rn.iload_n (pc := 25) dX12_directive_25 rfl rfl ?_
      refine Rn.iload_n (pc := 26) dX12_directive_26 rfl rfl ?_
      refine Rn.ldc2 (pc := 27) dX12_directive_27 wlX12_182 ?_
      refine Rn.callV (pc := 30) (as := [_, _, _]) cvX12_174 ⟨by decide, rfl⟩ ⟨by decide, by decide⟩ dX12_directive_30 (Nat.le_of_ble_eq_true rfl) rfl (c_isWord G (h.st r) s a e 778204019 ha he (by decide)) ?_
      rintro _ _ ⟨rfl, rfl⟩
      refine Rn.if_eqB (pc := 33) (tgt := 80) dX12_directive_33 (by decide) (fun c33 => ?_) (fun c33 => ?_)
      · refine Rn.aload_n (pc := 80) dX12_directive_80 rfl rfl ?_
        refine Rn.iload_n (pc := 81) dX12_directive_81 rfl rfl ?_
        refine Rn.iload_n (pc := 82) dX12_directive_82 rfl rfl ?_
        refine Rn.ldc2 (pc := 83) dX12_directive_83 wlX12_184 ?_
        refine Rn.callV (pc := 86) (as := [_, _, _]) cvX12_174 ⟨by decide, rfl⟩ ⟨by decide, by decide⟩ dX12_directive_86 (Nat.le_of_ble_eq_true rfl) rfl (c_isWord G (h.st r) s a e 13061564351537516 ha he (by decide)) ?_
        rintro _ _ ⟨rfl, rfl⟩
        refine Rn.if_eqB (pc := 89) (tgt := 104) dX12_directive_89 (by decide) (fun c89 => ?_) (fun c89 => ?_)
        · refine Rn.aload_n (pc := 104) dX12_directive_104 rfl rfl ?_
          refine Rn.iload_n (pc := 105) dX12_directive_105 rfl rfl ?_
          refine Rn.iload_n (pc := 106) dX12_directive_106 rfl rfl ?_
          refine Rn.ldc2 (pc := 107) dX12_directive_107 wlX12_186 ?_
          refine Rn.callV (pc := 110) (as := [_, _, _]) cvX12_174 ⟨by decide, rfl⟩ ⟨by decide, by decide⟩ dX12_directive_110 (Nat.le_of_ble_eq_true rfl) rfl (c_isWord G (h.st r) s a e 199572288100 ha he (by decide)) ?_
          rintro _ _ ⟨rfl, rfl⟩
          refine Rn.if_eqB (pc := 113) (tgt := 123) dX12_directive_113 (by decide) (fun c113 => ?_) (fun c113 => ?_)
          · refine Rn.aload_n (pc := 123) dX12_directive_123 rfl rfl ?_
            refine Rn.iload_n (pc := 124) dX12_directive_124 rfl rfl ?_
            refine Rn.iload_n (pc := 125) dX12_directive_125 rfl rfl ?_
            refine Rn.ldc2 (pc := 126) dX12_directive_126 wlX12_191 ?_
            refine Rn.callV (pc := 129) (as := [_, _, _]) cvX12_174 ⟨by decide, rfl⟩ ⟨by decide, by decide⟩ dX12_directive_129 (Nat.le_of_ble_eq_true rfl) rfl (c_isWord G (h.st r) s a e 199220622437 ha he (by decide)) ?_
            rintro _ _ ⟨rfl, rfl⟩
            refine Rn.if_eqB (pc := 132) (tgt := 158) dX12_directive_132 (by decide) (fun c132 => ?_) (fun c132 => ?_)
            · refine Rn.aload_n (pc := 158) dX12_directive_158 rfl rfl ?_
              refine Rn.iload_n (pc := 159) dX12_directive_159 rfl rfl ?_
              refine Rn.iload_n (pc := 160) dX12_directive_160 rfl rfl ?_
              refine Rn.ldc2 (pc := 161) dX12_directive_161 wlX12_196 ?_
              refine Rn.callV (pc := 164) (as := [_, _, _]) cvX12_174 ⟨by decide, rfl⟩ ⟨by decide, by decide⟩ dX12_directive_164 (Nat.le_of_ble_eq_true rfl) rfl (c_isWord G (h.st r) s a e 51073341547365 ha he (by decide)) ?_
              rintro _ _ ⟨rfl, rfl⟩
              refine Rn.if_eqB (pc := 167) (tgt := 192) dX12_directive_167 (by decide) (fun c167 => ?_) (fun c167 => ?_)
              · refine Rn.aload_n (pc := 192) dX12_directive_192 rfl rfl ?_
                refine Rn.iload_n (pc := 193) dX12_directive_193 rfl rfl ?_
                refine Rn.iload_n (pc := 194) dX12_directive_194 rfl rfl ?_
                refine Rn.ldc2 (pc := 195) dX12_directive_195 wlX12_198 ?_
                refine Rn.callV (pc := 198) (as := [_, _, _]) cvX12_174 ⟨by decide, rfl⟩ ⟨by decide, by decide⟩ dX12_directive_198 (Nat.le_of_ble_eq_true rfl) rfl (c_isWord G (h.st r) s a e 50995965552494 ha he (by decide)) ?_
                rintro _ _ ⟨rfl, rfl⟩
                refine Rn.if_eqB (pc := 201) (tgt := 213) dX12_directive_201 (by decide) (fun c201 => ?_) (fun c201 => ?_)
                · refine Rn.iconst (pc := 213) (v := nI 0) dX12_directive_213 (by decide) ?_
                  refine Rn.zret (pc := 214) rfl rfl dX12_directive_214 ?_
                  rw [fDir, if_neg (by rw [c9, c21, c33]; decide), if_neg (by rw [c89]; decide), if_neg (by rw [c113]; decide), if_neg (by rw [c132]; decide), if_neg (by rw [c167]; decide), if_neg (by rw [c201]; decide)]; dsimp only; exact ⟨rfl, rfl⟩
                · refine Rn.aload_n (pc := 204) dX12_directive_204 rfl rfl ?_
                  refine Rn.bipush (pc := 205) (v := nI 9) dX12_directive_205 (by decide) ?_
                  refine Rn.putI (pc := 207) (t := 0) flX12_156 rfl rfl dX12_directive_207 ?_
                  rw [wQ_13]
                  refine Rn.goto (pc := 210) (tgt := 215) dX12_directive_210 (by decide) ?_
                  refine Rn.iconst (pc := 215) (v := nI 1) dX12_directive_215 (by decide) ?_
                  refine Rn.zret (pc := 216) rfl rfl dX12_directive_216 ?_
                  rw [fDir, if_neg (by rw [c9, c21, c33]; decide), if_neg (by rw [c89]; decide), if_neg (by rw [c113]; decide), if_neg (by rw [c132]; decide), if_neg (by rw [c167]; decide), if_pos c201]; dsimp only; exact ⟨rfl, rfl⟩
              · refine Rn.aload_n (pc := 170) dX12_directive_170 rfl rfl ?_
                refine Rn.bipush (pc := 171) (v := nI 8) dX12_directive_171 (by decide) ?_
                refine Rn.putI (pc := 173) (t := 0) flX12_156 rfl rfl dX12_directive_173 ?_
                rw [wQ_13]
                refine Rn.aload_n (pc := 176) dX12_directive_176 rfl rfl ?_
                refine Rn.aload_n (pc := 177) dX12_directive_177 rfl rfl ?_
                refine Rn.iconst (pc := 178) (v := nI 0) dX12_directive_178 (by decide) ?_
                refine Rn.sipush (pc := 179) (v := nI 512) dX12_directive_179 (by decide) ?_
                refine Rn.iconst (pc := 182) (v := nI 1) dX12_directive_182 (by decide) ?_
                refine Rn.callV (pc := 183) (as := [_, _, _]) cvX12_152 ⟨by decide, rfl⟩ ⟨by decide, by decide⟩ dX12_directive_183 (Nat.le_of_ble_eq_true rfl) rfl (c_readNumber G (h.st (nI 8, r.2)) s hs (nI 0) (nI 512) (nI 1) (by decide)) ?_
                rintro _ _ ⟨rfl, rfl⟩
                refine Rn.putI (pc := 186) (t := 0) flX12_193 rfl rfl dX12_directive_186 ?_
                rw [wQ_16]
                refine Rn.goto (pc := 189) (tgt := 215) dX12_directive_189 (by decide) ?_
                refine Rn.iconst (pc := 215) (v := nI 1) dX12_directive_215 (by decide) ?_
                refine Rn.zret (pc := 216) rfl rfl dX12_directive_216 ?_
                rw [fDir, if_neg (by rw [c9, c21, c33]; decide), if_neg (by rw [c89]; decide), if_neg (by rw [c113]; decide), if_neg (by rw [c132]; decide), if_pos c167]; dsimp only; exact ⟨rfl, rfl⟩
            · refine Rn.aload_n (pc := 135) dX12_directive_135 rfl rfl ?_
              refine Rn.bipush (pc := 136) (v := nI 7) dX12_directive_136 (by decide) ?_
              refine Rn.putI (pc := 138) (t := 0) flX12_156 rfl rfl dX12_directive_138 ?_
              rw [wQ_13]
              refine Rn.aload_n (pc := 141) dX12_directive_141 rfl rfl ?_
              refine Rn.aload_n (pc := 142) dX12_directive_142 rfl rfl ?_
              refine Rn.bipush (pc := 143) (v := -128) dX12_directive_143 (by decide) ?_
              refine Rn.sipush (pc := 145) (v := nI 255) dX12_directive_145 (by decide) ?_
              refine Rn.iconst (pc := 148) (v := nI 1) dX12_directive_148 (by decide) ?_
              refine Rn.callV (pc := 149) (as := [_, _, _]) cvX12_152 ⟨by decide, rfl⟩ ⟨by decide, by decide⟩ dX12_directive_149 (Nat.le_of_ble_eq_true rfl) rfl (c_readNumber G (h.st (nI 7, r.2)) s hs (-128) (nI 255) (nI 1) (by decide)) ?_
              rintro _ _ ⟨rfl, rfl⟩
              refine Rn.putI (pc := 152) (t := 0) flX12_193 rfl rfl dX12_directive_152 ?_
              rw [wQ_16]
              refine Rn.goto (pc := 155) (tgt := 215) dX12_directive_155 (by decide) ?_
              refine Rn.iconst (pc := 215) (v := nI 1) dX12_directive_215 (by decide) ?_
              refine Rn.zret (pc := 216) rfl rfl dX12_directive_216 ?_
              rw [fDir, if_neg (by rw [c9, c21, c33]; decide), if_neg (by rw [c89]; decide), if_neg (by rw [c113]; decide), if_pos c132]; dsimp only; exact ⟨rfl, rfl⟩
          · refine Rn.aload_n (pc := 116) dX12_directive_116 rfl rfl ?_
            refine Rn.callV (pc := 117) (as := []) cvX12_188 ⟨by decide, rfl⟩ ⟨by decide, by decide⟩ dX12_directive_117 (Nat.le_of_ble_eq_true rfl) rfl (c_word G h r s hs) ?_
            rintro _ _ ⟨rfl, rfl⟩
            refine Rn.goto (pc := 120) (tgt := 215) dX12_directive_120 (by decide) ?_
            refine Rn.iconst (pc := 215) (v := nI 1) dX12_directive_215 (by decide) ?_
            refine Rn.zret (pc := 216) rfl rfl dX12_directive_216 ?_
            rw [fDir, if_neg (by rw [c9, c21, c33]; decide), if_neg (by rw [c89]; decide), if_pos c113]; dsimp only; exact ⟨rfl, rfl⟩
        · refine Rn.aload_n (pc := 92) dX12_directive_92 rfl rfl ?_
          refine Rn.iconst (pc := 93) (v := nI 4) dX12_directive_93 (by decide) ?_
          refine Rn.putI (pc := 94) (t := 0) flX12_156 rfl rfl dX12_directive_94 ?_
          rw [wQ_13]
          refine Rn.aload_n (pc := 97) dX12_directive_97 rfl rfl ?_
          refine Rn.callV (pc := 98) (as := []) cvX12_171 ⟨by decide, rfl⟩ ⟨by decide, by decide⟩ dX12_directive_98 (Nat.le_of_ble_eq_true rfl) rfl (c_readName G h (nI 4, r.2) s hs) ?_
          rintro _ _ ⟨rfl, rfl⟩
          refine Rn.goto (pc := 101) (tgt := 215) dX12_directive_101 (by decide) ?_
          refine Rn.iconst (pc := 215) (v := nI 1) dX12_directive_215 (by decide) ?_
          refine Rn.zret (pc := 216) rfl rfl dX12_directive_216 ?_
          rw [fDir, if_neg (by rw [c9, c21, c33]; decide), if_pos c89]; dsimp only; exact ⟨rfl, rfl⟩
      · exact J36 (Or.inr (Or.inr c33)) (by have := isW_len c33; rw [show nb 778204019 = 4 by decide] at this; omega)

def fSim (L : Nat → Nat) (n a e : Nat) (r : SR) (s : PS) : Bool × SR × PS :=
  if isW L a e 7237488 = true then (true, ((nI 10, nI 48896, r.2.2), s).1, ((nI 10, nI 48896, r.2.2), s).2)
  else if isW L a e 1836021363 = true then (true, (fOne L n 8192 (-1) r s).1, (fOne L n 8192 (-1) r s).2)
  else if isW L a e 6516080 = true then (true, (fOne L n 10240 (nI 10) r s).1, (fOne L n 10240 (nI 10) r s).2)
  else if isW L a e 1633969267 = true then (true, (fSum L n 12288 6144 r s).1, (fSum L n 12288 6144 r s).2)
  else if isW L a e 1937072755 = true then (true, (fSum L n 14336 6656 r s).1, (fSum L n 14336 6656 r s).2)
  else if isW L a e 1819503731 = true then (true, (fShf L n 0 (nI 0) (nI 31) r s).1, (fShf L n 0 (nI 0) (nI 31) r s).2)
  else if isW L a e 1819505267 = true then (true, (fShf L n 2048 (nI 1) (nI 32) r s).1, (fShf L n 2048 (nI 1) (nI 32) r s).2)
  else if isW L a e 1634955891 = true then (true, (fShf L n 4096 (nI 1) (nI 32) r s).1, (fShf L n 4096 (nI 1) (nI 32) r s).2)
  else match prN L a e with
    | some kk => (true, (fTwo L n kk r s).1, (fTwo L n kk r s).2)
    | none => (false, r, s)
theorem prN_pos {L : Nat → Nat} {a e k : Nat} (h : prN L a e = some k) : 0 ≤ prV (some k) := by
  have : k < 16 := by
    unfold prN at h
    repeat (split at h; (cases h; decide))
    cases h
  exact nI_pos' (by omega)
set_option maxRecDepth 20000 in
set_option maxHeartbeats 4000000 in
theorem c_simple (G : GX) {o n : Nat} {L : Nat → Nat} {M : Mem} (h : LnOK o n L M) (r : SR) (s : PS) (hs : s.1 ≤ n) (a e : Nat) (ha : a ≤ e) (he : e ≤ n) : MetM G yX12_simple iX12_simple [vR 11 0, vI (nI (o + a)), vI (nI (o + e))] (wS o (stS M r) s) (fun q M' => q = some (vI (bI (fSim L n a e r s).1)) ∧ M' = wS o (stS M (fSim L n a e r s).2.1) (fSim L n a e r s).2.2) := by
  refine MetM.of (ls := [some (vR 11 0), some (vI (nI (o + a))), some (vI (nI (o + e))), none]) (by decide) rfl (Nat.le_of_ble_eq_true rfl) rfl ?_
  intro hM0
  have hq1 := h.2.1
  have hq2 := h.2.2.1
  refine Rn.aload_n (pc := 0) dX12_simple_0 rfl rfl ?_
  refine Rn.iload_n (pc := 1) dX12_simple_1 rfl rfl ?_
  refine Rn.iload_n (pc := 2) dX12_simple_2 rfl rfl ?_
  refine Rn.ldc2 (pc := 3) dX12_simple_3 wlX12_200 ?_
  refine Rn.callV (pc := 6) (as := [_, _, _]) cvX12_174 ⟨by decide, rfl⟩ ⟨by decide, by decide⟩ dX12_simple_6 (Nat.le_of_ble_eq_true rfl) rfl (c_isWord G (h.st r) s a e 7237488 ha he (by decide)) ?_
  rintro _ _ ⟨rfl, rfl⟩
  refine Rn.if_eqB (pc := 9) (tgt := 21) dX12_simple_9 (by decide) (fun c9 => ?_) (fun c9 => ?_)
  · refine Rn.aload_n (pc := 21) dX12_simple_21 rfl rfl ?_
    refine Rn.iload_n (pc := 22) dX12_simple_22 rfl rfl ?_
    refine Rn.iload_n (pc := 23) dX12_simple_23 rfl rfl ?_
    refine Rn.ldc2 (pc := 24) dX12_simple_24 wlX12_203 ?_
    refine Rn.callV (pc := 27) (as := [_, _, _]) cvX12_174 ⟨by decide, rfl⟩ ⟨by decide, by decide⟩ dX12_simple_27 (Nat.le_of_ble_eq_true rfl) rfl (c_isWord G (h.st r) s a e 1836021363 ha he (by decide)) ?_
    rintro _ _ ⟨rfl, rfl⟩
    refine Rn.if_eqB (pc := 30) (tgt := 44) dX12_simple_30 (by decide) (fun c30 => ?_) (fun c30 => ?_)
    · refine Rn.aload_n (pc := 44) dX12_simple_44 rfl rfl ?_
      refine Rn.iload_n (pc := 45) dX12_simple_45 rfl rfl ?_
      refine Rn.iload_n (pc := 46) dX12_simple_46 rfl rfl ?_
      refine Rn.ldc2 (pc := 47) dX12_simple_47 wlX12_208 ?_
      refine Rn.callV (pc := 50) (as := [_, _, _]) cvX12_174 ⟨by decide, rfl⟩ ⟨by decide, by decide⟩ dX12_simple_50 (Nat.le_of_ble_eq_true rfl) rfl (c_isWord G (h.st r) s a e 6516080 ha he (by decide)) ?_
      rintro _ _ ⟨rfl, rfl⟩
      refine Rn.if_eqB (pc := 53) (tgt := 68) dX12_simple_53 (by decide) (fun c53 => ?_) (fun c53 => ?_)
      · refine Rn.aload_n (pc := 68) dX12_simple_68 rfl rfl ?_
        refine Rn.iload_n (pc := 69) dX12_simple_69 rfl rfl ?_
        refine Rn.iload_n (pc := 70) dX12_simple_70 rfl rfl ?_
        refine Rn.ldc2 (pc := 71) dX12_simple_71 wlX12_210 ?_
        refine Rn.callV (pc := 74) (as := [_, _, _]) cvX12_174 ⟨by decide, rfl⟩ ⟨by decide, by decide⟩ dX12_simple_74 (Nat.le_of_ble_eq_true rfl) rfl (c_isWord G (h.st r) s a e 1633969267 ha he (by decide)) ?_
        rintro _ _ ⟨rfl, rfl⟩
        refine Rn.if_eqB (pc := 77) (tgt := 93) dX12_simple_77 (by decide) (fun c77 => ?_) (fun c77 => ?_)
        · refine Rn.aload_n (pc := 93) dX12_simple_93 rfl rfl ?_
          refine Rn.iload_n (pc := 94) dX12_simple_94 rfl rfl ?_
          refine Rn.iload_n (pc := 95) dX12_simple_95 rfl rfl ?_
          refine Rn.ldc2 (pc := 96) dX12_simple_96 wlX12_215 ?_
          refine Rn.callV (pc := 99) (as := [_, _, _]) cvX12_174 ⟨by decide, rfl⟩ ⟨by decide, by decide⟩ dX12_simple_99 (Nat.le_of_ble_eq_true rfl) rfl (c_isWord G (h.st r) s a e 1937072755 ha he (by decide)) ?_
          rintro _ _ ⟨rfl, rfl⟩
          refine Rn.if_eqB (pc := 102) (tgt := 118) dX12_simple_102 (by decide) (fun c102 => ?_) (fun c102 => ?_)
          · refine Rn.aload_n (pc := 118) dX12_simple_118 rfl rfl ?_
            refine Rn.iload_n (pc := 119) dX12_simple_119 rfl rfl ?_
            refine Rn.iload_n (pc := 120) dX12_simple_120 rfl rfl ?_
            refine Rn.ldc2 (pc := 121) dX12_simple_121 wlX12_217 ?_
            refine Rn.callV (pc := 124) (as := [_, _, _]) cvX12_174 ⟨by decide, rfl⟩ ⟨by decide, by decide⟩ dX12_simple_124 (Nat.le_of_ble_eq_true rfl) rfl (c_isWord G (h.st r) s a e 1819503731 ha he (by decide)) ?_
            rintro _ _ ⟨rfl, rfl⟩
            refine Rn.if_eqB (pc := 127) (tgt := 141) dX12_simple_127 (by decide) (fun c127 => ?_) (fun c127 => ?_)
            · refine Rn.aload_n (pc := 141) dX12_simple_141 rfl rfl ?_
              refine Rn.iload_n (pc := 142) dX12_simple_142 rfl rfl ?_
              refine Rn.iload_n (pc := 143) dX12_simple_143 rfl rfl ?_
              refine Rn.ldc2 (pc := 144) dX12_simple_144 wlX12_223 ?_
              refine Rn.callV (pc := 147) (as := [_, _, _]) cvX12_174 ⟨by decide, rfl⟩ ⟨by decide, by decide⟩ dX12_simple_147 (Nat.le_of_ble_eq_true rfl) rfl (c_isWord G (h.st r) s a e 1819505267 ha he (by decide)) ?_
              rintro _ _ ⟨rfl, rfl⟩
              refine Rn.if_eqB (pc := 150) (tgt := 166) dX12_simple_150 (by decide) (fun c150 => ?_) (fun c150 => ?_)
              · refine Rn.aload_n (pc := 166) dX12_simple_166 rfl rfl ?_
                refine Rn.iload_n (pc := 167) dX12_simple_167 rfl rfl ?_
                refine Rn.iload_n (pc := 168) dX12_simple_168 rfl rfl ?_
                refine Rn.ldc2 (pc := 169) dX12_simple_169 wlX12_225 ?_
                refine Rn.callV (pc := 172) (as := [_, _, _]) cvX12_174 ⟨by decide, rfl⟩ ⟨by decide, by decide⟩ dX12_simple_172 (Nat.le_of_ble_eq_true rfl) rfl (c_isWord G (h.st r) s a e 1634955891 ha he (by decide)) ?_
                rintro _ _ ⟨rfl, rfl⟩
                refine Rn.if_eqB (pc := 175) (tgt := 191) dX12_simple_175 (by decide) (fun c175 => ?_) (fun c175 => ?_)
                · refine Rn.aload_n (pc := 191) dX12_simple_191 rfl rfl ?_
                  refine Rn.iload_n (pc := 192) dX12_simple_192 rfl rfl ?_
                  refine Rn.iload_n (pc := 193) dX12_simple_193 rfl rfl ?_
                  refine Rn.callV (pc := 194) (as := [_, _]) cvX12_227 ⟨by decide, rfl⟩ ⟨by decide, by decide⟩ dX12_simple_194 (Nat.le_of_ble_eq_true rfl) rfl (c_pairOf G (h.st r) s a e ha he) ?_
                  rintro _ _ ⟨rfl, rfl⟩
                  refine Rn.istore_n (pc := 197) dX12_simple_197 rfl (by decide) rfl st4_3 ?_
                  refine Rn.iload_n (pc := 198) dX12_simple_198 rfl rfl ?_
                  refine Rn.if_ge (pc := 199) (y := 0) (tgt := 204) dX12_simple_199 (by decide) (fun c199 => ?_) (fun c199 => ?_)
                  · obtain ⟨kk, hkk⟩ : ∃ kk, prN L a e = some kk := by
                      cases h9 : prN L a e with
                      | none => rw [h9] at c199; exact absurd c199 (by decide)
                      | some k => exact ⟨k, rfl⟩
                    rw [hkk, show prV (some kk) = nI kk from rfl]
                    refine Rn.aload_n (pc := 204) dX12_simple_204 rfl rfl ?_
                    refine Rn.iload_n (pc := 205) dX12_simple_205 rfl rfl ?_
                    refine Rn.callV (pc := 206) (as := [_]) cvX12_231 ⟨by decide, rfl⟩ ⟨by decide, by decide⟩ dX12_simple_206 (Nat.le_of_ble_eq_true rfl) rfl (c_two G h r s hs kk) ?_
                    rintro _ _ ⟨rfl, rfl⟩
                    refine Rn.iconst (pc := 209) (v := nI 1) dX12_simple_209 (by decide) ?_
                    refine Rn.zret (pc := 210) rfl rfl dX12_simple_210 ?_
                    rw [fSim, if_neg (by rw [c9]; decide), if_neg (by rw [c30]; decide), if_neg (by rw [c53]; decide), if_neg (by rw [c77]; decide), if_neg (by rw [c102]; decide), if_neg (by rw [c127]; decide), if_neg (by rw [c150]; decide), if_neg (by rw [c175]; decide), hkk]; dsimp only; exact ⟨rfl, rfl⟩
                  · refine Rn.iconst (pc := 202) (v := nI 0) dX12_simple_202 (by decide) ?_
                    refine Rn.zret (pc := 203) rfl rfl dX12_simple_203 ?_
                    have hkn : prN L a e = none := by
                      cases h9 : prN L a e with
                      | none => rfl
                      | some k => rw [h9] at c199; exact absurd (prN_pos h9) c199
                    rw [fSim, if_neg (by rw [c9]; decide), if_neg (by rw [c30]; decide), if_neg (by rw [c53]; decide), if_neg (by rw [c77]; decide), if_neg (by rw [c102]; decide), if_neg (by rw [c127]; decide), if_neg (by rw [c150]; decide), if_neg (by rw [c175]; decide), hkn]; dsimp only; exact ⟨rfl, rfl⟩
                · refine Rn.aload_n (pc := 178) dX12_simple_178 rfl rfl ?_
                  refine Rn.sipush (pc := 179) (v := nI 4096) dX12_simple_179 (by decide) ?_
                  refine Rn.iconst (pc := 182) (v := nI 1) dX12_simple_182 (by decide) ?_
                  refine Rn.bipush (pc := 183) (v := nI 32) dX12_simple_183 (by decide) ?_
                  refine Rn.callV (pc := 185) (as := [_, _, _]) cvX12_219 ⟨by decide, rfl⟩ ⟨by decide, by decide⟩ dX12_simple_185 (Nat.le_of_ble_eq_true rfl) rfl (c_shifts G h r s hs 4096 (nI 1) (nI 32)) ?_
                  rintro _ _ ⟨rfl, rfl⟩
                  refine Rn.goto (pc := 188) (tgt := 209) dX12_simple_188 (by decide) ?_
                  refine Rn.iconst (pc := 209) (v := nI 1) dX12_simple_209 (by decide) ?_
                  refine Rn.zret (pc := 210) rfl rfl dX12_simple_210 ?_
                  rw [fSim, if_neg (by rw [c9]; decide), if_neg (by rw [c30]; decide), if_neg (by rw [c53]; decide), if_neg (by rw [c77]; decide), if_neg (by rw [c102]; decide), if_neg (by rw [c127]; decide), if_neg (by rw [c150]; decide), if_pos c175]; dsimp only; exact ⟨rfl, rfl⟩
              · refine Rn.aload_n (pc := 153) dX12_simple_153 rfl rfl ?_
                refine Rn.sipush (pc := 154) (v := nI 2048) dX12_simple_154 (by decide) ?_
                refine Rn.iconst (pc := 157) (v := nI 1) dX12_simple_157 (by decide) ?_
                refine Rn.bipush (pc := 158) (v := nI 32) dX12_simple_158 (by decide) ?_
                refine Rn.callV (pc := 160) (as := [_, _, _]) cvX12_219 ⟨by decide, rfl⟩ ⟨by decide, by decide⟩ dX12_simple_160 (Nat.le_of_ble_eq_true rfl) rfl (c_shifts G h r s hs 2048 (nI 1) (nI 32)) ?_
                rintro _ _ ⟨rfl, rfl⟩
                refine Rn.goto (pc := 163) (tgt := 209) dX12_simple_163 (by decide) ?_
                refine Rn.iconst (pc := 209) (v := nI 1) dX12_simple_209 (by decide) ?_
                refine Rn.zret (pc := 210) rfl rfl dX12_simple_210 ?_
                rw [fSim, if_neg (by rw [c9]; decide), if_neg (by rw [c30]; decide), if_neg (by rw [c53]; decide), if_neg (by rw [c77]; decide), if_neg (by rw [c102]; decide), if_neg (by rw [c127]; decide), if_pos c150]; dsimp only; exact ⟨rfl, rfl⟩
            · refine Rn.aload_n (pc := 130) dX12_simple_130 rfl rfl ?_
              refine Rn.iconst (pc := 131) (v := nI 0) dX12_simple_131 (by decide) ?_
              refine Rn.iconst (pc := 132) (v := nI 0) dX12_simple_132 (by decide) ?_
              refine Rn.bipush (pc := 133) (v := nI 31) dX12_simple_133 (by decide) ?_
              refine Rn.callV (pc := 135) (as := [_, _, _]) cvX12_219 ⟨by decide, rfl⟩ ⟨by decide, by decide⟩ dX12_simple_135 (Nat.le_of_ble_eq_true rfl) rfl (c_shifts G h r s hs 0 (nI 0) (nI 31)) ?_
              rintro _ _ ⟨rfl, rfl⟩
              refine Rn.goto (pc := 138) (tgt := 209) dX12_simple_138 (by decide) ?_
              refine Rn.iconst (pc := 209) (v := nI 1) dX12_simple_209 (by decide) ?_
              refine Rn.zret (pc := 210) rfl rfl dX12_simple_210 ?_
              rw [fSim, if_neg (by rw [c9]; decide), if_neg (by rw [c30]; decide), if_neg (by rw [c53]; decide), if_neg (by rw [c77]; decide), if_neg (by rw [c102]; decide), if_pos c127]; dsimp only; exact ⟨rfl, rfl⟩
          · refine Rn.aload_n (pc := 105) dX12_simple_105 rfl rfl ?_
            refine Rn.sipush (pc := 106) (v := nI 14336) dX12_simple_106 (by decide) ?_
            refine Rn.sipush (pc := 109) (v := nI 6656) dX12_simple_109 (by decide) ?_
            refine Rn.callV (pc := 112) (as := [_, _]) cvX12_212 ⟨by decide, rfl⟩ ⟨by decide, by decide⟩ dX12_simple_112 (Nat.le_of_ble_eq_true rfl) rfl (c_sums G h r s hs 14336 6656) ?_
            rintro _ _ ⟨rfl, rfl⟩
            refine Rn.goto (pc := 115) (tgt := 209) dX12_simple_115 (by decide) ?_
            refine Rn.iconst (pc := 209) (v := nI 1) dX12_simple_209 (by decide) ?_
            refine Rn.zret (pc := 210) rfl rfl dX12_simple_210 ?_
            rw [fSim, if_neg (by rw [c9]; decide), if_neg (by rw [c30]; decide), if_neg (by rw [c53]; decide), if_neg (by rw [c77]; decide), if_pos c102]; dsimp only; exact ⟨rfl, rfl⟩
        · refine Rn.aload_n (pc := 80) dX12_simple_80 rfl rfl ?_
          refine Rn.sipush (pc := 81) (v := nI 12288) dX12_simple_81 (by decide) ?_
          refine Rn.sipush (pc := 84) (v := nI 6144) dX12_simple_84 (by decide) ?_
          refine Rn.callV (pc := 87) (as := [_, _]) cvX12_212 ⟨by decide, rfl⟩ ⟨by decide, by decide⟩ dX12_simple_87 (Nat.le_of_ble_eq_true rfl) rfl (c_sums G h r s hs 12288 6144) ?_
          rintro _ _ ⟨rfl, rfl⟩
          refine Rn.goto (pc := 90) (tgt := 209) dX12_simple_90 (by decide) ?_
          refine Rn.iconst (pc := 209) (v := nI 1) dX12_simple_209 (by decide) ?_
          refine Rn.zret (pc := 210) rfl rfl dX12_simple_210 ?_
          rw [fSim, if_neg (by rw [c9]; decide), if_neg (by rw [c30]; decide), if_neg (by rw [c53]; decide), if_pos c77]; dsimp only; exact ⟨rfl, rfl⟩
      · refine Rn.aload_n (pc := 56) dX12_simple_56 rfl rfl ?_
        refine Rn.sipush (pc := 57) (v := nI 10240) dX12_simple_57 (by decide) ?_
        refine Rn.bipush (pc := 60) (v := nI 10) dX12_simple_60 (by decide) ?_
        refine Rn.callV (pc := 62) (as := [_, _]) cvX12_205 ⟨by decide, rfl⟩ ⟨by decide, by decide⟩ dX12_simple_62 (Nat.le_of_ble_eq_true rfl) rfl (c_oneOrNumber G h r s hs 10240 (nI 10)) ?_
        rintro _ _ ⟨rfl, rfl⟩
        refine Rn.goto (pc := 65) (tgt := 209) dX12_simple_65 (by decide) ?_
        refine Rn.iconst (pc := 209) (v := nI 1) dX12_simple_209 (by decide) ?_
        refine Rn.zret (pc := 210) rfl rfl dX12_simple_210 ?_
        rw [fSim, if_neg (by rw [c9]; decide), if_neg (by rw [c30]; decide), if_pos c53]; dsimp only; exact ⟨rfl, rfl⟩
    · refine Rn.aload_n (pc := 33) dX12_simple_33 rfl rfl ?_
      refine Rn.sipush (pc := 34) (v := nI 8192) dX12_simple_34 (by decide) ?_
      refine Rn.iconst (pc := 37) (v := -1) dX12_simple_37 (by decide) ?_
      refine Rn.callV (pc := 38) (as := [_, _]) cvX12_205 ⟨by decide, rfl⟩ ⟨by decide, by decide⟩ dX12_simple_38 (Nat.le_of_ble_eq_true rfl) rfl (c_oneOrNumber G h r s hs 8192 (-1)) ?_
      rintro _ _ ⟨rfl, rfl⟩
      refine Rn.goto (pc := 41) (tgt := 209) dX12_simple_41 (by decide) ?_
      refine Rn.iconst (pc := 209) (v := nI 1) dX12_simple_209 (by decide) ?_
      refine Rn.zret (pc := 210) rfl rfl dX12_simple_210 ?_
      rw [fSim, if_neg (by rw [c9]; decide), if_pos c30]; dsimp only; exact ⟨rfl, rfl⟩
  · refine Rn.aload_n (pc := 12) dX12_simple_12 rfl rfl ?_
    refine Rn.ldc (pc := 13) dX12_simple_13 wcX12_202 ?_
    refine Rn.callV (pc := 15) (as := [_]) cvX12_165 ⟨by decide, rfl⟩ ⟨by decide, by decide⟩ dX12_simple_15 (Nat.le_of_ble_eq_true rfl) rfl (c_plain G r s _) ?_
    rintro _ _ ⟨rfl, rfl⟩
    refine Rn.goto (pc := 18) (tgt := 209) dX12_simple_18 (by decide) ?_
    refine Rn.iconst (pc := 209) (v := nI 1) dX12_simple_209 (by decide) ?_
    refine Rn.zret (pc := 210) rfl rfl dX12_simple_210 ?_
    rw [fSim, if_pos c9]; dsimp only; exact ⟨rfl, rfl⟩

