def fBx (L : Nat → Nat) (n : Nat) (r : SR) (s : PS) : SR × PS :=
  if isW L (skp L n s.1) (wEnd L n (skp L n s.1)) 27762 = true then ((nI 10, nI (18176 + 8 * 14), r.2.2), (wEnd L n (skp L n s.1), s.2))
  else ((nI 10, nI (18176 + 8 * (pRg L n (skp L n s.1, s.2)).1), r.2.2), (pRg L n (skp L n s.1, s.2)).2)
def fOth (o : Nat) (L : Nat → Nat) (n a e : Nat) (r : SR) (s : PS) : Bool × SR × PS :=
  if isW L a e 7103602 = true then (true, (fMem o L n 26624 4 true r s).1, (fMem o L n 26624 4 true r s).2)
  else if isW L a e 7566450 = true then (true, (fMem o L n 24576 4 false r s).1, (fMem o L n 24576 4 false r s).2)
  else if isW L a e 1818522210 = true then (true, (fMem o L n 30720 1 false r s).1, (fMem o L n 30720 1 false r s).2)
  else if isW L a e 1937011298 = true then (true, (fMem o L n 28672 1 false r s).1, (fMem o L n 28672 1 false r s).2)
  else if isW L a e 1886745448 = true then (true, (fLst L n 46080 27762 r s).1, (fLst L n 46080 27762 r s).2)
  else if isW L a e 7368560 = true then (true, (fLst L n 48128 28771 r s).1, (fLst L n 48128 28771 r s).2)
  else if isW L a e 98 = true then (true, (fJmp o L n (nI 11) (nI 57344) r s).1, (fJmp o L n (nI 11) (nI 57344) r s).2)
  else if isW L a e 25196 = true then (true, (fJmp o L n (nI 13) (nI 0) r s).1, (fJmp o L n (nI 13) (nI 0) r s).2)
  else if isW L a e 25208 = true then (true, (fBx L n r s).1, (fBx L n r s).2)
  else if L a = 98 then (match cdN L (a + 1) e with
    | some kk => (true, (fJmp o L n (nI 12) (nI (53248 + 256 * kk)) r s).1, (fJmp o L n (nI 12) (nI (53248 + 256 * kk)) r s).2)
    | none => (false, r, s))
  else (false, r, s)
theorem cdF_lt {c k : Nat} (h : cdF c = some k) : k < 14 := by
  unfold cdF at h
  by_cases q25443 : c = 25443
  · rw [if_pos q25443] at h; cases h; decide
  rw [if_neg q25443] at h
  by_cases q25459 : c = 25459
  · rw [if_pos q25459] at h; cases h; decide
  rw [if_neg q25459] at h
  by_cases q25969 : c = 25969
  · rw [if_pos q25969] at h; cases h; decide
  rw [if_neg q25969] at h
  by_cases q26469 : c = 26469
  · rw [if_pos q26469] at h; cases h; decide
  rw [if_neg q26469] at h
  by_cases q26484 : c = 26484
  · rw [if_pos q26484] at h; cases h; decide
  rw [if_neg q26484] at h
  by_cases q26729 : c = 26729
  · rw [if_pos q26729] at h; cases h; decide
  rw [if_neg q26729] at h
  by_cases q27749 : c = 27749
  · rw [if_pos q27749] at h; cases h; decide
  rw [if_neg q27749] at h
  by_cases q27763 : c = 27763
  · rw [if_pos q27763] at h; cases h; decide
  rw [if_neg q27763] at h
  by_cases q27764 : c = 27764
  · rw [if_pos q27764] at h; cases h; decide
  rw [if_neg q27764] at h
  by_cases q28009 : c = 28009
  · rw [if_pos q28009] at h; cases h; decide
  rw [if_neg q28009] at h
  by_cases q28261 : c = 28261
  · rw [if_pos q28261] at h; cases h; decide
  rw [if_neg q28261] at h
  by_cases q28780 : c = 28780
  · rw [if_pos q28780] at h; cases h; decide
  rw [if_neg q28780] at h
  by_cases q30307 : c = 30307
  · rw [if_pos q30307] at h; cases h; decide
  rw [if_neg q30307] at h
  by_cases q30323 : c = 30323
  · rw [if_pos q30323] at h; cases h; decide
  rw [if_neg q30323] at h
  cases h
theorem cdN_lt {L : Nat → Nat} {a e k : Nat} (h : cdN L a e = some k) : k < 14 := by
  unfold cdN at h
  split at h
  · exact cdF_lt h
  · cases h
theorem cdN_pos {L : Nat → Nat} {a e k : Nat} (h : cdN L a e = some k) : 0 ≤ prV (some k) := nI_pos' (by have := cdN_lt h; omega)
set_option maxRecDepth 20000 in
set_option maxHeartbeats 4000000 in
theorem c_other (G : GX) {o n : Nat} {L : Nat → Nat} {M : Mem} (h : LnOK o n L M) (r : SR) (s : PS) (hs : s.1 ≤ n) (a e : Nat) (ha0 : a < e) (he : e ≤ n) : MetM G yX12_other iX12_other [vR 11 0, vI (nI (o + a)), vI (nI (o + e))] (wS o (stS M r) s) (fun q M' => q = some (vI (bI (fOth o L n a e r s).1)) ∧ M' = wS o (stS M (fOth o L n a e r s).2.1) (fOth o L n a e r s).2.2) := by
  refine MetM.of (ls := [some (vR 11 0), some (vI (nI (o + a))), some (vI (nI (o + e))), none, none, none]) (by decide) rfl (Nat.le_of_ble_eq_true rfl) rfl ?_
  intro hM0
  have hq1 := h.2.1
  have hq2 := h.2.2.1
  have ha : a ≤ e := Nat.le_of_lt ha0
  refine Rn.aload_n (pc := 0) dX12_other_0 rfl rfl ?_
  refine Rn.iload_n (pc := 1) dX12_other_1 rfl rfl ?_
  refine Rn.iload_n (pc := 2) dX12_other_2 rfl rfl ?_
  refine Rn.ldc2 (pc := 3) dX12_other_3 wlX12_254 ?_
  refine Rn.callV (pc := 6) (as := [_, _, _]) cvX12_174 ⟨by decide, rfl⟩ ⟨by decide, by decide⟩ dX12_other_6 (Nat.le_of_ble_eq_true rfl) rfl (c_isWord G (h.st r) s a e 7103602 ha he (by decide)) ?_
  rintro _ _ ⟨rfl, rfl⟩
  refine Rn.if_eqB (pc := 9) (tgt := 24) dX12_other_9 (by decide) (fun c9 => ?_) (fun c9 => ?_)
  · refine Rn.aload_n (pc := 24) dX12_other_24 rfl rfl ?_
    refine Rn.iload_n (pc := 25) dX12_other_25 rfl rfl ?_
    refine Rn.iload_n (pc := 26) dX12_other_26 rfl rfl ?_
    refine Rn.ldc2 (pc := 27) dX12_other_27 wlX12_260 ?_
    refine Rn.callV (pc := 30) (as := [_, _, _]) cvX12_174 ⟨by decide, rfl⟩ ⟨by decide, by decide⟩ dX12_other_30 (Nat.le_of_ble_eq_true rfl) rfl (c_isWord G (h.st r) s a e 7566450 ha he (by decide)) ?_
    rintro _ _ ⟨rfl, rfl⟩
    refine Rn.if_eqB (pc := 33) (tgt := 48) dX12_other_33 (by decide) (fun c33 => ?_) (fun c33 => ?_)
    · refine Rn.aload_n (pc := 48) dX12_other_48 rfl rfl ?_
      refine Rn.iload_n (pc := 49) dX12_other_49 rfl rfl ?_
      refine Rn.iload_n (pc := 50) dX12_other_50 rfl rfl ?_
      refine Rn.ldc2 (pc := 51) dX12_other_51 wlX12_262 ?_
      refine Rn.callV (pc := 54) (as := [_, _, _]) cvX12_174 ⟨by decide, rfl⟩ ⟨by decide, by decide⟩ dX12_other_54 (Nat.le_of_ble_eq_true rfl) rfl (c_isWord G (h.st r) s a e 1818522210 ha he (by decide)) ?_
      rintro _ _ ⟨rfl, rfl⟩
      refine Rn.if_eqB (pc := 57) (tgt := 72) dX12_other_57 (by decide) (fun c57 => ?_) (fun c57 => ?_)
      · refine Rn.aload_n (pc := 72) dX12_other_72 rfl rfl ?_
        refine Rn.iload_n (pc := 73) dX12_other_73 rfl rfl ?_
        refine Rn.iload_n (pc := 74) dX12_other_74 rfl rfl ?_
        refine Rn.ldc2 (pc := 75) dX12_other_75 wlX12_264 ?_
        refine Rn.callV (pc := 78) (as := [_, _, _]) cvX12_174 ⟨by decide, rfl⟩ ⟨by decide, by decide⟩ dX12_other_78 (Nat.le_of_ble_eq_true rfl) rfl (c_isWord G (h.st r) s a e 1937011298 ha he (by decide)) ?_
        rintro _ _ ⟨rfl, rfl⟩
        refine Rn.if_eqB (pc := 81) (tgt := 96) dX12_other_81 (by decide) (fun c81 => ?_) (fun c81 => ?_)
        · refine Rn.aload_n (pc := 96) dX12_other_96 rfl rfl ?_
          refine Rn.iload_n (pc := 97) dX12_other_97 rfl rfl ?_
          refine Rn.iload_n (pc := 98) dX12_other_98 rfl rfl ?_
          refine Rn.ldc2 (pc := 99) dX12_other_99 wlX12_266 ?_
          refine Rn.callV (pc := 102) (as := [_, _, _]) cvX12_174 ⟨by decide, rfl⟩ ⟨by decide, by decide⟩ dX12_other_102 (Nat.le_of_ble_eq_true rfl) rfl (c_isWord G (h.st r) s a e 1886745448 ha he (by decide)) ?_
          rintro _ _ ⟨rfl, rfl⟩
          refine Rn.if_eqB (pc := 105) (tgt := 121) dX12_other_105 (by decide) (fun c105 => ?_) (fun c105 => ?_)
          · refine Rn.aload_n (pc := 121) dX12_other_121 rfl rfl ?_
            refine Rn.iload_n (pc := 122) dX12_other_122 rfl rfl ?_
            refine Rn.iload_n (pc := 123) dX12_other_123 rfl rfl ?_
            refine Rn.ldc2 (pc := 124) dX12_other_124 wlX12_275 ?_
            refine Rn.callV (pc := 127) (as := [_, _, _]) cvX12_174 ⟨by decide, rfl⟩ ⟨by decide, by decide⟩ dX12_other_127 (Nat.le_of_ble_eq_true rfl) rfl (c_isWord G (h.st r) s a e 7368560 ha he (by decide)) ?_
            rintro _ _ ⟨rfl, rfl⟩
            refine Rn.if_eqB (pc := 130) (tgt := 146) dX12_other_130 (by decide) (fun c130 => ?_) (fun c130 => ?_)
            · refine Rn.aload_n (pc := 146) dX12_other_146 rfl rfl ?_
              refine Rn.iload_n (pc := 147) dX12_other_147 rfl rfl ?_
              refine Rn.iload_n (pc := 148) dX12_other_148 rfl rfl ?_
              refine Rn.ldc2 (pc := 149) dX12_other_149 wlX12_280 ?_
              refine Rn.callV (pc := 152) (as := [_, _, _]) cvX12_174 ⟨by decide, rfl⟩ ⟨by decide, by decide⟩ dX12_other_152 (Nat.le_of_ble_eq_true rfl) rfl (c_isWord G (h.st r) s a e 98 ha he (by decide)) ?_
              rintro _ _ ⟨rfl, rfl⟩
              refine Rn.if_eqB (pc := 155) (tgt := 170) dX12_other_155 (by decide) (fun c155 => ?_) (fun c155 => ?_)
              · refine Rn.aload_n (pc := 170) dX12_other_170 rfl rfl ?_
                refine Rn.iload_n (pc := 171) dX12_other_171 rfl rfl ?_
                refine Rn.iload_n (pc := 172) dX12_other_172 rfl rfl ?_
                refine Rn.ldc2 (pc := 173) dX12_other_173 wlX12_286 ?_
                refine Rn.callV (pc := 176) (as := [_, _, _]) cvX12_174 ⟨by decide, rfl⟩ ⟨by decide, by decide⟩ dX12_other_176 (Nat.le_of_ble_eq_true rfl) rfl (c_isWord G (h.st r) s a e 25196 ha he (by decide)) ?_
                rintro _ _ ⟨rfl, rfl⟩
                refine Rn.if_eqB (pc := 179) (tgt := 192) dX12_other_179 (by decide) (fun c179 => ?_) (fun c179 => ?_)
                · refine Rn.aload_n (pc := 192) dX12_other_192 rfl rfl ?_
                  refine Rn.iload_n (pc := 193) dX12_other_193 rfl rfl ?_
                  refine Rn.iload_n (pc := 194) dX12_other_194 rfl rfl ?_
                  refine Rn.ldc2 (pc := 195) dX12_other_195 wlX12_288 ?_
                  refine Rn.callV (pc := 198) (as := [_, _, _]) cvX12_174 ⟨by decide, rfl⟩ ⟨by decide, by decide⟩ dX12_other_198 (Nat.le_of_ble_eq_true rfl) rfl (c_isWord G (h.st r) s a e 25208 ha he (by decide)) ?_
                  rintro _ _ ⟨rfl, rfl⟩
                  refine Rn.if_eqB (pc := 201) (tgt := 272) dX12_other_201 (by decide) (fun c201 => ?_) (fun c201 => ?_)
                  · refine Rn.aload_n (pc := 272) dX12_other_272 rfl rfl ?_
                    refine Rn.getR (pc := 273) flX12_20 mu11_5 fx11_5 dX12_other_273 ?_
                    refine Rn.iload_n (pc := 276) dX12_other_276 rfl rfl ?_
                    refine Rn.caldN (pc := 277) ak25 (by omega) (by decide) (wS_tx (h.st r) a (by omega)) dX12_other_277 ?_
                    refine Rn.bipush (pc := 278) (v := nI 98) dX12_other_278 (by decide) ?_
                    refine Rn.icmp_neN (pc := 280) (tgt := 319) dX12_other_280 (by decide) (by have := h.2.2.2.2.1 a (by omega); omega) (by decide) (fun c280 => ?_) (fun c280 => ?_)
                    · refine Rn.iconst (pc := 319) (v := nI 0) dX12_other_319 (by decide) ?_
                      refine Rn.zret (pc := 320) rfl rfl dX12_other_320 ?_
                      rw [fOth, if_neg (by rw [c9]; decide), if_neg (by rw [c33]; decide), if_neg (by rw [c57]; decide), if_neg (by rw [c81]; decide), if_neg (by rw [c105]; decide), if_neg (by rw [c130]; decide), if_neg (by rw [c155]; decide), if_neg (by rw [c179]; decide), if_neg (by rw [c201]; decide), if_neg c280]; dsimp only; exact ⟨rfl, rfl⟩
                    · refine Rn.aload_n (pc := 283) dX12_other_283 rfl rfl ?_
                      refine Rn.iload_n (pc := 284) dX12_other_284 rfl rfl ?_
                      refine Rn.iconst (pc := 285) (v := nI 1) dX12_other_285 (by decide) ?_
                      refine Rn.iaddN (pc := 286) dX12_other_286 ?_
                      rw [Nat.add_assoc]
                      refine Rn.iload_n (pc := 287) dX12_other_287 rfl rfl ?_
                      refine Rn.callV (pc := 288) (as := [_, _]) cvX12_290 ⟨by decide, rfl⟩ ⟨by decide, by decide⟩ dX12_other_288 (Nat.le_of_ble_eq_true rfl) rfl (c_condition G (h.st r) s (a + 1) e (by omega) he) ?_
                      rintro _ _ ⟨rfl, rfl⟩
                      refine Rn.if_lt (pc := 291) (y := 0) (tgt := 319) dX12_other_291 (by decide) (fun c291 => ?_) (fun c291 => ?_)
                      · refine Rn.iconst (pc := 319) (v := nI 0) dX12_other_319 (by decide) ?_
                        refine Rn.zret (pc := 320) rfl rfl dX12_other_320 ?_
                        have hkn : cdN L (a + 1) e = none := by
                          cases h9 : cdN L (a + 1) e with
                          | none => rfl
                          | some k => rw [h9] at c291; exact absurd c291 (Int32.not_lt.mpr (cdN_pos h9))
                        rw [fOth, if_neg (by rw [c9]; decide), if_neg (by rw [c33]; decide), if_neg (by rw [c57]; decide), if_neg (by rw [c81]; decide), if_neg (by rw [c105]; decide), if_neg (by rw [c130]; decide), if_neg (by rw [c155]; decide), if_neg (by rw [c179]; decide), if_neg (by rw [c201]; decide), if_pos c280, hkn]; dsimp only; exact ⟨rfl, rfl⟩
                      · obtain ⟨kk, hkk⟩ : ∃ kk, cdN L (a + 1) e = some kk := by
                          cases h9 : cdN L (a + 1) e with
                          | none => rw [h9] at c291; exact absurd (by decide) c291
                          | some k => exact ⟨k, rfl⟩
                        refine Rn.aload_n (pc := 294) dX12_other_294 rfl rfl ?_
                        refine Rn.bipush (pc := 295) (v := nI 12) dX12_other_295 (by decide) ?_
                        refine Rn.ldc_w (pc := 297) dX12_other_297 wcX12_293 ?_
                        refine Rn.sipush (pc := 300) (v := nI 256) dX12_other_300 (by decide) ?_
                        refine Rn.aload_n (pc := 303) dX12_other_303 rfl rfl ?_
                        refine Rn.iload_n (pc := 304) dX12_other_304 rfl rfl ?_
                        refine Rn.iconst (pc := 305) (v := nI 1) dX12_other_305 (by decide) ?_
                        refine Rn.iaddN (pc := 306) dX12_other_306 ?_
                        rw [Nat.add_assoc]
                        refine Rn.iload_n (pc := 307) dX12_other_307 rfl rfl ?_
                        refine Rn.callV (pc := 308) (as := [_, _]) cvX12_290 ⟨by decide, rfl⟩ ⟨by decide, by decide⟩ dX12_other_308 (Nat.le_of_ble_eq_true rfl) rfl (c_condition G (h.st r) s (a + 1) e (by omega) he) ?_
                        rintro _ _ ⟨rfl, rfl⟩
                        rw [hkk, show prV (some kk) = nI kk from rfl]
                        refine Rn.imulN (pc := 311) dX12_other_311 ?_
                        refine Rn.iaddN (pc := 312) dX12_other_312 ?_
                        refine Rn.callV (pc := 313) (as := [_, _]) cvX12_283 ⟨by decide, rfl⟩ ⟨by decide, by decide⟩ dX12_other_313 (Nat.le_of_ble_eq_true rfl) rfl (c_jump G h r s hs (nI 12) (nI (53248 + 256 * kk))) ?_
                        rintro _ _ ⟨rfl, rfl⟩
                        refine Rn.goto (pc := 316) (tgt := 321) dX12_other_316 (by decide) ?_
                        refine Rn.iconst (pc := 321) (v := nI 1) dX12_other_321 (by decide) ?_
                        refine Rn.zret (pc := 322) rfl rfl dX12_other_322 ?_
                        rw [fOth, if_neg (by rw [c9]; decide), if_neg (by rw [c33]; decide), if_neg (by rw [c57]; decide), if_neg (by rw [c81]; decide), if_neg (by rw [c105]; decide), if_neg (by rw [c130]; decide), if_neg (by rw [c155]; decide), if_neg (by rw [c179]; decide), if_neg (by rw [c201]; decide), if_pos c280, hkk]; dsimp only; exact ⟨rfl, rfl⟩
                  · refine Rn.aload_n (pc := 204) dX12_other_204 rfl rfl ?_
                    refine Rn.callV (pc := 205) (as := []) cvX12_131 ⟨by decide, rfl⟩ ⟨by decide, by decide⟩ dX12_other_205 (Nat.le_of_ble_eq_true rfl) rfl (c_wordEnd G (h.st r) s hs) ?_
                    rintro _ _ ⟨rfl, rfl⟩
                    refine Rn.istore_n (pc := 208) dX12_other_208 rfl (by decide) rfl st6_3 ?_
                    refine Rn.aload_n (pc := 209) dX12_other_209 rfl rfl ?_
                    refine Rn.aload_n (pc := 210) dX12_other_210 rfl rfl ?_
                    refine Rn.getI (pc := 211) (t := 0) flX12_94 wS_at dX12_other_211 ?_
                    refine Rn.iload_n (pc := 214) dX12_other_214 rfl rfl ?_
                    refine Rn.ldc2 (pc := 215) dX12_other_215 wlX12_269 ?_
                    refine Rn.callV (pc := 218) (as := [_, _, _]) cvX12_174 ⟨by decide, rfl⟩ ⟨by decide, by decide⟩ dX12_other_218 (Nat.le_of_ble_eq_true rfl) rfl (c_isWord G (h.st r) (skp L n s.1, s.2) (skp L n s.1) (wEnd L n (skp L n s.1)) 27762 (wEnd_ge (skp_le hs)) (wEnd_le (skp_le hs)) (by decide)) ?_
                    rintro _ _ ⟨rfl, rfl⟩
                    refine Rn.istore (pc := 221) dX12_other_221 (by decide) rfl st6_4 ?_
                    refine Rn.iload (pc := 223) dX12_other_223 rfl ?_
                    refine Rn.if_eqB (pc := 225) (tgt := 233) dX12_other_225 (by decide) (fun c225 => ?_) (fun c225 => ?_)
                    · refine Rn.aload_n (pc := 233) dX12_other_233 rfl rfl ?_
                      refine Rn.callV (pc := 234) (as := []) cvX12_162 ⟨by decide, rfl⟩ ⟨by decide, by decide⟩ dX12_other_234 (Nat.le_of_ble_eq_true rfl) rfl (c_register G (h.st r) (skp L n s.1, s.2) (skp_le hs)) ?_
                      rintro _ _ ⟨rfl, rfl⟩
                      refine Rn.istore (pc := 237) dX12_other_237 (by decide) rfl st6_5 ?_
                      refine Rn.aload_n (pc := 239) dX12_other_239 rfl rfl ?_
                      refine Rn.iload (pc := 240) dX12_other_240 rfl ?_
                      refine Rn.if_eqB (pc := 242) (tgt := 249) dX12_other_242 (by decide) (fun c242 => ?_) (fun c242 => ?_)
                      · refine Rn.aload_n (pc := 249) dX12_other_249 rfl rfl ?_
                        refine Rn.getI (pc := 250) (t := 0) flX12_94 wS_at dX12_other_250 ?_
                        refine Rn.putI (pc := 253) (t := 0) flX12_94 rfl rfl dX12_other_253 ?_
                        rw [wS_s7]
                        refine Rn.aload_n (pc := 256) dX12_other_256 rfl rfl ?_
                        refine Rn.sipush (pc := 257) (v := nI 18176) dX12_other_257 (by decide) ?_
                        refine Rn.bipush (pc := 260) (v := nI 8) dX12_other_260 (by decide) ?_
                        refine Rn.iload (pc := 262) dX12_other_262 rfl ?_
                        refine Rn.imulN (pc := 264) dX12_other_264 ?_
                        refine Rn.iaddN (pc := 265) dX12_other_265 ?_
                        refine Rn.callV (pc := 266) (as := [_]) cvX12_165 ⟨by decide, rfl⟩ ⟨by decide, by decide⟩ dX12_other_266 (Nat.le_of_ble_eq_true rfl) rfl (c_plain G r (pRg L n (skp L n s.1, s.2)).2 _) ?_
                        rintro _ _ ⟨rfl, rfl⟩
                        refine Rn.goto (pc := 269) (tgt := 321) dX12_other_269 (by decide) ?_
                        refine Rn.iconst (pc := 321) (v := nI 1) dX12_other_321 (by decide) ?_
                        refine Rn.zret (pc := 322) rfl rfl dX12_other_322 ?_
                        rw [fOth, if_neg (by rw [c9]; decide), if_neg (by rw [c33]; decide), if_neg (by rw [c57]; decide), if_neg (by rw [c81]; decide), if_neg (by rw [c105]; decide), if_neg (by rw [c130]; decide), if_neg (by rw [c155]; decide), if_neg (by rw [c179]; decide), if_pos c201, fBx, if_neg (by rw [c225]; decide)]; dsimp only; exact ⟨rfl, rfl⟩
                      · refine Rn.iload_n (pc := 245) dX12_other_245 rfl rfl ?_
                        refine Rn.goto (pc := 246) (tgt := 253) dX12_other_246 (by decide) ?_
                        refine Rn.putI (pc := 253) (t := 0) flX12_94 rfl rfl dX12_other_253 ?_
                        rw [wS_s7]
                        refine Rn.aload_n (pc := 256) dX12_other_256 rfl rfl ?_
                        refine Rn.sipush (pc := 257) (v := nI 18176) dX12_other_257 (by decide) ?_
                        refine Rn.bipush (pc := 260) (v := nI 8) dX12_other_260 (by decide) ?_
                        refine Rn.iload (pc := 262) dX12_other_262 rfl ?_
                        refine Rn.imulN (pc := 264) dX12_other_264 ?_
                        refine Rn.iaddN (pc := 265) dX12_other_265 ?_
                        refine Rn.callV (pc := 266) (as := [_]) cvX12_165 ⟨by decide, rfl⟩ ⟨by decide, by decide⟩ dX12_other_266 (Nat.le_of_ble_eq_true rfl) rfl (c_plain G r (wEnd L n (skp L n s.1), (pRg L n (skp L n s.1, s.2)).2.2) _) ?_
                        rintro _ _ ⟨rfl, rfl⟩
                        refine Rn.goto (pc := 269) (tgt := 321) dX12_other_269 (by decide) ?_
                        refine Rn.iconst (pc := 321) (v := nI 1) dX12_other_321 (by decide) ?_
                        refine Rn.zret (pc := 322) rfl rfl dX12_other_322 ?_
                        rw [c225] at c242; cases c242
                    · refine Rn.bipush (pc := 228) (v := nI 14) dX12_other_228 (by decide) ?_
                      refine Rn.goto (pc := 230) (tgt := 237) dX12_other_230 (by decide) ?_
                      refine Rn.istore (pc := 237) dX12_other_237 (by decide) rfl st6_5 ?_
                      refine Rn.aload_n (pc := 239) dX12_other_239 rfl rfl ?_
                      refine Rn.iload (pc := 240) dX12_other_240 rfl ?_
                      refine Rn.if_eqB (pc := 242) (tgt := 249) dX12_other_242 (by decide) (fun c242 => ?_) (fun c242 => ?_)
                      · refine Rn.aload_n (pc := 249) dX12_other_249 rfl rfl ?_
                        refine Rn.getI (pc := 250) (t := 0) flX12_94 wS_at dX12_other_250 ?_
                        refine Rn.putI (pc := 253) (t := 0) flX12_94 rfl rfl dX12_other_253 ?_
                        rw [wS_s7]
                        refine Rn.aload_n (pc := 256) dX12_other_256 rfl rfl ?_
                        refine Rn.sipush (pc := 257) (v := nI 18176) dX12_other_257 (by decide) ?_
                        refine Rn.bipush (pc := 260) (v := nI 8) dX12_other_260 (by decide) ?_
                        refine Rn.iload (pc := 262) dX12_other_262 rfl ?_
                        refine Rn.imulN (pc := 264) dX12_other_264 ?_
                        refine Rn.iaddN (pc := 265) dX12_other_265 ?_
                        refine Rn.callV (pc := 266) (as := [_]) cvX12_165 ⟨by decide, rfl⟩ ⟨by decide, by decide⟩ dX12_other_266 (Nat.le_of_ble_eq_true rfl) rfl (c_plain G r (skp L n s.1, s.2) _) ?_
                        rintro _ _ ⟨rfl, rfl⟩
                        refine Rn.goto (pc := 269) (tgt := 321) dX12_other_269 (by decide) ?_
                        refine Rn.iconst (pc := 321) (v := nI 1) dX12_other_321 (by decide) ?_
                        refine Rn.zret (pc := 322) rfl rfl dX12_other_322 ?_
                        rw [c225] at c242; cases c242
                      · refine Rn.iload_n (pc := 245) dX12_other_245 rfl rfl ?_
                        refine Rn.goto (pc := 246) (tgt := 253) dX12_other_246 (by decide) ?_
                        refine Rn.putI (pc := 253) (t := 0) flX12_94 rfl rfl dX12_other_253 ?_
                        rw [wS_s7]
                        refine Rn.aload_n (pc := 256) dX12_other_256 rfl rfl ?_
                        refine Rn.sipush (pc := 257) (v := nI 18176) dX12_other_257 (by decide) ?_
                        refine Rn.bipush (pc := 260) (v := nI 8) dX12_other_260 (by decide) ?_
                        refine Rn.iload (pc := 262) dX12_other_262 rfl ?_
                        refine Rn.imulN (pc := 264) dX12_other_264 ?_
                        refine Rn.iaddN (pc := 265) dX12_other_265 ?_
                        refine Rn.callV (pc := 266) (as := [_]) cvX12_165 ⟨by decide, rfl⟩ ⟨by decide, by decide⟩ dX12_other_266 (Nat.le_of_ble_eq_true rfl) rfl (c_plain G r (wEnd L n (skp L n s.1), s.2) _) ?_
                        rintro _ _ ⟨rfl, rfl⟩
                        refine Rn.goto (pc := 269) (tgt := 321) dX12_other_269 (by decide) ?_
                        refine Rn.iconst (pc := 321) (v := nI 1) dX12_other_321 (by decide) ?_
                        refine Rn.zret (pc := 322) rfl rfl dX12_other_322 ?_
                        rw [fOth, if_neg (by rw [c9]; decide), if_neg (by rw [c33]; decide), if_neg (by rw [c57]; decide), if_neg (by rw [c81]; decide), if_neg (by rw [c105]; decide), if_neg (by rw [c130]; decide), if_neg (by rw [c155]; decide), if_neg (by rw [c179]; decide), if_pos c201, fBx, if_pos c225]; dsimp only; exact ⟨rfl, rfl⟩
                · refine Rn.aload_n (pc := 182) dX12_other_182 rfl rfl ?_
                  refine Rn.bipush (pc := 183) (v := nI 13) dX12_other_183 (by decide) ?_
                  refine Rn.iconst (pc := 185) (v := nI 0) dX12_other_185 (by decide) ?_
                  refine Rn.callV (pc := 186) (as := [_, _]) cvX12_283 ⟨by decide, rfl⟩ ⟨by decide, by decide⟩ dX12_other_186 (Nat.le_of_ble_eq_true rfl) rfl (c_jump G h r s hs (nI 13) (nI 0)) ?_
                  rintro _ _ ⟨rfl, rfl⟩
                  refine Rn.goto (pc := 189) (tgt := 321) dX12_other_189 (by decide) ?_
                  refine Rn.iconst (pc := 321) (v := nI 1) dX12_other_321 (by decide) ?_
                  refine Rn.zret (pc := 322) rfl rfl dX12_other_322 ?_
                  rw [fOth, if_neg (by rw [c9]; decide), if_neg (by rw [c33]; decide), if_neg (by rw [c57]; decide), if_neg (by rw [c81]; decide), if_neg (by rw [c105]; decide), if_neg (by rw [c130]; decide), if_neg (by rw [c155]; decide), if_pos c179]; dsimp only; exact ⟨rfl, rfl⟩
              · refine Rn.aload_n (pc := 158) dX12_other_158 rfl rfl ?_
                refine Rn.bipush (pc := 159) (v := nI 11) dX12_other_159 (by decide) ?_
                refine Rn.ldc_w (pc := 161) dX12_other_161 wcX12_282 ?_
                refine Rn.callV (pc := 164) (as := [_, _]) cvX12_283 ⟨by decide, rfl⟩ ⟨by decide, by decide⟩ dX12_other_164 (Nat.le_of_ble_eq_true rfl) rfl (c_jump G h r s hs (nI 11) (nI 57344)) ?_
                rintro _ _ ⟨rfl, rfl⟩
                refine Rn.goto (pc := 167) (tgt := 321) dX12_other_167 (by decide) ?_
                refine Rn.iconst (pc := 321) (v := nI 1) dX12_other_321 (by decide) ?_
                refine Rn.zret (pc := 322) rfl rfl dX12_other_322 ?_
                rw [fOth, if_neg (by rw [c9]; decide), if_neg (by rw [c33]; decide), if_neg (by rw [c57]; decide), if_neg (by rw [c81]; decide), if_neg (by rw [c105]; decide), if_neg (by rw [c130]; decide), if_pos c155]; dsimp only; exact ⟨rfl, rfl⟩
            · refine Rn.aload_n (pc := 133) dX12_other_133 rfl rfl ?_
              refine Rn.ldc_w (pc := 134) dX12_other_134 wcX12_277 ?_
              refine Rn.ldc2 (pc := 137) dX12_other_137 wlX12_278 ?_
              refine Rn.callV (pc := 140) (as := [_, _]) cvX12_271 ⟨by decide, rfl⟩ ⟨by decide, by decide⟩ dX12_other_140 (Nat.le_of_ble_eq_true rfl) rfl (c_listed G h r s hs 48128 28771 (by decide)) ?_
              rintro _ _ ⟨rfl, rfl⟩
              refine Rn.goto (pc := 143) (tgt := 321) dX12_other_143 (by decide) ?_
              refine Rn.iconst (pc := 321) (v := nI 1) dX12_other_321 (by decide) ?_
              refine Rn.zret (pc := 322) rfl rfl dX12_other_322 ?_
              rw [fOth, if_neg (by rw [c9]; decide), if_neg (by rw [c33]; decide), if_neg (by rw [c57]; decide), if_neg (by rw [c81]; decide), if_neg (by rw [c105]; decide), if_pos c130]; dsimp only; exact ⟨rfl, rfl⟩
          · refine Rn.aload_n (pc := 108) dX12_other_108 rfl rfl ?_
            refine Rn.ldc_w (pc := 109) dX12_other_109 wcX12_268 ?_
            refine Rn.ldc2 (pc := 112) dX12_other_112 wlX12_269 ?_
            refine Rn.callV (pc := 115) (as := [_, _]) cvX12_271 ⟨by decide, rfl⟩ ⟨by decide, by decide⟩ dX12_other_115 (Nat.le_of_ble_eq_true rfl) rfl (c_listed G h r s hs 46080 27762 (by decide)) ?_
            rintro _ _ ⟨rfl, rfl⟩
            refine Rn.goto (pc := 118) (tgt := 321) dX12_other_118 (by decide) ?_
            refine Rn.iconst (pc := 321) (v := nI 1) dX12_other_321 (by decide) ?_
            refine Rn.zret (pc := 322) rfl rfl dX12_other_322 ?_
            rw [fOth, if_neg (by rw [c9]; decide), if_neg (by rw [c33]; decide), if_neg (by rw [c57]; decide), if_neg (by rw [c81]; decide), if_pos c105]; dsimp only; exact ⟨rfl, rfl⟩
        · refine Rn.aload_n (pc := 84) dX12_other_84 rfl rfl ?_
          refine Rn.sipush (pc := 85) (v := nI 28672) dX12_other_85 (by decide) ?_
          refine Rn.iconst (pc := 88) (v := nI 1) dX12_other_88 (by decide) ?_
          refine Rn.iconst (pc := 89) (v := nI 0) dX12_other_89 (by decide) ?_
          refine Rn.callV (pc := 90) (as := [_, _, _]) cvX12_256 ⟨by decide, rfl⟩ ⟨by decide, by decide⟩ dX12_other_90 (Nat.le_of_ble_eq_true rfl) rfl (c_memory G h r s hs 28672 1 false (by decide)) ?_
          rintro _ _ ⟨rfl, rfl⟩
          refine Rn.goto (pc := 93) (tgt := 321) dX12_other_93 (by decide) ?_
          refine Rn.iconst (pc := 321) (v := nI 1) dX12_other_321 (by decide) ?_
          refine Rn.zret (pc := 322) rfl rfl dX12_other_322 ?_
          rw [fOth, if_neg (by rw [c9]; decide), if_neg (by rw [c33]; decide), if_neg (by rw [c57]; decide), if_pos c81]; dsimp only; exact ⟨rfl, rfl⟩
      · refine Rn.aload_n (pc := 60) dX12_other_60 rfl rfl ?_
        refine Rn.sipush (pc := 61) (v := nI 30720) dX12_other_61 (by decide) ?_
        refine Rn.iconst (pc := 64) (v := nI 1) dX12_other_64 (by decide) ?_
        refine Rn.iconst (pc := 65) (v := nI 0) dX12_other_65 (by decide) ?_
        refine Rn.callV (pc := 66) (as := [_, _, _]) cvX12_256 ⟨by decide, rfl⟩ ⟨by decide, by decide⟩ dX12_other_66 (Nat.le_of_ble_eq_true rfl) rfl (c_memory G h r s hs 30720 1 false (by decide)) ?_
        rintro _ _ ⟨rfl, rfl⟩
        refine Rn.goto (pc := 69) (tgt := 321) dX12_other_69 (by decide) ?_
        refine Rn.iconst (pc := 321) (v := nI 1) dX12_other_321 (by decide) ?_
        refine Rn.zret (pc := 322) rfl rfl dX12_other_322 ?_
        rw [fOth, if_neg (by rw [c9]; decide), if_neg (by rw [c33]; decide), if_pos c57]; dsimp only; exact ⟨rfl, rfl⟩
    · refine Rn.aload_n (pc := 36) dX12_other_36 rfl rfl ?_
      refine Rn.sipush (pc := 37) (v := nI 24576) dX12_other_37 (by decide) ?_
      refine Rn.iconst (pc := 40) (v := nI 4) dX12_other_40 (by decide) ?_
      refine Rn.iconst (pc := 41) (v := nI 0) dX12_other_41 (by decide) ?_
      refine Rn.callV (pc := 42) (as := [_, _, _]) cvX12_256 ⟨by decide, rfl⟩ ⟨by decide, by decide⟩ dX12_other_42 (Nat.le_of_ble_eq_true rfl) rfl (c_memory G h r s hs 24576 4 false (by decide)) ?_
      rintro _ _ ⟨rfl, rfl⟩
      refine Rn.goto (pc := 45) (tgt := 321) dX12_other_45 (by decide) ?_
      refine Rn.iconst (pc := 321) (v := nI 1) dX12_other_321 (by decide) ?_
      refine Rn.zret (pc := 322) rfl rfl dX12_other_322 ?_
      rw [fOth, if_neg (by rw [c9]; decide), if_pos c33]; dsimp only; exact ⟨rfl, rfl⟩
  · refine Rn.aload_n (pc := 12) dX12_other_12 rfl rfl ?_
    refine Rn.sipush (pc := 13) (v := nI 26624) dX12_other_13 (by decide) ?_
    refine Rn.iconst (pc := 16) (v := nI 4) dX12_other_16 (by decide) ?_
    refine Rn.iconst (pc := 17) (v := nI 1) dX12_other_17 (by decide) ?_
    refine Rn.callV (pc := 18) (as := [_, _, _]) cvX12_256 ⟨by decide, rfl⟩ ⟨by decide, by decide⟩ dX12_other_18 (Nat.le_of_ble_eq_true rfl) rfl (c_memory G h r s hs 26624 4 true (by decide)) ?_
    rintro _ _ ⟨rfl, rfl⟩
    refine Rn.goto (pc := 21) (tgt := 321) dX12_other_21 (by decide) ?_
    refine Rn.iconst (pc := 321) (v := nI 1) dX12_other_321 (by decide) ?_
    refine Rn.zret (pc := 322) rfl rfl dX12_other_322 ?_
    rw [fOth, if_pos c9]; dsimp only; exact ⟨rfl, rfl⟩

