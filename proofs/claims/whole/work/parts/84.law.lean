abbrev iL : MIx := (cL_law, RL, 7, some .boolean, room_1)
section LAWROWS
variable {G : GX} {I : MIx} {z : MX} {cs : Nat × Nat} {Q : State → Prop} {pc : Nat} {ls : List (Option AV)} {st : List AV} {M : Mem}
theorem RnE.slen (hd : decode I.1 pc = .ok (.arraylength, 1)) (k9 : RnE G I z cs Q (pc + 1) ls (vI (nI (gS G).1) :: st) M) : RnE G I z cs Q pc ls (vR 54 0 :: st) M := by
  obtain ⟨p, e, s, m, args, below, meth, c⟩ := z
  intro hc H locs lsA hP hS hL hM hLs hSt
  exact va_tlen (t := gA G 54 0) hc.1 hc.2.1 hc.2.2.2.2.2.2.2.2.2.2.2.1 hS rfl hd (k9 hc H locs lsA hP hS hL hM hLs (hSt.d.I _))
theorem RnE.sld {k : Nat} (hk : k < (gS G).1) (hL9 : (gS G).1 < 2 ^ 31) (hd : decode I.1 pc = .ok (.iaload, 1)) (k9 : RnE G I z cs Q (pc + 1) ls (vI ((gS G).2 k) :: st) M) : RnE G I z cs Q pc ls (vI (nI k) :: vR 54 0 :: st) M := by
  obtain ⟨p, e, s, m, args, below, meth, c⟩ := z
  intro hc H locs lsA hP hS hL hM hLs hSt
  exact va_ti (t := gA G 54 0) hc.1 hc.2.1 hc.2.2.2.2.2.2.2.2.2.2.2.1 hS (vp_in_nI hk hL9) (by rw [nI_clamp (by omega)]; rfl) hd (k9 hc H locs lsA hP hS hL hM hLs (hSt.d.d.I _))
end LAWROWS
theorem lg_cmp_s (x : Int64) : lg_cmp x x = 0 := by
  unfold lg_cmp
  simp
theorem and15 (x : Int32) : ∃ n : Nat, n < 16 ∧ x &&& nI 15 = nI n := by
  refine ⟨(x.toBitVec &&& 15#32).toNat, ?_, ?_⟩
  · rw [BitVec.toNat_and]
    exact Nat.lt_succ_of_le (Nat.and_le_right)
  · apply Int32.toBitVec_inj.mp
    show x.toBitVec &&& 15#32 = BitVec.ofNat 32 (x.toBitVec &&& 15#32).toNat
    rw [BitVec.ofNat_toNat, BitVec.setWidth_eq]
set_option maxRecDepth 20000 in
set_option maxHeartbeats 4000000 in
theorem law_type {G : GX} {z : MX} {Q : State → Prop} {c0 d0 i : Nat} {M : Mem} {x5 x6 : Option AV} (hx : zX G z) (hc0 : c0 + 1 ≤ 601024) (hd0 : d0 + 6 ≤ 7293034) (hi : i + 5 ≤ (gS G).1) (hS : (gS G).1 ≤ 2560) (hM : Rr M) (kk : ∀ (M' : Mem) (y5 y6 : Option AV), Rr M' → RnE G iL z (c0 + 1, d0 + 6) Q 604 [some (vR 54 0), some (vR 10 0), some (vR 11 0), some (vR 41 0), some (vI (nI i)), y5, y6] [] M') : RnE G iL z (c0, d0) Q 96 [some (vR 54 0), some (vR 10 0), some (vR 11 0), some (vR 41 0), some (vI (nI i)), x5, x6] [] M := by
  obtain ⟨PH, hH, hh⟩ := op_type G ((gS G).2 (i + 1)) ((gS G).2 (i + 2)) ((gS G).2 (i + 3)) ((gS G).2 (i + 4)) hM
  refine RnE.aload_n (pc := 96) dL_law_96 rfl rfl ?_
  refine RnE.aload_n (pc := 97) dL_law_97 rfl rfl ?_
  refine RnE.iload (pc := 98) dL_law_98 rfl ?_
  refine RnE.iconst (pc := 100) (v := nI 1) dL_law_100 (by decide) ?_
  refine RnE.iaddN (pc := 101) dL_law_101 ?_
  refine RnE.sld (pc := 102) (by omega) (by omega) dL_law_102 ?_
  refine RnE.aload_n (pc := 103) dL_law_103 rfl rfl ?_
  refine RnE.iload (pc := 104) dL_law_104 rfl ?_
  refine RnE.iconst (pc := 106) (v := nI 2) dL_law_106 (by decide) ?_
  refine RnE.iaddN (pc := 107) dL_law_107 ?_
  refine RnE.sld (pc := 108) (by omega) (by omega) dL_law_108 ?_
  refine RnE.aload_n (pc := 109) dL_law_109 rfl rfl ?_
  refine RnE.iload (pc := 110) dL_law_110 rfl ?_
  refine RnE.iconst (pc := 112) (v := nI 3) dL_law_112 (by decide) ?_
  refine RnE.iaddN (pc := 113) dL_law_113 ?_
  refine RnE.sld (pc := 114) (by omega) (by omega) dL_law_114 ?_
  refine RnE.aload_n (pc := 115) dL_law_115 rfl rfl ?_
  refine RnE.iload (pc := 116) dL_law_116 rfl ?_
  refine RnE.iconst (pc := 118) (v := nI 4) dL_law_118 (by decide) ?_
  refine RnE.iaddN (pc := 119) dL_law_119 ?_
  refine RnE.sld (pc := 120) (by omega) (by omega) dL_law_120 ?_
  refine RnE.aload_n (pc := 121) dL_law_121 rfl rfl ?_
  refine RnE.callH (pc := 122) (as := [_, _, _, _, _, _]) hx chL_42 ⟨by decide, by decide, by dsimp only [iL, room_1]; omega, by dsimp only [iL, room_1]; omega⟩ dL_law_122 (Nat.le_of_ble_eq_true rfl) rfl hH ?_
  intro r M1 hp
  obtain ⟨k, PM, rfl, hM1, hm⟩ := hh r M1 hp
  refine RnE.istore (pc := 125) dL_law_125 (by decide) rfl st7_5 ?_
  refine RnE.aload_n (pc := 127) dL_law_127 rfl rfl ?_
  refine RnE.aload_n (pc := 128) dL_law_128 rfl rfl ?_
  refine RnE.iload (pc := 129) dL_law_129 rfl ?_
  refine RnE.iconst (pc := 131) (v := nI 1) dL_law_131 (by decide) ?_
  refine RnE.iaddN (pc := 132) dL_law_132 ?_
  refine RnE.sld (pc := 133) (by omega) (by omega) dL_law_133 ?_
  refine RnE.aload_n (pc := 134) dL_law_134 rfl rfl ?_
  refine RnE.iload (pc := 135) dL_law_135 rfl ?_
  refine RnE.iconst (pc := 137) (v := nI 2) dL_law_137 (by decide) ?_
  refine RnE.iaddN (pc := 138) dL_law_138 ?_
  refine RnE.sld (pc := 139) (by omega) (by omega) dL_law_139 ?_
  refine RnE.aload_n (pc := 140) dL_law_140 rfl rfl ?_
  refine RnE.iload (pc := 141) dL_law_141 rfl ?_
  refine RnE.iconst (pc := 143) (v := nI 3) dL_law_143 (by decide) ?_
  refine RnE.iaddN (pc := 144) dL_law_144 ?_
  refine RnE.sld (pc := 145) (by omega) (by omega) dL_law_145 ?_
  refine RnE.aload_n (pc := 146) dL_law_146 rfl rfl ?_
  refine RnE.iload (pc := 147) dL_law_147 rfl ?_
  refine RnE.iconst (pc := 149) (v := nI 4) dL_law_149 (by decide) ?_
  refine RnE.iaddN (pc := 150) dL_law_150 ?_
  refine RnE.sld (pc := 151) (by omega) (by omega) dL_law_151 ?_
  refine RnE.callV (pc := 152) (as := [_, _, _, _]) cvL_47 ⟨by decide, rfl⟩ ⟨by decide, by decide, by dsimp only [iL, room_1]; omega, by dsimp only [iL, room_1]; omega⟩ dL_law_152 (Nat.le_of_ble_eq_true rfl) rfl hM1 ?_
  intro r2 M2 hq
  obtain ⟨b, rfl, ht, ho, hr⟩ := hm r2 M2 hq
  refine RnE.istore (pc := 155) dL_law_155 (by decide) rfl st7_6 ?_
  refine RnE.aload_n (pc := 157) dL_law_157 rfl rfl ?_
  refine RnE.callV (pc := 158) (as := []) cvL_48 ⟨by decide, rfl⟩ ⟨by decide, by decide, by dsimp only [iL, room_1]; omega, by dsimp only [iL, room_1]; omega⟩ dL_law_158 (Nat.le_of_ble_eq_true rfl) rfl (c_thrown G) ?_
  rintro _ _ ⟨rfl, rfl⟩
  refine RnE.iload (pc := 161) dL_law_161 rfl ?_
  refine RnE.icmp_eq (pc := 163) (tgt := 168) dL_law_163 (by decide) (fun c163 => ?_) (fun c163 => ?_)
  · refine RnE.iload (pc := 168) dL_law_168 rfl ?_
    refine RnE.if_ne (pc := 170) (y := 0) (tgt := 185) dL_law_170 (by decide) (fun c170 => ?_) (fun c170 => ?_)
    · refine RnE.goto (pc := 185) (tgt := 604) dL_law_185 (by decide) ?_
      exact kk _ _ _ hr
    · refine RnE.aload_n (pc := 173) dL_law_173 rfl rfl ?_
      refine RnE.iconst (pc := 174) (v := nI 0) dL_law_174 (by decide) ?_
      refine RnE.laldN (pc := 175) ak41 (by decide) (by decide) (ho c170) dL_law_175 ?_
      refine RnE.iload (pc := 176) dL_law_176 rfl ?_
      refine RnE.i2l (pc := 178) dL_law_178 ?_
      refine RnE.lcmp (pc := 179) dL_law_179 ?_
      refine RnE.if_eq (pc := 180) (y := 0) (tgt := 185) dL_law_180 (by decide) (fun c180 => ?_) (fun c180 => ?_)
      · refine RnE.goto (pc := 185) (tgt := 604) dL_law_185 (by decide) ?_
        exact kk _ _ _ hr
      · exact absurd (lg_cmp_s _) c180
  · exact absurd ht c163
set_option maxRecDepth 20000 in
set_option maxHeartbeats 4000000 in
theorem law_erase {G : GX} {z : MX} {Q : State → Prop} {c0 d0 i : Nat} {M : Mem} {x5 x6 : Option AV} (hx : zX G z) (hc0 : c0 + 1 ≤ 601024) (hd0 : d0 + 6 ≤ 7293034) (hi : i + 5 ≤ (gS G).1) (hS : (gS G).1 ≤ 2560) (hM : Rr M) (kk : ∀ (M' : Mem) (y5 y6 : Option AV), Rr M' → RnE G iL z (c0 + 1, d0 + 6) Q 604 [some (vR 54 0), some (vR 10 0), some (vR 11 0), some (vR 41 0), some (vI (nI i)), y5, y6] [] M') : RnE G iL z (c0, d0) Q 188 [some (vR 54 0), some (vR 10 0), some (vR 11 0), some (vR 41 0), some (vI (nI i)), x5, x6] [] M := by
  obtain ⟨PH, hH, hh⟩ := op_erase G hM
  refine RnE.aload_n (pc := 188) dL_law_188 rfl rfl ?_
  refine RnE.callV (pc := 189) (as := []) cvL_52 ⟨by decide, rfl⟩ ⟨by decide, by decide, by dsimp only [iL, room_1]; omega, by dsimp only [iL, room_1]; omega⟩ dL_law_189 (Nat.le_of_ble_eq_true rfl) rfl hH ?_
  intro r M1 hp
  obtain ⟨v, PM, rfl, hM1, hm⟩ := hh r M1 hp
  refine RnE.aload_n (pc := 192) dL_law_192 rfl rfl ?_
  refine RnE.callV (pc := 193) (as := []) cvL_55 ⟨by decide, rfl⟩ ⟨by decide, by decide, by dsimp only [iL, room_1]; omega, by dsimp only [iL, room_1]; omega⟩ dL_law_193 (Nat.le_of_ble_eq_true rfl) rfl hM1 ?_
  intro r2 M2 hq
  obtain ⟨rfl, hr⟩ := hm r2 M2 hq
  refine RnE.icmp_eq (pc := 196) (tgt := 604) dL_law_196 (by decide) (fun c196 => ?_) (fun c196 => ?_)
  · exact RnE.widen (cs' := (c0 + 1, d0 + 6)) (by dsimp only; omega) (by dsimp only; omega) (kk _ _ _ hr)
  · exact absurd rfl c196
set_option maxRecDepth 20000 in
set_option maxHeartbeats 4000000 in
theorem law_add {G : GX} {z : MX} {Q : State → Prop} {c0 d0 i : Nat} {M : Mem} {x5 x6 : Option AV} (hx : zX G z) (hc0 : c0 + 1 ≤ 601024) (hd0 : d0 + 6 ≤ 7293034) (hi : i + 5 ≤ (gS G).1) (hS : (gS G).1 ≤ 2560) (hM : Rr M) (kk : ∀ (M' : Mem) (y5 y6 : Option AV), Rr M' → RnE G iL z (c0 + 1, d0 + 6) Q 604 [some (vR 54 0), some (vR 10 0), some (vR 11 0), some (vR 41 0), some (vI (nI i)), y5, y6] [] M') : RnE G iL z (c0, d0) Q 201 [some (vR 54 0), some (vR 10 0), some (vR 11 0), some (vR 41 0), some (vI (nI i)), x5, x6] [] M := by
  obtain ⟨PH, hH, hh⟩ := op_add G ((gS G).2 (i + 1)) hM
  refine RnE.aload_n (pc := 201) dL_law_201 rfl rfl ?_
  refine RnE.aload_n (pc := 202) dL_law_202 rfl rfl ?_
  refine RnE.iload (pc := 203) dL_law_203 rfl ?_
  refine RnE.iconst (pc := 205) (v := nI 1) dL_law_205 (by decide) ?_
  refine RnE.iaddN (pc := 206) dL_law_206 ?_
  refine RnE.sld (pc := 207) (by omega) (by omega) dL_law_207 ?_
  refine RnE.aload_n (pc := 208) dL_law_208 rfl rfl ?_
  refine RnE.callH (pc := 209) (as := [_, _, _]) hx chL_56 ⟨by decide, by decide, by dsimp only [iL, room_1]; omega, by dsimp only [iL, room_1]; omega⟩ dL_law_209 (Nat.le_of_ble_eq_true rfl) rfl hH ?_
  intro r M1 hp
  obtain ⟨k, PM, rfl, hM1, hm⟩ := hh r M1 hp
  refine RnE.istore (pc := 212) dL_law_212 (by decide) rfl st7_5 ?_
  refine RnE.aload_n (pc := 214) dL_law_214 rfl rfl ?_
  refine RnE.aload_n (pc := 215) dL_law_215 rfl rfl ?_
  refine RnE.iload (pc := 216) dL_law_216 rfl ?_
  refine RnE.iconst (pc := 218) (v := nI 1) dL_law_218 (by decide) ?_
  refine RnE.iaddN (pc := 219) dL_law_219 ?_
  refine RnE.sld (pc := 220) (by omega) (by omega) dL_law_220 ?_
  refine RnE.callV (pc := 221) (as := [_]) cvL_59 ⟨by decide, rfl⟩ ⟨by decide, by decide, by dsimp only [iL, room_1]; omega, by dsimp only [iL, room_1]; omega⟩ dL_law_221 (Nat.le_of_ble_eq_true rfl) rfl hM1 ?_
  intro r2 M2 hq
  obtain ⟨b, rfl, ht, ho, hr⟩ := hm r2 M2 hq
  refine RnE.istore (pc := 224) dL_law_224 (by decide) rfl st7_6 ?_
  refine RnE.aload_n (pc := 226) dL_law_226 rfl rfl ?_
  refine RnE.callV (pc := 227) (as := []) cvL_48 ⟨by decide, rfl⟩ ⟨by decide, by decide, by dsimp only [iL, room_1]; omega, by dsimp only [iL, room_1]; omega⟩ dL_law_227 (Nat.le_of_ble_eq_true rfl) rfl (c_thrown G) ?_
  rintro _ _ ⟨rfl, rfl⟩
  refine RnE.iload (pc := 230) dL_law_230 rfl ?_
  refine RnE.icmp_eq (pc := 232) (tgt := 237) dL_law_232 (by decide) (fun c232 => ?_) (fun c232 => ?_)
  · refine RnE.iload (pc := 237) dL_law_237 rfl ?_
    refine RnE.if_ne (pc := 239) (y := 0) (tgt := 254) dL_law_239 (by decide) (fun c239 => ?_) (fun c239 => ?_)
    · refine RnE.goto (pc := 254) (tgt := 604) dL_law_254 (by decide) ?_
      exact kk _ _ _ hr
    · refine RnE.aload_n (pc := 242) dL_law_242 rfl rfl ?_
      refine RnE.iconst (pc := 243) (v := nI 0) dL_law_243 (by decide) ?_
      refine RnE.laldN (pc := 244) ak41 (by decide) (by decide) (ho c239) dL_law_244 ?_
      refine RnE.iload (pc := 245) dL_law_245 rfl ?_
      refine RnE.i2l (pc := 247) dL_law_247 ?_
      refine RnE.lcmp (pc := 248) dL_law_248 ?_
      refine RnE.if_eq (pc := 249) (y := 0) (tgt := 254) dL_law_249 (by decide) (fun c249 => ?_) (fun c249 => ?_)
      · refine RnE.goto (pc := 254) (tgt := 604) dL_law_254 (by decide) ?_
        exact kk _ _ _ hr
      · exact absurd (lg_cmp_s _) c249
  · exact absurd ht c232
set_option maxRecDepth 20000 in
set_option maxHeartbeats 4000000 in
theorem law_change {G : GX} {z : MX} {Q : State → Prop} {c0 d0 i : Nat} {M : Mem} {x5 x6 : Option AV} (hx : zX G z) (hc0 : c0 + 1 ≤ 601024) (hd0 : d0 + 6 ≤ 7293034) (hi : i + 5 ≤ (gS G).1) (hS : (gS G).1 ≤ 2560) (hM : Rr M) (kk : ∀ (M' : Mem) (y5 y6 : Option AV), Rr M' → RnE G iL z (c0 + 1, d0 + 6) Q 604 [some (vR 54 0), some (vR 10 0), some (vR 11 0), some (vR 41 0), some (vI (nI i)), y5, y6] [] M') : RnE G iL z (c0, d0) Q 257 [some (vR 54 0), some (vR 10 0), some (vR 11 0), some (vR 41 0), some (vI (nI i)), x5, x6] [] M := by
  obtain ⟨PH, hH, hh⟩ := op_change G ((gS G).2 (i + 1)) ((gS G).2 (i + 2)) hM
  refine RnE.aload_n (pc := 257) dL_law_257 rfl rfl ?_
  refine RnE.aload_n (pc := 258) dL_law_258 rfl rfl ?_
  refine RnE.iload (pc := 259) dL_law_259 rfl ?_
  refine RnE.iconst (pc := 261) (v := nI 1) dL_law_261 (by decide) ?_
  refine RnE.iaddN (pc := 262) dL_law_262 ?_
  refine RnE.sld (pc := 263) (by omega) (by omega) dL_law_263 ?_
  refine RnE.aload_n (pc := 264) dL_law_264 rfl rfl ?_
  refine RnE.iload (pc := 265) dL_law_265 rfl ?_
  refine RnE.iconst (pc := 267) (v := nI 2) dL_law_267 (by decide) ?_
  refine RnE.iaddN (pc := 268) dL_law_268 ?_
  refine RnE.sld (pc := 269) (by omega) (by omega) dL_law_269 ?_
  refine RnE.callH (pc := 270) (as := [_, _, _]) hx chL_60 ⟨by decide, by decide, by dsimp only [iL, room_1]; omega, by dsimp only [iL, room_1]; omega⟩ dL_law_270 (Nat.le_of_ble_eq_true rfl) rfl hH ?_
  intro r M1 hp
  obtain ⟨k, PM, rfl, hM1, hm⟩ := hh r M1 hp
  refine RnE.istore (pc := 273) dL_law_273 (by decide) rfl st7_5 ?_
  refine RnE.aload_n (pc := 275) dL_law_275 rfl rfl ?_
  refine RnE.aload_n (pc := 276) dL_law_276 rfl rfl ?_
  refine RnE.iload (pc := 277) dL_law_277 rfl ?_
  refine RnE.iconst (pc := 279) (v := nI 1) dL_law_279 (by decide) ?_
  refine RnE.iaddN (pc := 280) dL_law_280 ?_
  refine RnE.sld (pc := 281) (by omega) (by omega) dL_law_281 ?_
  refine RnE.aload_n (pc := 282) dL_law_282 rfl rfl ?_
  refine RnE.iload (pc := 283) dL_law_283 rfl ?_
  refine RnE.iconst (pc := 285) (v := nI 2) dL_law_285 (by decide) ?_
  refine RnE.iaddN (pc := 286) dL_law_286 ?_
  refine RnE.sld (pc := 287) (by omega) (by omega) dL_law_287 ?_
  refine RnE.callV (pc := 288) (as := [_, _]) cvL_63 ⟨by decide, rfl⟩ ⟨by decide, by decide, by dsimp only [iL, room_1]; omega, by dsimp only [iL, room_1]; omega⟩ dL_law_288 (Nat.le_of_ble_eq_true rfl) rfl hM1 ?_
  intro r2 M2 hq
  obtain ⟨rfl, ht, hr⟩ := hm r2 M2 hq
  refine RnE.aload_n (pc := 291) dL_law_291 rfl rfl ?_
  refine RnE.callV (pc := 292) (as := []) cvL_48 ⟨by decide, rfl⟩ ⟨by decide, by decide, by dsimp only [iL, room_1]; omega, by dsimp only [iL, room_1]; omega⟩ dL_law_292 (Nat.le_of_ble_eq_true rfl) rfl (c_thrown G) ?_
  rintro _ _ ⟨rfl, rfl⟩
  refine RnE.iload (pc := 295) dL_law_295 rfl ?_
  refine RnE.icmp_eq (pc := 297) (tgt := 302) dL_law_297 (by decide) (fun c297 => ?_) (fun c297 => ?_)
  · refine RnE.goto (pc := 302) (tgt := 604) dL_law_302 (by decide) ?_
    exact kk _ _ _ hr
  · exact absurd ht c297
set_option maxRecDepth 20000 in
set_option maxHeartbeats 4000000 in
theorem law_drop {G : GX} {z : MX} {Q : State → Prop} {c0 d0 i : Nat} {M : Mem} {x5 x6 : Option AV} (hx : zX G z) (hc0 : c0 + 1 ≤ 601024) (hd0 : d0 + 6 ≤ 7293034) (hi : i + 5 ≤ (gS G).1) (hS : (gS G).1 ≤ 2560) (hM : Rr M) (kk : ∀ (M' : Mem) (y5 y6 : Option AV), Rr M' → RnE G iL z (c0 + 1, d0 + 6) Q 604 [some (vR 54 0), some (vR 10 0), some (vR 11 0), some (vR 41 0), some (vI (nI i)), y5, y6] [] M') : RnE G iL z (c0, d0) Q 305 [some (vR 54 0), some (vR 10 0), some (vR 11 0), some (vR 41 0), some (vI (nI i)), x5, x6] [] M := by
  obtain ⟨PH, hH, hh⟩ := op_drop G ((gS G).2 (i + 1)) hM
  refine RnE.aload_n (pc := 305) dL_law_305 rfl rfl ?_
  refine RnE.aload_n (pc := 306) dL_law_306 rfl rfl ?_
  refine RnE.iload (pc := 307) dL_law_307 rfl ?_
  refine RnE.iconst (pc := 309) (v := nI 1) dL_law_309 (by decide) ?_
  refine RnE.iaddN (pc := 310) dL_law_310 ?_
  refine RnE.sld (pc := 311) (by omega) (by omega) dL_law_311 ?_
  refine RnE.aload_n (pc := 312) dL_law_312 rfl rfl ?_
  refine RnE.callH (pc := 313) (as := [_, _, _]) hx chL_64 ⟨by decide, by decide, by dsimp only [iL, room_1]; omega, by dsimp only [iL, room_1]; omega⟩ dL_law_313 (Nat.le_of_ble_eq_true rfl) rfl hH ?_
  intro r M1 hp
  obtain ⟨k, PM, rfl, hM1, hm⟩ := hh r M1 hp
  refine RnE.istore (pc := 316) dL_law_316 (by decide) rfl st7_5 ?_
  refine RnE.aload_n (pc := 318) dL_law_318 rfl rfl ?_
  refine RnE.aload_n (pc := 319) dL_law_319 rfl rfl ?_
  refine RnE.iload (pc := 320) dL_law_320 rfl ?_
  refine RnE.iconst (pc := 322) (v := nI 1) dL_law_322 (by decide) ?_
  refine RnE.iaddN (pc := 323) dL_law_323 ?_
  refine RnE.sld (pc := 324) (by omega) (by omega) dL_law_324 ?_
  refine RnE.callV (pc := 325) (as := [_]) cvL_66 ⟨by decide, rfl⟩ ⟨by decide, by decide, by dsimp only [iL, room_1]; omega, by dsimp only [iL, room_1]; omega⟩ dL_law_325 (Nat.le_of_ble_eq_true rfl) rfl hM1 ?_
  intro r2 M2 hq
  obtain ⟨b, rfl, ht, ho, hr⟩ := hm r2 M2 hq
  refine RnE.istore (pc := 328) dL_law_328 (by decide) rfl st7_6 ?_
  refine RnE.aload_n (pc := 330) dL_law_330 rfl rfl ?_
  refine RnE.callV (pc := 331) (as := []) cvL_48 ⟨by decide, rfl⟩ ⟨by decide, by decide, by dsimp only [iL, room_1]; omega, by dsimp only [iL, room_1]; omega⟩ dL_law_331 (Nat.le_of_ble_eq_true rfl) rfl (c_thrown G) ?_
  rintro _ _ ⟨rfl, rfl⟩
  refine RnE.iload (pc := 334) dL_law_334 rfl ?_
  refine RnE.icmp_eq (pc := 336) (tgt := 341) dL_law_336 (by decide) (fun c336 => ?_) (fun c336 => ?_)
  · refine RnE.iload (pc := 341) dL_law_341 rfl ?_
    refine RnE.if_ne (pc := 343) (y := 0) (tgt := 358) dL_law_343 (by decide) (fun c343 => ?_) (fun c343 => ?_)
    · refine RnE.goto (pc := 358) (tgt := 604) dL_law_358 (by decide) ?_
      exact kk _ _ _ hr
    · refine RnE.aload_n (pc := 346) dL_law_346 rfl rfl ?_
      refine RnE.iconst (pc := 347) (v := nI 0) dL_law_347 (by decide) ?_
      refine RnE.laldN (pc := 348) ak41 (by decide) (by decide) (ho c343) dL_law_348 ?_
      refine RnE.iload (pc := 349) dL_law_349 rfl ?_
      refine RnE.i2l (pc := 351) dL_law_351 ?_
      refine RnE.lcmp (pc := 352) dL_law_352 ?_
      refine RnE.if_eq (pc := 353) (y := 0) (tgt := 358) dL_law_353 (by decide) (fun c353 => ?_) (fun c353 => ?_)
      · refine RnE.goto (pc := 358) (tgt := 604) dL_law_358 (by decide) ?_
        exact kk _ _ _ hr
      · exact absurd (lg_cmp_s _) c353
  · exact absurd ht c336
set_option maxRecDepth 20000 in
set_option maxHeartbeats 4000000 in
theorem law_link {G : GX} {z : MX} {Q : State → Prop} {c0 d0 i : Nat} {M : Mem} {x5 x6 : Option AV} (hx : zX G z) (hc0 : c0 + 1 ≤ 601024) (hd0 : d0 + 6 ≤ 7293034) (hi : i + 5 ≤ (gS G).1) (hS : (gS G).1 ≤ 2560) (hM : Rr M) (kk : ∀ (M' : Mem) (y5 y6 : Option AV), Rr M' → RnE G iL z (c0 + 1, d0 + 6) Q 604 [some (vR 54 0), some (vR 10 0), some (vR 11 0), some (vR 41 0), some (vI (nI i)), y5, y6] [] M') : RnE G iL z (c0, d0) Q 361 [some (vR 54 0), some (vR 10 0), some (vR 11 0), some (vR 41 0), some (vI (nI i)), x5, x6] [] M := by
  obtain ⟨PH, hH, hh⟩ := op_link G hM
  refine RnE.aload_n (pc := 361) dL_law_361 rfl rfl ?_
  refine RnE.callV (pc := 362) (as := []) cvL_67 ⟨by decide, rfl⟩ ⟨by decide, by decide, by dsimp only [iL, room_1]; omega, by dsimp only [iL, room_1]; omega⟩ dL_law_362 (Nat.le_of_ble_eq_true rfl) rfl hH ?_
  intro r M1 hp
  obtain ⟨v, PM, rfl, hM1, hm⟩ := hh r M1 hp
  refine RnE.aload_n (pc := 365) dL_law_365 rfl rfl ?_
  refine RnE.callV (pc := 366) (as := []) cvL_70 ⟨by decide, rfl⟩ ⟨by decide, by decide, by dsimp only [iL, room_1]; omega, by dsimp only [iL, room_1]; omega⟩ dL_law_366 (Nat.le_of_ble_eq_true rfl) rfl hM1 ?_
  intro r2 M2 hq
  obtain ⟨rfl, hr⟩ := hm r2 M2 hq
  refine RnE.icmp_eq (pc := 369) (tgt := 604) dL_law_369 (by decide) (fun c369 => ?_) (fun c369 => ?_)
  · exact RnE.widen (cs' := (c0 + 1, d0 + 6)) (by dsimp only; omega) (by dsimp only; omega) (kk _ _ _ hr)
  · exact absurd rfl c369
set_option maxRecDepth 20000 in
set_option maxHeartbeats 4000000 in
theorem law_fault {G : GX} {z : MX} {Q : State → Prop} {c0 d0 i : Nat} {M : Mem} {x5 x6 : Option AV} (hx : zX G z) (hc0 : c0 + 1 ≤ 601024) (hd0 : d0 + 6 ≤ 7293034) (hi : i + 5 ≤ (gS G).1) (hS : (gS G).1 ≤ 2560) (hM : Rr M) (kk : ∀ (M' : Mem) (y5 y6 : Option AV), Rr M' → RnE G iL z (c0 + 1, d0 + 6) Q 604 [some (vR 54 0), some (vR 10 0), some (vR 11 0), some (vR 41 0), some (vI (nI i)), y5, y6] [] M') : RnE G iL z (c0, d0) Q 374 [some (vR 54 0), some (vR 10 0), some (vR 11 0), some (vR 41 0), some (vI (nI i)), x5, x6] [] M := by
  obtain ⟨PH, hH, hh⟩ := op_fault G ((gS G).2 (i + 1)) hM
  refine RnE.aload_n (pc := 374) dL_law_374 rfl rfl ?_
  refine RnE.aload_n (pc := 375) dL_law_375 rfl rfl ?_
  refine RnE.iload (pc := 376) dL_law_376 rfl ?_
  refine RnE.iconst (pc := 378) (v := nI 1) dL_law_378 (by decide) ?_
  refine RnE.iaddN (pc := 379) dL_law_379 ?_
  refine RnE.sld (pc := 380) (by omega) (by omega) dL_law_380 ?_
  refine RnE.aload_n (pc := 381) dL_law_381 rfl rfl ?_
  refine RnE.callH (pc := 382) (as := [_, _, _]) hx chL_71 ⟨by decide, by decide, by dsimp only [iL, room_1]; omega, by dsimp only [iL, room_1]; omega⟩ dL_law_382 (Nat.le_of_ble_eq_true rfl) rfl hH ?_
  intro r M1 hp
  obtain ⟨k, PM, rfl, hM1, hm⟩ := hh r M1 hp
  refine RnE.istore (pc := 385) dL_law_385 (by decide) rfl st7_5 ?_
  refine RnE.aload_n (pc := 387) dL_law_387 rfl rfl ?_
  refine RnE.aload_n (pc := 388) dL_law_388 rfl rfl ?_
  refine RnE.iload (pc := 389) dL_law_389 rfl ?_
  refine RnE.iconst (pc := 391) (v := nI 1) dL_law_391 (by decide) ?_
  refine RnE.iaddN (pc := 392) dL_law_392 ?_
  refine RnE.sld (pc := 393) (by omega) (by omega) dL_law_393 ?_
  refine RnE.callV (pc := 394) (as := [_]) cvL_73 ⟨by decide, rfl⟩ ⟨by decide, by decide, by dsimp only [iL, room_1]; omega, by dsimp only [iL, room_1]; omega⟩ dL_law_394 (Nat.le_of_ble_eq_true rfl) rfl hM1 ?_
  intro r2 M2 hq
  obtain ⟨b, rfl, ht, ho, hr⟩ := hm r2 M2 hq
  refine RnE.istore (pc := 397) dL_law_397 (by decide) rfl st7_6 ?_
  refine RnE.aload_n (pc := 399) dL_law_399 rfl rfl ?_
  refine RnE.callV (pc := 400) (as := []) cvL_48 ⟨by decide, rfl⟩ ⟨by decide, by decide, by dsimp only [iL, room_1]; omega, by dsimp only [iL, room_1]; omega⟩ dL_law_400 (Nat.le_of_ble_eq_true rfl) rfl (c_thrown G) ?_
  rintro _ _ ⟨rfl, rfl⟩
  refine RnE.iload (pc := 403) dL_law_403 rfl ?_
  refine RnE.icmp_eq (pc := 405) (tgt := 410) dL_law_405 (by decide) (fun c405 => ?_) (fun c405 => ?_)
  · refine RnE.iload (pc := 410) dL_law_410 rfl ?_
    refine RnE.if_ne (pc := 412) (y := 0) (tgt := 427) dL_law_412 (by decide) (fun c412 => ?_) (fun c412 => ?_)
    · refine RnE.goto (pc := 427) (tgt := 604) dL_law_427 (by decide) ?_
      exact kk _ _ _ hr
    · refine RnE.aload_n (pc := 415) dL_law_415 rfl rfl ?_
      refine RnE.iconst (pc := 416) (v := nI 0) dL_law_416 (by decide) ?_
      refine RnE.laldN (pc := 417) ak41 (by decide) (by decide) (ho c412) dL_law_417 ?_
      refine RnE.iload (pc := 418) dL_law_418 rfl ?_
      refine RnE.i2l (pc := 420) dL_law_420 ?_
      refine RnE.lcmp (pc := 421) dL_law_421 ?_
      refine RnE.if_eq (pc := 422) (y := 0) (tgt := 427) dL_law_422 (by decide) (fun c422 => ?_) (fun c422 => ?_)
      · refine RnE.goto (pc := 427) (tgt := 604) dL_law_427 (by decide) ?_
        exact kk _ _ _ hr
      · exact absurd (lg_cmp_s _) c422
  · exact absurd ht c405
set_option maxRecDepth 20000 in
set_option maxHeartbeats 4000000 in
theorem law_octet {G : GX} {z : MX} {Q : State → Prop} {c0 d0 i : Nat} {M : Mem} {x5 x6 : Option AV} (hx : zX G z) (hc0 : c0 + 1 ≤ 601024) (hd0 : d0 + 6 ≤ 7293034) (hi : i + 5 ≤ (gS G).1) (hS : (gS G).1 ≤ 2560) (hM : Rr M) (kk : ∀ (M' : Mem) (y5 y6 : Option AV), Rr M' → RnE G iL z (c0 + 1, d0 + 6) Q 604 [some (vR 54 0), some (vR 10 0), some (vR 11 0), some (vR 41 0), some (vI (nI i)), y5, y6] [] M') : RnE G iL z (c0, d0) Q 430 [some (vR 54 0), some (vR 10 0), some (vR 11 0), some (vR 41 0), some (vI (nI i)), x5, x6] [] M := by
  obtain ⟨PH, hH, hh⟩ := op_octet G ((gS G).2 (i + 1)) hM
  refine RnE.aload_n (pc := 430) dL_law_430 rfl rfl ?_
  refine RnE.aload_n (pc := 431) dL_law_431 rfl rfl ?_
  refine RnE.iload (pc := 432) dL_law_432 rfl ?_
  refine RnE.iconst (pc := 434) (v := nI 1) dL_law_434 (by decide) ?_
  refine RnE.iaddN (pc := 435) dL_law_435 ?_
  refine RnE.sld (pc := 436) (by omega) (by omega) dL_law_436 ?_
  refine RnE.callV (pc := 437) (as := [_]) cvL_74 ⟨by decide, rfl⟩ ⟨by decide, by decide, by dsimp only [iL, room_1]; omega, by dsimp only [iL, room_1]; omega⟩ dL_law_437 (Nat.le_of_ble_eq_true rfl) rfl hH ?_
  intro r M1 hp
  obtain ⟨v, PM, rfl, hM1, hm⟩ := hh r M1 hp
  refine RnE.aload_n (pc := 440) dL_law_440 rfl rfl ?_
  refine RnE.aload_n (pc := 441) dL_law_441 rfl rfl ?_
  refine RnE.iload (pc := 442) dL_law_442 rfl ?_
  refine RnE.iconst (pc := 444) (v := nI 1) dL_law_444 (by decide) ?_
  refine RnE.iaddN (pc := 445) dL_law_445 ?_
  refine RnE.sld (pc := 446) (by omega) (by omega) dL_law_446 ?_
  refine RnE.callV (pc := 447) (as := [_]) cvL_77 ⟨by decide, rfl⟩ ⟨by decide, by decide, by dsimp only [iL, room_1]; omega, by dsimp only [iL, room_1]; omega⟩ dL_law_447 (Nat.le_of_ble_eq_true rfl) rfl hM1 ?_
  intro r2 M2 hq
  obtain ⟨rfl, hr⟩ := hm r2 M2 hq
  refine RnE.icmp_eq (pc := 450) (tgt := 604) dL_law_450 (by decide) (fun c450 => ?_) (fun c450 => ?_)
  · exact RnE.widen (cs' := (c0 + 1, d0 + 6)) (by dsimp only; omega) (by dsimp only; omega) (kk _ _ _ hr)
  · exact absurd rfl c450
set_option maxRecDepth 20000 in
set_option maxHeartbeats 4000000 in
theorem law_hex {G : GX} {z : MX} {Q : State → Prop} {c0 d0 i : Nat} {M : Mem} {x5 x6 : Option AV} (hx : zX G z) (hc0 : c0 + 1 ≤ 601024) (hd0 : d0 + 6 ≤ 7293034) (hi : i + 5 ≤ (gS G).1) (hS : (gS G).1 ≤ 2560) (hM : Rr M) (kk : ∀ (M' : Mem) (y5 y6 : Option AV), Rr M' → RnE G iL z (c0 + 1, d0 + 6) Q 604 [some (vR 54 0), some (vR 10 0), some (vR 11 0), some (vR 41 0), some (vI (nI i)), y5, y6] [] M') : RnE G iL z (c0, d0) Q 455 [some (vR 54 0), some (vR 10 0), some (vR 11 0), some (vR 41 0), some (vI (nI i)), x5, x6] [] M := by
  obtain ⟨PH, hH, hh⟩ := op_hex G ((gS G).2 (i + 1)) hM
  refine RnE.aload_n (pc := 455) dL_law_455 rfl rfl ?_
  refine RnE.aload_n (pc := 456) dL_law_456 rfl rfl ?_
  refine RnE.iload (pc := 457) dL_law_457 rfl ?_
  refine RnE.iconst (pc := 459) (v := nI 1) dL_law_459 (by decide) ?_
  refine RnE.iaddN (pc := 460) dL_law_460 ?_
  refine RnE.sld (pc := 461) (by omega) (by omega) dL_law_461 ?_
  refine RnE.callV (pc := 462) (as := [_]) cvL_78 ⟨by decide, rfl⟩ ⟨by decide, by decide, by dsimp only [iL, room_1]; omega, by dsimp only [iL, room_1]; omega⟩ dL_law_462 (Nat.le_of_ble_eq_true rfl) rfl hH ?_
  intro r M1 hp
  obtain ⟨v, PM, rfl, hM1, hm⟩ := hh r M1 hp
  refine RnE.aload_n (pc := 465) dL_law_465 rfl rfl ?_
  refine RnE.aload_n (pc := 466) dL_law_466 rfl rfl ?_
  refine RnE.iload (pc := 467) dL_law_467 rfl ?_
  refine RnE.iconst (pc := 469) (v := nI 1) dL_law_469 (by decide) ?_
  refine RnE.iaddN (pc := 470) dL_law_470 ?_
  refine RnE.sld (pc := 471) (by omega) (by omega) dL_law_471 ?_
  refine RnE.callV (pc := 472) (as := [_]) cvL_82 ⟨by decide, rfl⟩ ⟨by decide, by decide, by dsimp only [iL, room_1]; omega, by dsimp only [iL, room_1]; omega⟩ dL_law_472 (Nat.le_of_ble_eq_true rfl) rfl hM1 ?_
  intro r2 M2 hq
  obtain ⟨rfl, hr⟩ := hm r2 M2 hq
  refine RnE.icmp_eq (pc := 475) (tgt := 604) dL_law_475 (by decide) (fun c475 => ?_) (fun c475 => ?_)
  · exact RnE.widen (cs' := (c0 + 1, d0 + 6)) (by dsimp only; omega) (by dsimp only; omega) (kk _ _ _ hr)
  · exact absurd rfl c475
set_option maxRecDepth 20000 in
set_option maxHeartbeats 4000000 in
theorem law_address {G : GX} {z : MX} {Q : State → Prop} {c0 d0 i : Nat} {M : Mem} {x5 x6 : Option AV} (hx : zX G z) (hc0 : c0 + 1 ≤ 601024) (hd0 : d0 + 6 ≤ 7293034) (hi : i + 5 ≤ (gS G).1) (hS : (gS G).1 ≤ 2560) (hM : Rr M) (kk : ∀ (M' : Mem) (y5 y6 : Option AV), Rr M' → RnE G iL z (c0 + 1, d0 + 6) Q 604 [some (vR 54 0), some (vR 10 0), some (vR 11 0), some (vR 41 0), some (vI (nI i)), y5, y6] [] M') : RnE G iL z (c0, d0) Q 480 [some (vR 54 0), some (vR 10 0), some (vR 11 0), some (vR 41 0), some (vI (nI i)), x5, x6] [] M := by
  obtain ⟨PH, hH, hh⟩ := op_address G ((gS G).2 (i + 1)) hM
  refine RnE.aload_n (pc := 480) dL_law_480 rfl rfl ?_
  refine RnE.aload_n (pc := 481) dL_law_481 rfl rfl ?_
  refine RnE.iload (pc := 482) dL_law_482 rfl ?_
  refine RnE.iconst (pc := 484) (v := nI 1) dL_law_484 (by decide) ?_
  refine RnE.iaddN (pc := 485) dL_law_485 ?_
  refine RnE.sld (pc := 486) (by omega) (by omega) dL_law_486 ?_
  refine RnE.aload_n (pc := 487) dL_law_487 rfl rfl ?_
  refine RnE.callH (pc := 488) (as := [_, _, _]) hx chL_83 ⟨by decide, by decide, by dsimp only [iL, room_1]; omega, by dsimp only [iL, room_1]; omega⟩ dL_law_488 (Nat.le_of_ble_eq_true rfl) rfl hH ?_
  intro r M1 hp
  obtain ⟨k, PM, rfl, hM1, hm⟩ := hh r M1 hp
  refine RnE.istore (pc := 491) dL_law_491 (by decide) rfl st7_5 ?_
  refine RnE.aload_n (pc := 493) dL_law_493 rfl rfl ?_
  refine RnE.aload_n (pc := 494) dL_law_494 rfl rfl ?_
  refine RnE.iload (pc := 495) dL_law_495 rfl ?_
  refine RnE.iconst (pc := 497) (v := nI 1) dL_law_497 (by decide) ?_
  refine RnE.iaddN (pc := 498) dL_law_498 ?_
  refine RnE.sld (pc := 499) (by omega) (by omega) dL_law_499 ?_
  refine RnE.callV (pc := 500) (as := [_]) cvL_85 ⟨by decide, rfl⟩ ⟨by decide, by decide, by dsimp only [iL, room_1]; omega, by dsimp only [iL, room_1]; omega⟩ dL_law_500 (Nat.le_of_ble_eq_true rfl) rfl hM1 ?_
  intro r2 M2 hq
  obtain ⟨b, rfl, ht, ho, hr⟩ := hm r2 M2 hq
  refine RnE.istore (pc := 503) dL_law_503 (by decide) rfl st7_6 ?_
  refine RnE.aload_n (pc := 505) dL_law_505 rfl rfl ?_
  refine RnE.callV (pc := 506) (as := []) cvL_48 ⟨by decide, rfl⟩ ⟨by decide, by decide, by dsimp only [iL, room_1]; omega, by dsimp only [iL, room_1]; omega⟩ dL_law_506 (Nat.le_of_ble_eq_true rfl) rfl (c_thrown G) ?_
  rintro _ _ ⟨rfl, rfl⟩
  refine RnE.iload (pc := 509) dL_law_509 rfl ?_
  refine RnE.icmp_eq (pc := 511) (tgt := 516) dL_law_511 (by decide) (fun c511 => ?_) (fun c511 => ?_)
  · refine RnE.iload (pc := 516) dL_law_516 rfl ?_
    refine RnE.if_ne (pc := 518) (y := 0) (tgt := 533) dL_law_518 (by decide) (fun c518 => ?_) (fun c518 => ?_)
    · refine RnE.goto (pc := 533) (tgt := 604) dL_law_533 (by decide) ?_
      exact kk _ _ _ hr
    · refine RnE.aload_n (pc := 521) dL_law_521 rfl rfl ?_
      refine RnE.iconst (pc := 522) (v := nI 0) dL_law_522 (by decide) ?_
      refine RnE.laldN (pc := 523) ak41 (by decide) (by decide) (ho c518) dL_law_523 ?_
      refine RnE.iload (pc := 524) dL_law_524 rfl ?_
      refine RnE.i2l (pc := 526) dL_law_526 ?_
      refine RnE.lcmp (pc := 527) dL_law_527 ?_
      refine RnE.if_eq (pc := 528) (y := 0) (tgt := 533) dL_law_528 (by decide) (fun c528 => ?_) (fun c528 => ?_)
      · refine RnE.goto (pc := 533) (tgt := 604) dL_law_533 (by decide) ?_
        exact kk _ _ _ hr
      · exact absurd (lg_cmp_s _) c528
  · exact absurd ht c511
set_option maxRecDepth 20000 in
set_option maxHeartbeats 4000000 in
theorem law_size {G : GX} {z : MX} {Q : State → Prop} {c0 d0 i : Nat} {M : Mem} {x5 x6 : Option AV} (hx : zX G z) (hc0 : c0 + 1 ≤ 601024) (hd0 : d0 + 6 ≤ 7293034) (hi : i + 5 ≤ (gS G).1) (hS : (gS G).1 ≤ 2560) (hM : Rr M) (kk : ∀ (M' : Mem) (y5 y6 : Option AV), Rr M' → RnE G iL z (c0 + 1, d0 + 6) Q 604 [some (vR 54 0), some (vR 10 0), some (vR 11 0), some (vR 41 0), some (vI (nI i)), y5, y6] [] M') : RnE G iL z (c0, d0) Q 536 [some (vR 54 0), some (vR 10 0), some (vR 11 0), some (vR 41 0), some (vI (nI i)), x5, x6] [] M := by
  obtain ⟨PH, hH, hh⟩ := op_size G ((gS G).2 (i + 1)) ((gS G).2 (i + 2)) hM
  refine RnE.aload_n (pc := 536) dL_law_536 rfl rfl ?_
  refine RnE.aload_n (pc := 537) dL_law_537 rfl rfl ?_
  refine RnE.iload (pc := 538) dL_law_538 rfl ?_
  refine RnE.iconst (pc := 540) (v := nI 1) dL_law_540 (by decide) ?_
  refine RnE.iaddN (pc := 541) dL_law_541 ?_
  refine RnE.sld (pc := 542) (by omega) (by omega) dL_law_542 ?_
  refine RnE.aload_n (pc := 543) dL_law_543 rfl rfl ?_
  refine RnE.iload (pc := 544) dL_law_544 rfl ?_
  refine RnE.iconst (pc := 546) (v := nI 2) dL_law_546 (by decide) ?_
  refine RnE.iaddN (pc := 547) dL_law_547 ?_
  refine RnE.sld (pc := 548) (by omega) (by omega) dL_law_548 ?_
  refine RnE.aload_n (pc := 549) dL_law_549 rfl rfl ?_
  refine RnE.callH (pc := 550) (as := [_, _, _, _]) hx chL_86 ⟨by decide, by decide, by dsimp only [iL, room_1]; omega, by dsimp only [iL, room_1]; omega⟩ dL_law_550 (Nat.le_of_ble_eq_true rfl) rfl hH ?_
  intro r M1 hp
  obtain ⟨k, PM, rfl, hM1, hm⟩ := hh r M1 hp
  refine RnE.istore (pc := 553) dL_law_553 (by decide) rfl st7_5 ?_
  refine RnE.aload_n (pc := 555) dL_law_555 rfl rfl ?_
  refine RnE.aload_n (pc := 556) dL_law_556 rfl rfl ?_
  refine RnE.iload (pc := 557) dL_law_557 rfl ?_
  refine RnE.iconst (pc := 559) (v := nI 1) dL_law_559 (by decide) ?_
  refine RnE.iaddN (pc := 560) dL_law_560 ?_
  refine RnE.sld (pc := 561) (by omega) (by omega) dL_law_561 ?_
  refine RnE.aload_n (pc := 562) dL_law_562 rfl rfl ?_
  refine RnE.iload (pc := 563) dL_law_563 rfl ?_
  refine RnE.iconst (pc := 565) (v := nI 2) dL_law_565 (by decide) ?_
  refine RnE.iaddN (pc := 566) dL_law_566 ?_
  refine RnE.sld (pc := 567) (by omega) (by omega) dL_law_567 ?_
  refine RnE.callV (pc := 568) (as := [_, _]) cvL_89 ⟨by decide, rfl⟩ ⟨by decide, by decide, by dsimp only [iL, room_1]; omega, by dsimp only [iL, room_1]; omega⟩ dL_law_568 (Nat.le_of_ble_eq_true rfl) rfl hM1 ?_
  intro r2 M2 hq
  obtain ⟨b, rfl, ht, ho, hr⟩ := hm r2 M2 hq
  refine RnE.istore (pc := 571) dL_law_571 (by decide) rfl st7_6 ?_
  refine RnE.aload_n (pc := 573) dL_law_573 rfl rfl ?_
  refine RnE.callV (pc := 574) (as := []) cvL_48 ⟨by decide, rfl⟩ ⟨by decide, by decide, by dsimp only [iL, room_1]; omega, by dsimp only [iL, room_1]; omega⟩ dL_law_574 (Nat.le_of_ble_eq_true rfl) rfl (c_thrown G) ?_
  rintro _ _ ⟨rfl, rfl⟩
  refine RnE.iload (pc := 577) dL_law_577 rfl ?_
  refine RnE.icmp_eq (pc := 579) (tgt := 584) dL_law_579 (by decide) (fun c579 => ?_) (fun c579 => ?_)
  · refine RnE.iload (pc := 584) dL_law_584 rfl ?_
    refine RnE.if_ne (pc := 586) (y := 0) (tgt := 601) dL_law_586 (by decide) (fun c586 => ?_) (fun c586 => ?_)
    · refine RnE.goto (pc := 601) (tgt := 604) dL_law_601 (by decide) ?_
      exact kk _ _ _ hr
    · refine RnE.aload_n (pc := 589) dL_law_589 rfl rfl ?_
      refine RnE.iconst (pc := 590) (v := nI 0) dL_law_590 (by decide) ?_
      refine RnE.laldN (pc := 591) ak41 (by decide) (by decide) (ho c586) dL_law_591 ?_
      refine RnE.iload (pc := 592) dL_law_592 rfl ?_
      refine RnE.i2l (pc := 594) dL_law_594 ?_
      refine RnE.lcmp (pc := 595) dL_law_595 ?_
      refine RnE.if_eq (pc := 596) (y := 0) (tgt := 601) dL_law_596 (by decide) (fun c596 => ?_) (fun c596 => ?_)
      · refine RnE.goto (pc := 601) (tgt := 604) dL_law_601 (by decide) ?_
        exact kk _ _ _ hr
      · exact absurd (lg_cmp_s _) c596
  · exact absurd ht c579
/-- the law's end -/
theorem law_ret {G : GX} {p : Program} {e : Env} {s : State} {m : MethodId} {below : List Frame} {meth : Method} {c : Code} {b : Nat} {cs : Nat × Nat} {ls : List (Option AV)} {M : Mem} (hf : ∀ q, gPool G s.heap.size q → s.heap.size ≤ q) (h1 : cs.1 ≤ 601024) (h2 : cs.2 ≤ 7293034) : RnE G iL (p, e, s, m, #[Value.ref b], below, meth, c) cs (lw_Z below #[Value.ref b] s) 611 ls [vI (nI 1)] M := by
  intro hc H locs lsA hP hS hL hM hLs hSt
  refine va_forget (fun q hq => hf _ (hS.2.2 q hq)) ?_
  exact W.widen h1 h2 (lw_ret hc.1 hc.2.1 hc.2.2.2.1 hc.2.2.2.2.2.2.2.1 dL_law_611)
set_option maxRecDepth 20000 in
set_option maxHeartbeats 4000000 in
theorem law_loop {G : GX} {p : Program} {e : Env} {s : State} {m : MethodId} {below : List Frame} {meth : Method} {c : Code} {b : Nat} (hx : zX G (p, e, s, m, #[Value.ref b], below, meth, c)) (hf : ∀ q, gPool G s.heap.size q → s.heap.size ≤ q) (hS : (gS G).1 ≤ 2560) :
    ∀ (f i c0 d0 : Nat) (M : Mem) (x5 x6 : Option AV), Rr M → (gS G).1 ≤ i + 5 * f → c0 + f ≤ 601024 → d0 + 6 * f ≤ 7293034 → i ≤ 2560 → RnE G iL (p, e, s, m, #[Value.ref b], below, meth, c) (c0, d0) (lw_Z below #[Value.ref b] s) 23 [some (vR 54 0), some (vR 10 0), some (vR 11 0), some (vR 41 0), some (vI (nI i)), x5, x6] [] M := by
  intro f
  induction f with
  | zero =>
    intro i c0 d0 M x5 x6 hM hfu hc0 hd0 hi
    refine RnE.iload (pc := 23) dL_law_23 rfl ?_
    refine RnE.aload_n (pc := 25) dL_law_25 rfl rfl ?_
    refine RnE.slen (pc := 26) dL_law_26 ?_
    refine RnE.iconst (pc := 27) (v := nI 5) dL_law_27 (by decide) ?_
    refine RnE.isub (pc := 28) dL_law_28 ?_
    refine RnE.icmp_gt (pc := 29) (tgt := 610) dL_law_29 (by decide) (fun c29 => ?_) (fun c29 => ?_)
    · refine RnE.iconst (v := nI 1) dL_law_610 (by decide) ?_
      exact law_ret hf (by dsimp only; omega) (by dsimp only; omega)
    · rw [Int32.lt_iff_toInt_lt, pk_sub_toInt (by omega) (by decide), nI_toInt (by omega)] at c29
      exact absurd hfu (by omega)
  | succ f ih =>
    intro i c0 d0 M x5 x6 hM hfu hc0 hd0 hi
    refine RnE.iload (pc := 23) dL_law_23 rfl ?_
    refine RnE.aload_n (pc := 25) dL_law_25 rfl rfl ?_
    refine RnE.slen (pc := 26) dL_law_26 ?_
    refine RnE.iconst (pc := 27) (v := nI 5) dL_law_27 (by decide) ?_
    refine RnE.isub (pc := 28) dL_law_28 ?_
    refine RnE.icmp_gt (pc := 29) (tgt := 610) dL_law_29 (by decide) (fun c29 => ?_) (fun c29 => ?_)
    · refine RnE.iconst (v := nI 1) dL_law_610 (by decide) ?_
      exact law_ret hf (by dsimp only; omega) (by dsimp only; omega)
    · rw [Int32.lt_iff_toInt_lt, pk_sub_toInt (by omega) (by decide), nI_toInt (by omega)] at c29
      have hi5 : i + 5 ≤ (gS G).1 := by omega
      refine RnE.aload_n (pc := 32) dL_law_32 rfl rfl ?_
      refine RnE.iload (pc := 33) dL_law_33 rfl ?_
      refine RnE.sld (pc := 35) (by omega) (by omega) dL_law_35 ?_
      refine RnE.bipush (pc := 36) (v := nI 15) dL_law_36 (by decide) ?_
      refine RnE.iand (pc := 38) dL_law_38 ?_
      obtain ⟨n, hn, hv⟩ := and15 ((gS G).2 i)
      rw [hv]
      have fin : ∀ (M' : Mem) (y5 y6 : Option AV), Rr M' → RnE G iL (p, e, s, m, #[Value.ref b], below, meth, c) (c0 + 1, d0 + 6) (lw_Z below #[Value.ref b] s) 604 [some (vR 54 0), some (vR 10 0), some (vR 11 0), some (vR 41 0), some (vI (nI i)), y5, y6] [] M' := by
        intro M' y5 y6 hr
        refine RnE.iincN (n := 5) dL_law_604 rfl (by decide) (by decide) rfl st7_4 ?_
        refine RnE.goto (tgt := 23) dL_law_607 (by decide) ?_
        exact ih (i + 5) (c0 + 1) (d0 + 6) M' y5 y6 hr (by omega) (by omega) (by omega) (by omega)
      rcases (by omega : n = 0 ∨ n = 1 ∨ n = 2 ∨ n = 3 ∨ n = 4 ∨ n = 5 ∨ n = 6 ∨ n = 7 ∨ n = 8 ∨ n = 9 ∨ n = 10 ∨ 11 ≤ n) with rfl | rfl | rfl | rfl | rfl | rfl | rfl | rfl | rfl | rfl | rfl | h11
      · exact RnE.tableIn (off := 57) (tgt := 96) dL_law_39 (by decide) (by decide) rfl (by decide) (law_type hx (by omega) (by omega) hi5 hS hM fin)
      · exact RnE.tableIn (off := 149) (tgt := 188) dL_law_39 (by decide) (by decide) rfl (by decide) (law_erase hx (by omega) (by omega) hi5 hS hM fin)
      · exact RnE.tableIn (off := 162) (tgt := 201) dL_law_39 (by decide) (by decide) rfl (by decide) (law_add hx (by omega) (by omega) hi5 hS hM fin)
      · exact RnE.tableIn (off := 218) (tgt := 257) dL_law_39 (by decide) (by decide) rfl (by decide) (law_change hx (by omega) (by omega) hi5 hS hM fin)
      · exact RnE.tableIn (off := 266) (tgt := 305) dL_law_39 (by decide) (by decide) rfl (by decide) (law_drop hx (by omega) (by omega) hi5 hS hM fin)
      · exact RnE.tableIn (off := 322) (tgt := 361) dL_law_39 (by decide) (by decide) rfl (by decide) (law_link hx (by omega) (by omega) hi5 hS hM fin)
      · exact RnE.tableIn (off := 335) (tgt := 374) dL_law_39 (by decide) (by decide) rfl (by decide) (law_fault hx (by omega) (by omega) hi5 hS hM fin)
      · exact RnE.tableIn (off := 391) (tgt := 430) dL_law_39 (by decide) (by decide) rfl (by decide) (law_octet hx (by omega) (by omega) hi5 hS hM fin)
      · exact RnE.tableIn (off := 416) (tgt := 455) dL_law_39 (by decide) (by decide) rfl (by decide) (law_hex hx (by omega) (by omega) hi5 hS hM fin)
      · exact RnE.tableIn (off := 441) (tgt := 480) dL_law_39 (by decide) (by decide) rfl (by decide) (law_address hx (by omega) (by omega) hi5 hS hM fin)
      · exact RnE.tableIn (off := 497) (tgt := 536) dL_law_39 (by decide) (by decide) rfl (by decide) (law_size hx (by omega) (by omega) hi5 hS hM fin)
      · refine RnE.tableOut (tgt := 604) dL_law_39 (Or.inr (by rw [nI_toInt (by omega)]; omega)) (by decide) ?_
        exact RnE.widen (cs' := (c0 + 1, d0 + 6)) (by dsimp only; omega) (by dsimp only; omega) (fin _ _ _ hM)
