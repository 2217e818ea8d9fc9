/-! THE CLASS'S SCANNER: a line of n characters L (the typed text); where the word begins and ends, fault, its place -/
def wC (M : Mem) (b e : Nat) (f fp : Int32) : Mem := sI (sI (sI (sI M 6 0 1 (nI e)) 6 0 2 (nI b)) 6 0 3 f) 6 0 4 fp
theorem wC_1 {M : Mem} {b e x : Nat} {f fp : Int32} : sI (wC M b e f fp) 6 0 1 (nI x) = wC M b x f fp := by
  unfold wC
  rw [sI_comm (by decide), sI_comm (s := 3) (by decide), sI_comm (s := 2) (by decide), sI_sI]
theorem wC_2 {M : Mem} {b e x : Nat} {f fp : Int32} : sI (wC M b e f fp) 6 0 2 (nI x) = wC M x e f fp := by
  unfold wC
  rw [sI_comm (by decide), sI_comm (s := 3) (by decide), sI_sI]
theorem wC_3 {M : Mem} {b e : Nat} {f fp x : Int32} : sI (wC M b e f fp) 6 0 3 x = wC M b e x fp := by
  unfold wC
  rw [sI_comm (by decide), sI_sI]
theorem wC_4 {M : Mem} {b e : Nat} {f fp x : Int32} : sI (wC M b e f fp) 6 0 4 x = wC M b e f x := by
  unfold wC
  rw [sI_sI]
theorem wC_e {M : Mem} {b e : Nat} {f fp : Int32} : mI (wC M b e f fp) 6 0 1 = nI e := rfl
theorem wC_b {M : Mem} {b e : Nat} {f fp : Int32} : mI (wC M b e f fp) 6 0 2 = nI b := rfl
theorem wC_f {M : Mem} {b e : Nat} {f fp : Int32} : mI (wC M b e f fp) 6 0 3 = f := rfl
def TxOK (n : Nat) (L : Nat → Nat) (M : Mem) : Prop := mR M 6 0 0 = 0 ∧ mI M 9 0 1 = nI n ∧ n ≤ 48 ∧ (∀ i, i < n → mI M 12 0 i = nI (L i)) ∧ ∀ i, i < n → 0 < L i ∧ L i < 256
theorem wC_l {n : Nat} {L : Nat → Nat} {M : Mem} (h : TxOK n L M) {b e : Nat} {f fp : Int32} : mR (wC M b e f fp) 6 0 0 = 0 := h.1
theorem wC_n {n : Nat} {L : Nat → Nat} {M : Mem} (h : TxOK n L M) {b e : Nat} {f fp : Int32} : mI (wC M b e f fp) 9 0 1 = nI n := h.2.1
theorem wC_t {n : Nat} {L : Nat → Nat} {M : Mem} (h : TxOK n L M) {b e : Nat} {f fp : Int32} (i : Nat) (hi : i < n) : mI (wC M b e f fp) 12 0 i = nI (L i) := h.2.2.2.1 i hi
def tEnd (L : Nat → Nat) (n p : Nat) : Nat := if p < n then (if L p = 46 then run isLow L n (p + 1) else if isWs (L p) = true then run isWs L n (p + 1) else p + 1) else p
set_option maxRecDepth 20000 in
set_option maxHeartbeats 4000000 in
theorem k_isLetter (G : GX) {M : Mem} (x : Nat) (hx : x < 2 ^ 31) : MetM G yX11_isLetter iX11_isLetter [vI (nI x)] M (fun r M' => r = some (vI (bI (isLow x))) ∧ M' = M) := by
  refine MetM.of (ls := [some (vI (nI x))]) (by decide) rfl (Nat.le_of_ble_eq_true rfl) rfl ?_
  intro hM0
  refine Rn.iload_n (pc := 0) dX11_isLetter_0 rfl rfl ?_
  refine Rn.bipush (pc := 1) (v := nI 97) dX11_isLetter_1 (by decide) ?_
  refine Rn.icmp_ltN (pc := 3) (tgt := 16) dX11_isLetter_3 (by decide) hx (by decide) (fun c3 => ?_) (fun c3 => ?_)
  · refine Rn.iconst (pc := 16) (v := nI 0) dX11_isLetter_16 (by decide) ?_
    refine Rn.zret (pc := 17) rfl rfl dX11_isLetter_17 ?_
    refine ⟨?_, rfl⟩; simp [isLow, bI, *]; try omega
  · refine Rn.iload_n (pc := 6) dX11_isLetter_6 rfl rfl ?_
    refine Rn.bipush (pc := 7) (v := nI 122) dX11_isLetter_7 (by decide) ?_
    refine Rn.icmp_gtN (pc := 9) (tgt := 16) dX11_isLetter_9 (by decide) hx (by decide) (fun c9 => ?_) (fun c9 => ?_)
    · refine Rn.iconst (pc := 16) (v := nI 0) dX11_isLetter_16 (by decide) ?_
      refine Rn.zret (pc := 17) rfl rfl dX11_isLetter_17 ?_
      refine ⟨?_, rfl⟩; simp [isLow, bI, *]; try omega
    · refine Rn.iconst (pc := 12) (v := nI 1) dX11_isLetter_12 (by decide) ?_
      refine Rn.goto (pc := 13) (tgt := 17) dX11_isLetter_13 (by decide) ?_
      refine Rn.zret (pc := 17) rfl rfl dX11_isLetter_17 ?_
      refine ⟨?_, rfl⟩; simp [isLow, bI, *]; try omega

set_option maxRecDepth 20000 in
set_option maxHeartbeats 4000000 in
theorem k_isDigit (G : GX) {M : Mem} (x : Nat) (hx : x < 2 ^ 31) : MetM G yX11_isDigit iX11_isDigit [vI (nI x)] M (fun r M' => r = some (vI (bI (isDig x))) ∧ M' = M) := by
  refine MetM.of (ls := [some (vI (nI x))]) (by decide) rfl (Nat.le_of_ble_eq_true rfl) rfl ?_
  intro hM0
  refine Rn.iload_n (pc := 0) dX11_isDigit_0 rfl rfl ?_
  refine Rn.bipush (pc := 1) (v := nI 48) dX11_isDigit_1 (by decide) ?_
  refine Rn.icmp_ltN (pc := 3) (tgt := 16) dX11_isDigit_3 (by decide) hx (by decide) (fun c3 => ?_) (fun c3 => ?_)
  · refine Rn.iconst (pc := 16) (v := nI 0) dX11_isDigit_16 (by decide) ?_
    refine Rn.zret (pc := 17) rfl rfl dX11_isDigit_17 ?_
    refine ⟨?_, rfl⟩; simp [isDig, bI, *]; try omega
  · refine Rn.iload_n (pc := 6) dX11_isDigit_6 rfl rfl ?_
    refine Rn.bipush (pc := 7) (v := nI 57) dX11_isDigit_7 (by decide) ?_
    refine Rn.icmp_gtN (pc := 9) (tgt := 16) dX11_isDigit_9 (by decide) hx (by decide) (fun c9 => ?_) (fun c9 => ?_)
    · refine Rn.iconst (pc := 16) (v := nI 0) dX11_isDigit_16 (by decide) ?_
      refine Rn.zret (pc := 17) rfl rfl dX11_isDigit_17 ?_
      refine ⟨?_, rfl⟩; simp [isDig, bI, *]; try omega
    · refine Rn.iconst (pc := 12) (v := nI 1) dX11_isDigit_12 (by decide) ?_
      refine Rn.goto (pc := 13) (tgt := 17) dX11_isDigit_13 (by decide) ?_
      refine Rn.zret (pc := 17) rfl rfl dX11_isDigit_17 ?_
      refine ⟨?_, rfl⟩; simp [isDig, bI, *]; try omega

set_option maxRecDepth 20000 in
set_option maxHeartbeats 4000000 in
theorem k_step (G : GX) {n : Nat} {L : Nat → Nat} {M : Mem} (h : TxOK n L M) (b e : Nat) (f fp : Int32) (he : e ≤ n) : MetM G yX7_step iX7_step [vR 6 0] (wC M b e f fp) (fun r M' => r = none ∧ M' = wC M (skp L n e) (tEnd L n (skp L n e)) f fp) := by
  refine MetM.of (ls := [some (vR 6 0), none]) (by decide) rfl (Nat.le_of_ble_eq_true rfl) rfl ?_
  intro hM0
  have hq2 := h.2.2.1
  have loopA : ∀ (p : Nat), p < n → ∀ (d k : Nat), k ≤ n → n - k = d → tEnd L n p = run isLow L n k → Rn G iX7_step (fun r M' => r = none ∧ M' = wC M p (tEnd L n p) f fp) 104 [some (vR 6 0), some (vI (nI (L p)))] [] (wC M p k f fp) := by
    intro p hp d
    induction d using Nat.strongRecOn with
    | ind d ih =>
      intro k hk hd hw
      refine Rn.aload_n (pc := 104) dX7_step_104 rfl rfl ?_
      refine Rn.getI (pc := 105) (t := 0) flX7_18 wC_e dX7_step_105 ?_
      refine Rn.aload_n (pc := 108) dX7_step_108 rfl rfl ?_
      refine Rn.getRm (pc := 109) flX7_12 (wC_l h) dX7_step_109 ?_
      refine Rn.getI (pc := 112) (t := 0) flX7_34 (wC_n h) dX7_step_112 ?_
      refine Rn.icmp_geN (pc := 115) (tgt := 226) dX7_step_115 (by decide) (by omega) (by omega) (fun c115 => ?_) (fun c115 => ?_)
      · refine Rn.vret (pc := 226) rfl dX7_step_226 ?_
        refine ⟨rfl, ?_⟩; rw [hw, run_end (by omega)]
      · refine Rn.aload_n (pc := 118) dX7_step_118 rfl rfl ?_
        refine Rn.getRm (pc := 119) flX7_12 (wC_l h) dX7_step_119 ?_
        refine Rn.getR (pc := 122) flX7_37 mu9_0 fx9_0 dX7_step_122 ?_
        refine Rn.aload_n (pc := 125) dX7_step_125 rfl rfl ?_
        refine Rn.getI (pc := 126) (t := 0) flX7_18 wC_e dX7_step_126 ?_
        refine Rn.caldN (pc := 129) ak12 (by omega) (by decide) (wC_t h k (by omega)) dX7_step_129 ?_
        refine Rn.callN (pc := 130) (as := [_]) cnX7_41 ⟨by decide, by decide⟩ dX7_step_130 (Nat.le_of_ble_eq_true rfl) rfl (k_isLetter G (L k) (by have := h.2.2.2.2 k (by omega); omega)) ?_
        rintro _ _ ⟨rfl, rfl⟩
        refine Rn.if_eqB (pc := 133) (tgt := 226) dX7_step_133 (by decide) (fun c133 => ?_) (fun c133 => ?_)
        · refine Rn.vret (pc := 226) rfl dX7_step_226 ?_
          refine ⟨rfl, ?_⟩; rw [hw, run_no (by omega) c133]
        · refine Rn.aload_n (pc := 136) dX7_step_136 rfl rfl ?_
          refine Rn.dupR (pc := 137) (x := 0) (y := 0) dX7_step_137 ?_
          refine Rn.getI (pc := 138) (t := 0) flX7_18 wC_e dX7_step_138 ?_
          refine Rn.iconst (pc := 141) (v := nI 1) dX7_step_141 (by decide) ?_
          refine Rn.iaddN (pc := 142) dX7_step_142 ?_
          refine Rn.putI (pc := 143) (t := 0) flX7_18 rfl rfl dX7_step_143 ?_
          rw [wC_1]
          refine Rn.goto (pc := 146) (tgt := 104) dX7_step_146 (by decide) ?_
          rw [run_yes (by omega) c133] at hw
          exact ih (n - (k + 1)) (by omega) (k + 1) (by omega) rfl hw
  have loopB : ∀ (p : Nat), p < n → ∀ (d k : Nat), k ≤ n → n - k = d → tEnd L n p = run isWs L n k → Rn G iX7_step (fun r M' => r = none ∧ M' = wC M p (tEnd L n p) f fp) 163 [some (vR 6 0), some (vI (nI (L p)))] [] (wC M p k f fp) := by
    intro p hp d
    induction d using Nat.strongRecOn with
    | ind d ih =>
      intro k hk hd hw
      refine Rn.aload_n (pc := 163) dX7_step_163 rfl rfl ?_
      refine Rn.getI (pc := 164) (t := 0) flX7_18 wC_e dX7_step_164 ?_
      refine Rn.aload_n (pc := 167) dX7_step_167 rfl rfl ?_
      refine Rn.getRm (pc := 168) flX7_12 (wC_l h) dX7_step_168 ?_
      refine Rn.getI (pc := 171) (t := 0) flX7_34 (wC_n h) dX7_step_171 ?_
      refine Rn.icmp_geN (pc := 174) (tgt := 226) dX7_step_174 (by decide) (by omega) (by omega) (fun c174 => ?_) (fun c174 => ?_)
      · refine Rn.vret (pc := 226) rfl dX7_step_226 ?_
        refine ⟨rfl, ?_⟩; rw [hw, run_end (by omega)]
      · refine Rn.aload_n (pc := 177) dX7_step_177 rfl rfl ?_
        refine Rn.getRm (pc := 178) flX7_12 (wC_l h) dX7_step_178 ?_
        refine Rn.getR (pc := 181) flX7_37 mu9_0 fx9_0 dX7_step_181 ?_
        refine Rn.aload_n (pc := 184) dX7_step_184 rfl rfl ?_
        refine Rn.getI (pc := 185) (t := 0) flX7_18 wC_e dX7_step_185 ?_
        refine Rn.caldN (pc := 188) ak12 (by omega) (by decide) (wC_t h k (by omega)) dX7_step_188 ?_
        refine Rn.callN (pc := 189) (as := [_]) cnX7_41 ⟨by decide, by decide⟩ dX7_step_189 (Nat.le_of_ble_eq_true rfl) rfl (k_isLetter G (L k) (by have := h.2.2.2.2 k (by omega); omega)) ?_
        rintro _ _ ⟨rfl, rfl⟩
        refine Rn.if_neB (pc := 192) (tgt := 213) dX7_step_192 (by decide) (fun c192 => ?_) (fun c192 => ?_)
        · refine Rn.aload_n (pc := 213) dX7_step_213 rfl rfl ?_
          refine Rn.dupR (pc := 214) (x := 0) (y := 0) dX7_step_214 ?_
          refine Rn.getI (pc := 215) (t := 0) flX7_18 wC_e dX7_step_215 ?_
          refine Rn.iconst (pc := 218) (v := nI 1) dX7_step_218 (by decide) ?_
          refine Rn.iaddN (pc := 219) dX7_step_219 ?_
          refine Rn.putI (pc := 220) (t := 0) flX7_18 rfl rfl dX7_step_220 ?_
          rw [wC_1]
          refine Rn.goto (pc := 223) (tgt := 163) dX7_step_223 (by decide) ?_
          rw [run_yes (by omega) (by simp [isWs, *])] at hw
          exact ih (n - (k + 1)) (by omega) (k + 1) (by omega) rfl hw
        · refine Rn.aload_n (pc := 195) dX7_step_195 rfl rfl ?_
          refine Rn.getRm (pc := 196) flX7_12 (wC_l h) dX7_step_196 ?_
          refine Rn.getR (pc := 199) flX7_37 mu9_0 fx9_0 dX7_step_199 ?_
          refine Rn.aload_n (pc := 202) dX7_step_202 rfl rfl ?_
          refine Rn.getI (pc := 203) (t := 0) flX7_18 wC_e dX7_step_203 ?_
          refine Rn.caldN (pc := 206) ak12 (by omega) (by decide) (wC_t h k (by omega)) dX7_step_206 ?_
          refine Rn.callN (pc := 207) (as := [_]) cnX7_45 ⟨by decide, by decide⟩ dX7_step_207 (Nat.le_of_ble_eq_true rfl) rfl (k_isDigit G (L k) (by have := h.2.2.2.2 k (by omega); omega)) ?_
          rintro _ _ ⟨rfl, rfl⟩
          refine Rn.if_eqB (pc := 210) (tgt := 226) dX7_step_210 (by decide) (fun c210 => ?_) (fun c210 => ?_)
          · refine Rn.vret (pc := 226) rfl dX7_step_226 ?_
            refine ⟨rfl, ?_⟩; rw [hw, run_no (by omega) (by simp [isWs, *])]
          · refine Rn.aload_n (pc := 213) dX7_step_213 rfl rfl ?_
            refine Rn.dupR (pc := 214) (x := 0) (y := 0) dX7_step_214 ?_
            refine Rn.getI (pc := 215) (t := 0) flX7_18 wC_e dX7_step_215 ?_
            refine Rn.iconst (pc := 218) (v := nI 1) dX7_step_218 (by decide) ?_
            refine Rn.iaddN (pc := 219) dX7_step_219 ?_
            refine Rn.putI (pc := 220) (t := 0) flX7_18 rfl rfl dX7_step_220 ?_
            rw [wC_1]
            refine Rn.goto (pc := 223) (tgt := 163) dX7_step_223 (by decide) ?_
            rw [run_yes (by omega) (by simp [isWs, *])] at hw
            exact ih (n - (k + 1)) (by omega) (k + 1) (by omega) rfl hw
  have T52 : ∀ (p : Nat), p ≤ n → Rn G iX7_step (fun r M' => r = none ∧ M' = wC M p (tEnd L n p) f fp) 52 [some (vR 6 0), none] [] (wC M p e f fp) := by
    intro p hp
    refine Rn.aload_n (pc := 52) dX7_step_52 rfl rfl ?_
    refine Rn.aload_n (pc := 53) dX7_step_53 rfl rfl ?_
    refine Rn.getI (pc := 54) (t := 0) flX7_31 wC_b dX7_step_54 ?_
    refine Rn.putI (pc := 57) (t := 0) flX7_18 rfl rfl dX7_step_57 ?_
    rw [wC_1]
    refine Rn.aload_n (pc := 60) dX7_step_60 rfl rfl ?_
    refine Rn.getI (pc := 61) (t := 0) flX7_31 wC_b dX7_step_61 ?_
    refine Rn.aload_n (pc := 64) dX7_step_64 rfl rfl ?_
    refine Rn.getRm (pc := 65) flX7_12 (wC_l h) dX7_step_65 ?_
    refine Rn.getI (pc := 68) (t := 0) flX7_34 (wC_n h) dX7_step_68 ?_
    refine Rn.icmp_ltN (pc := 71) (tgt := 75) dX7_step_71 (by decide) (by omega) (by omega) (fun c71 => ?_) (fun c71 => ?_)
    · refine Rn.aload_n (pc := 75) dX7_step_75 rfl rfl ?_
      refine Rn.getRm (pc := 76) flX7_12 (wC_l h) dX7_step_76 ?_
      refine Rn.getR (pc := 79) flX7_37 mu9_0 fx9_0 dX7_step_79 ?_
      refine Rn.aload_n (pc := 82) dX7_step_82 rfl rfl ?_
      refine Rn.getI (pc := 83) (t := 0) flX7_31 wC_b dX7_step_83 ?_
      refine Rn.caldN (pc := 86) ak12 (by omega) (by decide) (wC_t h p (by omega)) dX7_step_86 ?_
      refine Rn.istore_n (pc := 87) dX7_step_87 rfl (by decide) rfl st2_1 ?_
      refine Rn.aload_n (pc := 88) dX7_step_88 rfl rfl ?_
      refine Rn.dupR (pc := 89) (x := 0) (y := 0) dX7_step_89 ?_
      refine Rn.getI (pc := 90) (t := 0) flX7_18 wC_e dX7_step_90 ?_
      refine Rn.iconst (pc := 93) (v := nI 1) dX7_step_93 (by decide) ?_
      refine Rn.iaddN (pc := 94) dX7_step_94 ?_
      refine Rn.putI (pc := 95) (t := 0) flX7_18 rfl rfl dX7_step_95 ?_
      rw [wC_1]
      refine Rn.iload_n (pc := 98) dX7_step_98 rfl rfl ?_
      refine Rn.bipush (pc := 99) (v := nI 46) dX7_step_99 (by decide) ?_
      refine Rn.icmp_neN (pc := 101) (tgt := 149) dX7_step_101 (by decide) (by have := h.2.2.2.2 p (by omega); omega) (by decide) (fun c101 => ?_) (fun c101 => ?_)
      · refine Rn.iload_n (pc := 149) dX7_step_149 rfl rfl ?_
        refine Rn.callN (pc := 150) (as := [_]) cnX7_41 ⟨by decide, by decide⟩ dX7_step_150 (Nat.le_of_ble_eq_true rfl) rfl (k_isLetter G (L p) (by have := h.2.2.2.2 p (by omega); omega)) ?_
        rintro _ _ ⟨rfl, rfl⟩
        refine Rn.if_neB (pc := 153) (tgt := 163) dX7_step_153 (by decide) (fun c153 => ?_) (fun c153 => ?_)
        · exact loopB p (by omega) _ (p + 1) (by omega) rfl (by rw [tEnd, if_pos (by omega), if_neg c101, if_pos (by simp [isWs, *])])
        · refine Rn.iload_n (pc := 156) dX7_step_156 rfl rfl ?_
          refine Rn.callN (pc := 157) (as := [_]) cnX7_45 ⟨by decide, by decide⟩ dX7_step_157 (Nat.le_of_ble_eq_true rfl) rfl (k_isDigit G (L p) (by have := h.2.2.2.2 p (by omega); omega)) ?_
          rintro _ _ ⟨rfl, rfl⟩
          refine Rn.if_eqB (pc := 160) (tgt := 226) dX7_step_160 (by decide) (fun c160 => ?_) (fun c160 => ?_)
          · refine Rn.vret (pc := 226) rfl dX7_step_226 ?_
            refine ⟨rfl, ?_⟩; rw [tEnd, if_pos (by omega), if_neg c101, if_neg (by simp [isWs, *])]
          · exact loopB p (by omega) _ (p + 1) (by omega) rfl (by rw [tEnd, if_pos (by omega), if_neg c101, if_pos (by simp [isWs, *])])
      · exact loopA p (by omega) _ (p + 1) (by omega) rfl (by rw [tEnd, if_pos (by omega), if_pos c101])
    · refine Rn.vret (pc := 74) rfl dX7_step_74 ?_
      refine ⟨rfl, ?_⟩; rw [tEnd, if_neg (by omega)]
  have loop8 : ∀ (d k : Nat), k ≤ n → n - k = d → skp L n e = run isBl L n k → Rn G iX7_step (fun r M' => r = none ∧ M' = wC M (skp L n e) (tEnd L n (skp L n e)) f fp) 8 [some (vR 6 0), none] [] (wC M k e f fp) := by
    intro d
    induction d using Nat.strongRecOn with
    | ind d ih =>
      intro k hk hd hw
      refine Rn.aload_n (pc := 8) dX7_step_8 rfl rfl ?_
      refine Rn.getI (pc := 9) (t := 0) flX7_31 wC_b dX7_step_9 ?_
      refine Rn.aload_n (pc := 12) dX7_step_12 rfl rfl ?_
      refine Rn.getRm (pc := 13) flX7_12 (wC_l h) dX7_step_13 ?_
      refine Rn.getI (pc := 16) (t := 0) flX7_34 (wC_n h) dX7_step_16 ?_
      refine Rn.icmp_geN (pc := 19) (tgt := 52) dX7_step_19 (by decide) (by omega) (by omega) (fun c19 => ?_) (fun c19 => ?_)
      · have hk9 : skp L n e = k := by rw [hw]; exact run_end (by omega)
        rw [hk9]
        exact T52 k (by omega)
      · refine Rn.aload_n (pc := 22) dX7_step_22 rfl rfl ?_
        refine Rn.getRm (pc := 23) flX7_12 (wC_l h) dX7_step_23 ?_
        refine Rn.getR (pc := 26) flX7_37 mu9_0 fx9_0 dX7_step_26 ?_
        refine Rn.aload_n (pc := 29) dX7_step_29 rfl rfl ?_
        refine Rn.getI (pc := 30) (t := 0) flX7_31 wC_b dX7_step_30 ?_
        refine Rn.caldN (pc := 33) ak12 (by omega) (by decide) (wC_t h k (by omega)) dX7_step_33 ?_
        refine Rn.bipush (pc := 34) (v := nI 32) dX7_step_34 (by decide) ?_
        refine Rn.icmp_neN (pc := 36) (tgt := 52) dX7_step_36 (by decide) (by have := h.2.2.2.2 k (by omega); omega) (by decide) (fun c36 => ?_) (fun c36 => ?_)
        · have hk9 : skp L n e = k := by rw [hw]; exact run_no (by omega) (by simp [isBl]; omega)
          rw [hk9]
          exact T52 k (by omega)
        · refine Rn.aload_n (pc := 39) dX7_step_39 rfl rfl ?_
          refine Rn.dupR (pc := 40) (x := 0) (y := 0) dX7_step_40 ?_
          refine Rn.getI (pc := 41) (t := 0) flX7_31 wC_b dX7_step_41 ?_
          refine Rn.iconst (pc := 44) (v := nI 1) dX7_step_44 (by decide) ?_
          refine Rn.iaddN (pc := 45) dX7_step_45 ?_
          refine Rn.putI (pc := 46) (t := 0) flX7_31 rfl rfl dX7_step_46 ?_
          rw [wC_2]
          refine Rn.goto (pc := 49) (tgt := 8) dX7_step_49 (by decide) ?_
          rw [run_yes (by omega) (by simp [isBl, c36])] at hw
          exact ih (n - (k + 1)) (by omega) (k + 1) (by omega) rfl hw
  refine Rn.aload_n (pc := 0) dX7_step_0 rfl rfl ?_
  refine Rn.aload_n (pc := 1) dX7_step_1 rfl rfl ?_
  refine Rn.getI (pc := 2) (t := 0) flX7_18 wC_e dX7_step_2 ?_
  refine Rn.putI (pc := 5) (t := 0) flX7_31 rfl rfl dX7_step_5 ?_
  rw [wC_2]
  exact loop8 _ e he rfl rfl

theorem tEnd_le {L : Nat → Nat} {n p : Nat} (h : p ≤ n) : tEnd L n p ≤ n := by
  unfold tEnd
  split
  · split
    · exact run_le (by omega)
    · split
      · exact run_le (by omega)
      · omega
  · exact h
theorem tEnd_ge {L : Nat → Nat} {n p : Nat} (h : p ≤ n) : p ≤ tEnd L n p := by
  unfold tEnd
  split
  · split
    · exact Nat.le_trans (Nat.le_succ p) (run_ge (by omega))
    · split
      · exact Nat.le_trans (Nat.le_succ p) (run_ge (by omega))
      · omega
  · exact Nat.le_refl p
set_option maxRecDepth 20000 in
set_option maxHeartbeats 4000000 in
theorem k_fail (G : GX) {M : Mem} (b e : Nat) (f fp k : Int32) (p : Int32) : MetM G yX7_fail iX7_fail [vR 6 0, vI k, vI p] (wC M b e f fp) (fun r M' => r = none ∧ M' = wC M b e (if f = 0 then k else f) (if f = 0 then p else fp)) := by
  refine MetM.of (ls := [some (vR 6 0), some (vI k), some (vI p)]) (by decide) rfl (Nat.le_of_ble_eq_true rfl) rfl ?_
  intro hM0
  refine Rn.aload_n (pc := 0) dX7_fail_0 rfl rfl ?_
  refine Rn.getI (pc := 1) (t := 0) flX7_22 wC_f dX7_fail_1 ?_
  refine Rn.if_ne (pc := 4) (y := 0) (tgt := 17) dX7_fail_4 (by decide) (fun c4 => ?_) (fun c4 => ?_)
  · refine Rn.vret (pc := 17) rfl dX7_fail_17 ?_
    refine ⟨rfl, ?_⟩; rw [if_neg c4, if_neg c4]
  · refine Rn.aload_n (pc := 7) dX7_fail_7 rfl rfl ?_
    refine Rn.iload_n (pc := 8) dX7_fail_8 rfl rfl ?_
    refine Rn.putI (pc := 9) (t := 0) flX7_22 rfl rfl dX7_fail_9 ?_
    rw [wC_3]
    refine Rn.aload_n (pc := 12) dX7_fail_12 rfl rfl ?_
    refine Rn.iload_n (pc := 13) dX7_fail_13 rfl rfl ?_
    refine Rn.putI (pc := 14) (t := 0) flX7_25 rfl rfl dX7_fail_14 ?_
    rw [wC_4]
    refine Rn.vret (pc := 17) rfl dX7_fail_17 ?_
    refine ⟨rfl, ?_⟩; rw [if_pos c4, if_pos c4]

set_option maxRecDepth 20000 in
set_option maxHeartbeats 4000000 in
theorem k_atEnd (G : GX) {n : Nat} {L : Nat → Nat} {M : Mem} (h : TxOK n L M) (b e : Nat) (f fp : Int32) (hb : b ≤ n) : MetM G yX7_atEnd iX7_atEnd [vR 6 0] (wC M b e f fp) (fun r M' => r = some (vI (bI (decide (n ≤ b)))) ∧ M' = wC M b e f fp) := by
  refine MetM.of (ls := [some (vR 6 0)]) (by decide) rfl (Nat.le_of_ble_eq_true rfl) rfl ?_
  intro hM0
  have hq2 := h.2.2.1
  refine Rn.aload_n (pc := 0) dX7_atEnd_0 rfl rfl ?_
  refine Rn.getI (pc := 1) (t := 0) flX7_31 wC_b dX7_atEnd_1 ?_
  refine Rn.aload_n (pc := 4) dX7_atEnd_4 rfl rfl ?_
  refine Rn.getRm (pc := 5) flX7_12 (wC_l h) dX7_atEnd_5 ?_
  refine Rn.getI (pc := 8) (t := 0) flX7_34 (wC_n h) dX7_atEnd_8 ?_
  refine Rn.icmp_ltN (pc := 11) (tgt := 18) dX7_atEnd_11 (by decide) (by omega) (by omega) (fun c11 => ?_) (fun c11 => ?_)
  · refine Rn.iconst (pc := 18) (v := nI 0) dX7_atEnd_18 (by decide) ?_
    refine Rn.zret (pc := 19) rfl rfl dX7_atEnd_19 ?_
    refine ⟨?_, rfl⟩; rw [decide_eq_false (by omega)]; rfl
  · refine Rn.iconst (pc := 14) (v := nI 1) dX7_atEnd_14 (by decide) ?_
    refine Rn.goto (pc := 15) (tgt := 19) dX7_atEnd_15 (by decide) ?_
    refine Rn.zret (pc := 19) rfl rfl dX7_atEnd_19 ?_
    refine ⟨?_, rfl⟩; rw [decide_eq_true (by omega)]; rfl

set_option maxRecDepth 20000 in
set_option maxHeartbeats 4000000 in
theorem k_sees (G : GX) {n : Nat} {L : Nat → Nat} {M : Mem} (h : TxOK n L M) (b e : Nat) (f fp : Int32) (hb : b ≤ n) (c : Nat) (hc : c < 2 ^ 31) : MetM G yX7_sees iX7_sees [vR 6 0, vI (nI c)] (wC M b e f fp) (fun r M' => r = some (vI (bI (decide (b < n ∧ L b = c)))) ∧ M' = wC M b e f fp) := by
  refine MetM.of (ls := [some (vR 6 0), some (vI (nI c))]) (by decide) rfl (Nat.le_of_ble_eq_true rfl) rfl ?_
  intro hM0
  have hq2 := h.2.2.1
  refine Rn.aload_n (pc := 0) dX7_sees_0 rfl rfl ?_
  refine Rn.getI (pc := 1) (t := 0) flX7_31 wC_b dX7_sees_1 ?_
  refine Rn.aload_n (pc := 4) dX7_sees_4 rfl rfl ?_
  refine Rn.getRm (pc := 5) flX7_12 (wC_l h) dX7_sees_5 ?_
  refine Rn.getI (pc := 8) (t := 0) flX7_34 (wC_n h) dX7_sees_8 ?_
  refine Rn.icmp_geN (pc := 11) (tgt := 34) dX7_sees_11 (by decide) (by omega) (by omega) (fun c11 => ?_) (fun c11 => ?_)
  · refine Rn.iconst (pc := 34) (v := nI 0) dX7_sees_34 (by decide) ?_
    refine Rn.zret (pc := 35) rfl rfl dX7_sees_35 ?_
    refine ⟨?_, rfl⟩; rw [decide_eq_false (by omega)]; rfl
  · refine Rn.aload_n (pc := 14) dX7_sees_14 rfl rfl ?_
    refine Rn.getRm (pc := 15) flX7_12 (wC_l h) dX7_sees_15 ?_
    refine Rn.getR (pc := 18) flX7_37 mu9_0 fx9_0 dX7_sees_18 ?_
    refine Rn.aload_n (pc := 21) dX7_sees_21 rfl rfl ?_
    refine Rn.getI (pc := 22) (t := 0) flX7_31 wC_b dX7_sees_22 ?_
    refine Rn.caldN (pc := 25) ak12 (by omega) (by decide) (wC_t h b (by omega)) dX7_sees_25 ?_
    refine Rn.iload_n (pc := 26) dX7_sees_26 rfl rfl ?_
    refine Rn.icmp_neN (pc := 27) (tgt := 34) dX7_sees_27 (by decide) (by have := h.2.2.2.2 b (by omega); omega) hc (fun c27 => ?_) (fun c27 => ?_)
    · refine Rn.iconst (pc := 34) (v := nI 0) dX7_sees_34 (by decide) ?_
      refine Rn.zret (pc := 35) rfl rfl dX7_sees_35 ?_
      refine ⟨?_, rfl⟩; rw [decide_eq_false (by omega)]; rfl
    · refine Rn.iconst (pc := 30) (v := nI 1) dX7_sees_30 (by decide) ?_
      refine Rn.goto (pc := 31) (tgt := 35) dX7_sees_31 (by decide) ?_
      refine Rn.zret (pc := 35) rfl rfl dX7_sees_35 ?_
      refine ⟨?_, rfl⟩; rw [decide_eq_true ⟨by omega, c27⟩]; rfl

