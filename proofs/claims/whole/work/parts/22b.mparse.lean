set_option maxHeartbeats 4000000 in
theorem rd_229 (G : GX) {Post : Option AV → Mem → Prop} {o n : Nat} {L : Nat → Nat} {B : Mem} (h : LnOK o n L B) (q : SR × PS) (hq : q.2.1 ≤ n) (hp : Post none (wS o (stS B (rdFin L n q).1) (rdFin L n q).2)) (x1 x2 x3 x4 x5 : Option AV) : Rn G iX12_read Post 229 [some (vR 11 0), x1, x2, x3, x4, x5] [] (wS o (stS B q.1) q.2) := by
  refine Rn.aload_n (pc := 229) dX12_read_229 rfl rfl ?_
  refine Rn.getI (pc := 230) (t := 0) flX12_100 wS_f dX12_read_230 ?_
  refine Rn.if_ne (pc := 233) (y := 0) (tgt := 253) dX12_read_233 (by decide) (fun c233 => ?_) (fun c233 => ?_)
  · refine Rn.vret (pc := 253) rfl dX12_read_253 ?_
    rw [rdFin, if_neg c233] at hp; exact hp
  · refine Rn.aload_n (pc := 236) dX12_read_236 rfl rfl ?_
    refine Rn.callV (pc := 237) (as := []) cvX12_116 ⟨by decide, rfl⟩ ⟨by decide, by decide⟩ dX12_read_237 (Nat.le_of_ble_eq_true rfl) rfl (c_next G (h.st q.1) q.2.1 hq q.2.2.1 q.2.2.2) ?_
    rintro _ _ ⟨rfl, rfl⟩
    rw [show wP o (stS B q.1) (skp L n q.2.1) q.2.2.1 q.2.2.2 = wS o (stS B q.1) (skp L n q.2.1, q.2.2) from rfl]
    refine Rn.if_eq (pc := 240) (y := 0) (tgt := 253) dX12_read_240 (by decide) (fun c240 => ?_) (fun c240 => ?_)
    · refine Rn.vret (pc := 253) rfl dX12_read_253 ?_
      rw [rdFin, if_pos c233, if_pos ((nI_eq (by have h9 := chA_lt h (skp L n q.2.1); omega) (by decide)).mp c240)] at hp; dsimp only at hp; exact hp
    · refine Rn.aload_n (pc := 243) dX12_read_243 rfl rfl ?_
      refine Rn.bipush (pc := 244) (v := -3) dX12_read_244 (by decide) ?_
      refine Rn.aload_n (pc := 246) dX12_read_246 rfl rfl ?_
      refine Rn.getI (pc := 247) (t := 0) flX12_94 wS_at dX12_read_247 ?_
      refine Rn.callV (pc := 250) (as := [_, _]) cvX12_123 ⟨by decide, rfl⟩ ⟨by decide, by decide⟩ dX12_read_250 (Nat.le_of_ble_eq_true rfl) rfl (c_wrong G (h.st q.1) (skp L n q.2.1, q.2.2) (-3) (skp L n q.2.1) (skp_le hq)) ?_
      rintro _ _ ⟨rfl, rfl⟩
      refine Rn.vret (pc := 253) rfl dX12_read_253 ?_
      rw [rdFin, if_pos c233, if_neg (fun e9 => c240 (by rw [e9]; rfl))] at hp; dsimp only at hp; exact hp
set_option maxHeartbeats 4000000 in
theorem rd_174 (G : GX) {Post : Option AV → Mem → Prop} {o n : Nat} {L : Nat → Nat} {B : Mem} (h : LnOK o n L B) (r : SR) (s : PS) (hs : s.1 ≤ n) (a e : Nat) (hae : a ≤ e) (hen : e ≤ n) (hp : Post none (wS o (stS (sI B 11 0 14 (nI (o + a))) (rdSt o L n a e r s).1) (rdSt o L n a e r s).2)) (x1 x2 x3 : Option AV) : Rn G iX12_read Post 174 [some (vR 11 0), x1, x2, x3, some (vI (nI (o + a))), some (vI (nI (o + e)))] [] (wS o (stS B r) s) := by
  have hq1 := h.2.1
  have hq2 := h.2.2.1
  refine Rn.aload_n (pc := 174) dX12_read_174 rfl rfl ?_
  refine Rn.iload (pc := 175) dX12_read_175 rfl ?_
  refine Rn.putI (pc := 177) (t := 0) flX12_304 rfl rfl dX12_read_177 ?_
  rw [wQ_oth (by decide)]
  refine Rn.iload (pc := 180) dX12_read_180 rfl ?_
  refine Rn.iload (pc := 182) dX12_read_182 rfl ?_
  refine Rn.icmp_eqN (pc := 184) (tgt := 220) dX12_read_184 (by decide) (by omega) (by omega) (fun c184 => ?_) (fun c184 => ?_)
  · skip
    refine Rn.aload_n (pc := 220) dX12_read_220 rfl rfl ?_
    refine Rn.bipush (pc := 221) (v := -3) dX12_read_221 (by decide) ?_
    refine Rn.iload (pc := 223) dX12_read_223 rfl ?_
    refine Rn.callV (pc := 225) (as := [_, _]) cvX12_123 ⟨by decide, rfl⟩ ⟨by decide, by decide⟩ dX12_read_225 (Nat.le_of_ble_eq_true rfl) rfl (c_wrong G ((show LnOK o n L (sI B 11 0 14 (nI (o + a))) from h).st r) s (-3) a (by omega)) ?_
    rintro _ _ ⟨rfl, rfl⟩
    refine Rn.vret (pc := 228) rfl dX12_read_228 ?_
    rw [rdSt, if_pos (by omega)] at hp; dsimp only at hp; exact hp
  · refine Rn.aload_n (pc := 187) dX12_read_187 rfl rfl ?_
    refine Rn.iload (pc := 188) dX12_read_188 rfl ?_
    refine Rn.iload (pc := 190) dX12_read_190 rfl ?_
    refine Rn.callV (pc := 192) (as := [_, _]) cvX12_310 ⟨by decide, rfl⟩ ⟨by decide, by decide⟩ dX12_read_192 (Nat.le_of_ble_eq_true rfl) rfl (c_directive G (show LnOK o n L (sI B 11 0 14 (nI (o + a))) from h) r s hs a e hae hen) ?_
    rintro _ _ ⟨rfl, rfl⟩
    refine Rn.if_neB (pc := 195) (tgt := 229) dX12_read_195 (by decide) (fun c195 => ?_) (fun c195 => ?_)
    · exact rd_229 G (show LnOK o n L (sI B 11 0 14 (nI (o + a))) from h) (fDir o L n a e r s).2 (fDir_le hs) (by rw [rdSt, if_neg (by omega), if_pos c195] at hp; exact hp) _ _ _ _ _
    · rw [fDir_f c195]
      refine Rn.aload_n (pc := 198) dX12_read_198 rfl rfl ?_
      refine Rn.iload (pc := 199) dX12_read_199 rfl ?_
      refine Rn.iload (pc := 201) dX12_read_201 rfl ?_
      refine Rn.callV (pc := 203) (as := [_, _]) cvX12_313 ⟨by decide, rfl⟩ ⟨by decide, by decide⟩ dX12_read_203 (Nat.le_of_ble_eq_true rfl) rfl (c_simple G (show LnOK o n L (sI B 11 0 14 (nI (o + a))) from h) r s hs a e hae hen) ?_
      rintro _ _ ⟨rfl, rfl⟩
      refine Rn.if_neB (pc := 206) (tgt := 229) dX12_read_206 (by decide) (fun c206 => ?_) (fun c206 => ?_)
      · exact rd_229 G (show LnOK o n L (sI B 11 0 14 (nI (o + a))) from h) (fSim L n a e r s).2 (fSim_le (o := 0) hs) (by rw [rdSt, if_neg (by omega), if_neg (by rw [c195]; decide), if_pos c206] at hp; exact hp) _ _ _ _ _
      · rw [fSim_f (o := 0) c206]
        refine Rn.aload_n (pc := 209) dX12_read_209 rfl rfl ?_
        refine Rn.iload (pc := 210) dX12_read_210 rfl ?_
        refine Rn.iload (pc := 212) dX12_read_212 rfl ?_
        refine Rn.callV (pc := 214) (as := [_, _]) cvX12_316 ⟨by decide, rfl⟩ ⟨by decide, by decide⟩ dX12_read_214 (Nat.le_of_ble_eq_true rfl) rfl (c_other G (show LnOK o n L (sI B 11 0 14 (nI (o + a))) from h) r s hs a e (by omega) hen) ?_
        rintro _ _ ⟨rfl, rfl⟩
        refine Rn.if_neB (pc := 217) (tgt := 229) dX12_read_217 (by decide) (fun c217 => ?_) (fun c217 => ?_)
        · exact rd_229 G (show LnOK o n L (sI B 11 0 14 (nI (o + a))) from h) (fOth o L n a e r s).2 (fOth_le hs) (by rw [rdSt, if_neg (by omega), if_neg (by rw [c195]; decide), if_neg (by rw [c206]; decide), if_pos c217] at hp; exact hp) _ _ _ _ _
        · rw [fOth_f c217]
          refine Rn.aload_n (pc := 220) dX12_read_220 rfl rfl ?_
          refine Rn.bipush (pc := 221) (v := -3) dX12_read_221 (by decide) ?_
          refine Rn.iload (pc := 223) dX12_read_223 rfl ?_
          refine Rn.callV (pc := 225) (as := [_, _]) cvX12_123 ⟨by decide, rfl⟩ ⟨by decide, by decide⟩ dX12_read_225 (Nat.le_of_ble_eq_true rfl) rfl (c_wrong G ((show LnOK o n L (sI B 11 0 14 (nI (o + a))) from h).st r) s (-3) a (by omega)) ?_
          rintro _ _ ⟨rfl, rfl⟩
          refine Rn.vret (pc := 228) rfl dX12_read_228 ?_
          rw [rdSt, if_neg (by omega), if_neg (by rw [c195]; decide), if_neg (by rw [c206]; decide), if_neg (by rw [c217]; decide)] at hp; dsimp only at hp; exact hp
