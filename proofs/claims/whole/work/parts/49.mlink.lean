theorem i_b (x : Int32) : -2147483648 ≤ x.toInt ∧ x.toInt < 2147483648 := ⟨Int32.le_toInt x, Int32.toInt_lt x⟩
theorem bm_id {z : Int} (h1 : -2147483648 ≤ z) (h2 : z < 2147483648) : z.bmod (2 ^ 32) = z := by
  rw [Int.bmod_def]
  split <;> omega
theorem td_b (z : Int) (n : Nat) (hn : n = 2 ∨ n = 4) : z.tdiv (n : Int) = if 0 ≤ z then z / (n : Int) else - ((- z) / (n : Int)) := by
  split
  · rename_i h; exact Int.tdiv_eq_ediv_of_nonneg h
  · rename_i h
    have h1 : z = - (- z) := by omega
    rw [h1, Int.neg_tdiv, Int.tdiv_eq_ediv_of_nonneg (by omega), Int.neg_neg]
theorem rem0 (x : Int32) (n : Nat) (hn : n = 2 ∨ n = 4) : x - x / nI n * nI n = 0 ↔ x.toInt % (n : Int) = 0 := by
  have hb := i_b x
  have hN : (nI n).toInt = (n : Int) := nI_toInt (by omega)
  have hd : (x / nI n).toInt = x.toInt.tdiv (n : Int) := by
    rw [Int32.toInt_div_of_ne_right x (nI n) (by rcases hn with rfl | rfl <;> decide), hN]
  have ht := td_b x.toInt n hn
  rw [← Int32.toInt_inj, Int32.toInt_sub, Int32.toInt_mul, hd, hN, ht, show (0 : Int32).toInt = 0 from rfl]
  rcases hn with rfl | rfl
  · split
    · rw [bm_id (z := x.toInt / ((2 : Nat) : Int) * ((2 : Nat) : Int)) (by omega) (by omega), bm_id (by omega) (by omega)]; omega
    · rw [bm_id (z := - ((- x.toInt) / ((2 : Nat) : Int)) * ((2 : Nat) : Int)) (by omega) (by omega), bm_id (by omega) (by omega)]; omega
  · split
    · rw [bm_id (z := x.toInt / ((4 : Nat) : Int) * ((4 : Nat) : Int)) (by omega) (by omega), bm_id (by omega) (by omega)]; omega
    · rw [bm_id (z := - ((- x.toInt) / ((4 : Nat) : Int)) * ((4 : Nat) : Int)) (by omega) (by omega), bm_id (by omega) (by omega)]; omega
/-- how far a label is from a place -/
def hr3 (h re : Nat) : Nat := if re = 4 then h / 4 * 4 else h
def dI (a h re : Nat) : Int32 := nI a - nI (hr3 h re) - nI 4
theorem dI_t {a h re : Nat} (ha : a < 2 ^ 30) (hh : h < 2 ^ 30) : (dI a h re).toInt = (a : Int) - (hr3 h re : Int) - 4 := by
  have h1 : hr3 h re ≤ h := by unfold hr3; split <;> omega
  unfold dI
  rw [Int32.toInt_sub, pk_sub_toInt ha (by omega), nI_toInt (n := 4) (by decide), bm_id (by omega) (by omega)]
  omega
def rcO (re : Nat) (d : Int32) (nr : Bool) : Bool :=
  if re = 1 then decide (d.toInt % 2 = 0) && (decide (-2048 ≤ d.toInt) && decide (d.toInt ≤ 2046))
  else if re = 2 then nr && (decide (d.toInt % 2 = 0) && (decide (-256 ≤ d.toInt) && decide (d.toInt ≤ 254)))
  else if re = 3 then decide (d.toInt % 2 = 0) && (decide (-16777216 ≤ d.toInt) && decide (d.toInt ≤ 16777214))
  else nr && (decide (d.toInt % 4 = 0) && (decide (0 ≤ d.toInt) && decide (d.toInt ≤ 1020)))
def hv0 (c d : Int32) (re : Nat) : Int32 :=
  if re = 1 then c + (d >>> (nI 1 &&& 31) &&& nI 2047)
  else if re = 2 then c + (d >>> (nI 1 &&& 31) &&& nI 255)
  else if re = 3 then c + nI 1024 * (d >>> (nI 1 &&& 31) >>> (nI 23 &&& 31) &&& nI 1) + (d >>> (nI 1 &&& 31) >>> (nI 11 &&& 31) &&& nI 1023)
  else c + d >>> (nI 2 &&& 31)
def hv1 (d : Int32) : Int32 := nI 53248 + (if d >>> (nI 1 &&& 31) >>> (nI 22 &&& 31) &&& nI 1 = d >>> (nI 1 &&& 31) >>> (nI 23 &&& 31) &&& nI 1 then nI 8192 else nI 0) + (if d >>> (nI 1 &&& 31) >>> (nI 21 &&& 31) &&& nI 1 = d >>> (nI 1 &&& 31) >>> (nI 23 &&& 31) &&& nI 1 then nI 2048 else nI 0) + (d >>> (nI 1 &&& 31) &&& nI 2047)
def hvB (c d : Int32) (re j : Nat) : Nat := if j < 2 then bt (hv0 c d re) j else bt (hv1 d) (j - 2)
def nrB (B : LB) (k m : Nat) : Bool := decide ((B.2 k).1 = m ∧ (B.2 k).2.1 = 0)
theorem lt_m {x : Int32} {k : Int32} : x < k ↔ x.toInt < k.toInt := Int32.lt_iff_toInt_lt
theorem le_m {x : Int32} {k : Int32} : x ≤ k ↔ x.toInt ≤ k.toInt := Int32.le_iff_toInt_le
set_option maxRecDepth 20000 in
set_option maxHeartbeats 4000000 in
theorem c_resolve_6 (G : GX) {M : Mem} (bs : Nat → Nat) (B : LB) (m s p k : Nat) (hm : m < 4) (hs : s < 12) (hp : p + 4 ≤ 1024) (hk : k < B.1) (h96 : B.1 ≤ 96) (hW : LbW B) (hB : LbM 0 B M) (hbs : ∀ s, s < 12 → mI M 32 0 s = nI (bs s)) (hbb : ∀ s, s < 12 → bs s ≤ 536880000) (hst : mI M 11 0 13 = nI 6) (x : Int32) (hx : mI M 11 0 16 = x) : MetM G yX12_resolve iX12_resolve [vR 11 0, vI (nI m), vI (nI s), vI (nI p), vI (nI k)] M (fun r M' => r = some (vI (bI true)) ∧ Fr (S34 (1024 * s + p) (1024 * s + p + 4)) M M' ∧ ∀ j, j < 4 → mI M' 34 0 (1024 * s + p + j) = nI (bt (nI (ad bs B k) + x) j)) := by
  refine MetM.of (ls := [some (vR 11 0), some (vI (nI m)), some (vI (nI s)), some (vI (nI p)), some (vI (nI k)), none, none, none, none, none, none]) (by decide) rfl (Nat.le_of_ble_eq_true rfl) rfl ?_
  intro hM0
  obtain ⟨hb1, hb2, hb3, _⟩ := hB k hk
  rw [Nat.zero_add] at hb1 hb2 hb3
  have hw := hW.1 k hk
  have had : ad bs B k < 2 ^ 30 := by unfold ad; have := hbb (3 * (B.2 k).1 + (B.2 k).2.1) (by omega); omega
  have hbs9 := hbb s hs
  refine Rn.aload_n (pc := 0) dX12_resolve_0 rfl rfl ?_
  refine Rn.iload (pc := 1) dX12_resolve_1 rfl ?_
  refine Rn.callV (pc := 3) (as := [_]) cvX12_356 ⟨by decide, rfl⟩ ⟨by decide, by decide⟩ dX12_resolve_3 (Nat.le_of_ble_eq_true rfl) rfl (c_addressOf G bs B k hk h96 hW hB hbs) ?_
  rintro _ M9 ⟨rfl, h9⟩
  rw [h9]
  refine Rn.istore (pc := 6) dX12_resolve_6 (by decide) rfl st11_5 ?_
  refine Rn.aload_n (pc := 8) dX12_resolve_8 rfl rfl ?_
  refine Rn.getI (pc := 9) (t := 0) flX12_156 hst dX12_resolve_9 ?_
  refine Rn.bipush (pc := 12) (v := nI 6) dX12_resolve_12 (by decide) ?_
  refine Rn.icmp_neN (pc := 14) (tgt := 49) dX12_resolve_14 (by decide) (by omega) (by omega) (fun c14 => ?_) (fun c14 => ?_)
  · exact absurd c14 (by decide)
  · refine Rn.iload (pc := 17) dX12_resolve_17 rfl ?_
    refine Rn.aload_n (pc := 19) dX12_resolve_19 rfl rfl ?_
    refine Rn.getI (pc := 20) (t := 0) flX12_193 hx dX12_resolve_20 ?_
    refine Rn.iadd (pc := 23) dX12_resolve_23 ?_
    refine Rn.istore (pc := 24) dX12_resolve_24 (by decide) rfl st11_6 ?_
    refine Rn.aload_n (pc := 26) dX12_resolve_26 rfl rfl ?_
    refine Rn.iload_n (pc := 27) dX12_resolve_27 rfl rfl ?_
    refine Rn.iload_n (pc := 28) dX12_resolve_28 rfl rfl ?_
    refine Rn.iload (pc := 29) dX12_resolve_29 rfl ?_
    refine Rn.callV (pc := 31) (as := [_, _, _]) cvX12_359 ⟨by decide, rfl⟩ ⟨by decide, by decide⟩ dX12_resolve_31 (Nat.le_of_ble_eq_true rfl) rfl (c_setHalf G s p (nI (ad bs B k) + x) hs (by omega)) ?_
    rintro _ _ ⟨rfl, rfl⟩
    refine Rn.aload_n (pc := 34) dX12_resolve_34 rfl rfl ?_
    refine Rn.iload_n (pc := 35) dX12_resolve_35 rfl rfl ?_
    refine Rn.iload_n (pc := 36) dX12_resolve_36 rfl rfl ?_
    refine Rn.iconst (pc := 37) (v := nI 2) dX12_resolve_37 (by decide) ?_
    refine Rn.iaddN (pc := 38) dX12_resolve_38 ?_
    refine Rn.iload (pc := 39) dX12_resolve_39 rfl ?_
    refine Rn.bipush (pc := 41) (v := nI 16) dX12_resolve_41 (by decide) ?_
    refine Rn.ishr (pc := 43) dX12_resolve_43 ?_
    refine Rn.callV (pc := 44) (as := [_, _, _]) cvX12_359 ⟨by decide, rfl⟩ ⟨by decide, by decide⟩ dX12_resolve_44 (Nat.le_of_ble_eq_true rfl) rfl (c_setHalf G s (p + 2) ((nI (ad bs B k) + x) >>> (nI 16 &&& 31)) hs (by omega)) ?_
    rintro _ _ ⟨rfl, rfl⟩
    refine Rn.iconst (pc := 47) (v := nI 1) dX12_resolve_47 (by decide) ?_
    refine Rn.zret (pc := 48) rfl rfl dX12_resolve_48 ?_
    refine ⟨rfl, (sH_fr.mono ?_).trans (sH_fr.mono ?_), sH2_b (fun j _ => rfl) (bt_16 _)⟩
    · intro k j s h; unfold S34 at h ⊢; omega
    · intro k j s h; unfold S34 at h ⊢; omega

set_option maxRecDepth 20000 in
set_option maxHeartbeats 4000000 in
theorem c_resolve_11 (G : GX) {M : Mem} (bs : Nat → Nat) (B : LB) (m s p k : Nat) (hm : m < 4) (hs : s < 12) (hp : p + 2 ≤ 1024) (hk : k < B.1) (h96 : B.1 ≤ 96) (hW : LbW B) (hB : LbM 0 B M) (hbs : ∀ s, s < 12 → mI M 32 0 s = nI (bs s)) (hbb : ∀ s, s < 12 → bs s ≤ 536880000) (hst : mI M 11 0 13 = nI 11) (c : Int32) (hcd : mI M 11 0 15 = c) : MetM G yX12_resolve iX12_resolve [vR 11 0, vI (nI m), vI (nI s), vI (nI p), vI (nI k)] M (fun r M' => r = some (vI (bI (rcO 1 (dI (ad bs B k) (bs s + p) 1) (nrB B k m)))) ∧ Fr (S34 (1024 * s + p) (1024 * s + p + 2)) M M' ∧ (rcO 1 (dI (ad bs B k) (bs s + p) 1) (nrB B k m) = true → ∀ j, j < 2 → mI M' 34 0 (1024 * s + p + j) = nI (hvB c (dI (ad bs B k) (bs s + p) 1) 1 j))) := by
  refine MetM.of (ls := [some (vR 11 0), some (vI (nI m)), some (vI (nI s)), some (vI (nI p)), some (vI (nI k)), none, none, none, none, none, none]) (by decide) rfl (Nat.le_of_ble_eq_true rfl) rfl ?_
  intro hM0
  obtain ⟨hb1, hb2, hb3, _⟩ := hB k hk
  rw [Nat.zero_add] at hb1 hb2 hb3
  have hw := hW.1 k hk
  have had : ad bs B k < 2 ^ 30 := by unfold ad; have := hbb (3 * (B.2 k).1 + (B.2 k).2.1) (by omega); omega
  have hbs9 := hbb s hs
  have K75 : ∀ ow : Bool, nrB B k m = ow → Rn G iX12_resolve (fun r M' => r = some (vI (bI (rcO 1 (dI (ad bs B k) (bs s + p) 1) (nrB B k m)))) ∧ Fr (S34 (1024 * s + p) (1024 * s + p + 2)) M M' ∧ (rcO 1 (dI (ad bs B k) (bs s + p) 1) (nrB B k m) = true → ∀ j, j < 2 → mI M' 34 0 (1024 * s + p + j) = nI (hvB c (dI (ad bs B k) (bs s + p) 1) 1 j))) 75 [some (vR 11 0), some (vI (nI m)), some (vI (nI s)), some (vI (nI p)), some (vI (nI k)), some (vI (nI (ad bs B k))), none, none, none, none, none] [vI (bI ow)] M := by
    intro ow how
    rw [← how]
    refine Rn.istore (pc := 75) dX12_resolve_75 (by decide) rfl st11_6 ?_
    refine Rn.aload_n (pc := 77) dX12_resolve_77 rfl rfl ?_
    refine Rn.getR (pc := 78) flX12_42 mu11_27 fx11_27 dX12_resolve_78 ?_
    refine Rn.iload_n (pc := 81) dX12_resolve_81 rfl rfl ?_
    refine Rn.ialdN (pc := 82) ak32 (by omega) (by decide) (hbs _ hs) dX12_resolve_82 ?_
    refine Rn.iload_n (pc := 83) dX12_resolve_83 rfl rfl ?_
    refine Rn.iaddN (pc := 84) dX12_resolve_84 ?_
    refine Rn.istore (pc := 85) dX12_resolve_85 (by decide) rfl st11_7 ?_
    refine Rn.aload_n (pc := 87) dX12_resolve_87 rfl rfl ?_
    refine Rn.getI (pc := 88) (t := 0) flX12_156 (show mI _ 11 0 13 = nI 11 from hst) dX12_resolve_88 ?_
    refine Rn.bipush (pc := 91) (v := nI 14) dX12_resolve_91 (by decide) ?_
    refine Rn.icmp_neN (pc := 93) (tgt := 159) dX12_resolve_93 (by decide) (by omega) (by omega) (fun c93 => ?_) (fun c93 => ?_)
    · refine Rn.iload (pc := 159) dX12_resolve_159 rfl ?_
      refine Rn.iload (pc := 161) dX12_resolve_161 rfl ?_
      refine Rn.isub (pc := 163) dX12_resolve_163 ?_
      refine Rn.iconst (pc := 164) (v := nI 4) dX12_resolve_164 (by decide) ?_
      refine Rn.isub (pc := 165) dX12_resolve_165 ?_
      rw [show nI (ad bs B k) - nI (bs s + p) - nI 4 = (dI (ad bs B k) (bs s + p) 1) from rfl]
      have ht := dI_t (re := 1) had (show bs s + p < 2 ^ 30 by omega)
      refine Rn.istore (pc := 166) dX12_resolve_166 (by decide) rfl st11_8 ?_
      refine Rn.iload (pc := 168) dX12_resolve_168 rfl ?_
      refine Rn.iconst (pc := 170) (v := nI 2) dX12_resolve_170 (by decide) ?_
      refine Rn.irem (pc := 171) dX12_resolve_171 (by decide) ?_
      refine Rn.if_eq (pc := 172) (y := 0) (tgt := 177) dX12_resolve_172 (by decide) (fun c172 => ?_) (fun c172 => ?_)
      · refine Rn.iload (pc := 177) dX12_resolve_177 rfl ?_
        refine Rn.iconst (pc := 179) (v := nI 1) dX12_resolve_179 (by decide) ?_
        refine Rn.ishr (pc := 180) dX12_resolve_180 ?_
        refine Rn.istore (pc := 181) dX12_resolve_181 (by decide) rfl st11_9 ?_
        refine Rn.aload_n (pc := 183) dX12_resolve_183 rfl rfl ?_
        refine Rn.getI (pc := 184) (t := 0) flX12_156 (show mI _ 11 0 13 = nI 11 from hst) dX12_resolve_184 ?_
        refine Rn.bipush (pc := 187) (v := nI 11) dX12_resolve_187 (by decide) ?_
        refine Rn.icmp_neN (pc := 189) (tgt := 231) dX12_resolve_189 (by decide) (by omega) (by omega) (fun c189 => ?_) (fun c189 => ?_)
        · exact absurd c189 (by decide)
        · refine Rn.aload_n (pc := 192) dX12_resolve_192 rfl rfl ?_
          refine Rn.iload_n (pc := 193) dX12_resolve_193 rfl rfl ?_
          refine Rn.iload_n (pc := 194) dX12_resolve_194 rfl rfl ?_
          refine Rn.aload_n (pc := 195) dX12_resolve_195 rfl rfl ?_
          refine Rn.getI (pc := 196) (t := 0) flX12_159 (show mI _ 11 0 15 = c from hcd) dX12_resolve_196 ?_
          refine Rn.iload (pc := 199) dX12_resolve_199 rfl ?_
          refine Rn.sipush (pc := 201) (v := nI 2047) dX12_resolve_201 (by decide) ?_
          refine Rn.iand (pc := 204) dX12_resolve_204 ?_
          refine Rn.iadd (pc := 205) dX12_resolve_205 ?_
          refine Rn.callV (pc := 206) (as := [_, _, _]) cvX12_359 ⟨by decide, rfl⟩ ⟨by decide, by decide⟩ dX12_resolve_206 (Nat.le_of_ble_eq_true rfl) rfl (c_setHalf G s p (c + ((dI (ad bs B k) (bs s + p) 1) >>> (nI 1 &&& 31) &&& nI 2047)) hs (by omega)) ?_
          rintro _ _ ⟨rfl, rfl⟩
          refine Rn.iload (pc := 209) dX12_resolve_209 rfl ?_
          refine Rn.sipush (pc := 211) (v := -2048) dX12_resolve_211 (by decide) ?_
          refine Rn.icmp_lt (pc := 214) (tgt := 229) dX12_resolve_214 (by decide) (fun c214 => ?_) (fun c214 => ?_)
          · refine Rn.iconst (pc := 229) (v := nI 0) dX12_resolve_229 (by decide) ?_
            refine Rn.zret (pc := 230) rfl rfl dX12_resolve_230 ?_
            have hF : rcO 1 (dI (ad bs B k) (bs s + p) 1) (nrB B k m) = false := by
              unfold rcO; rw [if_pos rfl]
              rw [decide_eq_false (p := -2048 ≤ (dI (ad bs B k) (bs s + p) 1).toInt) (by have := lt_m.mp c214; rw [show (-2048 : Int32).toInt = -2048 from rfl] at this; omega)]; simp
            rw [hF]
            exact ⟨rfl, sH_fr.mono (fun k j s h => by unfold S34 at h ⊢; omega), fun z => by cases z⟩
          · refine Rn.iload (pc := 217) dX12_resolve_217 rfl ?_
            refine Rn.sipush (pc := 219) (v := nI 2046) dX12_resolve_219 (by decide) ?_
            refine Rn.icmp_gt (pc := 222) (tgt := 229) dX12_resolve_222 (by decide) (fun c222 => ?_) (fun c222 => ?_)
            · refine Rn.iconst (pc := 229) (v := nI 0) dX12_resolve_229 (by decide) ?_
              refine Rn.zret (pc := 230) rfl rfl dX12_resolve_230 ?_
              have hF : rcO 1 (dI (ad bs B k) (bs s + p) 1) (nrB B k m) = false := by
                unfold rcO; rw [if_pos rfl]
                rw [decide_eq_false (p := (dI (ad bs B k) (bs s + p) 1).toInt ≤ 2046) (by have := lt_m.mp c222; rw [show (nI 2046).toInt = 2046 from rfl] at this; omega)]; simp
              rw [hF]
              exact ⟨rfl, sH_fr.mono (fun k j s h => by unfold S34 at h ⊢; omega), fun z => by cases z⟩
            · refine Rn.iconst (pc := 225) (v := nI 1) dX12_resolve_225 (by decide) ?_
              refine Rn.goto (pc := 226) (tgt := 230) dX12_resolve_226 (by decide) ?_
              refine Rn.zret (pc := 230) rfl rfl dX12_resolve_230 ?_
              have h1 : -2048 ≤ (dI (ad bs B k) (bs s + p) 1).toInt := by have := Int.not_lt.mp (fun q => c214 (lt_m.mpr q)); rw [show (-2048 : Int32).toInt = -2048 from rfl] at this; exact this
              have h2 : (dI (ad bs B k) (bs s + p) 1).toInt ≤ 2046 := by have := Int.not_lt.mp (fun q => c222 (lt_m.mpr q)); rw [show (nI 2046).toInt = 2046 from rfl] at this; exact this
              have h3 : (dI (ad bs B k) (bs s + p) 1).toInt % 2 = 0 := (rem0 _ 2 (Or.inl rfl)).mp c172
              have hF : rcO 1 (dI (ad bs B k) (bs s + p) 1) (nrB B k m) = true := by
                unfold rcO; rw [if_pos rfl]
                rw [decide_eq_true h1, decide_eq_true h2, decide_eq_true h3]; rfl
              rw [hF]
              refine ⟨rfl, sH_fr.mono (fun k j s h => by unfold S34 at h ⊢; omega), fun _ => ?_⟩
              intro j hj
              rw [sH_b j hj, hvB, if_pos hj, hv0, if_pos rfl]
      · refine Rn.iconst (pc := 175) (v := nI 0) dX12_resolve_175 (by decide) ?_
        refine Rn.zret (pc := 176) rfl rfl dX12_resolve_176 ?_
        have hF : rcO 1 (dI (ad bs B k) (bs s + p) 1) (nrB B k m) = false := by
          unfold rcO; rw [if_pos rfl]
          rw [decide_eq_false (p := (dI (ad bs B k) (bs s + p) 1).toInt % 2 = 0) (fun q => c172 ((rem0 _ 2 (Or.inl rfl)).mpr q))]; simp
        rw [hF]
        exact ⟨rfl, Fr.refl M, fun z => by cases z⟩
    · exact absurd c93 (by decide)
  refine Rn.aload_n (pc := 0) dX12_resolve_0 rfl rfl ?_
  refine Rn.iload (pc := 1) dX12_resolve_1 rfl ?_
  refine Rn.callV (pc := 3) (as := [_]) cvX12_356 ⟨by decide, rfl⟩ ⟨by decide, by decide⟩ dX12_resolve_3 (Nat.le_of_ble_eq_true rfl) rfl (c_addressOf G bs B k hk h96 hW hB hbs) ?_
  rintro _ M9 ⟨rfl, h9⟩
  rw [h9]
  refine Rn.istore (pc := 6) dX12_resolve_6 (by decide) rfl st11_5 ?_
  refine Rn.aload_n (pc := 8) dX12_resolve_8 rfl rfl ?_
  refine Rn.getI (pc := 9) (t := 0) flX12_156 (show mI _ 11 0 13 = nI 11 from hst) dX12_resolve_9 ?_
  refine Rn.bipush (pc := 12) (v := nI 6) dX12_resolve_12 (by decide) ?_
  refine Rn.icmp_neN (pc := 14) (tgt := 49) dX12_resolve_14 (by decide) (by omega) (by omega) (fun c14 => ?_) (fun c14 => ?_)
  · refine Rn.aload_n (pc := 49) dX12_resolve_49 rfl rfl ?_
    refine Rn.getR (pc := 50) flX12_26 mu11_22 fx11_22 dX12_resolve_50 ?_
    refine Rn.iload (pc := 53) dX12_resolve_53 rfl ?_
    refine Rn.ialdN (pc := 55) ak27 (by omega) (by decide) hb1 dX12_resolve_55 ?_
    refine Rn.iload_n (pc := 56) dX12_resolve_56 rfl rfl ?_
    refine Rn.icmp_neN (pc := 57) (tgt := 74) dX12_resolve_57 (by decide) (by omega) (by omega) (fun c57 => ?_) (fun c57 => ?_)
    · refine Rn.iconst (pc := 74) (v := nI 0) dX12_resolve_74 (by decide) ?_
      exact K75 false (decide_eq_false (fun q => c57 q.1))
    · refine Rn.aload_n (pc := 60) dX12_resolve_60 rfl rfl ?_
      refine Rn.getR (pc := 61) flX12_29 mu11_23 fx11_23 dX12_resolve_61 ?_
      refine Rn.iload (pc := 64) dX12_resolve_64 rfl ?_
      refine Rn.ialdN (pc := 66) ak28 (by omega) (by decide) hb2 dX12_resolve_66 ?_
      refine Rn.if_ne (pc := 67) (y := 0) (tgt := 74) dX12_resolve_67 (by decide) (fun c67 => ?_) (fun c67 => ?_)
      · refine Rn.iconst (pc := 74) (v := nI 0) dX12_resolve_74 (by decide) ?_
        exact K75 false (decide_eq_false (fun q => c67 (by rw [q.2]; rfl)))
      · refine Rn.iconst (pc := 70) (v := nI 1) dX12_resolve_70 (by decide) ?_
        refine Rn.goto (pc := 71) (tgt := 75) dX12_resolve_71 (by decide) ?_
        exact K75 true (decide_eq_true ⟨c57, (nI_eq (by omega) (by decide)).mp c67⟩)
  · exact absurd c14 (by decide)

set_option maxRecDepth 20000 in
set_option maxHeartbeats 4000000 in
theorem c_resolve_12 (G : GX) {M : Mem} (bs : Nat → Nat) (B : LB) (m s p k : Nat) (hm : m < 4) (hs : s < 12) (hp : p + 2 ≤ 1024) (hk : k < B.1) (h96 : B.1 ≤ 96) (hW : LbW B) (hB : LbM 0 B M) (hbs : ∀ s, s < 12 → mI M 32 0 s = nI (bs s)) (hbb : ∀ s, s < 12 → bs s ≤ 536880000) (hst : mI M 11 0 13 = nI 12) (c : Int32) (hcd : mI M 11 0 15 = c) : MetM G yX12_resolve iX12_resolve [vR 11 0, vI (nI m), vI (nI s), vI (nI p), vI (nI k)] M (fun r M' => r = some (vI (bI (rcO 2 (dI (ad bs B k) (bs s + p) 2) (nrB B k m)))) ∧ Fr (S34 (1024 * s + p) (1024 * s + p + 2)) M M' ∧ (rcO 2 (dI (ad bs B k) (bs s + p) 2) (nrB B k m) = true → ∀ j, j < 2 → mI M' 34 0 (1024 * s + p + j) = nI (hvB c (dI (ad bs B k) (bs s + p) 2) 2 j))) := by
  refine MetM.of (ls := [some (vR 11 0), some (vI (nI m)), some (vI (nI s)), some (vI (nI p)), some (vI (nI k)), none, none, none, none, none, none]) (by decide) rfl (Nat.le_of_ble_eq_true rfl) rfl ?_
  intro hM0
  obtain ⟨hb1, hb2, hb3, _⟩ := hB k hk
  rw [Nat.zero_add] at hb1 hb2 hb3
  have hw := hW.1 k hk
  have had : ad bs B k < 2 ^ 30 := by unfold ad; have := hbb (3 * (B.2 k).1 + (B.2 k).2.1) (by omega); omega
  have hbs9 := hbb s hs
  have K75 : ∀ ow : Bool, nrB B k m = ow → Rn G iX12_resolve (fun r M' => r = some (vI (bI (rcO 2 (dI (ad bs B k) (bs s + p) 2) (nrB B k m)))) ∧ Fr (S34 (1024 * s + p) (1024 * s + p + 2)) M M' ∧ (rcO 2 (dI (ad bs B k) (bs s + p) 2) (nrB B k m) = true → ∀ j, j < 2 → mI M' 34 0 (1024 * s + p + j) = nI (hvB c (dI (ad bs B k) (bs s + p) 2) 2 j))) 75 [some (vR 11 0), some (vI (nI m)), some (vI (nI s)), some (vI (nI p)), some (vI (nI k)), some (vI (nI (ad bs B k))), none, none, none, none, none] [vI (bI ow)] M := by
    intro ow how
    rw [← how]
    refine Rn.istore (pc := 75) dX12_resolve_75 (by decide) rfl st11_6 ?_
    refine Rn.aload_n (pc := 77) dX12_resolve_77 rfl rfl ?_
    refine Rn.getR (pc := 78) flX12_42 mu11_27 fx11_27 dX12_resolve_78 ?_
    refine Rn.iload_n (pc := 81) dX12_resolve_81 rfl rfl ?_
    refine Rn.ialdN (pc := 82) ak32 (by omega) (by decide) (hbs _ hs) dX12_resolve_82 ?_
    refine Rn.iload_n (pc := 83) dX12_resolve_83 rfl rfl ?_
    refine Rn.iaddN (pc := 84) dX12_resolve_84 ?_
    refine Rn.istore (pc := 85) dX12_resolve_85 (by decide) rfl st11_7 ?_
    refine Rn.aload_n (pc := 87) dX12_resolve_87 rfl rfl ?_
    refine Rn.getI (pc := 88) (t := 0) flX12_156 (show mI _ 11 0 13 = nI 12 from hst) dX12_resolve_88 ?_
    refine Rn.bipush (pc := 91) (v := nI 14) dX12_resolve_91 (by decide) ?_
    refine Rn.icmp_neN (pc := 93) (tgt := 159) dX12_resolve_93 (by decide) (by omega) (by omega) (fun c93 => ?_) (fun c93 => ?_)
    · refine Rn.iload (pc := 159) dX12_resolve_159 rfl ?_
      refine Rn.iload (pc := 161) dX12_resolve_161 rfl ?_
      refine Rn.isub (pc := 163) dX12_resolve_163 ?_
      refine Rn.iconst (pc := 164) (v := nI 4) dX12_resolve_164 (by decide) ?_
      refine Rn.isub (pc := 165) dX12_resolve_165 ?_
      rw [show nI (ad bs B k) - nI (bs s + p) - nI 4 = (dI (ad bs B k) (bs s + p) 2) from rfl]
      have ht := dI_t (re := 2) had (show bs s + p < 2 ^ 30 by omega)
      refine Rn.istore (pc := 166) dX12_resolve_166 (by decide) rfl st11_8 ?_
      refine Rn.iload (pc := 168) dX12_resolve_168 rfl ?_
      refine Rn.iconst (pc := 170) (v := nI 2) dX12_resolve_170 (by decide) ?_
      refine Rn.irem (pc := 171) dX12_resolve_171 (by decide) ?_
      refine Rn.if_eq (pc := 172) (y := 0) (tgt := 177) dX12_resolve_172 (by decide) (fun c172 => ?_) (fun c172 => ?_)
      · refine Rn.iload (pc := 177) dX12_resolve_177 rfl ?_
        refine Rn.iconst (pc := 179) (v := nI 1) dX12_resolve_179 (by decide) ?_
        refine Rn.ishr (pc := 180) dX12_resolve_180 ?_
        refine Rn.istore (pc := 181) dX12_resolve_181 (by decide) rfl st11_9 ?_
        refine Rn.aload_n (pc := 183) dX12_resolve_183 rfl rfl ?_
        refine Rn.getI (pc := 184) (t := 0) flX12_156 (show mI _ 11 0 13 = nI 12 from hst) dX12_resolve_184 ?_
        refine Rn.bipush (pc := 187) (v := nI 11) dX12_resolve_187 (by decide) ?_
        refine Rn.icmp_neN (pc := 189) (tgt := 231) dX12_resolve_189 (by decide) (by omega) (by omega) (fun c189 => ?_) (fun c189 => ?_)
        · refine Rn.aload_n (pc := 231) dX12_resolve_231 rfl rfl ?_
          refine Rn.getI (pc := 232) (t := 0) flX12_156 (show mI _ 11 0 13 = nI 12 from hst) dX12_resolve_232 ?_
          refine Rn.bipush (pc := 235) (v := nI 12) dX12_resolve_235 (by decide) ?_
          refine Rn.icmp_neN (pc := 237) (tgt := 284) dX12_resolve_237 (by decide) (by omega) (by omega) (fun c237 => ?_) (fun c237 => ?_)
          · exact absurd c237 (by decide)
          · refine Rn.aload_n (pc := 240) dX12_resolve_240 rfl rfl ?_
            refine Rn.iload_n (pc := 241) dX12_resolve_241 rfl rfl ?_
            refine Rn.iload_n (pc := 242) dX12_resolve_242 rfl rfl ?_
            refine Rn.aload_n (pc := 243) dX12_resolve_243 rfl rfl ?_
            refine Rn.getI (pc := 244) (t := 0) flX12_159 (show mI _ 11 0 15 = c from hcd) dX12_resolve_244 ?_
            refine Rn.iload (pc := 247) dX12_resolve_247 rfl ?_
            refine Rn.sipush (pc := 249) (v := nI 255) dX12_resolve_249 (by decide) ?_
            refine Rn.iand (pc := 252) dX12_resolve_252 ?_
            refine Rn.iadd (pc := 253) dX12_resolve_253 ?_
            refine Rn.callV (pc := 254) (as := [_, _, _]) cvX12_359 ⟨by decide, rfl⟩ ⟨by decide, by decide⟩ dX12_resolve_254 (Nat.le_of_ble_eq_true rfl) rfl (c_setHalf G s p (c + ((dI (ad bs B k) (bs s + p) 2) >>> (nI 1 &&& 31) &&& nI 255)) hs (by omega)) ?_
            rintro _ _ ⟨rfl, rfl⟩
            refine Rn.iload (pc := 257) dX12_resolve_257 rfl ?_
            refine Rn.if_eqB (pc := 259) (tgt := 282) dX12_resolve_259 (by decide) (fun c259 => ?_) (fun c259 => ?_)
            · refine Rn.iconst (pc := 282) (v := nI 0) dX12_resolve_282 (by decide) ?_
              refine Rn.zret (pc := 283) rfl rfl dX12_resolve_283 ?_
              have hF : rcO 2 (dI (ad bs B k) (bs s + p) 2) (nrB B k m) = false := by
                unfold rcO; rw [if_neg (by decide), if_pos rfl]
                rw [show nrB B k m = false from c259]; simp
              rw [hF]
              exact ⟨rfl, sH_fr.mono (fun k j s h => by unfold S34 at h ⊢; omega), fun z => by cases z⟩
            · refine Rn.iload (pc := 262) dX12_resolve_262 rfl ?_
              refine Rn.sipush (pc := 264) (v := -256) dX12_resolve_264 (by decide) ?_
              refine Rn.icmp_lt (pc := 267) (tgt := 282) dX12_resolve_267 (by decide) (fun c267 => ?_) (fun c267 => ?_)
              · refine Rn.iconst (pc := 282) (v := nI 0) dX12_resolve_282 (by decide) ?_
                refine Rn.zret (pc := 283) rfl rfl dX12_resolve_283 ?_
                have hF : rcO 2 (dI (ad bs B k) (bs s + p) 2) (nrB B k m) = false := by
                  unfold rcO; rw [if_neg (by decide), if_pos rfl]
                  rw [decide_eq_false (p := -256 ≤ (dI (ad bs B k) (bs s + p) 2).toInt) (by have := lt_m.mp c267; rw [show (-256 : Int32).toInt = -256 from rfl] at this; omega)]; simp
                rw [hF]
                exact ⟨rfl, sH_fr.mono (fun k j s h => by unfold S34 at h ⊢; omega), fun z => by cases z⟩
              · refine Rn.iload (pc := 270) dX12_resolve_270 rfl ?_
                refine Rn.sipush (pc := 272) (v := nI 254) dX12_resolve_272 (by decide) ?_
                refine Rn.icmp_gt (pc := 275) (tgt := 282) dX12_resolve_275 (by decide) (fun c275 => ?_) (fun c275 => ?_)
                · refine Rn.iconst (pc := 282) (v := nI 0) dX12_resolve_282 (by decide) ?_
                  refine Rn.zret (pc := 283) rfl rfl dX12_resolve_283 ?_
                  have hF : rcO 2 (dI (ad bs B k) (bs s + p) 2) (nrB B k m) = false := by
                    unfold rcO; rw [if_neg (by decide), if_pos rfl]
                    rw [decide_eq_false (p := (dI (ad bs B k) (bs s + p) 2).toInt ≤ 254) (by have := lt_m.mp c275; rw [show (nI 254).toInt = 254 from rfl] at this; omega)]; simp
                  rw [hF]
                  exact ⟨rfl, sH_fr.mono (fun k j s h => by unfold S34 at h ⊢; omega), fun z => by cases z⟩
                · refine Rn.iconst (pc := 278) (v := nI 1) dX12_resolve_278 (by decide) ?_
                  refine Rn.goto (pc := 279) (tgt := 283) dX12_resolve_279 (by decide) ?_
                  refine Rn.zret (pc := 283) rfl rfl dX12_resolve_283 ?_
                  have h1 : -256 ≤ (dI (ad bs B k) (bs s + p) 2).toInt := by have := Int.not_lt.mp (fun q => c267 (lt_m.mpr q)); rw [show (-256 : Int32).toInt = -256 from rfl] at this; exact this
                  have h2 : (dI (ad bs B k) (bs s + p) 2).toInt ≤ 254 := by have := Int.not_lt.mp (fun q => c275 (lt_m.mpr q)); rw [show (nI 254).toInt = 254 from rfl] at this; exact this
                  have h3 : (dI (ad bs B k) (bs s + p) 2).toInt % 2 = 0 := (rem0 _ 2 (Or.inl rfl)).mp c172
                  have hF : rcO 2 (dI (ad bs B k) (bs s + p) 2) (nrB B k m) = true := by
                    unfold rcO; rw [if_neg (by decide), if_pos rfl]
                    rw [decide_eq_true h1, decide_eq_true h2, decide_eq_true h3, show nrB B k m = true from c259]; rfl
                  rw [hF]
                  refine ⟨rfl, sH_fr.mono (fun k j s h => by unfold S34 at h ⊢; omega), fun _ => ?_⟩
                  intro j hj
                  rw [sH_b j hj, hvB, if_pos hj, hv0, if_neg (by decide), if_pos rfl]
        · exact absurd c189 (by decide)
      · refine Rn.iconst (pc := 175) (v := nI 0) dX12_resolve_175 (by decide) ?_
        refine Rn.zret (pc := 176) rfl rfl dX12_resolve_176 ?_
        have hF : rcO 2 (dI (ad bs B k) (bs s + p) 2) (nrB B k m) = false := by
          unfold rcO; rw [if_neg (by decide), if_pos rfl]
          rw [decide_eq_false (p := (dI (ad bs B k) (bs s + p) 2).toInt % 2 = 0) (fun q => c172 ((rem0 _ 2 (Or.inl rfl)).mpr q))]; simp
        rw [hF]
        exact ⟨rfl, Fr.refl M, fun z => by cases z⟩
    · exact absurd c93 (by decide)
  refine Rn.aload_n (pc := 0) dX12_resolve_0 rfl rfl ?_
  refine Rn.iload (pc := 1) dX12_resolve_1 rfl ?_
  refine Rn.callV (pc := 3) (as := [_]) cvX12_356 ⟨by decide, rfl⟩ ⟨by decide, by decide⟩ dX12_resolve_3 (Nat.le_of_ble_eq_true rfl) rfl (c_addressOf G bs B k hk h96 hW hB hbs) ?_
  rintro _ M9 ⟨rfl, h9⟩
  rw [h9]
  refine Rn.istore (pc := 6) dX12_resolve_6 (by decide) rfl st11_5 ?_
  refine Rn.aload_n (pc := 8) dX12_resolve_8 rfl rfl ?_
  refine Rn.getI (pc := 9) (t := 0) flX12_156 (show mI _ 11 0 13 = nI 12 from hst) dX12_resolve_9 ?_
  refine Rn.bipush (pc := 12) (v := nI 6) dX12_resolve_12 (by decide) ?_
  refine Rn.icmp_neN (pc := 14) (tgt := 49) dX12_resolve_14 (by decide) (by omega) (by omega) (fun c14 => ?_) (fun c14 => ?_)
  · refine Rn.aload_n (pc := 49) dX12_resolve_49 rfl rfl ?_
    refine Rn.getR (pc := 50) flX12_26 mu11_22 fx11_22 dX12_resolve_50 ?_
    refine Rn.iload (pc := 53) dX12_resolve_53 rfl ?_
    refine Rn.ialdN (pc := 55) ak27 (by omega) (by decide) hb1 dX12_resolve_55 ?_
    refine Rn.iload_n (pc := 56) dX12_resolve_56 rfl rfl ?_
    refine Rn.icmp_neN (pc := 57) (tgt := 74) dX12_resolve_57 (by decide) (by omega) (by omega) (fun c57 => ?_) (fun c57 => ?_)
    · refine Rn.iconst (pc := 74) (v := nI 0) dX12_resolve_74 (by decide) ?_
      exact K75 false (decide_eq_false (fun q => c57 q.1))
    · refine Rn.aload_n (pc := 60) dX12_resolve_60 rfl rfl ?_
      refine Rn.getR (pc := 61) flX12_29 mu11_23 fx11_23 dX12_resolve_61 ?_
      refine Rn.iload (pc := 64) dX12_resolve_64 rfl ?_
      refine Rn.ialdN (pc := 66) ak28 (by omega) (by decide) hb2 dX12_resolve_66 ?_
      refine Rn.if_ne (pc := 67) (y := 0) (tgt := 74) dX12_resolve_67 (by decide) (fun c67 => ?_) (fun c67 => ?_)
      · refine Rn.iconst (pc := 74) (v := nI 0) dX12_resolve_74 (by decide) ?_
        exact K75 false (decide_eq_false (fun q => c67 (by rw [q.2]; rfl)))
      · refine Rn.iconst (pc := 70) (v := nI 1) dX12_resolve_70 (by decide) ?_
        refine Rn.goto (pc := 71) (tgt := 75) dX12_resolve_71 (by decide) ?_
        exact K75 true (decide_eq_true ⟨c57, (nI_eq (by omega) (by decide)).mp c67⟩)
  · exact absurd c14 (by decide)

set_option maxRecDepth 20000 in
set_option maxHeartbeats 4000000 in
theorem c_resolve_13 (G : GX) {M : Mem} (bs : Nat → Nat) (B : LB) (m s p k : Nat) (hm : m < 4) (hs : s < 12) (hp : p + 4 ≤ 1024) (hk : k < B.1) (h96 : B.1 ≤ 96) (hW : LbW B) (hB : LbM 0 B M) (hbs : ∀ s, s < 12 → mI M 32 0 s = nI (bs s)) (hbb : ∀ s, s < 12 → bs s ≤ 536880000) (hst : mI M 11 0 13 = nI 13) (c : Int32) (hc13 : c = nI 61440) : MetM G yX12_resolve iX12_resolve [vR 11 0, vI (nI m), vI (nI s), vI (nI p), vI (nI k)] M (fun r M' => r = some (vI (bI (rcO 3 (dI (ad bs B k) (bs s + p) 3) (nrB B k m)))) ∧ Fr (S34 (1024 * s + p) (1024 * s + p + 4)) M M' ∧ (rcO 3 (dI (ad bs B k) (bs s + p) 3) (nrB B k m) = true → ∀ j, j < 4 → mI M' 34 0 (1024 * s + p + j) = nI (hvB c (dI (ad bs B k) (bs s + p) 3) 3 j))) := by
  refine MetM.of (ls := [some (vR 11 0), some (vI (nI m)), some (vI (nI s)), some (vI (nI p)), some (vI (nI k)), none, none, none, none, none, none]) (by decide) rfl (Nat.le_of_ble_eq_true rfl) rfl ?_
  intro hM0
  obtain ⟨hb1, hb2, hb3, _⟩ := hB k hk
  rw [Nat.zero_add] at hb1 hb2 hb3
  have hw := hW.1 k hk
  have had : ad bs B k < 2 ^ 30 := by unfold ad; have := hbb (3 * (B.2 k).1 + (B.2 k).2.1) (by omega); omega
  have hbs9 := hbb s hs
  have K75 : ∀ ow : Bool, nrB B k m = ow → Rn G iX12_resolve (fun r M' => r = some (vI (bI (rcO 3 (dI (ad bs B k) (bs s + p) 3) (nrB B k m)))) ∧ Fr (S34 (1024 * s + p) (1024 * s + p + 4)) M M' ∧ (rcO 3 (dI (ad bs B k) (bs s + p) 3) (nrB B k m) = true → ∀ j, j < 4 → mI M' 34 0 (1024 * s + p + j) = nI (hvB c (dI (ad bs B k) (bs s + p) 3) 3 j))) 75 [some (vR 11 0), some (vI (nI m)), some (vI (nI s)), some (vI (nI p)), some (vI (nI k)), some (vI (nI (ad bs B k))), none, none, none, none, none] [vI (bI ow)] M := by
    intro ow how
    rw [← how]
    refine Rn.istore (pc := 75) dX12_resolve_75 (by decide) rfl st11_6 ?_
    refine Rn.aload_n (pc := 77) dX12_resolve_77 rfl rfl ?_
    refine Rn.getR (pc := 78) flX12_42 mu11_27 fx11_27 dX12_resolve_78 ?_
    refine Rn.iload_n (pc := 81) dX12_resolve_81 rfl rfl ?_
    refine Rn.ialdN (pc := 82) ak32 (by omega) (by decide) (hbs _ hs) dX12_resolve_82 ?_
    refine Rn.iload_n (pc := 83) dX12_resolve_83 rfl rfl ?_
    refine Rn.iaddN (pc := 84) dX12_resolve_84 ?_
    refine Rn.istore (pc := 85) dX12_resolve_85 (by decide) rfl st11_7 ?_
    refine Rn.aload_n (pc := 87) dX12_resolve_87 rfl rfl ?_
    refine Rn.getI (pc := 88) (t := 0) flX12_156 (show mI _ 11 0 13 = nI 13 from hst) dX12_resolve_88 ?_
    refine Rn.bipush (pc := 91) (v := nI 14) dX12_resolve_91 (by decide) ?_
    refine Rn.icmp_neN (pc := 93) (tgt := 159) dX12_resolve_93 (by decide) (by omega) (by omega) (fun c93 => ?_) (fun c93 => ?_)
    · refine Rn.iload (pc := 159) dX12_resolve_159 rfl ?_
      refine Rn.iload (pc := 161) dX12_resolve_161 rfl ?_
      refine Rn.isub (pc := 163) dX12_resolve_163 ?_
      refine Rn.iconst (pc := 164) (v := nI 4) dX12_resolve_164 (by decide) ?_
      refine Rn.isub (pc := 165) dX12_resolve_165 ?_
      rw [show nI (ad bs B k) - nI (bs s + p) - nI 4 = (dI (ad bs B k) (bs s + p) 3) from rfl]
      have ht := dI_t (re := 3) had (show bs s + p < 2 ^ 30 by omega)
      refine Rn.istore (pc := 166) dX12_resolve_166 (by decide) rfl st11_8 ?_
      refine Rn.iload (pc := 168) dX12_resolve_168 rfl ?_
      refine Rn.iconst (pc := 170) (v := nI 2) dX12_resolve_170 (by decide) ?_
      refine Rn.irem (pc := 171) dX12_resolve_171 (by decide) ?_
      refine Rn.if_eq (pc := 172) (y := 0) (tgt := 177) dX12_resolve_172 (by decide) (fun c172 => ?_) (fun c172 => ?_)
      · refine Rn.iload (pc := 177) dX12_resolve_177 rfl ?_
        refine Rn.iconst (pc := 179) (v := nI 1) dX12_resolve_179 (by decide) ?_
        refine Rn.ishr (pc := 180) dX12_resolve_180 ?_
        refine Rn.istore (pc := 181) dX12_resolve_181 (by decide) rfl st11_9 ?_
        refine Rn.aload_n (pc := 183) dX12_resolve_183 rfl rfl ?_
        refine Rn.getI (pc := 184) (t := 0) flX12_156 (show mI _ 11 0 13 = nI 13 from hst) dX12_resolve_184 ?_
        refine Rn.bipush (pc := 187) (v := nI 11) dX12_resolve_187 (by decide) ?_
        refine Rn.icmp_neN (pc := 189) (tgt := 231) dX12_resolve_189 (by decide) (by omega) (by omega) (fun c189 => ?_) (fun c189 => ?_)
        · refine Rn.aload_n (pc := 231) dX12_resolve_231 rfl rfl ?_
          refine Rn.getI (pc := 232) (t := 0) flX12_156 (show mI _ 11 0 13 = nI 13 from hst) dX12_resolve_232 ?_
          refine Rn.bipush (pc := 235) (v := nI 12) dX12_resolve_235 (by decide) ?_
          refine Rn.icmp_neN (pc := 237) (tgt := 284) dX12_resolve_237 (by decide) (by omega) (by omega) (fun c237 => ?_) (fun c237 => ?_)
          · refine Rn.iload (pc := 284) dX12_resolve_284 rfl ?_
            refine Rn.bipush (pc := 286) (v := nI 23) dX12_resolve_286 (by decide) ?_
            refine Rn.ishr (pc := 288) dX12_resolve_288 ?_
            refine Rn.iconst (pc := 289) (v := nI 1) dX12_resolve_289 (by decide) ?_
            refine Rn.iand (pc := 290) dX12_resolve_290 ?_
            refine Rn.istore (pc := 291) dX12_resolve_291 (by decide) rfl st11_10 ?_
            refine Rn.aload_n (pc := 293) dX12_resolve_293 rfl rfl ?_
            refine Rn.iload_n (pc := 294) dX12_resolve_294 rfl rfl ?_
            refine Rn.iload_n (pc := 295) dX12_resolve_295 rfl rfl ?_
            refine Rn.ldc_w (pc := 296) dX12_resolve_296 wcX12_362 ?_
            refine Rn.sipush (pc := 299) (v := nI 1024) dX12_resolve_299 (by decide) ?_
            refine Rn.iload (pc := 302) dX12_resolve_302 rfl ?_
            refine Rn.imul (pc := 304) dX12_resolve_304 ?_
            refine Rn.iadd (pc := 305) dX12_resolve_305 ?_
            refine Rn.iload (pc := 306) dX12_resolve_306 rfl ?_
            refine Rn.bipush (pc := 308) (v := nI 11) dX12_resolve_308 (by decide) ?_
            refine Rn.ishr (pc := 310) dX12_resolve_310 ?_
            refine Rn.sipush (pc := 311) (v := nI 1023) dX12_resolve_311 (by decide) ?_
            refine Rn.iand (pc := 314) dX12_resolve_314 ?_
            refine Rn.iadd (pc := 315) dX12_resolve_315 ?_
            refine Rn.callV (pc := 316) (as := [_, _, _]) cvX12_359 ⟨by decide, rfl⟩ ⟨by decide, by decide⟩ dX12_resolve_316 (Nat.le_of_ble_eq_true rfl) rfl (c_setHalf G s p (nI 61440 + nI 1024 * ((dI (ad bs B k) (bs s + p) 3) >>> (nI 1 &&& 31) >>> (nI 23 &&& 31) &&& nI 1) + ((dI (ad bs B k) (bs s + p) 3) >>> (nI 1 &&& 31) >>> (nI 11 &&& 31) &&& nI 1023)) hs (by omega)) ?_
            rintro _ _ ⟨rfl, rfl⟩
            refine Rn.aload_n (pc := 319) dX12_resolve_319 rfl rfl ?_
            refine Rn.iload_n (pc := 320) dX12_resolve_320 rfl rfl ?_
            refine Rn.iload_n (pc := 321) dX12_resolve_321 rfl rfl ?_
            refine Rn.iconst (pc := 322) (v := nI 2) dX12_resolve_322 (by decide) ?_
            refine Rn.iaddN (pc := 323) dX12_resolve_323 ?_
            refine Rn.ldc_w (pc := 324) dX12_resolve_324 wcX12_293 ?_
            refine Rn.iload (pc := 327) dX12_resolve_327 rfl ?_
            refine Rn.bipush (pc := 329) (v := nI 22) dX12_resolve_329 (by decide) ?_
            refine Rn.ishr (pc := 331) dX12_resolve_331 ?_
            refine Rn.iconst (pc := 332) (v := nI 1) dX12_resolve_332 (by decide) ?_
            refine Rn.iand (pc := 333) dX12_resolve_333 ?_
            refine Rn.iload (pc := 334) dX12_resolve_334 rfl ?_
            refine Rn.icmp_ne (pc := 336) (tgt := 345) dX12_resolve_336 (by decide) (fun c336 => ?_) (fun c336 => ?_)
            · refine Rn.iconst (pc := 345) (v := nI 0) dX12_resolve_345 (by decide) ?_
              refine Rn.iaddN (pc := 346) dX12_resolve_346 ?_
              refine Rn.iload (pc := 347) dX12_resolve_347 rfl ?_
              refine Rn.bipush (pc := 349) (v := nI 21) dX12_resolve_349 (by decide) ?_
              refine Rn.ishr (pc := 351) dX12_resolve_351 ?_
              refine Rn.iconst (pc := 352) (v := nI 1) dX12_resolve_352 (by decide) ?_
              refine Rn.iand (pc := 353) dX12_resolve_353 ?_
              refine Rn.iload (pc := 354) dX12_resolve_354 rfl ?_
              refine Rn.icmp_ne (pc := 356) (tgt := 365) dX12_resolve_356 (by decide) (fun c356 => ?_) (fun c356 => ?_)
              · refine Rn.iconst (pc := 365) (v := nI 0) dX12_resolve_365 (by decide) ?_
                refine Rn.iaddN (pc := 366) dX12_resolve_366 ?_
                refine Rn.iload (pc := 367) dX12_resolve_367 rfl ?_
                refine Rn.sipush (pc := 369) (v := nI 2047) dX12_resolve_369 (by decide) ?_
                refine Rn.iand (pc := 372) dX12_resolve_372 ?_
                refine Rn.iadd (pc := 373) dX12_resolve_373 ?_
                refine Rn.callV (pc := 374) (as := [_, _, _]) cvX12_359 ⟨by decide, rfl⟩ ⟨by decide, by decide⟩ dX12_resolve_374 (Nat.le_of_ble_eq_true rfl) rfl (c_setHalf G s (p + 2) (nI 53248 + nI 0 + nI 0 + ((dI (ad bs B k) (bs s + p) 3) >>> (nI 1 &&& 31) &&& nI 2047)) hs (by omega)) ?_
                rintro _ _ ⟨rfl, rfl⟩
                refine Rn.iload (pc := 377) dX12_resolve_377 rfl ?_
                refine Rn.ldc_w (pc := 379) dX12_resolve_379 wcX12_363 ?_
                refine Rn.icmp_lt (pc := 382) (tgt := 397) dX12_resolve_382 (by decide) (fun c382 => ?_) (fun c382 => ?_)
                · refine Rn.iconst (pc := 397) (v := nI 0) dX12_resolve_397 (by decide) ?_
                  refine Rn.zret (pc := 398) rfl rfl dX12_resolve_398 ?_
                  have hF : rcO 3 (dI (ad bs B k) (bs s + p) 3) (nrB B k m) = false := by
                    unfold rcO; rw [if_neg (by decide), if_neg (by decide), if_pos rfl]
                    rw [decide_eq_false (p := -16777216 ≤ (dI (ad bs B k) (bs s + p) 3).toInt) (by have := lt_m.mp c382; rw [show (-16777216 : Int32).toInt = -16777216 from rfl] at this; omega)]; simp
                  rw [hF]
                  exact ⟨rfl, (sH_fr.mono (fun k j s h => by unfold S34 at h ⊢; omega)).trans (sH_fr.mono (fun k j s h => by unfold S34 at h ⊢; omega)), fun z => by cases z⟩
                · refine Rn.iload (pc := 385) dX12_resolve_385 rfl ?_
                  refine Rn.ldc_w (pc := 387) dX12_resolve_387 wcX12_364 ?_
                  refine Rn.icmp_gt (pc := 390) (tgt := 397) dX12_resolve_390 (by decide) (fun c390 => ?_) (fun c390 => ?_)
                  · refine Rn.iconst (pc := 397) (v := nI 0) dX12_resolve_397 (by decide) ?_
                    refine Rn.zret (pc := 398) rfl rfl dX12_resolve_398 ?_
                    have hF : rcO 3 (dI (ad bs B k) (bs s + p) 3) (nrB B k m) = false := by
                      unfold rcO; rw [if_neg (by decide), if_neg (by decide), if_pos rfl]
                      rw [decide_eq_false (p := (dI (ad bs B k) (bs s + p) 3).toInt ≤ 16777214) (by have := lt_m.mp c390; rw [show (nI 16777214).toInt = 16777214 from rfl] at this; omega)]; simp
                    rw [hF]
                    exact ⟨rfl, (sH_fr.mono (fun k j s h => by unfold S34 at h ⊢; omega)).trans (sH_fr.mono (fun k j s h => by unfold S34 at h ⊢; omega)), fun z => by cases z⟩
                  · refine Rn.iconst (pc := 393) (v := nI 1) dX12_resolve_393 (by decide) ?_
                    refine Rn.goto (pc := 394) (tgt := 398) dX12_resolve_394 (by decide) ?_
                    refine Rn.zret (pc := 398) rfl rfl dX12_resolve_398 ?_
                    have h1 : -16777216 ≤ (dI (ad bs B k) (bs s + p) 3).toInt := by have := Int.not_lt.mp (fun q => c382 (lt_m.mpr q)); rw [show (-16777216 : Int32).toInt = -16777216 from rfl] at this; exact this
                    have h2 : (dI (ad bs B k) (bs s + p) 3).toInt ≤ 16777214 := by have := Int.not_lt.mp (fun q => c390 (lt_m.mpr q)); rw [show (nI 16777214).toInt = 16777214 from rfl] at this; exact this
                    have h3 : (dI (ad bs B k) (bs s + p) 3).toInt % 2 = 0 := (rem0 _ 2 (Or.inl rfl)).mp c172
                    have hF : rcO 3 (dI (ad bs B k) (bs s + p) 3) (nrB B k m) = true := by
                      unfold rcO; rw [if_neg (by decide), if_neg (by decide), if_pos rfl]
                      rw [decide_eq_true h1, decide_eq_true h2, decide_eq_true h3]; rfl
                    rw [hF]
                    refine ⟨rfl, (sH_fr.mono (fun k j s h => by unfold S34 at h ⊢; omega)).trans (sH_fr.mono (fun k j s h => by unfold S34 at h ⊢; omega)), fun _ => ?_⟩
                    refine sH2_b (fun j hj => by rw [hvB, if_pos hj, hv0, if_neg (by decide), if_neg (by decide), if_pos rfl, hc13]) (fun j hj => by rw [hvB, if_neg (by omega), Nat.add_sub_cancel, hv1]; rw [if_neg c336, if_neg c356])
              · refine Rn.sipush (pc := 359) (v := nI 2048) dX12_resolve_359 (by decide) ?_
                refine Rn.goto (pc := 362) (tgt := 366) dX12_resolve_362 (by decide) ?_
                refine Rn.iaddN (pc := 366) dX12_resolve_366 ?_
                refine Rn.iload (pc := 367) dX12_resolve_367 rfl ?_
                refine Rn.sipush (pc := 369) (v := nI 2047) dX12_resolve_369 (by decide) ?_
                refine Rn.iand (pc := 372) dX12_resolve_372 ?_
                refine Rn.iadd (pc := 373) dX12_resolve_373 ?_
                refine Rn.callV (pc := 374) (as := [_, _, _]) cvX12_359 ⟨by decide, rfl⟩ ⟨by decide, by decide⟩ dX12_resolve_374 (Nat.le_of_ble_eq_true rfl) rfl (c_setHalf G s (p + 2) (nI 53248 + nI 0 + nI 2048 + ((dI (ad bs B k) (bs s + p) 3) >>> (nI 1 &&& 31) &&& nI 2047)) hs (by omega)) ?_
                rintro _ _ ⟨rfl, rfl⟩
                refine Rn.iload (pc := 377) dX12_resolve_377 rfl ?_
                refine Rn.ldc_w (pc := 379) dX12_resolve_379 wcX12_363 ?_
                refine Rn.icmp_lt (pc := 382) (tgt := 397) dX12_resolve_382 (by decide) (fun c382 => ?_) (fun c382 => ?_)
                · refine Rn.iconst (pc := 397) (v := nI 0) dX12_resolve_397 (by decide) ?_
                  refine Rn.zret (pc := 398) rfl rfl dX12_resolve_398 ?_
                  have hF : rcO 3 (dI (ad bs B k) (bs s + p) 3) (nrB B k m) = false := by
                    unfold rcO; rw [if_neg (by decide), if_neg (by decide), if_pos rfl]
                    rw [decide_eq_false (p := -16777216 ≤ (dI (ad bs B k) (bs s + p) 3).toInt) (by have := lt_m.mp c382; rw [show (-16777216 : Int32).toInt = -16777216 from rfl] at this; omega)]; simp
                  rw [hF]
                  exact ⟨rfl, (sH_fr.mono (fun k j s h => by unfold S34 at h ⊢; omega)).trans (sH_fr.mono (fun k j s h => by unfold S34 at h ⊢; omega)), fun z => by cases z⟩
                · refine Rn.iload (pc := 385) dX12_resolve_385 rfl ?_
                  refine Rn.ldc_w (pc := 387) dX12_resolve_387 wcX12_364 ?_
                  refine Rn.icmp_gt (pc := 390) (tgt := 397) dX12_resolve_390 (by decide) (fun c390 => ?_) (fun c390 => ?_)
                  · refine Rn.iconst (pc := 397) (v := nI 0) dX12_resolve_397 (by decide) ?_
                    refine Rn.zret (pc := 398) rfl rfl dX12_resolve_398 ?_
                    have hF : rcO 3 (dI (ad bs B k) (bs s + p) 3) (nrB B k m) = false := by
                      unfold rcO; rw [if_neg (by decide), if_neg (by decide), if_pos rfl]
                      rw [decide_eq_false (p := (dI (ad bs B k) (bs s + p) 3).toInt ≤ 16777214) (by have := lt_m.mp c390; rw [show (nI 16777214).toInt = 16777214 from rfl] at this; omega)]; simp
                    rw [hF]
                    exact ⟨rfl, (sH_fr.mono (fun k j s h => by unfold S34 at h ⊢; omega)).trans (sH_fr.mono (fun k j s h => by unfold S34 at h ⊢; omega)), fun z => by cases z⟩
                  · refine Rn.iconst (pc := 393) (v := nI 1) dX12_resolve_393 (by decide) ?_
                    refine Rn.goto (pc := 394) (tgt := 398) dX12_resolve_394 (by decide) ?_
                    refine Rn.zret (pc := 398) rfl rfl dX12_resolve_398 ?_
                    have h1 : -16777216 ≤ (dI (ad bs B k) (bs s + p) 3).toInt := by have := Int.not_lt.mp (fun q => c382 (lt_m.mpr q)); rw [show (-16777216 : Int32).toInt = -16777216 from rfl] at this; exact this
                    have h2 : (dI (ad bs B k) (bs s + p) 3).toInt ≤ 16777214 := by have := Int.not_lt.mp (fun q => c390 (lt_m.mpr q)); rw [show (nI 16777214).toInt = 16777214 from rfl] at this; exact this
                    have h3 : (dI (ad bs B k) (bs s + p) 3).toInt % 2 = 0 := (rem0 _ 2 (Or.inl rfl)).mp c172
                    have hF : rcO 3 (dI (ad bs B k) (bs s + p) 3) (nrB B k m) = true := by
                      unfold rcO; rw [if_neg (by decide), if_neg (by decide), if_pos rfl]
                      rw [decide_eq_true h1, decide_eq_true h2, decide_eq_true h3]; rfl
                    rw [hF]
                    refine ⟨rfl, (sH_fr.mono (fun k j s h => by unfold S34 at h ⊢; omega)).trans (sH_fr.mono (fun k j s h => by unfold S34 at h ⊢; omega)), fun _ => ?_⟩
                    refine sH2_b (fun j hj => by rw [hvB, if_pos hj, hv0, if_neg (by decide), if_neg (by decide), if_pos rfl, hc13]) (fun j hj => by rw [hvB, if_neg (by omega), Nat.add_sub_cancel, hv1]; rw [if_neg c336, if_pos c356])
            · refine Rn.sipush (pc := 339) (v := nI 8192) dX12_resolve_339 (by decide) ?_
              refine Rn.goto (pc := 342) (tgt := 346) dX12_resolve_342 (by decide) ?_
              refine Rn.iaddN (pc := 346) dX12_resolve_346 ?_
              refine Rn.iload (pc := 347) dX12_resolve_347 rfl ?_
              refine Rn.bipush (pc := 349) (v := nI 21) dX12_resolve_349 (by decide) ?_
              refine Rn.ishr (pc := 351) dX12_resolve_351 ?_
              refine Rn.iconst (pc := 352) (v := nI 1) dX12_resolve_352 (by decide) ?_
              refine Rn.iand (pc := 353) dX12_resolve_353 ?_
              refine Rn.iload (pc := 354) dX12_resolve_354 rfl ?_
              refine Rn.icmp_ne (pc := 356) (tgt := 365) dX12_resolve_356 (by decide) (fun c356 => ?_) (fun c356 => ?_)
              · refine Rn.iconst (pc := 365) (v := nI 0) dX12_resolve_365 (by decide) ?_
                refine Rn.iaddN (pc := 366) dX12_resolve_366 ?_
                refine Rn.iload (pc := 367) dX12_resolve_367 rfl ?_
                refine Rn.sipush (pc := 369) (v := nI 2047) dX12_resolve_369 (by decide) ?_
                refine Rn.iand (pc := 372) dX12_resolve_372 ?_
                refine Rn.iadd (pc := 373) dX12_resolve_373 ?_
                refine Rn.callV (pc := 374) (as := [_, _, _]) cvX12_359 ⟨by decide, rfl⟩ ⟨by decide, by decide⟩ dX12_resolve_374 (Nat.le_of_ble_eq_true rfl) rfl (c_setHalf G s (p + 2) (nI 53248 + nI 8192 + nI 0 + ((dI (ad bs B k) (bs s + p) 3) >>> (nI 1 &&& 31) &&& nI 2047)) hs (by omega)) ?_
                rintro _ _ ⟨rfl, rfl⟩
                refine Rn.iload (pc := 377) dX12_resolve_377 rfl ?_
                refine Rn.ldc_w (pc := 379) dX12_resolve_379 wcX12_363 ?_
                refine Rn.icmp_lt (pc := 382) (tgt := 397) dX12_resolve_382 (by decide) (fun c382 => ?_) (fun c382 => ?_)
                · refine Rn.iconst (pc := 397) (v := nI 0) dX12_resolve_397 (by decide) ?_
                  refine Rn.zret (pc := 398) rfl rfl dX12_resolve_398 ?_
                  have hF : rcO 3 (dI (ad bs B k) (bs s + p) 3) (nrB B k m) = false := by
                    unfold rcO; rw [if_neg (by decide), if_neg (by decide), if_pos rfl]
                    rw [decide_eq_false (p := -16777216 ≤ (dI (ad bs B k) (bs s + p) 3).toInt) (by have := lt_m.mp c382; rw [show (-16777216 : Int32).toInt = -16777216 from rfl] at this; omega)]; simp
                  rw [hF]
                  exact ⟨rfl, (sH_fr.mono (fun k j s h => by unfold S34 at h ⊢; omega)).trans (sH_fr.mono (fun k j s h => by unfold S34 at h ⊢; omega)), fun z => by cases z⟩
                · refine Rn.iload (pc := 385) dX12_resolve_385 rfl ?_
                  refine Rn.ldc_w (pc := 387) dX12_resolve_387 wcX12_364 ?_
                  refine Rn.icmp_gt (pc := 390) (tgt := 397) dX12_resolve_390 (by decide) (fun c390 => ?_) (fun c390 => ?_)
                  · refine Rn.iconst (pc := 397) (v := nI 0) dX12_resolve_397 (by decide) ?_
                    refine Rn.zret (pc := 398) rfl rfl dX12_resolve_398 ?_
                    have hF : rcO 3 (dI (ad bs B k) (bs s + p) 3) (nrB B k m) = false := by
                      unfold rcO; rw [if_neg (by decide), if_neg (by decide), if_pos rfl]
                      rw [decide_eq_false (p := (dI (ad bs B k) (bs s + p) 3).toInt ≤ 16777214) (by have := lt_m.mp c390; rw [show (nI 16777214).toInt = 16777214 from rfl] at this; omega)]; simp
                    rw [hF]
                    exact ⟨rfl, (sH_fr.mono (fun k j s h => by unfold S34 at h ⊢; omega)).trans (sH_fr.mono (fun k j s h => by unfold S34 at h ⊢; omega)), fun z => by cases z⟩
                  · refine Rn.iconst (pc := 393) (v := nI 1) dX12_resolve_393 (by decide) ?_
                    refine Rn.goto (pc := 394) (tgt := 398) dX12_resolve_394 (by decide) ?_
                    refine Rn.zret (pc := 398) rfl rfl dX12_resolve_398 ?_
                    have h1 : -16777216 ≤ (dI (ad bs B k) (bs s + p) 3).toInt := by have := Int.not_lt.mp (fun q => c382 (lt_m.mpr q)); rw [show (-16777216 : Int32).toInt = -16777216 from rfl] at this; exact this
                    have h2 : (dI (ad bs B k) (bs s + p) 3).toInt ≤ 16777214 := by have := Int.not_lt.mp (fun q => c390 (lt_m.mpr q)); rw [show (nI 16777214).toInt = 16777214 from rfl] at this; exact this
                    have h3 : (dI (ad bs B k) (bs s + p) 3).toInt % 2 = 0 := (rem0 _ 2 (Or.inl rfl)).mp c172
                    have hF : rcO 3 (dI (ad bs B k) (bs s + p) 3) (nrB B k m) = true := by
                      unfold rcO; rw [if_neg (by decide), if_neg (by decide), if_pos rfl]
                      rw [decide_eq_true h1, decide_eq_true h2, decide_eq_true h3]; rfl
                    rw [hF]
                    refine ⟨rfl, (sH_fr.mono (fun k j s h => by unfold S34 at h ⊢; omega)).trans (sH_fr.mono (fun k j s h => by unfold S34 at h ⊢; omega)), fun _ => ?_⟩
                    refine sH2_b (fun j hj => by rw [hvB, if_pos hj, hv0, if_neg (by decide), if_neg (by decide), if_pos rfl, hc13]) (fun j hj => by rw [hvB, if_neg (by omega), Nat.add_sub_cancel, hv1]; rw [if_pos c336, if_neg c356])
              · refine Rn.sipush (pc := 359) (v := nI 2048) dX12_resolve_359 (by decide) ?_
                refine Rn.goto (pc := 362) (tgt := 366) dX12_resolve_362 (by decide) ?_
                refine Rn.iaddN (pc := 366) dX12_resolve_366 ?_
                refine Rn.iload (pc := 367) dX12_resolve_367 rfl ?_
                refine Rn.sipush (pc := 369) (v := nI 2047) dX12_resolve_369 (by decide) ?_
                refine Rn.iand (pc := 372) dX12_resolve_372 ?_
                refine Rn.iadd (pc := 373) dX12_resolve_373 ?_
                refine Rn.callV (pc := 374) (as := [_, _, _]) cvX12_359 ⟨by decide, rfl⟩ ⟨by decide, by decide⟩ dX12_resolve_374 (Nat.le_of_ble_eq_true rfl) rfl (c_setHalf G s (p + 2) (nI 53248 + nI 8192 + nI 2048 + ((dI (ad bs B k) (bs s + p) 3) >>> (nI 1 &&& 31) &&& nI 2047)) hs (by omega)) ?_
                rintro _ _ ⟨rfl, rfl⟩
                refine Rn.iload (pc := 377) dX12_resolve_377 rfl ?_
                refine Rn.ldc_w (pc := 379) dX12_resolve_379 wcX12_363 ?_
                refine Rn.icmp_lt (pc := 382) (tgt := 397) dX12_resolve_382 (by decide) (fun c382 => ?_) (fun c382 => ?_)
                · refine Rn.iconst (pc := 397) (v := nI 0) dX12_resolve_397 (by decide) ?_
                  refine Rn.zret (pc := 398) rfl rfl dX12_resolve_398 ?_
                  have hF : rcO 3 (dI (ad bs B k) (bs s + p) 3) (nrB B k m) = false := by
                    unfold rcO; rw [if_neg (by decide), if_neg (by decide), if_pos rfl]
                    rw [decide_eq_false (p := -16777216 ≤ (dI (ad bs B k) (bs s + p) 3).toInt) (by have := lt_m.mp c382; rw [show (-16777216 : Int32).toInt = -16777216 from rfl] at this; omega)]; simp
                  rw [hF]
                  exact ⟨rfl, (sH_fr.mono (fun k j s h => by unfold S34 at h ⊢; omega)).trans (sH_fr.mono (fun k j s h => by unfold S34 at h ⊢; omega)), fun z => by cases z⟩
                · refine Rn.iload (pc := 385) dX12_resolve_385 rfl ?_
                  refine Rn.ldc_w (pc := 387) dX12_resolve_387 wcX12_364 ?_
                  refine Rn.icmp_gt (pc := 390) (tgt := 397) dX12_resolve_390 (by decide) (fun c390 => ?_) (fun c390 => ?_)
                  · refine Rn.iconst (pc := 397) (v := nI 0) dX12_resolve_397 (by decide) ?_
                    refine Rn.zret (pc := 398) rfl rfl dX12_resolve_398 ?_
                    have hF : rcO 3 (dI (ad bs B k) (bs s + p) 3) (nrB B k m) = false := by
                      unfold rcO; rw [if_neg (by decide), if_neg (by decide), if_pos rfl]
                      rw [decide_eq_false (p := (dI (ad bs B k) (bs s + p) 3).toInt ≤ 16777214) (by have := lt_m.mp c390; rw [show (nI 16777214).toInt = 16777214 from rfl] at this; omega)]; simp
                    rw [hF]
                    exact ⟨rfl, (sH_fr.mono (fun k j s h => by unfold S34 at h ⊢; omega)).trans (sH_fr.mono (fun k j s h => by unfold S34 at h ⊢; omega)), fun z => by cases z⟩
                  · refine Rn.iconst (pc := 393) (v := nI 1) dX12_resolve_393 (by decide) ?_
                    refine Rn.goto (pc := 394) (tgt := 398) dX12_resolve_394 (by decide) ?_
                    refine Rn.zret (pc := 398) rfl rfl dX12_resolve_398 ?_
                    have h1 : -16777216 ≤ (dI (ad bs B k) (bs s + p) 3).toInt := by have := Int.not_lt.mp (fun q => c382 (lt_m.mpr q)); rw [show (-16777216 : Int32).toInt = -16777216 from rfl] at this; exact this
                    have h2 : (dI (ad bs B k) (bs s + p) 3).toInt ≤ 16777214 := by have := Int.not_lt.mp (fun q => c390 (lt_m.mpr q)); rw [show (nI 16777214).toInt = 16777214 from rfl] at this; exact this
                    have h3 : (dI (ad bs B k) (bs s + p) 3).toInt % 2 = 0 := (rem0 _ 2 (Or.inl rfl)).mp c172
                    have hF : rcO 3 (dI (ad bs B k) (bs s + p) 3) (nrB B k m) = true := by
                      unfold rcO; rw [if_neg (by decide), if_neg (by decide), if_pos rfl]
                      rw [decide_eq_true h1, decide_eq_true h2, decide_eq_true h3]; rfl
                    rw [hF]
                    refine ⟨rfl, (sH_fr.mono (fun k j s h => by unfold S34 at h ⊢; omega)).trans (sH_fr.mono (fun k j s h => by unfold S34 at h ⊢; omega)), fun _ => ?_⟩
                    refine sH2_b (fun j hj => by rw [hvB, if_pos hj, hv0, if_neg (by decide), if_neg (by decide), if_pos rfl, hc13]) (fun j hj => by rw [hvB, if_neg (by omega), Nat.add_sub_cancel, hv1]; rw [if_pos c336, if_pos c356])
          · exact absurd c237 (by decide)
        · exact absurd c189 (by decide)
      · refine Rn.iconst (pc := 175) (v := nI 0) dX12_resolve_175 (by decide) ?_
        refine Rn.zret (pc := 176) rfl rfl dX12_resolve_176 ?_
        have hF : rcO 3 (dI (ad bs B k) (bs s + p) 3) (nrB B k m) = false := by
          unfold rcO; rw [if_neg (by decide), if_neg (by decide), if_pos rfl]
          rw [decide_eq_false (p := (dI (ad bs B k) (bs s + p) 3).toInt % 2 = 0) (fun q => c172 ((rem0 _ 2 (Or.inl rfl)).mpr q))]; simp
        rw [hF]
        exact ⟨rfl, Fr.refl M, fun z => by cases z⟩
    · exact absurd c93 (by decide)
  refine Rn.aload_n (pc := 0) dX12_resolve_0 rfl rfl ?_
  refine Rn.iload (pc := 1) dX12_resolve_1 rfl ?_
  refine Rn.callV (pc := 3) (as := [_]) cvX12_356 ⟨by decide, rfl⟩ ⟨by decide, by decide⟩ dX12_resolve_3 (Nat.le_of_ble_eq_true rfl) rfl (c_addressOf G bs B k hk h96 hW hB hbs) ?_
  rintro _ M9 ⟨rfl, h9⟩
  rw [h9]
  refine Rn.istore (pc := 6) dX12_resolve_6 (by decide) rfl st11_5 ?_
  refine Rn.aload_n (pc := 8) dX12_resolve_8 rfl rfl ?_
  refine Rn.getI (pc := 9) (t := 0) flX12_156 (show mI _ 11 0 13 = nI 13 from hst) dX12_resolve_9 ?_
  refine Rn.bipush (pc := 12) (v := nI 6) dX12_resolve_12 (by decide) ?_
  refine Rn.icmp_neN (pc := 14) (tgt := 49) dX12_resolve_14 (by decide) (by omega) (by omega) (fun c14 => ?_) (fun c14 => ?_)
  · refine Rn.aload_n (pc := 49) dX12_resolve_49 rfl rfl ?_
    refine Rn.getR (pc := 50) flX12_26 mu11_22 fx11_22 dX12_resolve_50 ?_
    refine Rn.iload (pc := 53) dX12_resolve_53 rfl ?_
    refine Rn.ialdN (pc := 55) ak27 (by omega) (by decide) hb1 dX12_resolve_55 ?_
    refine Rn.iload_n (pc := 56) dX12_resolve_56 rfl rfl ?_
    refine Rn.icmp_neN (pc := 57) (tgt := 74) dX12_resolve_57 (by decide) (by omega) (by omega) (fun c57 => ?_) (fun c57 => ?_)
    · refine Rn.iconst (pc := 74) (v := nI 0) dX12_resolve_74 (by decide) ?_
      exact K75 false (decide_eq_false (fun q => c57 q.1))
    · refine Rn.aload_n (pc := 60) dX12_resolve_60 rfl rfl ?_
      refine Rn.getR (pc := 61) flX12_29 mu11_23 fx11_23 dX12_resolve_61 ?_
      refine Rn.iload (pc := 64) dX12_resolve_64 rfl ?_
      refine Rn.ialdN (pc := 66) ak28 (by omega) (by decide) hb2 dX12_resolve_66 ?_
      refine Rn.if_ne (pc := 67) (y := 0) (tgt := 74) dX12_resolve_67 (by decide) (fun c67 => ?_) (fun c67 => ?_)
      · refine Rn.iconst (pc := 74) (v := nI 0) dX12_resolve_74 (by decide) ?_
        exact K75 false (decide_eq_false (fun q => c67 (by rw [q.2]; rfl)))
      · refine Rn.iconst (pc := 70) (v := nI 1) dX12_resolve_70 (by decide) ?_
        refine Rn.goto (pc := 71) (tgt := 75) dX12_resolve_71 (by decide) ?_
        exact K75 true (decide_eq_true ⟨c57, (nI_eq (by omega) (by decide)).mp c67⟩)
  · exact absurd c14 (by decide)

set_option maxRecDepth 20000 in
set_option maxHeartbeats 4000000 in
theorem c_resolve_14 (G : GX) {M : Mem} (bs : Nat → Nat) (B : LB) (m s p k : Nat) (hm : m < 4) (hs : s < 12) (hp : p + 2 ≤ 1024) (hk : k < B.1) (h96 : B.1 ≤ 96) (hW : LbW B) (hB : LbM 0 B M) (hbs : ∀ s, s < 12 → mI M 32 0 s = nI (bs s)) (hbb : ∀ s, s < 12 → bs s ≤ 536880000) (hst : mI M 11 0 13 = nI 14) (c : Int32) (hcd : mI M 11 0 15 = c) : MetM G yX12_resolve iX12_resolve [vR 11 0, vI (nI m), vI (nI s), vI (nI p), vI (nI k)] M (fun r M' => r = some (vI (bI (rcO 4 (dI (ad bs B k) (bs s + p) 4) (nrB B k m)))) ∧ Fr (S34 (1024 * s + p) (1024 * s + p + 2)) M M' ∧ (rcO 4 (dI (ad bs B k) (bs s + p) 4) (nrB B k m) = true → ∀ j, j < 2 → mI M' 34 0 (1024 * s + p + j) = nI (hvB c (dI (ad bs B k) (bs s + p) 4) 4 j))) := by
  refine MetM.of (ls := [some (vR 11 0), some (vI (nI m)), some (vI (nI s)), some (vI (nI p)), some (vI (nI k)), none, none, none, none, none, none]) (by decide) rfl (Nat.le_of_ble_eq_true rfl) rfl ?_
  intro hM0
  obtain ⟨hb1, hb2, hb3, _⟩ := hB k hk
  rw [Nat.zero_add] at hb1 hb2 hb3
  have hw := hW.1 k hk
  have had : ad bs B k < 2 ^ 30 := by unfold ad; have := hbb (3 * (B.2 k).1 + (B.2 k).2.1) (by omega); omega
  have hbs9 := hbb s hs
  have K75 : ∀ ow : Bool, nrB B k m = ow → Rn G iX12_resolve (fun r M' => r = some (vI (bI (rcO 4 (dI (ad bs B k) (bs s + p) 4) (nrB B k m)))) ∧ Fr (S34 (1024 * s + p) (1024 * s + p + 2)) M M' ∧ (rcO 4 (dI (ad bs B k) (bs s + p) 4) (nrB B k m) = true → ∀ j, j < 2 → mI M' 34 0 (1024 * s + p + j) = nI (hvB c (dI (ad bs B k) (bs s + p) 4) 4 j))) 75 [some (vR 11 0), some (vI (nI m)), some (vI (nI s)), some (vI (nI p)), some (vI (nI k)), some (vI (nI (ad bs B k))), none, none, none, none, none] [vI (bI ow)] M := by
    intro ow how
    rw [← how]
    refine Rn.istore (pc := 75) dX12_resolve_75 (by decide) rfl st11_6 ?_
    refine Rn.aload_n (pc := 77) dX12_resolve_77 rfl rfl ?_
    refine Rn.getR (pc := 78) flX12_42 mu11_27 fx11_27 dX12_resolve_78 ?_
    refine Rn.iload_n (pc := 81) dX12_resolve_81 rfl rfl ?_
    refine Rn.ialdN (pc := 82) ak32 (by omega) (by decide) (hbs _ hs) dX12_resolve_82 ?_
    refine Rn.iload_n (pc := 83) dX12_resolve_83 rfl rfl ?_
    refine Rn.iaddN (pc := 84) dX12_resolve_84 ?_
    refine Rn.istore (pc := 85) dX12_resolve_85 (by decide) rfl st11_7 ?_
    refine Rn.aload_n (pc := 87) dX12_resolve_87 rfl rfl ?_
    refine Rn.getI (pc := 88) (t := 0) flX12_156 (show mI _ 11 0 13 = nI 14 from hst) dX12_resolve_88 ?_
    refine Rn.bipush (pc := 91) (v := nI 14) dX12_resolve_91 (by decide) ?_
    refine Rn.icmp_neN (pc := 93) (tgt := 159) dX12_resolve_93 (by decide) (by omega) (by omega) (fun c93 => ?_) (fun c93 => ?_)
    · exact absurd c93 (by decide)
    · refine Rn.iload (pc := 96) dX12_resolve_96 rfl ?_
      refine Rn.iload (pc := 98) dX12_resolve_98 rfl ?_
      refine Rn.iconst (pc := 100) (v := nI 4) dX12_resolve_100 (by decide) ?_
      refine Rn.idiv (pc := 101) dX12_resolve_101 (by decide) ?_
      rw [pk_div (by omega) (by decide) (by decide)]
      refine Rn.iconst (pc := 102) (v := nI 4) dX12_resolve_102 (by decide) ?_
      refine Rn.imulN (pc := 103) dX12_resolve_103 ?_
      refine Rn.isub (pc := 104) dX12_resolve_104 ?_
      refine Rn.iconst (pc := 105) (v := nI 4) dX12_resolve_105 (by decide) ?_
      refine Rn.isub (pc := 106) dX12_resolve_106 ?_
      rw [show nI (ad bs B k) - nI ((bs s + p) / 4 * 4) - nI 4 = (dI (ad bs B k) (bs s + p) 4) from rfl]
      have ht := dI_t (re := 4) had (show bs s + p < 2 ^ 30 by omega)
      refine Rn.istore (pc := 107) dX12_resolve_107 (by decide) rfl st11_8 ?_
      refine Rn.aload_n (pc := 109) dX12_resolve_109 rfl rfl ?_
      refine Rn.iload_n (pc := 110) dX12_resolve_110 rfl rfl ?_
      refine Rn.iload_n (pc := 111) dX12_resolve_111 rfl rfl ?_
      refine Rn.aload_n (pc := 112) dX12_resolve_112 rfl rfl ?_
      refine Rn.getI (pc := 113) (t := 0) flX12_159 (show mI _ 11 0 15 = c from hcd) dX12_resolve_113 ?_
      refine Rn.iload (pc := 116) dX12_resolve_116 rfl ?_
      refine Rn.iconst (pc := 118) (v := nI 4) dX12_resolve_118 (by decide) ?_
      refine Rn.idiv (pc := 119) dX12_resolve_119 (by decide) ?_
      refine Rn.sipush (pc := 120) (v := nI 255) dX12_resolve_120 (by decide) ?_
      refine Rn.iand (pc := 123) dX12_resolve_123 ?_
      refine Rn.iadd (pc := 124) dX12_resolve_124 ?_
      refine Rn.callV (pc := 125) (as := [_, _, _]) cvX12_359 ⟨by decide, rfl⟩ ⟨by decide, by decide⟩ dX12_resolve_125 (Nat.le_of_ble_eq_true rfl) rfl (c_setHalf G s p (c + ((dI (ad bs B k) (bs s + p) 4) / nI 4 &&& nI 255)) hs (by omega)) ?_
      rintro _ _ ⟨rfl, rfl⟩
      refine Rn.iload (pc := 128) dX12_resolve_128 rfl ?_
      refine Rn.if_eqB (pc := 130) (tgt := 157) dX12_resolve_130 (by decide) (fun c130 => ?_) (fun c130 => ?_)
      · refine Rn.iconst (pc := 157) (v := nI 0) dX12_resolve_157 (by decide) ?_
        refine Rn.zret (pc := 158) rfl rfl dX12_resolve_158 ?_
        have hF : rcO 4 (dI (ad bs B k) (bs s + p) 4) (nrB B k m) = false := by
          unfold rcO; rw [if_neg (by decide), if_neg (by decide), if_neg (by decide)]
          rw [show nrB B k m = false from c130]; simp
        rw [hF]
        exact ⟨rfl, sH_fr.mono (fun k j s h => by unfold S34 at h ⊢; omega), fun z => by cases z⟩
      · refine Rn.iload (pc := 133) dX12_resolve_133 rfl ?_
        refine Rn.if_lt (pc := 135) (y := 0) (tgt := 157) dX12_resolve_135 (by decide) (fun c135 => ?_) (fun c135 => ?_)
        · refine Rn.iconst (pc := 157) (v := nI 0) dX12_resolve_157 (by decide) ?_
          refine Rn.zret (pc := 158) rfl rfl dX12_resolve_158 ?_
          have hF : rcO 4 (dI (ad bs B k) (bs s + p) 4) (nrB B k m) = false := by
            unfold rcO; rw [if_neg (by decide), if_neg (by decide), if_neg (by decide)]
            rw [decide_eq_false (p := 0 ≤ (dI (ad bs B k) (bs s + p) 4).toInt) (by have := lt_m.mp c135; rw [show (0 : Int32).toInt = 0 from rfl] at this; omega)]; simp
          rw [hF]
          exact ⟨rfl, sH_fr.mono (fun k j s h => by unfold S34 at h ⊢; omega), fun z => by cases z⟩
        · refine Rn.iload (pc := 138) dX12_resolve_138 rfl ?_
          refine Rn.sipush (pc := 140) (v := nI 1020) dX12_resolve_140 (by decide) ?_
          refine Rn.icmp_gt (pc := 143) (tgt := 157) dX12_resolve_143 (by decide) (fun c143 => ?_) (fun c143 => ?_)
          · refine Rn.iconst (pc := 157) (v := nI 0) dX12_resolve_157 (by decide) ?_
            refine Rn.zret (pc := 158) rfl rfl dX12_resolve_158 ?_
            have hF : rcO 4 (dI (ad bs B k) (bs s + p) 4) (nrB B k m) = false := by
              unfold rcO; rw [if_neg (by decide), if_neg (by decide), if_neg (by decide)]
              rw [decide_eq_false (p := (dI (ad bs B k) (bs s + p) 4).toInt ≤ 1020) (by have := lt_m.mp c143; rw [show (nI 1020).toInt = 1020 from rfl] at this; omega)]; simp
            rw [hF]
            exact ⟨rfl, sH_fr.mono (fun k j s h => by unfold S34 at h ⊢; omega), fun z => by cases z⟩
          · refine Rn.iload (pc := 146) dX12_resolve_146 rfl ?_
            refine Rn.iconst (pc := 148) (v := nI 4) dX12_resolve_148 (by decide) ?_
            refine Rn.irem (pc := 149) dX12_resolve_149 (by decide) ?_
            refine Rn.if_ne (pc := 150) (y := 0) (tgt := 157) dX12_resolve_150 (by decide) (fun c150 => ?_) (fun c150 => ?_)
            · refine Rn.iconst (pc := 157) (v := nI 0) dX12_resolve_157 (by decide) ?_
              refine Rn.zret (pc := 158) rfl rfl dX12_resolve_158 ?_
              have hF : rcO 4 (dI (ad bs B k) (bs s + p) 4) (nrB B k m) = false := by
                unfold rcO; rw [if_neg (by decide), if_neg (by decide), if_neg (by decide)]
                rw [decide_eq_false (p := (dI (ad bs B k) (bs s + p) 4).toInt % 4 = 0) (fun q => c150 ((rem0 _ 4 (Or.inr rfl)).mpr q))]; simp
              rw [hF]
              exact ⟨rfl, sH_fr.mono (fun k j s h => by unfold S34 at h ⊢; omega), fun z => by cases z⟩
            · refine Rn.iconst (pc := 153) (v := nI 1) dX12_resolve_153 (by decide) ?_
              refine Rn.goto (pc := 154) (tgt := 158) dX12_resolve_154 (by decide) ?_
              refine Rn.zret (pc := 158) rfl rfl dX12_resolve_158 ?_
              have h1 : 0 ≤ (dI (ad bs B k) (bs s + p) 4).toInt := by have := Int.not_lt.mp (fun q => c135 (lt_m.mpr q)); rw [show (0 : Int32).toInt = 0 from rfl] at this; exact this
              have h2 : (dI (ad bs B k) (bs s + p) 4).toInt ≤ 1020 := by have := Int.not_lt.mp (fun q => c143 (lt_m.mpr q)); rw [show (nI 1020).toInt = 1020 from rfl] at this; exact this
              have h3 : (dI (ad bs B k) (bs s + p) 4).toInt % 4 = 0 := (rem0 _ 4 (Or.inr rfl)).mp c150
              have hF : rcO 4 (dI (ad bs B k) (bs s + p) 4) (nrB B k m) = true := by
                unfold rcO; rw [if_neg (by decide), if_neg (by decide), if_neg (by decide)]
                rw [show nrB B k m = true from c130, decide_eq_true h1, decide_eq_true h2, decide_eq_true h3]; rfl
              rw [hF]
              refine ⟨rfl, sH_fr.mono (fun k j s h => by unfold S34 at h ⊢; omega), fun _ j hj => ?_⟩
              rw [sH_b j hj, hvB, if_pos hj, hv0, if_neg (by decide), if_neg (by decide), if_neg (by decide)]
              obtain ⟨x, hx, hxe⟩ := nI_of (x := (dI (ad bs B k) (bs s + p) 4)) c135
              rw [hxe, nI_toInt hx] at h2
              rw [hxe, pk_div hx (by decide) (by decide), pk_andN (by omega) 8 (by decide), pk_shrN hx _ 2 (by decide), Nat.mod_eq_of_lt (by omega)]
  refine Rn.aload_n (pc := 0) dX12_resolve_0 rfl rfl ?_
  refine Rn.iload (pc := 1) dX12_resolve_1 rfl ?_
  refine Rn.callV (pc := 3) (as := [_]) cvX12_356 ⟨by decide, rfl⟩ ⟨by decide, by decide⟩ dX12_resolve_3 (Nat.le_of_ble_eq_true rfl) rfl (c_addressOf G bs B k hk h96 hW hB hbs) ?_
  rintro _ M9 ⟨rfl, h9⟩
  rw [h9]
  refine Rn.istore (pc := 6) dX12_resolve_6 (by decide) rfl st11_5 ?_
  refine Rn.aload_n (pc := 8) dX12_resolve_8 rfl rfl ?_
  refine Rn.getI (pc := 9) (t := 0) flX12_156 (show mI _ 11 0 13 = nI 14 from hst) dX12_resolve_9 ?_
  refine Rn.bipush (pc := 12) (v := nI 6) dX12_resolve_12 (by decide) ?_
  refine Rn.icmp_neN (pc := 14) (tgt := 49) dX12_resolve_14 (by decide) (by omega) (by omega) (fun c14 => ?_) (fun c14 => ?_)
  · refine Rn.aload_n (pc := 49) dX12_resolve_49 rfl rfl ?_
    refine Rn.getR (pc := 50) flX12_26 mu11_22 fx11_22 dX12_resolve_50 ?_
    refine Rn.iload (pc := 53) dX12_resolve_53 rfl ?_
    refine Rn.ialdN (pc := 55) ak27 (by omega) (by decide) hb1 dX12_resolve_55 ?_
    refine Rn.iload_n (pc := 56) dX12_resolve_56 rfl rfl ?_
    refine Rn.icmp_neN (pc := 57) (tgt := 74) dX12_resolve_57 (by decide) (by omega) (by omega) (fun c57 => ?_) (fun c57 => ?_)
    · refine Rn.iconst (pc := 74) (v := nI 0) dX12_resolve_74 (by decide) ?_
      exact K75 false (decide_eq_false (fun q => c57 q.1))
    · refine Rn.aload_n (pc := 60) dX12_resolve_60 rfl rfl ?_
      refine Rn.getR (pc := 61) flX12_29 mu11_23 fx11_23 dX12_resolve_61 ?_
      refine Rn.iload (pc := 64) dX12_resolve_64 rfl ?_
      refine Rn.ialdN (pc := 66) ak28 (by omega) (by decide) hb2 dX12_resolve_66 ?_
      refine Rn.if_ne (pc := 67) (y := 0) (tgt := 74) dX12_resolve_67 (by decide) (fun c67 => ?_) (fun c67 => ?_)
      · refine Rn.iconst (pc := 74) (v := nI 0) dX12_resolve_74 (by decide) ?_
        exact K75 false (decide_eq_false (fun q => c67 (by rw [q.2]; rfl)))
      · refine Rn.iconst (pc := 70) (v := nI 1) dX12_resolve_70 (by decide) ?_
        refine Rn.goto (pc := 71) (tgt := 75) dX12_resolve_71 (by decide) ?_
        exact K75 true (decide_eq_true ⟨c57, (nI_eq (by omega) (by decide)).mp c67⟩)
  · exact absurd c14 (by decide)

