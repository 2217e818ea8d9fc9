theorem wfJ0_38 : Cond.fieldLink RJ0 38 "java/lang/String" "COMPACT_STRINGS" "Z" ∈ gw_tbl := gw_at 560 (by decide +kernel) rfl
theorem wfJ0_1053 : Cond.fieldLink RJ0 1053 "jdk/internal/util/Preconditions" "SIOOBE_FORMATTER" "Ljava/util/function/BiFunction;" ∈ gw_tbl := gw_at 576 (by decide +kernel) rfl
theorem wfX7_63 : Cond.fieldLink RX7 63 "ThumbLinker$Mnemonic" "word" "Ljava/lang/String;" ∈ gw_tbl := gw_at 1377 (by decide +kernel) rfl
theorem wfJ0_9 : Cond.fieldLink RJ0 9 "java/lang/String" "value" "[B" ∈ gw_tbl := gw_at 1378 (by decide +kernel) rfl
theorem wfJ0_15 : Cond.fieldLink RJ0 15 "java/lang/String" "coder" "B" ∈ gw_tbl := gw_at 1379 (by decide +kernel) rfl
theorem wfX6_50 : Cond.fieldLink RX6 50 "ThumbLinker$Mnemonic" "form" "I" ∈ gw_tbl := gw_at 1380 (by decide +kernel) rfl
theorem wfX6_94 : Cond.fieldLink RX6 94 "ThumbLinker$Mnemonic" "code" "I" ∈ gw_tbl := gw_at 1381 (by decide +kernel) rfl
theorem wfX6_150 : Cond.fieldLink RX6 150 "ThumbLinker$Mnemonic" "extra" "I" ∈ gw_tbl := gw_at 1382 (by decide +kernel) rfl
abbrev RSt : String := "java/lang/String"
abbrev sbB (j : Nat) : List Int32 := strB.getD j []
def sbn (j : Nat) : Nat := (sbB j).length
def sbc (j k : Nat) : Nat := ((sbB j).getD k 0).toInt.toNat
def mnF (j : Nat) : Int32 := (mnT.getD j (0, 0, 0)).1
def mnC (j : Nat) : Int32 := (mnT.getD j (0, 0, 0)).2.1
def mnX (j : Nat) : Int32 := (mnT.getD j (0, 0, 0)).2.2
theorem sb_all : ∀ j, j < 60 → ∀ k, k < sbn j → (sbB j).getD k 0 = nI (sbc j k) ∧ sbc j k < 128 := by decide +kernel
theorem sb_len : ∀ j, j < 60 → sbn j < 64 := by decide +kernel
section STR
variable {G : GX} {I : MIx} {Post : Option AV → Mem → Prop} {pc : Nat} {ls : List (Option AV)} {st : List AV} {M : Mem}
theorem Rn.iincW {x v : Int32} {n : Int} {i : Nat} {ls' : List (Option AV)} (hd : decode I.1 pc = .ok (.iinc i n, 6)) (hx : ls[i]? = some (some (vI x))) (hv : x + Int32.ofInt n = v) (hn : i < I.2.2.1) (hp : notL ls i = true) (hl : ls.set i (some (vI v)) = ls') (k9 : Rn G I Post (pc + 6) ls' st M) : Rn G I Post pc ls st M := by
  intro p e s m args below meth c hc H locs lsA hP hS hL hM hLs hSt
  obtain ⟨q, hq⟩ := List.getElem?_of_mem (mem_lvL.mpr ⟨i, _, hx, by rw [Nat.zero_add]⟩ : (i, cv (gA G) (vI x)) ∈ lvL (gA G) 0 ls)
  exact lv_iincW (k := q) hc.1 hc.2.1 hd hL hq hv hn rfl (fun lsB hB => k9 p e s m args below meth c hc H locs lsB hP hS (hl ▸ lvSet1 (v := vI v) hp lsB hB) hM (hl ▸ hLs.set (v := vI v) trivial) hSt)
theorem Rn.get_form {index j : Nat} (hl : Cond.fieldLink I.2.1 index RMn "form" "I" ∈ gw_tbl) (hd : decode I.1 pc = .ok (.getfield index, 3)) (k9 : Rn G I Post (pc + 3) ls (vI (mnF j) :: st) M) : Rn G I Post pc ls (vR 51 j :: st) M := by
  intro p e s m args below meth c hc H locs lsA hP hS hL hM hLs hSt
  exact va_getX (ad := gA G 51) (i := j) hc.1 hc.2.1 hc.2.2.2.2.2.2.2.2.2.1.2.2.1 hSt.hd hS hc.2.2.2.2.1 (hc.2.2.2.2.2.1 _ hl) (fun _ h => h) hd (k9 p e s m args below meth c hc H locs lsA hP hS hL hM hLs (hSt.d.I _))
theorem Rn.get_code {index j : Nat} (hl : Cond.fieldLink I.2.1 index RMn "code" "I" ∈ gw_tbl) (hd : decode I.1 pc = .ok (.getfield index, 3)) (k9 : Rn G I Post (pc + 3) ls (vI (mnC j) :: st) M) : Rn G I Post pc ls (vR 51 j :: st) M := by
  intro p e s m args below meth c hc H locs lsA hP hS hL hM hLs hSt
  exact va_getX (ad := gA G 51) (i := j) hc.1 hc.2.1 hc.2.2.2.2.2.2.2.2.2.1.2.2.2.1 hSt.hd hS hc.2.2.2.2.1 (hc.2.2.2.2.2.1 _ hl) (fun _ h => h) hd (k9 p e s m args below meth c hc H locs lsA hP hS hL hM hLs (hSt.d.I _))
theorem Rn.get_extra {index j : Nat} (hl : Cond.fieldLink I.2.1 index RMn "extra" "I" ∈ gw_tbl) (hd : decode I.1 pc = .ok (.getfield index, 3)) (k9 : Rn G I Post (pc + 3) ls (vI (mnX j) :: st) M) : Rn G I Post pc ls (vR 51 j :: st) M := by
  intro p e s m args below meth c hc H locs lsA hP hS hL hM hLs hSt
  exact va_getX (ad := gA G 51) (i := j) hc.1 hc.2.1 hc.2.2.2.2.2.2.2.2.2.1.2.2.2.2.1 hSt.hd hS hc.2.2.2.2.1 (hc.2.2.2.2.2.1 _ hl) (fun _ h => h) hd (k9 p e s m args below meth c hc H locs lsA hP hS hL hM hLs (hSt.d.I _))
theorem Rn.get_word {index j : Nat} (hl : Cond.fieldLink I.2.1 index RMn "word" "Ljava/lang/String;" ∈ gw_tbl) (hd : decode I.1 pc = .ok (.getfield index, 3)) (k9 : Rn G I Post (pc + 3) ls (vR 52 j :: st) M) : Rn G I Post pc ls (vR 51 j :: st) M := by
  intro p e s m args below meth c hc H locs lsA hP hS hL hM hLs hSt
  have hj : j < 49 := hSt.hd
  exact va_getX (ad := gA G 51) (i := j) hc.1 hc.2.1 hc.2.2.2.2.2.2.2.2.2.1.2.2.2.2.2.1 hSt.hd hS hc.2.2.2.2.1 (hc.2.2.2.2.2.1 _ hl) (fun _ h => h) hd (k9 p e s m args below meth c hc H locs lsA hP hS hL hM hLs (okVs.c (show j < 60 by omega) hSt.d))
theorem Rn.get_value {index j : Nat} (hl : Cond.fieldLink I.2.1 index RSt "value" "[B" ∈ gw_tbl) (hd : decode I.1 pc = .ok (.getfield index, 3)) (k9 : Rn G I Post (pc + 3) ls (vR 53 j :: st) M) : Rn G I Post pc ls (vR 52 j :: st) M := by
  intro p e s m args below meth c hc H locs lsA hP hS hL hM hLs hSt
  exact vk_getf (q := gA G 52 j) hc.1 hc.2.1 (hc.2.2.2.2.2.2.2.2.2.1.2.2.2.2.2.2.1 j hSt.hd).2.2.1 hS hc.2.2.2.2.1 (hc.2.2.2.2.2.1 _ hl) (fun _ h => h) hd (k9 p e s m args below meth c hc H locs lsA hP hS hL hM hLs (okVs.c (show okV (vR 53 j) from hSt.hd) hSt.d))
theorem Rn.get_coder {index j : Nat} (hl : Cond.fieldLink I.2.1 index RSt "coder" "B" ∈ gw_tbl) (hd : decode I.1 pc = .ok (.getfield index, 3)) (k9 : Rn G I Post (pc + 3) ls (vI 0 :: st) M) : Rn G I Post pc ls (vR 52 j :: st) M := by
  intro p e s m args below meth c hc H locs lsA hP hS hL hM hLs hSt
  exact vk_getf (q := gA G 52 j) hc.1 hc.2.1 (hc.2.2.2.2.2.2.2.2.2.1.2.2.2.2.2.2.1 j hSt.hd).2.1 hS hc.2.2.2.2.1 (hc.2.2.2.2.2.1 _ hl) (fun _ h => h) hd (k9 p e s m args below meth c hc H locs lsA hP hS hL hM hLs (hSt.d.I _))
theorem Rn.alenV {j : Nat} (hd : decode I.1 pc = .ok (.arraylength, 1)) (k9 : Rn G I Post (pc + 1) ls (vI (nI (sbn j)) :: st) M) : Rn G I Post pc ls (vR 53 j :: st) M := by
  intro p e s m args below meth c hc H locs lsA hP hS hL hM hLs hSt
  exact va_tlen (t := gA G 53 j) hc.1 hc.2.1 (hc.2.2.2.2.2.2.2.2.2.1.2.2.2.2.2.2.1 j hSt.hd).2.2.2 hS rfl hd (k9 p e s m args below meth c hc H locs lsA hP hS hL hM hLs (hSt.d.I _))
theorem Rn.baldV {j k : Nat} (hk : k < sbn j) (hd : decode I.1 pc = .ok (.baload, 1)) (k9 : Rn G I Post (pc + 1) ls (vI ((sbB j).getD k 0) :: st) M) : Rn G I Post pc ls (vI (nI k) :: vR 53 j :: st) M := by
  intro p e s m args below meth c hc H locs lsA hP hS hL hM hLs hSt
  have hj : j < 60 := hSt.d.hd
  have hn := sb_len j hj
  exact va_tb (t := gA G 53 j) hc.1 hc.2.1 (hc.2.2.2.2.2.2.2.2.2.1.2.2.2.2.2.2.1 j hj).2.2.2 hS (vp_in_nI hk (by show sbn j < _; omega)) (by rw [nI_clamp (by omega)]; rfl) hd (k9 p e s m args below meth c hc H locs lsA hP hS hL hM hLs (hSt.d.d.I _))
theorem Rn.alenE (hd : decode I.1 pc = .ok (.arraylength, 1)) (k9 : Rn G I Post (pc + 1) ls (vI (nI 49) :: st) M) : Rn G I Post pc ls (vR 50 0 :: st) M := by
  intro p e s m args below meth c hc H locs lsA hP hS hL hM hLs hSt
  exact va_tlen (t := gA G 50 0) hc.1 hc.2.1 hc.2.2.2.2.2.2.2.2.2.1.2.1 hS rfl hd (k9 p e s m args below meth c hc H locs lsA hP hS hL hM hLs (hSt.d.I _))
theorem Rn.aaldE {k : Nat} (hk : k < 49) (hd : decode I.1 pc = .ok (.aaload, 1)) (k9 : Rn G I Post (pc + 1) ls (vR 51 k :: st) M) : Rn G I Post pc ls (vI (nI k) :: vR 50 0 :: st) M := by
  intro p e s m args below meth c hc H locs lsA hP hS hL hM hLs hSt
  exact vb_tq (t := gA G 50 0) hc.1 hc.2.1 hc.2.2.2.2.2.2.2.2.2.1.2.1 hS (vp_in_nI hk (by decide)) (by rw [nI_clamp (by omega)]; rfl) hd (k9 p e s m args below meth c hc H locs lsA hP hS hL hM hLs (okVs.c (show k < 49 from hk) hSt.d.d))
theorem Rn.gets_ALL (ho : I.2.1 = "ThumbLinker$Scanner") (hd : decode I.1 pc = .ok (.getstatic 57, 3)) (k9 : Rn G I Post (pc + 3) ls (vR 50 0 :: st) M) : Rn G I Post pc ls st M := by
  intro p e s m args below meth c hc H locs lsA hP hS hL hM hLs hSt
  have hown := hc.2.2.2.2.1
  rw [ho] at hown
  exact va_getsN hc.1 hc.2.1 hc.2.2.2.2.2.2.2.2.2.1.1 hS hown (va_tabs (by decide) rfl hc.2.2.2.2.2.2.2.2.2.2.1.2) (fun _ h => h) hd (k9 p e s m args below meth c hc H locs lsA hP hS hL hM hLs (okVs.c (show 0 < 1 by decide) hSt))
theorem Rn.gets_CS (ho : I.2.1 = RSt) (hd : decode I.1 pc = .ok (.getstatic 38, 3)) (k9 : Rn G I Post (pc + 3) ls (vI 1 :: st) M) : Rn G I Post pc ls st M := by
  intro p e s m args below meth c hc H locs lsA hP hS hL hM hLs hSt
  have hown := hc.2.2.2.2.1
  rw [ho] at hown
  exact va_gets hc.1 hc.2.1 hc.2.2.2.2.2.2.2.2.2.1.2.2.2.2.2.2.2.1 hS hown (hc.2.2.2.2.2.1 _ wfJ0_38) (fun _ h => h) hd (k9 p e s m args below meth c hc H locs lsA hP hS hL hM hLs (hSt.I _))
theorem Rn.gets_F (ho : I.2.1 = RSt) (hd : decode I.1 pc = .ok (.getstatic 1053, 3)) (k9 : ∀ v : AV, v = vN ∨ v = vR 55 0 → Rn G I Post (pc + 3) ls (v :: st) M) : Rn G I Post pc ls st M := by
  intro p e s m args below meth c hc H locs lsA hP hS hL hM hLs hSt
  have hown := hc.2.2.2.2.1
  rw [ho] at hown
  rcases hc.2.2.2.2.2.2.2.2.2.2.2.2 with h | h
  · exact va_gets hc.1 hc.2.1 h hS hown (hc.2.2.2.2.2.1 _ wfJ0_1053) (fun _ h => h) hd (k9 vN (Or.inl rfl) p e s m args below meth c hc H locs lsA hP hS hL hM hLs (okVs.c trivial hSt))
  · exact va_gets hc.1 hc.2.1 h hS hown (hc.2.2.2.2.2.1 _ wfJ0_1053) (fun _ h => h) hd (k9 (vR 55 0) (Or.inr rfl) p e s m args below meth c hc H locs lsA hP hS hL hM hLs (okVs.c (show 0 < 1 by decide) hSt))
theorem Rn.callO {j index : Nat} {as rest : List AV} {y : MethodName} {Iy : MIx} {P : Option AV → Mem → Prop} (hcv : CV I.2.1 index RSt y Iy as.length) (hrm : RmOK I Iy) (hd : decode I.1 pc = .ok (.invokevirtual index, 3)) (hW : (rest.map avc).sum ≤ 8) (hst : st = as.reverse ++ vR 52 j :: rest) (hm : MetM G y Iy (vR 52 j :: as) M P)
    (kk : ∀ r M', P r M' → Rn G I Post (pc + 3) ls (r.toList ++ rest) M') : Rn G I Post pc ls st M := by
  subst hst
  refine Rn.call (P := P) (rest := rest) (fun v hv => List.mem_append_right _ (List.mem_cons_of_mem _ hv)) ?_ kk
  intro p e s m args below meth c hc H locs lsA hP hS hL hM hSt
  have hgood : ∀ w ∈ gw_tbl, w.before args s = true := hc.2.2.2.2.2.1
  have hok : okVs (vR 52 j :: as) := okVs.c (hSt _ (List.mem_append_right _ List.mem_cons_self)) (fun v hv => hSt v (List.mem_append_left _ (List.mem_reverse.mpr hv)))
  obtain ⟨hb, hPc⟩ := preM (G := G) (I := I) (M := M) (y := y) (Iy := Iy) (as := vR 52 j :: as) hc hP hS
  have hcw : CallW I.2.2.2.2 s args I.2.1 RSt index y Iy.1 Iy.2.2.1 Iy.2.2.2.1 (Cond.code y Iy.1 Iy.2.2.1 Iy.2.2.2.1 :: gw_tbl) Iy.2.2.2.2 0 0 (as.map (cv (gA G))).length :=
    ⟨callB_of _ hgood (gw_good hcv.1.2.2.2.2 (fun w h => h)) rfl hcv.2.2.1 hcv.2.2.2 (by rw [hcv.2.1.1]; exact hgood _ hcv.1.2.2.2.1) (hgood _ hcv.1.1) (by rw [List.length_map]; exact hcv.2.1.2) hrm, hgood _ hcv.1.2.1, hgood _ hcv.1.2.2.1⟩
  exact ⟨_, va_runV (Ts := gw_tbl) (As := as.map (cv (gA G))) (rest := rest.map (cv (gA G))) (b := gA G 52 j) (nL := I.2.2.1) ⟨hc.1, hc.2.1, hc.2.2.1, hc.2.2.2.2.1, hgood⟩ (hm hok hM H.size) hcw ⟨hb, va_Orecv (hc.2.2.2.2.2.2.2.2.2.1.2.2.2.2.2.2.1 j hok.hd).1 hS, hPc⟩ rfl rfl hL.1 (by show List.map (cv (gA G)) (as.reverse ++ vR 52 j :: rest) = _; rw [List.map_append, List.map_reverse]; rfl) (by rw [avc_sum]; show 0 + _ ≤ 8; omega) hd ⟨Nat.zero_le _, Nat.zero_le _⟩⟩
end STR
set_option maxRecDepth 20000 in
set_option maxHeartbeats 4000000 in
theorem k_coder (G : GX) {M : Mem} (j : Nat) : MetM G yJ0_coder_7d493 iJ0_coder_7d493 [vR 52 j] M (fun r M' => r = some (vI 0) ∧ M' = M) := by
  refine MetM.of (ls := [some (vR 52 j)]) (by decide) rfl (Nat.le_of_ble_eq_true rfl) rfl ?_
  intro hM0
  refine Rn.gets_CS (pc := 0) rfl dJ0_coder_7d493_0 ?_
  refine Rn.if_eq (pc := 3) (y := 0) (tgt := 13) dJ0_coder_7d493_3 (by decide) (fun c3 => ?_) (fun c3 => ?_)
  · exact absurd c3 (by decide)
  · refine Rn.aload_n (pc := 6) dJ0_coder_7d493_6 rfl rfl ?_
    refine Rn.get_coder (pc := 7) wfJ0_15 dJ0_coder_7d493_7 ?_
    refine Rn.goto (pc := 10) (tgt := 14) dJ0_coder_7d493_10 (by decide) ?_
    refine Rn.zret (pc := 14) rfl rfl dJ0_coder_7d493_14 ?_
    exact ⟨rfl, rfl⟩

set_option maxRecDepth 20000 in
set_option maxHeartbeats 4000000 in
theorem k_isLatin1 (G : GX) {M : Mem} (j : Nat) : MetM G yJ0_isLatin1_aae02 iJ0_isLatin1_aae02 [vR 52 j] M (fun r M' => r = some (vI (bI true)) ∧ M' = M) := by
  refine MetM.of (ls := [some (vR 52 j)]) (by decide) rfl (Nat.le_of_ble_eq_true rfl) rfl ?_
  intro hM0
  refine Rn.gets_CS (pc := 0) rfl dJ0_isLatin1_aae02_0 ?_
  refine Rn.if_eq (pc := 3) (y := 0) (tgt := 17) dJ0_isLatin1_aae02_3 (by decide) (fun c3 => ?_) (fun c3 => ?_)
  · exact absurd c3 (by decide)
  · refine Rn.aload_n (pc := 6) dJ0_isLatin1_aae02_6 rfl rfl ?_
    refine Rn.get_coder (pc := 7) wfJ0_15 dJ0_isLatin1_aae02_7 ?_
    refine Rn.if_ne (pc := 10) (y := 0) (tgt := 17) dJ0_isLatin1_aae02_10 (by decide) (fun c10 => ?_) (fun c10 => ?_)
    · exact absurd rfl c10
    · refine Rn.iconst (pc := 13) (v := nI 1) dJ0_isLatin1_aae02_13 (by decide) ?_
      refine Rn.goto (pc := 14) (tgt := 18) dJ0_isLatin1_aae02_14 (by decide) ?_
      refine Rn.zret (pc := 18) rfl rfl dJ0_isLatin1_aae02_18 ?_
      exact ⟨rfl, rfl⟩

set_option maxRecDepth 20000 in
set_option maxHeartbeats 4000000 in
theorem k_length (G : GX) {M : Mem} (j : Nat) (hj : j < 60) : MetM G yJ0_length_8abf5 iJ0_length_8abf5 [vR 52 j] M (fun r M' => r = some (vI (nI (sbn j))) ∧ M' = M) := by
  refine MetM.of (ls := [some (vR 52 j)]) (by decide) rfl (Nat.le_of_ble_eq_true rfl) rfl ?_
  intro hM0
  refine Rn.aload_n (pc := 0) dJ0_length_8abf5_0 rfl rfl ?_
  refine Rn.get_value (pc := 1) wfJ0_9 dJ0_length_8abf5_1 ?_
  refine Rn.alenV (pc := 4) dJ0_length_8abf5_4 ?_
  refine Rn.aload_n (pc := 5) dJ0_length_8abf5_5 rfl rfl ?_
  refine Rn.callO (pc := 6) (as := []) cvJ0_335 ⟨by decide, by decide⟩ dJ0_length_8abf5_6 (Nat.le_of_ble_eq_true rfl) rfl (k_coder G j) ?_
  rintro _ M9 ⟨rfl, h9⟩
  rw [h9]
  refine Rn.ishr (pc := 9) dJ0_length_8abf5_9 ?_
  rw [show nI (sbn j) >>> ((0 : Int32) &&& 31) = nI (sbn j) by rw [pk_shrN (by have := sb_len j hj; omega) _ 0 (by decide)]; congr 1; exact Nat.div_one _]
  refine Rn.iret (pc := 10) rfl dJ0_length_8abf5_10 ?_
  exact ⟨rfl, rfl⟩

set_option maxRecDepth 20000 in
set_option maxHeartbeats 4000000 in
theorem k_J3check_n (G : GX) {M : Mem} (i n : Nat) (hi : i < n) (hn : n < 2 ^ 31) : MetM G yJ3_checkIndex_8e157 iJ3_checkIndex_8e157 [vI (nI i), vI (nI n), vN] M (fun r M' => r = some (vI (nI i)) ∧ M' = M) := by
  refine MetM.of (ls := [some (vI (nI i)), some (vI (nI n)), some (vN)]) (by decide) rfl (Nat.le_of_ble_eq_true rfl) rfl ?_
  intro hM0
  refine Rn.iload_n (pc := 0) dJ3_checkIndex_8e157_0 rfl rfl ?_
  refine Rn.if_lt (pc := 1) (y := 0) (tgt := 9) dJ3_checkIndex_8e157_1 (by decide) (fun c1 => ?_) (fun c1 => ?_)
  · exact absurd c1 (nI_pos (by omega))
  · refine Rn.iload_n (pc := 4) dJ3_checkIndex_8e157_4 rfl rfl ?_
    refine Rn.iload_n (pc := 5) dJ3_checkIndex_8e157_5 rfl rfl ?_
    refine Rn.icmp_ltN (pc := 6) (tgt := 16) dJ3_checkIndex_8e157_6 (by decide) (by omega) (by omega) (fun c6 => ?_) (fun c6 => ?_)
    · refine Rn.iload_n (pc := 16) dJ3_checkIndex_8e157_16 rfl rfl ?_
      refine Rn.iret (pc := 17) rfl dJ3_checkIndex_8e157_17 ?_
      exact ⟨rfl, rfl⟩
    · exact absurd hi (by omega)

set_option maxRecDepth 20000 in
set_option maxHeartbeats 4000000 in
theorem k_J3check_r (G : GX) {M : Mem} (i n : Nat) (hi : i < n) (hn : n < 2 ^ 31) : MetM G yJ3_checkIndex_8e157 iJ3_checkIndex_8e157 [vI (nI i), vI (nI n), vR 55 0] M (fun r M' => r = some (vI (nI i)) ∧ M' = M) := by
  refine MetM.of (ls := [some (vI (nI i)), some (vI (nI n)), some (vR 55 0)]) (by decide) rfl (Nat.le_of_ble_eq_true rfl) rfl ?_
  intro hM0
  refine Rn.iload_n (pc := 0) dJ3_checkIndex_8e157_0 rfl rfl ?_
  refine Rn.if_lt (pc := 1) (y := 0) (tgt := 9) dJ3_checkIndex_8e157_1 (by decide) (fun c1 => ?_) (fun c1 => ?_)
  · exact absurd c1 (nI_pos (by omega))
  · refine Rn.iload_n (pc := 4) dJ3_checkIndex_8e157_4 rfl rfl ?_
    refine Rn.iload_n (pc := 5) dJ3_checkIndex_8e157_5 rfl rfl ?_
    refine Rn.icmp_ltN (pc := 6) (tgt := 16) dJ3_checkIndex_8e157_6 (by decide) (by omega) (by omega) (fun c6 => ?_) (fun c6 => ?_)
    · refine Rn.iload_n (pc := 16) dJ3_checkIndex_8e157_16 rfl rfl ?_
      refine Rn.iret (pc := 17) rfl dJ3_checkIndex_8e157_17 ?_
      exact ⟨rfl, rfl⟩
    · exact absurd hi (by omega)

set_option maxRecDepth 20000 in
set_option maxHeartbeats 4000000 in
theorem k_J0check (G : GX) {M : Mem} (i n : Nat) (hi : i < n) (hn : n < 2 ^ 31) : MetM G yJ0_checkIndex_df160 iJ0_checkIndex_df160 [vI (nI i), vI (nI n)] M (fun r M' => r = none ∧ M' = M) := by
  refine MetM.of (ls := [some (vI (nI i)), some (vI (nI n))]) (by decide) rfl (Nat.le_of_ble_eq_true rfl) rfl ?_
  intro hM0
  refine Rn.iload_n (pc := 0) dJ0_checkIndex_df160_0 rfl rfl ?_
  refine Rn.iload_n (pc := 1) dJ0_checkIndex_df160_1 rfl rfl ?_
  refine Rn.gets_F (pc := 2) rfl dJ0_checkIndex_df160_2 ?_
  rintro v (rfl | rfl)
  · refine Rn.callS (pc := 5) (as := [_, _, _]) csJ0_1059 ⟨by decide, by decide⟩ dJ0_checkIndex_df160_5 (Nat.le_of_ble_eq_true rfl) rfl (k_J3check_n G i n hi hn) ?_
    rintro _ M9 ⟨rfl, h9⟩
    rw [h9]
    refine Rn.popI (pc := 8) (y := 0) (r := 0) (j := 0) dJ0_checkIndex_df160_8 ?_
    refine Rn.vret (pc := 9) rfl dJ0_checkIndex_df160_9 ?_
    exact ⟨rfl, rfl⟩
  · refine Rn.callS (pc := 5) (as := [_, _, _]) csJ0_1059 ⟨by decide, by decide⟩ dJ0_checkIndex_df160_5 (Nat.le_of_ble_eq_true rfl) rfl (k_J3check_r G i n hi hn) ?_
    rintro _ M9 ⟨rfl, h9⟩
    rw [h9]
    refine Rn.popI (pc := 8) (y := 0) (r := 0) (j := 0) dJ0_checkIndex_df160_8 ?_
    refine Rn.vret (pc := 9) rfl dJ0_checkIndex_df160_9 ?_
    exact ⟨rfl, rfl⟩

set_option maxRecDepth 20000 in
set_option maxHeartbeats 4000000 in
theorem k_J1charAt (G : GX) {M : Mem} (j k : Nat) (hj : j < 60) (hk : k < sbn j) : MetM G yJ1_charAt_3b067 iJ1_charAt_3b067 [vR 53 j, vI (nI k)] M (fun r M' => r = some (vI (nI (sbc j k))) ∧ M' = M) := by
  refine MetM.of (ls := [some (vR 53 j), some (vI (nI k))]) (by decide) rfl (Nat.le_of_ble_eq_true rfl) rfl ?_
  intro hM0
  have hs := sb_all j hj k hk
  have hl := sb_len j hj
  refine Rn.iload_n (pc := 0) dJ1_charAt_3b067_0 rfl rfl ?_
  refine Rn.aload_n (pc := 1) dJ1_charAt_3b067_1 rfl rfl ?_
  refine Rn.alenV (pc := 2) dJ1_charAt_3b067_2 ?_
  refine Rn.callS (pc := 3) (as := [_, _]) csJ1_9 ⟨by decide, by decide⟩ dJ1_charAt_3b067_3 (Nat.le_of_ble_eq_true rfl) rfl (k_J0check G k (sbn j) hk (by omega)) ?_
  rintro _ M9 ⟨rfl, h9⟩
  rw [h9]
  refine Rn.aload_n (pc := 6) dJ1_charAt_3b067_6 rfl rfl ?_
  refine Rn.iload_n (pc := 7) dJ1_charAt_3b067_7 rfl rfl ?_
  refine Rn.baldV (pc := 8) hk dJ1_charAt_3b067_8 ?_
  rw [hs.1]
  refine Rn.sipush (pc := 9) (v := nI 255) dJ1_charAt_3b067_9 (by decide) ?_
  refine Rn.iand (pc := 12) dJ1_charAt_3b067_12 ?_
  rw [pk_andN (by omega) 8 (by decide), Nat.mod_eq_of_lt (by omega)]
  refine Rn.i2c (pc := 13) dJ1_charAt_3b067_13 ?_
  rw [i2c_N (by omega)]
  refine Rn.zret (pc := 14) rfl (nI_ch (by omega)) dJ1_charAt_3b067_14 ?_
  exact ⟨rfl, rfl⟩

set_option maxRecDepth 20000 in
set_option maxHeartbeats 4000000 in
theorem k_charAt (G : GX) {M : Mem} (j k : Nat) (hj : j < 60) (hk : k < sbn j) : MetM G yJ0_charAt_5068e iJ0_charAt_5068e [vR 52 j, vI (nI k)] M (fun r M' => r = some (vI (nI (sbc j k))) ∧ M' = M) := by
  refine MetM.of (ls := [some (vR 52 j), some (vI (nI k))]) (by decide) rfl (Nat.le_of_ble_eq_true rfl) rfl ?_
  intro hM0
  have hs := sb_all j hj k hk
  refine Rn.aload_n (pc := 0) dJ0_charAt_5068e_0 rfl rfl ?_
  refine Rn.callO (pc := 1) (as := []) cvJ0_492 ⟨by decide, by decide⟩ dJ0_charAt_5068e_1 (Nat.le_of_ble_eq_true rfl) rfl (k_isLatin1 G j) ?_
  rintro _ M9 ⟨rfl, h9⟩
  rw [h9]
  refine Rn.if_eqB (pc := 4) (tgt := 16) dJ0_charAt_5068e_4 (by decide) (fun c4 => ?_) (fun c4 => ?_)
  · cases c4
  · refine Rn.aload_n (pc := 7) dJ0_charAt_5068e_7 rfl rfl ?_
    refine Rn.get_value (pc := 8) wfJ0_9 dJ0_charAt_5068e_8 ?_
    refine Rn.iload_n (pc := 11) dJ0_charAt_5068e_11 rfl rfl ?_
    refine Rn.callS (pc := 12) (as := [_, _]) csJ0_495 ⟨by decide, by decide⟩ dJ0_charAt_5068e_12 (Nat.le_of_ble_eq_true rfl) rfl (k_J1charAt G j k hj hk) ?_
    rintro _ M9 ⟨rfl, h9⟩
    rw [h9]
    refine Rn.zret (pc := 15) rfl (nI_ch (by omega)) dJ0_charAt_5068e_15 ?_
    exact ⟨rfl, rfl⟩

