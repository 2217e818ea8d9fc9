/-- the name that signs say, or 0 -/
def nmv (q : Nat × (Nat → Nat)) : Nat := if isNm q.2 0 q.1 = true then pkN q.2 0 q.1 else 0
theorem nm_mk {L : Nat → Nat} {a e : Nat} (h1 : a < e) (h2 : e - a ≤ 6) (h3 : isLow (L a) = true) (h4 : ∀ i, i < e - a → isWs (L (a + i)) = true) : isNm L a e = true := by
  have hr : run isWs L e a = e := by
    have s1 := run_ge (p := isWs) (L := L) (n := e) (a := a) (by omega)
    have s2 := run_le (p := isWs) (L := L) (n := e) (a := a) (by omega)
    have s3 := run_stop (p := isWs) (L := L) (n := e) (a := a) (by omega)
    rcases Nat.lt_or_ge (run isWs L e a) e with q | q
    · have h9 := s3 q
      have h8 := h4 (run isWs L e a - a) (by omega)
      rw [show a + (run isWs L e a - a) = run isWs L e a by omega] at h8
      rw [h8] at h9; cases h9
    · omega
  unfold isNm allWs
  simp only [Bool.and_eq_true, decide_eq_true_eq]
  exact ⟨⟨⟨by omega, h2⟩, h3⟩, hr⟩
theorem NmA.typed {v : Nat} {f : Nat → Int32} (h : NmA v f) {q : Nat × (Nat → Nat)} (hq : ∀ i, i < q.1 → 0 < q.2 i ∧ q.2 i < 256) : ((0 < q.1 ∧ q.1 ≤ 6) ∧ ∀ j, j < 6 → f j = nI (tch q.2 0 q.1 j)) ↔ v = nmv q := by
  have hv0 := h.ne0
  constructor
  · rintro ⟨⟨h1, h2⟩, h3⟩
    have hn : isNm q.2 0 q.1 = true := by
      obtain ⟨L, a, e, g1, g2, g3⟩ := h
      have f9 := nm_f g1
      have b9 := nm_b g1
      have key : ∀ j, j < 6 → tch L a e j = tch q.2 0 q.1 j := by
        intro j hj
        have e9 := (g3 j hj).symm.trans (h3 j hj)
        refine (nI_eq (by have := tch_lt (j := j) g1; omega) ?_).mp e9
        unfold tch; split
        · have := (hq (0 + j) (by omega)).2; omega
        · decide
      have hl : e - a = q.1 := by
        rcases Nat.lt_trichotomy (e - a) q.1 with z | z | z
        · have k9 := key (e - a) (by omega)
          unfold tch at k9
          rw [if_neg (by omega), if_pos (by omega)] at k9
          have := (hq (0 + (e - a)) (by omega)).1
          omega
        · exact z
        · have k9 := key q.1 (by omega)
          unfold tch at k9
          rw [if_pos (by omega), if_neg (by omega)] at k9
          have := (b9 q.1 z).1
          omega
      have ch : ∀ j, j < q.1 → q.2 (0 + j) = L (a + j) := by
        intro j hj
        have k9 := key j (by omega)
        unfold tch at k9
        rw [if_pos (by omega), if_pos (by omega)] at k9
        exact k9.symm
      refine nm_mk h1 (by omega) ?_ (fun i hi => ?_)
      · have := ch 0 h1
        rw [Nat.add_zero, Nat.add_zero] at this
        rw [this]; exact f9.2.2.1
      · rw [ch i (by omega)]; exact f9.2.2.2 i (by omega)
    unfold nmv; rw [if_pos hn]
    have h9 := (h.cmp hn).mp h3
    rwa [Nat.sub_zero] at h9
  · intro e9
    unfold nmv at e9
    by_cases hn : isNm q.2 0 q.1 = true
    · rw [if_pos hn] at e9
      have f9 := nm_f hn
      exact ⟨⟨by omega, by omega⟩, (h.cmp hn).mpr (by rw [Nat.sub_zero]; exact e9)⟩
    · rw [if_neg hn] at e9; exact absurd e9 hv0
set_option maxRecDepth 20000 in
set_option maxHeartbeats 4000000 in
theorem ad_24 (G : GX) {M : Mem} (m : Nat) (bs : Nat → Nat) (B : LB) (q : Nat × (Nat → Nat)) (hm : m < 4) (hq : TyM q M) (hq48 : q.1 ≤ 48) (hq9 : ∀ i, i < q.1 → 0 < q.2 i ∧ q.2 i < 256) (h96 : B.1 ≤ 96) (hW : LbW B) (hB : LbM 96 B M) (hk : mI M 11 0 20 = nI B.1) (hbs : ∀ s, s < 12 → mI M 36 0 s = nI (bs s)) : Rn G iX12_address (fun r M' => r = some (vI (adO bs B (fnd B m (nmv q)))) ∧ M' = M) 24 [some (vR 11 0), some (vI (nI m)), some (vI (nI 96)), none, none] [] M := by
  have loop : ∀ (d t : Nat) (x3 x4 : Option AV), B.1 - t = d → t ≤ B.1 → (∀ k, k < t → ¬ ((B.2 k).1 = m ∧ (B.2 k).2.2.2 = nmv q)) → Rn G iX12_address (fun r M' => r = some (vI (adO bs B (fnd B m (nmv q)))) ∧ M' = M) 24 [some (vR 11 0), some (vI (nI m)), some (vI (nI (96 + t))), x3, x4] [] M := by
    intro d
    induction d using Nat.strongRecOn with
    | ind d ih9 =>
      intro t x3 x4 hd ht9 hno
      have ih : ∀ (t' : Nat) (x3 x4 : Option AV), t < t' → t' ≤ B.1 → (∀ k, k < t' → ¬ ((B.2 k).1 = m ∧ (B.2 k).2.2.2 = nmv q)) → Rn G iX12_address (fun r M' => r = some (vI (adO bs B (fnd B m (nmv q)))) ∧ M' = M) 24 [some (vR 11 0), some (vI (nI m)), some (vI (nI (96 + t'))), x3, x4] [] M := fun t' x3 x4 h1 h2 h3 => ih9 (B.1 - t') (by omega) t' x3 x4 rfl h2 h3
      refine Rn.iload_n (pc := 24) dX12_address_24 rfl rfl ?_
      refine Rn.bipush (pc := 25) (v := nI 96) dX12_address_25 (by decide) ?_
      refine Rn.aload_n (pc := 27) dX12_address_27 rfl rfl ?_
      refine Rn.getI (pc := 28) (t := 0) flX12_322 hk dX12_address_28 ?_
      refine Rn.iaddN (pc := 31) dX12_address_31 ?_
      refine Rn.icmp_geN (pc := 32) (tgt := 161) dX12_address_32 (by decide) (by omega) (by omega) (fun c32 => ?_) (fun c32 => ?_)
      · refine Rn.iconst (pc := 161) (v := -1) dX12_address_161 (by decide) ?_
        refine Rn.iret (pc := 162) rfl dX12_address_162 ?_
        have hfn : fnd B m (nmv q) = none := by
          cases hf : fnd B m (nmv q) with
          | none => rfl
          | some k =>
            have h9 := fnd_some hf
            exact absurd h9.2 (hno k (by omega))
        rw [hfn]; exact ⟨rfl, rfl⟩
      · have ht : t < B.1 := by omega
        obtain ⟨hb1, hb2, hb3, hb4⟩ := hB t ht
        have hw := hW.1 t ht
        have K128 : ∀ (b : Bool) (x4 : Option AV), (b = true ↔ ((B.2 t).1 = m ∧ 0 < q.1 ∧ q.1 ≤ 6) ∧ ∀ j, j < 6 → mI M 26 0 (6 * (96 + t) + j) = nI (tch q.2 0 q.1 j)) → Rn G iX12_address (fun r M' => r = some (vI (adO bs B (fnd B m (nmv q)))) ∧ M' = M) 128 [some (vR 11 0), some (vI (nI m)), some (vI (nI (96 + t))), some (vI (bI b)), x4] [] M := by
          intro b x4 hbt
          refine Rn.iload_n (pc := 128) dX12_address_128 rfl rfl ?_
          refine Rn.if_eqB (pc := 129) (tgt := 155) dX12_address_129 (by decide) (fun c129 => ?_) (fun c129 => ?_)
          · refine Rn.iincN (pc := 155) (n := 1) dX12_address_155 rfl (by decide) (by decide) rfl st5_2 ?_
            refine Rn.goto (pc := 158) (tgt := 24) dX12_address_158 (by decide) ?_
            refine ih (t + 1) _ _ (by omega) (by omega) (fun k hk9 => ?_)
            rcases Nat.eq_or_lt_of_le (Nat.le_of_lt_succ hk9) with z | z
            · rw [z]; intro y
              have h9 := hbt.mpr ⟨⟨y.1, (hb4.typed hq9).mpr y.2 |>.1⟩, ((hb4.typed hq9).mpr y.2).2⟩
              rw [c129] at h9; cases h9
            · exact hno k z
          · refine Rn.aload_n (pc := 132) dX12_address_132 rfl rfl ?_
            refine Rn.getR (pc := 133) flX12_54 mu11_32 fx11_32 dX12_address_133 ?_
            refine Rn.iconst (pc := 136) (v := nI 3) dX12_address_136 (by decide) ?_
            refine Rn.iload_n (pc := 137) dX12_address_137 rfl rfl ?_
            refine Rn.imulN (pc := 138) dX12_address_138 ?_
            refine Rn.aload_n (pc := 139) dX12_address_139 rfl rfl ?_
            refine Rn.getR (pc := 140) flX12_29 mu11_23 fx11_23 dX12_address_140 ?_
            refine Rn.iload_n (pc := 143) dX12_address_143 rfl rfl ?_
            refine Rn.ialdN (pc := 144) ak28 (by omega) (by decide) hb2 dX12_address_144 ?_
            refine Rn.iaddN (pc := 145) dX12_address_145 ?_
            refine Rn.ialdN (pc := 146) ak36 (by omega) (by decide) (hbs _ (by omega)) dX12_address_146 ?_
            refine Rn.aload_n (pc := 147) dX12_address_147 rfl rfl ?_
            refine Rn.getR (pc := 148) flX12_32 mu11_24 fx11_24 dX12_address_148 ?_
            refine Rn.iload_n (pc := 151) dX12_address_151 rfl rfl ?_
            refine Rn.ialdN (pc := 152) ak29 (by omega) (by decide) hb3 dX12_address_152 ?_
            refine Rn.iaddN (pc := 153) dX12_address_153 ?_
            refine Rn.iret (pc := 154) rfl dX12_address_154 ?_
            have h9 := hbt.mp c129
            have h8 := (hb4.typed hq9).mp ⟨h9.1.2, h9.2⟩
            rw [fnd_eq hW ht h9.1.1 h8]
            refine ⟨?_, rfl⟩
            show _ = some (vI (nI (ad bs B t)))
            unfold ad
            rw [h9.1.1]
        have I70 : ∀ (d c : Nat) (b : Bool), 6 - c = d → c ≤ 6 → (b = true ↔ ((B.2 t).1 = m ∧ 0 < q.1 ∧ q.1 ≤ 6) ∧ ∀ j, j < c → mI M 26 0 (6 * (96 + t) + j) = nI (tch q.2 0 q.1 j)) → Rn G iX12_address (fun r M' => r = some (vI (adO bs B (fnd B m (nmv q)))) ∧ M' = M) 70 [some (vR 11 0), some (vI (nI m)), some (vI (nI (96 + t))), some (vI (bI b)), some (vI (nI c))] [] M := by
          intro d
          induction d using Nat.strongRecOn with
          | ind d ihd =>
            intro c b hd hc hbt
            have ihc : ∀ (c' : Nat) (b : Bool), c < c' → c' ≤ 6 → (b = true ↔ ((B.2 t).1 = m ∧ 0 < q.1 ∧ q.1 ≤ 6) ∧ ∀ j, j < c' → mI M 26 0 (6 * (96 + t) + j) = nI (tch q.2 0 q.1 j)) → Rn G iX12_address (fun r M' => r = some (vI (adO bs B (fnd B m (nmv q)))) ∧ M' = M) 70 [some (vR 11 0), some (vI (nI m)), some (vI (nI (96 + t))), some (vI (bI b)), some (vI (nI c'))] [] M := fun c' b h1 h2 h3 => ihd (6 - c') (by omega) c' b rfl h2 h3
            refine Rn.iload (pc := 70) dX12_address_70 rfl ?_
            refine Rn.bipush (pc := 72) (v := nI 6) dX12_address_72 (by decide) ?_
            refine Rn.icmp_geN (pc := 74) (tgt := 128) dX12_address_74 (by decide) (by omega) (by omega) (fun c74 => ?_) (fun c74 => ?_)
            · exact K128 b _ ⟨fun z => ⟨(hbt.mp z).1, fun j hj => (hbt.mp z).2 j (by omega)⟩, fun z => hbt.mpr ⟨z.1, fun j hj => z.2 j (by omega)⟩⟩
            · refine Rn.iload_n (pc := 77) dX12_address_77 rfl rfl ?_
              refine Rn.if_eqB (pc := 78) (tgt := 128) dX12_address_78 (by decide) (fun c78 => ?_) (fun c78 => ?_)
              · exact K128 b _ ⟨fun z => (by rw [c78] at z; cases z), fun z => hbt.mpr ⟨z.1, fun j hj => z.2 j (by omega)⟩⟩
              · refine Rn.aload_n (pc := 81) dX12_address_81 rfl rfl ?_
                refine Rn.getR (pc := 82) flX12_23 mu11_21 fx11_21 dX12_address_82 ?_
                refine Rn.bipush (pc := 85) (v := nI 6) dX12_address_85 (by decide) ?_
                refine Rn.iload_n (pc := 87) dX12_address_87 rfl rfl ?_
                refine Rn.imulN (pc := 88) dX12_address_88 ?_
                refine Rn.iload (pc := 89) dX12_address_89 rfl ?_
                refine Rn.iaddN (pc := 91) dX12_address_91 ?_
                refine Rn.caldN (pc := 92) ak26 (by omega) (by decide) rfl dX12_address_92 ?_
                refine Rn.iload (pc := 93) dX12_address_93 rfl ?_
                refine Rn.aload_n (pc := 95) dX12_address_95 rfl rfl ?_
                refine Rn.getI (pc := 96) (t := 0) flX12_76 hq.1 dX12_address_96 ?_
                refine Rn.icmp_geN (pc := 99) (tgt := 112) dX12_address_99 (by decide) (by omega) (by omega) (fun c99 => ?_) (fun c99 => ?_)
                · refine Rn.iconst (pc := 112) (v := nI 0) dX12_address_112 (by decide) ?_
                  have hch : nI 0 = nI (tch q.2 0 q.1 c) := by
                    unfold tch; rw [if_neg (by omega)]
                  refine Rn.icmp_ne (pc := 113) (tgt := 120) dX12_address_113 (by decide) (fun c113 => ?_) (fun c113 => ?_)
                  · refine Rn.iconst (pc := 120) (v := nI 0) dX12_address_120 (by decide) ?_
                    refine Rn.istore_n (pc := 121) dX12_address_121 rfl (by decide) rfl st5_3 ?_
                    refine Rn.iincN (pc := 122) (n := 1) dX12_address_122 rfl (by decide) (by decide) rfl st5_4 ?_
                    refine Rn.goto (pc := 125) (tgt := 70) dX12_address_125 (by decide) ?_
                    refine ihc (c + 1) false (by omega) (by omega) ⟨fun z => (by cases z), fun z => ?_⟩
                    exact absurd ((z.2 c (by omega)).trans hch.symm) c113
                  · refine Rn.iconst (pc := 116) (v := nI 1) dX12_address_116 (by decide) ?_
                    refine Rn.goto (pc := 117) (tgt := 121) dX12_address_117 (by decide) ?_
                    refine Rn.istore_n (pc := 121) dX12_address_121 rfl (by decide) rfl st5_3 ?_
                    refine Rn.iincN (pc := 122) (n := 1) dX12_address_122 rfl (by decide) (by decide) rfl st5_4 ?_
                    refine Rn.goto (pc := 125) (tgt := 70) dX12_address_125 (by decide) ?_
                    refine ihc (c + 1) true (by omega) (by omega) ⟨fun _ => ⟨(hbt.mp c78).1, fun j hj => ?_⟩, fun _ => rfl⟩
                    rcases Nat.eq_or_lt_of_le (Nat.le_of_lt_succ hj) with z | z
                    · rw [z, c113, hch]
                    · exact (hbt.mp c78).2 j z
                · refine Rn.aload_n (pc := 102) dX12_address_102 rfl rfl ?_
                  refine Rn.getR (pc := 103) flX12_7 mu11_1 fx11_1 dX12_address_103 ?_
                  refine Rn.iload (pc := 106) dX12_address_106 rfl ?_
                  refine Rn.caldN (pc := 108) ak22 (by omega) (by decide) (hq.2 c (by omega) (by omega)) dX12_address_108 ?_
                  refine Rn.goto (pc := 109) (tgt := 113) dX12_address_109 (by decide) ?_
                  have hch : nI (q.2 c) = nI (tch q.2 0 q.1 c) := by
                    unfold tch; rw [if_pos (by omega), Nat.zero_add]
                  refine Rn.icmp_ne (pc := 113) (tgt := 120) dX12_address_113 (by decide) (fun c113 => ?_) (fun c113 => ?_)
                  · refine Rn.iconst (pc := 120) (v := nI 0) dX12_address_120 (by decide) ?_
                    refine Rn.istore_n (pc := 121) dX12_address_121 rfl (by decide) rfl st5_3 ?_
                    refine Rn.iincN (pc := 122) (n := 1) dX12_address_122 rfl (by decide) (by decide) rfl st5_4 ?_
                    refine Rn.goto (pc := 125) (tgt := 70) dX12_address_125 (by decide) ?_
                    refine ihc (c + 1) false (by omega) (by omega) ⟨fun z => (by cases z), fun z => ?_⟩
                    exact absurd ((z.2 c (by omega)).trans hch.symm) c113
                  · refine Rn.iconst (pc := 116) (v := nI 1) dX12_address_116 (by decide) ?_
                    refine Rn.goto (pc := 117) (tgt := 121) dX12_address_117 (by decide) ?_
                    refine Rn.istore_n (pc := 121) dX12_address_121 rfl (by decide) rfl st5_3 ?_
                    refine Rn.iincN (pc := 122) (n := 1) dX12_address_122 rfl (by decide) (by decide) rfl st5_4 ?_
                    refine Rn.goto (pc := 125) (tgt := 70) dX12_address_125 (by decide) ?_
                    refine ihc (c + 1) true (by omega) (by omega) ⟨fun _ => ⟨(hbt.mp c78).1, fun j hj => ?_⟩, fun _ => rfl⟩
                    rcases Nat.eq_or_lt_of_le (Nat.le_of_lt_succ hj) with z | z
                    · rw [z, c113, hch]
                    · exact (hbt.mp c78).2 j z
        refine Rn.aload_n (pc := 35) dX12_address_35 rfl rfl ?_
        refine Rn.getR (pc := 36) flX12_26 mu11_22 fx11_22 dX12_address_36 ?_
        refine Rn.iload_n (pc := 39) dX12_address_39 rfl rfl ?_
        refine Rn.ialdN (pc := 40) ak27 (by omega) (by decide) hb1 dX12_address_40 ?_
        refine Rn.iload_n (pc := 41) dX12_address_41 rfl rfl ?_
        refine Rn.icmp_neN (pc := 42) (tgt := 65) dX12_address_42 (by decide) (by omega) (by omega) (fun c42 => ?_) (fun c42 => ?_)
        · refine Rn.iconst (pc := 65) (v := nI 0) dX12_address_65 (by decide) ?_
          refine Rn.istore_n (pc := 66) dX12_address_66 rfl (by decide) rfl st5_3 ?_
          refine Rn.iconst (pc := 67) (v := nI 0) dX12_address_67 (by decide) ?_
          refine Rn.istore (pc := 68) dX12_address_68 (by decide) rfl st5_4 ?_
          exact I70 6 0 false rfl (by decide) ⟨fun z => (by cases z), fun z => absurd z.1.1 c42⟩
        · refine Rn.aload_n (pc := 45) dX12_address_45 rfl rfl ?_
          refine Rn.getI (pc := 46) (t := 0) flX12_76 hq.1 dX12_address_46 ?_
          refine Rn.if_le (pc := 49) (y := 0) (tgt := 65) dX12_address_49 (by decide) (fun c49 => ?_) (fun c49 => ?_)
          · refine Rn.iconst (pc := 65) (v := nI 0) dX12_address_65 (by decide) ?_
            refine Rn.istore_n (pc := 66) dX12_address_66 rfl (by decide) rfl st5_3 ?_
            refine Rn.iconst (pc := 67) (v := nI 0) dX12_address_67 (by decide) ?_
            refine Rn.istore (pc := 68) dX12_address_68 (by decide) rfl st5_4 ?_
            exact I70 6 0 false rfl (by decide) ⟨fun z => (by cases z), fun z => absurd (nI_le0 (by omega) c49) (by omega)⟩
          · refine Rn.aload_n (pc := 52) dX12_address_52 rfl rfl ?_
            refine Rn.getI (pc := 53) (t := 0) flX12_76 hq.1 dX12_address_53 ?_
            refine Rn.bipush (pc := 56) (v := nI 6) dX12_address_56 (by decide) ?_
            refine Rn.icmp_gtN (pc := 58) (tgt := 65) dX12_address_58 (by decide) (by omega) (by omega) (fun c58 => ?_) (fun c58 => ?_)
            · refine Rn.iconst (pc := 65) (v := nI 0) dX12_address_65 (by decide) ?_
              refine Rn.istore_n (pc := 66) dX12_address_66 rfl (by decide) rfl st5_3 ?_
              refine Rn.iconst (pc := 67) (v := nI 0) dX12_address_67 (by decide) ?_
              refine Rn.istore (pc := 68) dX12_address_68 (by decide) rfl st5_4 ?_
              exact I70 6 0 false rfl (by decide) ⟨fun z => (by cases z), fun z => absurd z.1.2.2 (by omega)⟩
            · refine Rn.iconst (pc := 61) (v := nI 1) dX12_address_61 (by decide) ?_
              refine Rn.goto (pc := 62) (tgt := 66) dX12_address_62 (by decide) ?_
              refine Rn.istore_n (pc := 66) dX12_address_66 rfl (by decide) rfl st5_3 ?_
              refine Rn.iconst (pc := 67) (v := nI 0) dX12_address_67 (by decide) ?_
              refine Rn.istore (pc := 68) dX12_address_68 (by decide) rfl st5_4 ?_
              exact I70 6 0 true rfl (by decide) ⟨fun _ => ⟨⟨c42, by rcases Nat.eq_zero_or_pos q.1 with z | z; exact absurd (by rw [z]; decide) c49; exact z, c58⟩, fun j hj => absurd hj (Nat.not_lt_zero j)⟩, fun _ => rfl⟩
  exact loop B.1 0 none none rfl (Nat.zero_le _) (fun k hk9 => absurd hk9 (Nat.not_lt_zero k))
set_option maxRecDepth 20000 in
set_option maxHeartbeats 4000000 in
theorem c_address_in (G : GX) {M : Mem} (m : Nat) (bs : Nat → Nat) (B : LB) (q : Nat × (Nat → Nat)) (hm : m < 4) (hq : TyM q M) (hq48 : q.1 ≤ 48) (hq9 : ∀ i, i < q.1 → 0 < q.2 i ∧ q.2 i < 256) (h96 : B.1 ≤ 96) (hW : LbW B) (hB : LbM 96 B M) (hk : mI M 11 0 20 = nI B.1) (hbs : ∀ s, s < 12 → mI M 36 0 s = nI (bs s)) : MetM G yX12_address iX12_address [vR 11 0, vI (nI m)] M (fun r M' => r = some (vI (adO bs B (fnd B m (nmv q)))) ∧ M' = sI M 11 0 0 (nI 0)) := by
  refine MetM.of (ls := [some (vR 11 0), some (vI (nI m)), none, none, none]) (by decide) rfl (Nat.le_of_ble_eq_true rfl) rfl ?_
  intro hM0
  refine Rn.aload_n (pc := 0) dX12_address_0 rfl rfl ?_
  refine Rn.iload_n (pc := 1) dX12_address_1 rfl rfl ?_
  refine Rn.callS (pc := 2) (as := [_]) csX12_87 ⟨by decide, by decide⟩ dX12_address_2 (Nat.le_of_ble_eq_true rfl) rfl (c_isModule G (nI m)) ?_
  rintro _ M9 ⟨rfl, h9⟩
  rw [h9]
  rw [mod_N hm]
  refine Rn.if_eqB (pc := 5) (tgt := 12) dX12_address_5 (by decide) (fun c5 => ?_) (fun c5 => ?_)
  · cases c5
  · refine Rn.iconst (pc := 8) (v := nI 0) dX12_address_8 (by decide) ?_
    refine Rn.goto (pc := 9) (tgt := 13) dX12_address_9 (by decide) ?_
    refine Rn.callV (pc := 13) (as := [_]) cvX12_83 ⟨by decide, rfl⟩ ⟨by decide, by decide⟩ dX12_address_13 (Nat.le_of_ble_eq_true rfl) rfl (c_refused G (nI 0)) ?_
    rintro _ _ ⟨rfl, rfl⟩
    rw [ref_0]
    refine Rn.if_eqB (pc := 16) (tgt := 21) dX12_address_16 (by decide) (fun c16 => ?_) (fun c16 => ?_)
    · refine Rn.bipush (pc := 21) (v := nI 96) dX12_address_21 (by decide) ?_
      refine Rn.istore_n (pc := 23) dX12_address_23 rfl (by decide) rfl st5_2 ?_
      exact ad_24 G m bs B q hm ⟨hq.1, hq.2⟩ hq48 hq9 h96 hW (fun i hi => hB i hi) hk hbs
    · cases c16

set_option maxRecDepth 20000 in
set_option maxHeartbeats 4000000 in
theorem c_address_no (G : GX) {M : Mem} (x : Int32) (hx : decide (¬ x < 0 ∧ ¬ nI 4 ≤ x) = false) : MetM G yX12_address iX12_address [vR 11 0, vI x] M (fun r M' => r = some (vI (nI 0)) ∧ M' = sI M 11 0 0 (nI 1)) := by
  refine MetM.of (ls := [some (vR 11 0), some (vI x), none, none, none]) (by decide) rfl (Nat.le_of_ble_eq_true rfl) rfl ?_
  intro hM0
  refine Rn.aload_n (pc := 0) dX12_address_0 rfl rfl ?_
  refine Rn.iload_n (pc := 1) dX12_address_1 rfl rfl ?_
  refine Rn.callS (pc := 2) (as := [_]) csX12_87 ⟨by decide, by decide⟩ dX12_address_2 (Nat.le_of_ble_eq_true rfl) rfl (c_isModule G x) ?_
  rintro _ M9 ⟨rfl, h9⟩
  rw [h9]
  rw [hx]
  refine Rn.if_eqB (pc := 5) (tgt := 12) dX12_address_5 (by decide) (fun c5 => ?_) (fun c5 => ?_)
  · refine Rn.iconst (pc := 12) (v := nI 1) dX12_address_12 (by decide) ?_
    refine Rn.callV (pc := 13) (as := [_]) cvX12_83 ⟨by decide, rfl⟩ ⟨by decide, by decide⟩ dX12_address_13 (Nat.le_of_ble_eq_true rfl) rfl (c_refused G (nI 1)) ?_
    rintro _ _ ⟨rfl, rfl⟩
    rw [ref_1]
    refine Rn.if_eqB (pc := 16) (tgt := 21) dX12_address_16 (by decide) (fun c16 => ?_) (fun c16 => ?_)
    · cases c16
    · refine Rn.iconst (pc := 19) (v := nI 0) dX12_address_19 (by decide) ?_
      refine Rn.iret (pc := 20) rfl dX12_address_20 ?_
      exact ⟨rfl, rfl⟩
  · cases c5

