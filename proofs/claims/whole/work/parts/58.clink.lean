theorem neg3 {z : Nat} (h : z < 2 ^ 31) : - nI z &&& nI 3 = nI ((4 - z % 4) % 4) := by
  rw [pk_and _ 2 (by decide)]
  congr 1
  rw [Int32.toBitVec_neg, BitVec.toNat_neg, pk_tn (by omega)]
  omega
def SLo (A : CR) (j i m sec k i' s : Nat) : Prop := (k = 8 ∧ i' = i ∧ (s = 9 ∨ s = 10 ∨ (s = 6 ∧ rK A = 6))) ∨ ((k = 15 ∨ k = 16) ∧ i' = j) ∨ (k = 17 ∧ 3 * j ≤ i' ∧ i' < 3 * j + 3) ∨ (k = 3 ∧ i' = j ∧ s = 5) ∨ (k = 19 ∧ i' = 4 * (2 * j) + m ∧ s = sec)
def SL6 (A : CR) (j i m sec k i' s : Nat) : Prop := (k = 8 ∧ i' = i ∧ s = 6 ∧ rK A = 6) ∨ (k = 19 ∧ i' = 4 * (2 * j) + m ∧ s = sec)
def SAp (j k i' s : Nat) : Prop := ((k = 15 ∨ k = 16) ∧ i' = j) ∨ (k = 17 ∧ 3 * j ≤ i' ∧ i' < 3 * j + 3) ∨ (k = 3 ∧ i' = j ∧ s = 5)
theorem SL6_SLo {A : CR} {j i m sec k i' s : Nat} (h : SL6 A j i m sec k i' s) : SLo A j i m sec k i' s := h.elim (fun q => Or.inl ⟨q.1, q.2.1, Or.inr (Or.inr q.2.2)⟩) (fun q => Or.inr (Or.inr (Or.inr (Or.inr q))))
theorem SAp_SLo {A : CR} {j i m sec k i' s : Nat} (h : SAp j k i' s) : SLo A j i m sec k i' s := by
  rcases h with h | h | h
  · exact Or.inr (Or.inl h)
  · exact Or.inr (Or.inr (Or.inl h))
  · exact Or.inr (Or.inr (Or.inr (Or.inl h)))
theorem apC_fr {M : Mem} {j n v m s o : Nat} : Fr (SAp j) M (apC M j n v m s o) := by
  unfold apC
  exact ((((((Fr.refl M).sJ (Or.inl ⟨Or.inl rfl, rfl⟩)).sI (Or.inl ⟨Or.inr rfl, rfl⟩)).sI (Or.inr (Or.inl ⟨rfl, by omega, by omega⟩))).sI (Or.inr (Or.inl ⟨rfl, by omega, by omega⟩))).sI (Or.inr (Or.inl ⟨rfl, by omega, by omega⟩))).sI (Or.inr (Or.inr ⟨rfl, rfl, rfl⟩))
theorem apC_lab {A : CR} {M : Mem} {j m : Nat} {σ : S1} (hA : rLab A ≠ 0) (hL : LbC j σ.1 M) : LbC j (lab1 A m σ) (apC M j σ.1.1 (rLab A) m σ.2.2 (zz m σ)) := by
  unfold lab1 apC
  rw [if_neg hA]
  refine ⟨by rw [mI_sI, if_pos ⟨rfl, rfl, rfl⟩], fun i hi => ?_⟩
  dsimp only at hi ⊢
  by_cases q : i = σ.1.1
  · rw [if_pos q, q]
    refine ⟨?_, ?_, ?_, ?_⟩
    · rw [show ∀ (N : Mem) (k j s : Nat) (v : Int32), mJ (sI N k j s v) 15 = mJ N 15 from fun _ _ _ _ _ => rfl, show ∀ (N : Mem) (k j s : Nat) (v : Int32), mJ (sI N k j s v) 15 = mJ N 15 from fun _ _ _ _ _ => rfl, show ∀ (N : Mem) (k j s : Nat) (v : Int32), mJ (sI N k j s v) 15 = mJ N 15 from fun _ _ _ _ _ => rfl, show ∀ (N : Mem) (k j s : Nat) (v : Int32), mJ (sI N k j s v) 15 = mJ N 15 from fun _ _ _ _ _ => rfl, show ∀ (N : Mem) (k j s : Nat) (v : Int32), mJ (sI N k j s v) 15 = mJ N 15 from fun _ _ _ _ _ => rfl, mJ_sJ, if_pos ⟨rfl, rfl, rfl⟩]
    · rw [mI_sI, if_neg (by omega), mI_sI, if_neg (by omega), mI_sI, if_neg (by omega), mI_sI, if_pos ⟨rfl, rfl, rfl⟩]
    · rw [mI_sI, if_neg (by omega), mI_sI, if_neg (by omega), mI_sI, if_pos ⟨rfl, rfl, rfl⟩]
    · rw [mI_sI, if_neg (by omega), mI_sI, if_pos ⟨rfl, rfl, rfl⟩]
  · rw [if_neg q]
    have h9 := hL.2 i (by omega)
    refine ⟨?_, ?_, ?_, ?_⟩
    · rw [show ∀ (N : Mem) (k j s : Nat) (v : Int32), mJ (sI N k j s v) 15 = mJ N 15 from fun _ _ _ _ _ => rfl, show ∀ (N : Mem) (k j s : Nat) (v : Int32), mJ (sI N k j s v) 15 = mJ N 15 from fun _ _ _ _ _ => rfl, show ∀ (N : Mem) (k j s : Nat) (v : Int32), mJ (sI N k j s v) 15 = mJ N 15 from fun _ _ _ _ _ => rfl, show ∀ (N : Mem) (k j s : Nat) (v : Int32), mJ (sI N k j s v) 15 = mJ N 15 from fun _ _ _ _ _ => rfl, show ∀ (N : Mem) (k j s : Nat) (v : Int32), mJ (sI N k j s v) 15 = mJ N 15 from fun _ _ _ _ _ => rfl, mJ_sJ, if_neg (fun y => q y.2.2)]; exact h9.1
    · rw [mI_sI, if_neg (by omega), mI_sI, if_neg (by omega), mI_sI, if_neg (by omega), mI_sI, if_neg (by omega), mI_sI, if_neg (by omega)]; exact h9.2.1
    · rw [mI_sI, if_neg (by omega), mI_sI, if_neg (by omega), mI_sI, if_neg (by omega), mI_sI, if_neg (by omega), mI_sI, if_neg (by omega)]; exact h9.2.2.1
    · rw [mI_sI, if_neg (by omega), mI_sI, if_neg (by omega), mI_sI, if_neg (by omega), mI_sI, if_neg (by omega), mI_sI, if_neg (by omega)]; exact h9.2.2.2
theorem apC_g {A : CR} {M : Mem} {j m : Nat} {σ : S1} (hA : rLab A ≠ 0) (hG : GbC j σ.1 (fun _ => false) M) : GbC j (lab1 A m σ) (fun _ => false) (apC M j σ.1.1 (rLab A) m σ.2.2 (zz m σ)) := by
  intro i hi
  unfold lab1 at hi
  rw [if_neg hA] at hi
  dsimp only at hi
  unfold apC
  rw [mI_sI, if_neg (by omega), mI_sI, if_neg (by omega), mI_sI, if_neg (by omega), mI_sI, if_neg (by omega), mI_sI]
  by_cases q : i = σ.1.1
  · rw [if_pos ⟨rfl, rfl, q⟩]; rfl
  · rw [if_neg (fun y => q y.2.2)]; exact hG i (by omega)
set_option maxRecDepth 20000 in
set_option maxHeartbeats 4000000 in
theorem lo48_o (G : GX) {Post : Option AV → Mem → Prop} {N : Mem} (A : CR) (j i m sec z : Nat) (hrk : rK A = 0 ∨ rK A = 1 ∨ rK A = 2 ∨ rK A = 5) (hm : m < 4) (hsec : sec < 3) (hz : z ≤ 1024) (hk : mI N 8 i 3 = nI (rK A)) (hbyM : rK A ≠ 6 → mI N 8 i 6 = nI (bN A)) (hbn : bN A ≤ 512) (K : ∀ r M', r = some (vI (erL A sec z)) ∧ Fr (SL6 A j i m sec) N M' ∧ (erL A sec z = 0 → mI M' 19 (4 * (2 * j) + m) sec = nI (z + by1 A z)) → Post r M') : Rn G iX0_layOut Post 48 [some (vR 0 j), some (vR 8 i), some (vI (nI m)), some (vI (nI sec)), some (vI (nI z)), none, none, none] [] N := by
  replace hbyM := hbyM (by omega)
  refine Rn.aload_n (pc := 48) dX0_layOut_48 rfl rfl ?_
  refine Rn.getI (pc := 49) (t := 0) flX0_73 (show mI _ 8 i 3 = nI (rK A) from hk) dX0_layOut_49 ?_
  refine Rn.bipush (pc := 52) (v := nI 6) dX0_layOut_52 (by decide) ?_
  refine Rn.icmp_neN (pc := 54) (tgt := 66) dX0_layOut_54 (by decide) (by omega) (by omega) (fun c54 => ?_) (fun c54 => ?_)
  · refine Rn.aload_n (pc := 66) dX0_layOut_66 rfl rfl ?_
    refine Rn.getI (pc := 67) (t := 0) flX0_73 (show mI _ 8 i 3 = nI (rK A) from hk) dX0_layOut_67 ?_
    refine Rn.iconst (pc := 70) (v := nI 3) dX0_layOut_70 (by decide) ?_
    refine Rn.icmp_neN (pc := 71) (tgt := 78) dX0_layOut_71 (by decide) (by omega) (by omega) (fun c71 => ?_) (fun c71 => ?_)
    · refine Rn.iconst (pc := 78) (v := nI 0) dX0_layOut_78 (by decide) ?_
      refine Rn.istore (pc := 79) dX0_layOut_79 (by decide) rfl st8_5 ?_
      refine Rn.aload_n (pc := 81) dX0_layOut_81 rfl rfl ?_
      refine Rn.getI (pc := 82) (t := 0) flX0_73 (show mI _ 8 i 3 = nI (rK A) from hk) dX0_layOut_82 ?_
      refine Rn.bipush (pc := 85) (v := nI 7) dX0_layOut_85 (by decide) ?_
      refine Rn.icmp_neN (pc := 87) (tgt := 94) dX0_layOut_87 (by decide) (by omega) (by omega) (fun c87 => ?_) (fun c87 => ?_)
      · refine Rn.iconst (pc := 94) (v := nI 0) dX0_layOut_94 (by decide) ?_
        refine Rn.istore (pc := 95) dX0_layOut_95 (by decide) rfl st8_6 ?_
        refine Rn.iload (pc := 97) dX0_layOut_97 rfl ?_
        refine Rn.if_ne (pc := 99) (y := 0) (tgt := 110) dX0_layOut_99 (by decide) (fun c99 => ?_) (fun c99 => ?_)
        · exact absurd c99 (by decide)
        · refine Rn.aload_n (pc := 102) dX0_layOut_102 rfl rfl ?_
          refine Rn.getI (pc := 103) (t := 0) flX0_73 (show mI _ 8 i 3 = nI (rK A) from hk) dX0_layOut_103 ?_
          refine Rn.iconst (pc := 106) (v := nI 4) dX0_layOut_106 (by decide) ?_
          refine Rn.icmp_neN (pc := 107) (tgt := 114) dX0_layOut_107 (by decide) (by omega) (by omega) (fun c107 => ?_) (fun c107 => ?_)
          · refine Rn.iconst (pc := 114) (v := nI 0) dX0_layOut_114 (by decide) ?_
            refine Rn.istore (pc := 115) dX0_layOut_115 (by decide) rfl st8_7 ?_
            refine Rn.iload (pc := 117) dX0_layOut_117 rfl ?_
            refine Rn.if_eq (pc := 119) (y := 0) (tgt := 127) dX0_layOut_119 (by decide) (fun c119 => ?_) (fun c119 => ?_)
            · refine Rn.iload (pc := 127) dX0_layOut_127 rfl ?_
              refine Rn.if_eq (pc := 129) (y := 0) (tgt := 139) dX0_layOut_129 (by decide) (fun c129 => ?_) (fun c129 => ?_)
              · refine Rn.iload (pc := 139) dX0_layOut_139 rfl ?_
                refine Rn.if_eq (pc := 141) (y := 0) (tgt := 151) dX0_layOut_141 (by decide) (fun c141 => ?_) (fun c141 => ?_)
                · refine Rn.iload (pc := 151) dX0_layOut_151 rfl ?_
                  refine Rn.if_eq (pc := 153) (y := 0) (tgt := 166) dX0_layOut_153 (by decide) (fun c153 => ?_) (fun c153 => ?_)
                  · refine Rn.iload (pc := 166) dX0_layOut_166 rfl ?_
                    refine Rn.aload_n (pc := 168) dX0_layOut_168 rfl rfl ?_
                    refine Rn.getI (pc := 169) (t := 0) flX0_76 hbyM dX0_layOut_169 ?_
                    refine Rn.iaddN (pc := 172) dX0_layOut_172 ?_
                    refine Rn.sipush (pc := 173) (v := nI 1024) dX0_layOut_173 (by decide) ?_
                    refine Rn.icmp_leN (pc := 176) (tgt := 182) dX0_layOut_176 (by decide) (by omega) (by omega) (fun c176 => ?_) (fun c176 => ?_)
                    · refine Rn.aload_n (pc := 182) dX0_layOut_182 rfl rfl ?_
                      refine Rn.getR (pc := 183) flX0_21 mu0_1 fx0_1 dX0_layOut_183 ?_
                      refine Rn.getR (pc := 186) flX0_54 mu4_0 fx4_0 dX0_layOut_186 ?_
                      refine Rn.iload_n (pc := 189) dX0_layOut_189 rfl rfl ?_
                      refine Rn.aaldN (pc := 190) ak18 (by decide) rfl (by omega) (by decide) fx18 dX0_layOut_190 ?_
                      refine Rn.iload_n (pc := 191) dX0_layOut_191 rfl rfl ?_
                      refine Rn.iload (pc := 192) dX0_layOut_192 rfl ?_
                      refine Rn.aload_n (pc := 194) dX0_layOut_194 rfl rfl ?_
                      refine Rn.getI (pc := 195) (t := 0) flX0_76 hbyM dX0_layOut_195 ?_
                      refine Rn.iaddN (pc := 198) dX0_layOut_198 ?_
                      refine Rn.iastN (pc := 199) ak19 (by omega) (by decide) dX0_layOut_199 ?_
                      refine Rn.iconst (pc := 200) (v := nI 0) dX0_layOut_200 (by decide) ?_
                      refine Rn.iret (pc := 201) rfl dX0_layOut_201 ?_
                      have nk : ¬ badK A sec := fun q => by unfold badK at q; omega
                      have na : ¬ badA A z := fun q => by unfold badA at q; omega
                      have hb1 : by1 A z = bN A := by unfold by1; rw [if_neg (by omega)]
                      have he : erL A sec z = 0 := by unfold erL; rw [if_neg nk, if_neg na, if_neg (by omega)]
                      exact K _ _ ⟨by rw [he]; rfl, (Fr.refl N).sI (Or.inr ⟨rfl, rfl, rfl⟩), fun q => by rw [mI_sI, if_pos ⟨rfl, rfl, rfl⟩, hb1]⟩
                    · refine Rn.bipush (pc := 179) (v := -7) dX0_layOut_179 (by decide) ?_
                      refine Rn.iret (pc := 181) rfl dX0_layOut_181 ?_
                      have nk : ¬ badK A sec := fun q => by unfold badK at q; omega
                      have na : ¬ badA A z := fun q => by unfold badA at q; omega
                      have hb1 : by1 A z = bN A := by unfold by1; rw [if_neg (by omega)]
                      have he : erL A sec z = -7 := by unfold erL; rw [if_neg nk, if_neg na, if_pos (by omega)]
                      exact K _ _ ⟨by rw [he], (Fr.refl N), fun q => absurd (he.symm.trans q) (by decide)⟩
                  · exact absurd c153 (by decide)
                · exact absurd c141 (by decide)
              · exact absurd c129 (by decide)
            · exact absurd c119 (by decide)
          · exact absurd c107 (by omega)
      · exact absurd c87 (by omega)
    · exact absurd c71 (by omega)
  · exact absurd c54 (by omega)
set_option maxRecDepth 20000 in
set_option maxHeartbeats 4000000 in
theorem lo48_3 (G : GX) {Post : Option AV → Mem → Prop} {N : Mem} (A : CR) (j i m sec z : Nat) (hrk : rK A = 3) (hm : m < 4) (hsec : sec < 3) (hz : z ≤ 1024) (hk : mI N 8 i 3 = nI (rK A)) (hbyM : rK A ≠ 6 → mI N 8 i 6 = nI (bN A)) (hbn : bN A ≤ 512) (K : ∀ r M', r = some (vI (erL A sec z)) ∧ Fr (SL6 A j i m sec) N M' ∧ (erL A sec z = 0 → mI M' 19 (4 * (2 * j) + m) sec = nI (z + by1 A z)) → Post r M') : Rn G iX0_layOut Post 48 [some (vR 0 j), some (vR 8 i), some (vI (nI m)), some (vI (nI sec)), some (vI (nI z)), none, none, none] [] N := by
  replace hbyM := hbyM (by omega)
  refine Rn.aload_n (pc := 48) dX0_layOut_48 rfl rfl ?_
  refine Rn.getI (pc := 49) (t := 0) flX0_73 (show mI _ 8 i 3 = nI (rK A) from hk) dX0_layOut_49 ?_
  refine Rn.bipush (pc := 52) (v := nI 6) dX0_layOut_52 (by decide) ?_
  refine Rn.icmp_neN (pc := 54) (tgt := 66) dX0_layOut_54 (by decide) (by omega) (by omega) (fun c54 => ?_) (fun c54 => ?_)
  · refine Rn.aload_n (pc := 66) dX0_layOut_66 rfl rfl ?_
    refine Rn.getI (pc := 67) (t := 0) flX0_73 (show mI _ 8 i 3 = nI (rK A) from hk) dX0_layOut_67 ?_
    refine Rn.iconst (pc := 70) (v := nI 3) dX0_layOut_70 (by decide) ?_
    refine Rn.icmp_neN (pc := 71) (tgt := 78) dX0_layOut_71 (by decide) (by omega) (by omega) (fun c71 => ?_) (fun c71 => ?_)
    · exact absurd c71 (by omega)
    · refine Rn.iconst (pc := 74) (v := nI 1) dX0_layOut_74 (by decide) ?_
      refine Rn.goto (pc := 75) (tgt := 79) dX0_layOut_75 (by decide) ?_
      refine Rn.istore (pc := 79) dX0_layOut_79 (by decide) rfl st8_5 ?_
      refine Rn.aload_n (pc := 81) dX0_layOut_81 rfl rfl ?_
      refine Rn.getI (pc := 82) (t := 0) flX0_73 (show mI _ 8 i 3 = nI (rK A) from hk) dX0_layOut_82 ?_
      refine Rn.bipush (pc := 85) (v := nI 7) dX0_layOut_85 (by decide) ?_
      refine Rn.icmp_neN (pc := 87) (tgt := 94) dX0_layOut_87 (by decide) (by omega) (by omega) (fun c87 => ?_) (fun c87 => ?_)
      · refine Rn.iconst (pc := 94) (v := nI 0) dX0_layOut_94 (by decide) ?_
        refine Rn.istore (pc := 95) dX0_layOut_95 (by decide) rfl st8_6 ?_
        refine Rn.iload (pc := 97) dX0_layOut_97 rfl ?_
        refine Rn.if_ne (pc := 99) (y := 0) (tgt := 110) dX0_layOut_99 (by decide) (fun c99 => ?_) (fun c99 => ?_)
        · refine Rn.iconst (pc := 110) (v := nI 1) dX0_layOut_110 (by decide) ?_
          refine Rn.goto (pc := 111) (tgt := 115) dX0_layOut_111 (by decide) ?_
          refine Rn.istore (pc := 115) dX0_layOut_115 (by decide) rfl st8_7 ?_
          refine Rn.iload (pc := 117) dX0_layOut_117 rfl ?_
          refine Rn.if_eq (pc := 119) (y := 0) (tgt := 127) dX0_layOut_119 (by decide) (fun c119 => ?_) (fun c119 => ?_)
          · exact absurd c119 (by decide)
          · refine Rn.iload_n (pc := 122) dX0_layOut_122 rfl rfl ?_
            refine Rn.iconst (pc := 123) (v := nI 2) dX0_layOut_123 (by decide) ?_
            refine Rn.icmp_eqN (pc := 124) (tgt := 136) dX0_layOut_124 (by decide) (by omega) (by omega) (fun c124 => ?_) (fun c124 => ?_)
            · refine Rn.bipush (pc := 136) (v := -5) dX0_layOut_136 (by decide) ?_
              refine Rn.iret (pc := 138) rfl dX0_layOut_138 ?_
              have he : erL A sec z = -5 := by unfold erL; rw [if_pos (by omega)]
              exact K _ _ ⟨by rw [he], (Fr.refl N), fun q => absurd (he.symm.trans q) (by decide)⟩
            · refine Rn.iload (pc := 127) dX0_layOut_127 rfl ?_
              refine Rn.if_eq (pc := 129) (y := 0) (tgt := 139) dX0_layOut_129 (by decide) (fun c129 => ?_) (fun c129 => ?_)
              · refine Rn.iload (pc := 139) dX0_layOut_139 rfl ?_
                refine Rn.if_eq (pc := 141) (y := 0) (tgt := 151) dX0_layOut_141 (by decide) (fun c141 => ?_) (fun c141 => ?_)
                · refine Rn.iload (pc := 151) dX0_layOut_151 rfl ?_
                  refine Rn.if_eq (pc := 153) (y := 0) (tgt := 166) dX0_layOut_153 (by decide) (fun c153 => ?_) (fun c153 => ?_)
                  · exact absurd c153 (by decide)
                  · refine Rn.iload (pc := 156) dX0_layOut_156 rfl ?_
                    refine Rn.iconst (pc := 158) (v := nI 3) dX0_layOut_158 (by decide) ?_
                    refine Rn.iand (pc := 159) dX0_layOut_159 ?_
                    rw [pk_andN (by omega) 2 (by decide)]
                    refine Rn.if_eq (pc := 160) (y := 0) (tgt := 166) dX0_layOut_160 (by decide) (fun c160 => ?_) (fun c160 => ?_)
                    · refine Rn.iload (pc := 166) dX0_layOut_166 rfl ?_
                      refine Rn.aload_n (pc := 168) dX0_layOut_168 rfl rfl ?_
                      refine Rn.getI (pc := 169) (t := 0) flX0_76 hbyM dX0_layOut_169 ?_
                      refine Rn.iaddN (pc := 172) dX0_layOut_172 ?_
                      refine Rn.sipush (pc := 173) (v := nI 1024) dX0_layOut_173 (by decide) ?_
                      refine Rn.icmp_leN (pc := 176) (tgt := 182) dX0_layOut_176 (by decide) (by omega) (by omega) (fun c176 => ?_) (fun c176 => ?_)
                      · refine Rn.aload_n (pc := 182) dX0_layOut_182 rfl rfl ?_
                        refine Rn.getR (pc := 183) flX0_21 mu0_1 fx0_1 dX0_layOut_183 ?_
                        refine Rn.getR (pc := 186) flX0_54 mu4_0 fx4_0 dX0_layOut_186 ?_
                        refine Rn.iload_n (pc := 189) dX0_layOut_189 rfl rfl ?_
                        refine Rn.aaldN (pc := 190) ak18 (by decide) rfl (by omega) (by decide) fx18 dX0_layOut_190 ?_
                        refine Rn.iload_n (pc := 191) dX0_layOut_191 rfl rfl ?_
                        refine Rn.iload (pc := 192) dX0_layOut_192 rfl ?_
                        refine Rn.aload_n (pc := 194) dX0_layOut_194 rfl rfl ?_
                        refine Rn.getI (pc := 195) (t := 0) flX0_76 hbyM dX0_layOut_195 ?_
                        refine Rn.iaddN (pc := 198) dX0_layOut_198 ?_
                        refine Rn.iastN (pc := 199) ak19 (by omega) (by decide) dX0_layOut_199 ?_
                        refine Rn.iconst (pc := 200) (v := nI 0) dX0_layOut_200 (by decide) ?_
                        refine Rn.iret (pc := 201) rfl dX0_layOut_201 ?_
                        have nk : ¬ badK A sec := fun q => by unfold badK at q; omega
                        have h8 := rem_z (by omega) c160
                        have na : ¬ badA A z := fun q => by unfold badA at q; omega
                        have hb1 : by1 A z = bN A := by unfold by1; rw [if_neg (by omega)]
                        have he : erL A sec z = 0 := by unfold erL; rw [if_neg nk, if_neg na, if_neg (by omega)]
                        exact K _ _ ⟨by rw [he]; rfl, (Fr.refl N).sI (Or.inr ⟨rfl, rfl, rfl⟩), fun q => by rw [mI_sI, if_pos ⟨rfl, rfl, rfl⟩, hb1]⟩
                      · refine Rn.bipush (pc := 179) (v := -7) dX0_layOut_179 (by decide) ?_
                        refine Rn.iret (pc := 181) rfl dX0_layOut_181 ?_
                        have nk : ¬ badK A sec := fun q => by unfold badK at q; omega
                        have h8 := rem_z (by omega) c160
                        have na : ¬ badA A z := fun q => by unfold badA at q; omega
                        have hb1 : by1 A z = bN A := by unfold by1; rw [if_neg (by omega)]
                        have he : erL A sec z = -7 := by unfold erL; rw [if_neg nk, if_neg na, if_pos (by omega)]
                        exact K _ _ ⟨by rw [he], (Fr.refl N), fun q => absurd (he.symm.trans q) (by decide)⟩
                    · refine Rn.bipush (pc := 163) (v := -6) dX0_layOut_163 (by decide) ?_
                      refine Rn.iret (pc := 165) rfl dX0_layOut_165 ?_
                      have nk : ¬ badK A sec := fun q => by unfold badK at q; omega
                      have he : erL A sec z = -6 := by unfold erL; rw [if_neg nk, if_pos (Or.inr ⟨hrk, fun q => c160 (by rw [show z % 2 ^ 2 = 0 from q]; rfl)⟩)]
                      exact K _ _ ⟨by rw [he], (Fr.refl N), fun q => absurd (he.symm.trans q) (by decide)⟩
                · exact absurd c141 (by decide)
              · exact absurd c129 (by decide)
        · exact absurd c99 (by decide)
      · exact absurd c87 (by omega)
  · exact absurd c54 (by omega)
set_option maxRecDepth 20000 in
set_option maxHeartbeats 4000000 in
theorem lo48_4 (G : GX) {Post : Option AV → Mem → Prop} {N : Mem} (A : CR) (j i m sec z : Nat) (hrk : rK A = 4) (hm : m < 4) (hsec : sec < 3) (hz : z ≤ 1024) (hk : mI N 8 i 3 = nI (rK A)) (hbyM : rK A ≠ 6 → mI N 8 i 6 = nI (bN A)) (hbn : bN A ≤ 512) (K : ∀ r M', r = some (vI (erL A sec z)) ∧ Fr (SL6 A j i m sec) N M' ∧ (erL A sec z = 0 → mI M' 19 (4 * (2 * j) + m) sec = nI (z + by1 A z)) → Post r M') : Rn G iX0_layOut Post 48 [some (vR 0 j), some (vR 8 i), some (vI (nI m)), some (vI (nI sec)), some (vI (nI z)), none, none, none] [] N := by
  replace hbyM := hbyM (by omega)
  refine Rn.aload_n (pc := 48) dX0_layOut_48 rfl rfl ?_
  refine Rn.getI (pc := 49) (t := 0) flX0_73 (show mI _ 8 i 3 = nI (rK A) from hk) dX0_layOut_49 ?_
  refine Rn.bipush (pc := 52) (v := nI 6) dX0_layOut_52 (by decide) ?_
  refine Rn.icmp_neN (pc := 54) (tgt := 66) dX0_layOut_54 (by decide) (by omega) (by omega) (fun c54 => ?_) (fun c54 => ?_)
  · refine Rn.aload_n (pc := 66) dX0_layOut_66 rfl rfl ?_
    refine Rn.getI (pc := 67) (t := 0) flX0_73 (show mI _ 8 i 3 = nI (rK A) from hk) dX0_layOut_67 ?_
    refine Rn.iconst (pc := 70) (v := nI 3) dX0_layOut_70 (by decide) ?_
    refine Rn.icmp_neN (pc := 71) (tgt := 78) dX0_layOut_71 (by decide) (by omega) (by omega) (fun c71 => ?_) (fun c71 => ?_)
    · refine Rn.iconst (pc := 78) (v := nI 0) dX0_layOut_78 (by decide) ?_
      refine Rn.istore (pc := 79) dX0_layOut_79 (by decide) rfl st8_5 ?_
      refine Rn.aload_n (pc := 81) dX0_layOut_81 rfl rfl ?_
      refine Rn.getI (pc := 82) (t := 0) flX0_73 (show mI _ 8 i 3 = nI (rK A) from hk) dX0_layOut_82 ?_
      refine Rn.bipush (pc := 85) (v := nI 7) dX0_layOut_85 (by decide) ?_
      refine Rn.icmp_neN (pc := 87) (tgt := 94) dX0_layOut_87 (by decide) (by omega) (by omega) (fun c87 => ?_) (fun c87 => ?_)
      · refine Rn.iconst (pc := 94) (v := nI 0) dX0_layOut_94 (by decide) ?_
        refine Rn.istore (pc := 95) dX0_layOut_95 (by decide) rfl st8_6 ?_
        refine Rn.iload (pc := 97) dX0_layOut_97 rfl ?_
        refine Rn.if_ne (pc := 99) (y := 0) (tgt := 110) dX0_layOut_99 (by decide) (fun c99 => ?_) (fun c99 => ?_)
        · exact absurd c99 (by decide)
        · refine Rn.aload_n (pc := 102) dX0_layOut_102 rfl rfl ?_
          refine Rn.getI (pc := 103) (t := 0) flX0_73 (show mI _ 8 i 3 = nI (rK A) from hk) dX0_layOut_103 ?_
          refine Rn.iconst (pc := 106) (v := nI 4) dX0_layOut_106 (by decide) ?_
          refine Rn.icmp_neN (pc := 107) (tgt := 114) dX0_layOut_107 (by decide) (by omega) (by omega) (fun c107 => ?_) (fun c107 => ?_)
          · exact absurd c107 (by omega)
          · refine Rn.iconst (pc := 110) (v := nI 1) dX0_layOut_110 (by decide) ?_
            refine Rn.goto (pc := 111) (tgt := 115) dX0_layOut_111 (by decide) ?_
            refine Rn.istore (pc := 115) dX0_layOut_115 (by decide) rfl st8_7 ?_
            refine Rn.iload (pc := 117) dX0_layOut_117 rfl ?_
            refine Rn.if_eq (pc := 119) (y := 0) (tgt := 127) dX0_layOut_119 (by decide) (fun c119 => ?_) (fun c119 => ?_)
            · exact absurd c119 (by decide)
            · refine Rn.iload_n (pc := 122) dX0_layOut_122 rfl rfl ?_
              refine Rn.iconst (pc := 123) (v := nI 2) dX0_layOut_123 (by decide) ?_
              refine Rn.icmp_eqN (pc := 124) (tgt := 136) dX0_layOut_124 (by decide) (by omega) (by omega) (fun c124 => ?_) (fun c124 => ?_)
              · refine Rn.bipush (pc := 136) (v := -5) dX0_layOut_136 (by decide) ?_
                refine Rn.iret (pc := 138) rfl dX0_layOut_138 ?_
                have he : erL A sec z = -5 := by unfold erL; rw [if_pos (by omega)]
                exact K _ _ ⟨by rw [he], (Fr.refl N), fun q => absurd (he.symm.trans q) (by decide)⟩
              · refine Rn.iload (pc := 127) dX0_layOut_127 rfl ?_
                refine Rn.if_eq (pc := 129) (y := 0) (tgt := 139) dX0_layOut_129 (by decide) (fun c129 => ?_) (fun c129 => ?_)
                · refine Rn.iload (pc := 139) dX0_layOut_139 rfl ?_
                  refine Rn.if_eq (pc := 141) (y := 0) (tgt := 151) dX0_layOut_141 (by decide) (fun c141 => ?_) (fun c141 => ?_)
                  · refine Rn.iload (pc := 151) dX0_layOut_151 rfl ?_
                    refine Rn.if_eq (pc := 153) (y := 0) (tgt := 166) dX0_layOut_153 (by decide) (fun c153 => ?_) (fun c153 => ?_)
                    · refine Rn.iload (pc := 166) dX0_layOut_166 rfl ?_
                      refine Rn.aload_n (pc := 168) dX0_layOut_168 rfl rfl ?_
                      refine Rn.getI (pc := 169) (t := 0) flX0_76 hbyM dX0_layOut_169 ?_
                      refine Rn.iaddN (pc := 172) dX0_layOut_172 ?_
                      refine Rn.sipush (pc := 173) (v := nI 1024) dX0_layOut_173 (by decide) ?_
                      refine Rn.icmp_leN (pc := 176) (tgt := 182) dX0_layOut_176 (by decide) (by omega) (by omega) (fun c176 => ?_) (fun c176 => ?_)
                      · refine Rn.aload_n (pc := 182) dX0_layOut_182 rfl rfl ?_
                        refine Rn.getR (pc := 183) flX0_21 mu0_1 fx0_1 dX0_layOut_183 ?_
                        refine Rn.getR (pc := 186) flX0_54 mu4_0 fx4_0 dX0_layOut_186 ?_
                        refine Rn.iload_n (pc := 189) dX0_layOut_189 rfl rfl ?_
                        refine Rn.aaldN (pc := 190) ak18 (by decide) rfl (by omega) (by decide) fx18 dX0_layOut_190 ?_
                        refine Rn.iload_n (pc := 191) dX0_layOut_191 rfl rfl ?_
                        refine Rn.iload (pc := 192) dX0_layOut_192 rfl ?_
                        refine Rn.aload_n (pc := 194) dX0_layOut_194 rfl rfl ?_
                        refine Rn.getI (pc := 195) (t := 0) flX0_76 hbyM dX0_layOut_195 ?_
                        refine Rn.iaddN (pc := 198) dX0_layOut_198 ?_
                        refine Rn.iastN (pc := 199) ak19 (by omega) (by decide) dX0_layOut_199 ?_
                        refine Rn.iconst (pc := 200) (v := nI 0) dX0_layOut_200 (by decide) ?_
                        refine Rn.iret (pc := 201) rfl dX0_layOut_201 ?_
                        have nk : ¬ badK A sec := fun q => by unfold badK at q; omega
                        have na : ¬ badA A z := fun q => by unfold badA at q; omega
                        have hb1 : by1 A z = bN A := by unfold by1; rw [if_neg (by omega)]
                        have he : erL A sec z = 0 := by unfold erL; rw [if_neg nk, if_neg na, if_neg (by omega)]
                        exact K _ _ ⟨by rw [he]; rfl, (Fr.refl N).sI (Or.inr ⟨rfl, rfl, rfl⟩), fun q => by rw [mI_sI, if_pos ⟨rfl, rfl, rfl⟩, hb1]⟩
                      · refine Rn.bipush (pc := 179) (v := -7) dX0_layOut_179 (by decide) ?_
                        refine Rn.iret (pc := 181) rfl dX0_layOut_181 ?_
                        have nk : ¬ badK A sec := fun q => by unfold badK at q; omega
                        have na : ¬ badA A z := fun q => by unfold badA at q; omega
                        have hb1 : by1 A z = bN A := by unfold by1; rw [if_neg (by omega)]
                        have he : erL A sec z = -7 := by unfold erL; rw [if_neg nk, if_neg na, if_pos (by omega)]
                        exact K _ _ ⟨by rw [he], (Fr.refl N), fun q => absurd (he.symm.trans q) (by decide)⟩
                    · exact absurd c153 (by decide)
                  · exact absurd c141 (by decide)
                · exact absurd c129 (by decide)
      · exact absurd c87 (by omega)
    · exact absurd c71 (by omega)
  · exact absurd c54 (by omega)
set_option maxRecDepth 20000 in
set_option maxHeartbeats 4000000 in
theorem lo48_6 (G : GX) {Post : Option AV → Mem → Prop} {N : Mem} (A : CR) (j i m sec z : Nat) (hrk : rK A = 6) (hm : m < 4) (hsec : sec < 3) (hz : z ≤ 1024) (hk : mI N 8 i 3 = nI (rK A)) (hbyM : rK A ≠ 6 → mI N 8 i 6 = nI (bN A)) (hbn : bN A ≤ 512) (K : ∀ r M', r = some (vI (erL A sec z)) ∧ Fr (SL6 A j i m sec) N M' ∧ (erL A sec z = 0 → mI M' 19 (4 * (2 * j) + m) sec = nI (z + by1 A z)) → Post r M') : Rn G iX0_layOut Post 48 [some (vR 0 j), some (vR 8 i), some (vI (nI m)), some (vI (nI sec)), some (vI (nI z)), none, none, none] [] N := by
  refine Rn.aload_n (pc := 48) dX0_layOut_48 rfl rfl ?_
  refine Rn.getI (pc := 49) (t := 0) flX0_73 hk dX0_layOut_49 ?_
  refine Rn.bipush (pc := 52) (v := nI 6) dX0_layOut_52 (by decide) ?_
  refine Rn.icmp_neN (pc := 54) (tgt := 66) dX0_layOut_54 (by decide) (by omega) (by omega) (fun c54 => ?_) (fun c54 => ?_)
  · exact absurd c54 (by omega)
  · refine Rn.aload_n (pc := 57) dX0_layOut_57 rfl rfl ?_
    refine Rn.iload (pc := 58) dX0_layOut_58 rfl ?_
    refine Rn.ineg (pc := 60) dX0_layOut_60 ?_
    refine Rn.iconst (pc := 61) (v := nI 3) dX0_layOut_61 (by decide) ?_
    refine Rn.iand (pc := 62) dX0_layOut_62 ?_
    rw [neg3 (by omega)]
    refine Rn.putI (pc := 63) (t := 0) flX0_76 rfl rfl dX0_layOut_63 ?_
    refine Rn.aload_n (pc := 66) dX0_layOut_66 rfl rfl ?_
    refine Rn.getI (pc := 67) (t := 0) flX0_73 (show mI (sI N 8 i 6 (nI ((4 - z % 4) % 4))) 8 i 3 = nI (rK A) by rw [mI_sI, if_neg (by omega)]; exact hk) dX0_layOut_67 ?_
    refine Rn.iconst (pc := 70) (v := nI 3) dX0_layOut_70 (by decide) ?_
    refine Rn.icmp_neN (pc := 71) (tgt := 78) dX0_layOut_71 (by decide) (by omega) (by omega) (fun c71 => ?_) (fun c71 => ?_)
    · refine Rn.iconst (pc := 78) (v := nI 0) dX0_layOut_78 (by decide) ?_
      refine Rn.istore (pc := 79) dX0_layOut_79 (by decide) rfl st8_5 ?_
      refine Rn.aload_n (pc := 81) dX0_layOut_81 rfl rfl ?_
      refine Rn.getI (pc := 82) (t := 0) flX0_73 (show mI (sI N 8 i 6 (nI ((4 - z % 4) % 4))) 8 i 3 = nI (rK A) by rw [mI_sI, if_neg (by omega)]; exact hk) dX0_layOut_82 ?_
      refine Rn.bipush (pc := 85) (v := nI 7) dX0_layOut_85 (by decide) ?_
      refine Rn.icmp_neN (pc := 87) (tgt := 94) dX0_layOut_87 (by decide) (by omega) (by omega) (fun c87 => ?_) (fun c87 => ?_)
      · refine Rn.iconst (pc := 94) (v := nI 0) dX0_layOut_94 (by decide) ?_
        refine Rn.istore (pc := 95) dX0_layOut_95 (by decide) rfl st8_6 ?_
        refine Rn.iload (pc := 97) dX0_layOut_97 rfl ?_
        refine Rn.if_ne (pc := 99) (y := 0) (tgt := 110) dX0_layOut_99 (by decide) (fun c99 => ?_) (fun c99 => ?_)
        · exact absurd c99 (by decide)
        · refine Rn.aload_n (pc := 102) dX0_layOut_102 rfl rfl ?_
          refine Rn.getI (pc := 103) (t := 0) flX0_73 (show mI (sI N 8 i 6 (nI ((4 - z % 4) % 4))) 8 i 3 = nI (rK A) by rw [mI_sI, if_neg (by omega)]; exact hk) dX0_layOut_103 ?_
          refine Rn.iconst (pc := 106) (v := nI 4) dX0_layOut_106 (by decide) ?_
          refine Rn.icmp_neN (pc := 107) (tgt := 114) dX0_layOut_107 (by decide) (by omega) (by omega) (fun c107 => ?_) (fun c107 => ?_)
          · refine Rn.iconst (pc := 114) (v := nI 0) dX0_layOut_114 (by decide) ?_
            refine Rn.istore (pc := 115) dX0_layOut_115 (by decide) rfl st8_7 ?_
            refine Rn.iload (pc := 117) dX0_layOut_117 rfl ?_
            refine Rn.if_eq (pc := 119) (y := 0) (tgt := 127) dX0_layOut_119 (by decide) (fun c119 => ?_) (fun c119 => ?_)
            · refine Rn.iload (pc := 127) dX0_layOut_127 rfl ?_
              refine Rn.if_eq (pc := 129) (y := 0) (tgt := 139) dX0_layOut_129 (by decide) (fun c129 => ?_) (fun c129 => ?_)
              · refine Rn.iload (pc := 139) dX0_layOut_139 rfl ?_
                refine Rn.if_eq (pc := 141) (y := 0) (tgt := 151) dX0_layOut_141 (by decide) (fun c141 => ?_) (fun c141 => ?_)
                · refine Rn.iload (pc := 151) dX0_layOut_151 rfl ?_
                  refine Rn.if_eq (pc := 153) (y := 0) (tgt := 166) dX0_layOut_153 (by decide) (fun c153 => ?_) (fun c153 => ?_)
                  · refine Rn.iload (pc := 166) dX0_layOut_166 rfl ?_
                    refine Rn.aload_n (pc := 168) dX0_layOut_168 rfl rfl ?_
                    refine Rn.getI (pc := 169) (t := 0) flX0_76 (show mI (sI N 8 i 6 (nI ((4 - z % 4) % 4))) 8 i 6 = nI ((4 - z % 4) % 4) by rw [mI_sI, if_pos ⟨rfl, rfl, rfl⟩]) dX0_layOut_169 ?_
                    refine Rn.iaddN (pc := 172) dX0_layOut_172 ?_
                    refine Rn.sipush (pc := 173) (v := nI 1024) dX0_layOut_173 (by decide) ?_
                    refine Rn.icmp_leN (pc := 176) (tgt := 182) dX0_layOut_176 (by decide) (by omega) (by omega) (fun c176 => ?_) (fun c176 => ?_)
                    · refine Rn.aload_n (pc := 182) dX0_layOut_182 rfl rfl ?_
                      refine Rn.getR (pc := 183) flX0_21 mu0_1 fx0_1 dX0_layOut_183 ?_
                      refine Rn.getR (pc := 186) flX0_54 mu4_0 fx4_0 dX0_layOut_186 ?_
                      refine Rn.iload_n (pc := 189) dX0_layOut_189 rfl rfl ?_
                      refine Rn.aaldN (pc := 190) ak18 (by decide) rfl (by omega) (by decide) fx18 dX0_layOut_190 ?_
                      refine Rn.iload_n (pc := 191) dX0_layOut_191 rfl rfl ?_
                      refine Rn.iload (pc := 192) dX0_layOut_192 rfl ?_
                      refine Rn.aload_n (pc := 194) dX0_layOut_194 rfl rfl ?_
                      refine Rn.getI (pc := 195) (t := 0) flX0_76 (show mI (sI N 8 i 6 (nI ((4 - z % 4) % 4))) 8 i 6 = nI ((4 - z % 4) % 4) by rw [mI_sI, if_pos ⟨rfl, rfl, rfl⟩]) dX0_layOut_195 ?_
                      refine Rn.iaddN (pc := 198) dX0_layOut_198 ?_
                      refine Rn.iastN (pc := 199) ak19 (by omega) (by decide) dX0_layOut_199 ?_
                      refine Rn.iconst (pc := 200) (v := nI 0) dX0_layOut_200 (by decide) ?_
                      refine Rn.iret (pc := 201) rfl dX0_layOut_201 ?_
                      have nk : ¬ badK A sec := fun q => by unfold badK at q; omega
                      have na : ¬ badA A z := fun q => by unfold badA at q; omega
                      have hb1 : by1 A z = (4 - z % 4) % 4 := by unfold by1; rw [if_pos hrk]
                      have he : erL A sec z = 0 := by unfold erL; rw [if_neg nk, if_neg na, if_neg (by omega)]
                      exact K _ _ ⟨by rw [he]; rfl, ((Fr.refl N).sI (Or.inl ⟨rfl, rfl, rfl, hrk⟩)).sI (Or.inr ⟨rfl, rfl, rfl⟩), fun q => by rw [mI_sI, if_pos ⟨rfl, rfl, rfl⟩, hb1]⟩
                    · refine Rn.bipush (pc := 179) (v := -7) dX0_layOut_179 (by decide) ?_
                      refine Rn.iret (pc := 181) rfl dX0_layOut_181 ?_
                      have nk : ¬ badK A sec := fun q => by unfold badK at q; omega
                      have na : ¬ badA A z := fun q => by unfold badA at q; omega
                      have hb1 : by1 A z = (4 - z % 4) % 4 := by unfold by1; rw [if_pos hrk]
                      have he : erL A sec z = -7 := by unfold erL; rw [if_neg nk, if_neg na, if_pos (by omega)]
                      exact K _ _ ⟨by rw [he], ((Fr.refl N).sI (Or.inl ⟨rfl, rfl, rfl, hrk⟩)), fun q => absurd (he.symm.trans q) (by decide)⟩
                  · exact absurd c153 (by decide)
                · exact absurd c141 (by decide)
              · exact absurd c129 (by decide)
            · exact absurd c119 (by decide)
          · exact absurd c107 (by omega)
      · exact absurd c87 (by omega)
    · exact absurd c71 (by omega)
set_option maxRecDepth 20000 in
set_option maxHeartbeats 4000000 in
theorem lo48_7 (G : GX) {Post : Option AV → Mem → Prop} {N : Mem} (A : CR) (j i m sec z : Nat) (hrk : rK A = 7) (hm : m < 4) (hsec : sec < 3) (hz : z ≤ 1024) (hk : mI N 8 i 3 = nI (rK A)) (hbyM : rK A ≠ 6 → mI N 8 i 6 = nI (bN A)) (hbn : bN A ≤ 512) (K : ∀ r M', r = some (vI (erL A sec z)) ∧ Fr (SL6 A j i m sec) N M' ∧ (erL A sec z = 0 → mI M' 19 (4 * (2 * j) + m) sec = nI (z + by1 A z)) → Post r M') : Rn G iX0_layOut Post 48 [some (vR 0 j), some (vR 8 i), some (vI (nI m)), some (vI (nI sec)), some (vI (nI z)), none, none, none] [] N := by
  replace hbyM := hbyM (by omega)
  refine Rn.aload_n (pc := 48) dX0_layOut_48 rfl rfl ?_
  refine Rn.getI (pc := 49) (t := 0) flX0_73 (show mI _ 8 i 3 = nI (rK A) from hk) dX0_layOut_49 ?_
  refine Rn.bipush (pc := 52) (v := nI 6) dX0_layOut_52 (by decide) ?_
  refine Rn.icmp_neN (pc := 54) (tgt := 66) dX0_layOut_54 (by decide) (by omega) (by omega) (fun c54 => ?_) (fun c54 => ?_)
  · refine Rn.aload_n (pc := 66) dX0_layOut_66 rfl rfl ?_
    refine Rn.getI (pc := 67) (t := 0) flX0_73 (show mI _ 8 i 3 = nI (rK A) from hk) dX0_layOut_67 ?_
    refine Rn.iconst (pc := 70) (v := nI 3) dX0_layOut_70 (by decide) ?_
    refine Rn.icmp_neN (pc := 71) (tgt := 78) dX0_layOut_71 (by decide) (by omega) (by omega) (fun c71 => ?_) (fun c71 => ?_)
    · refine Rn.iconst (pc := 78) (v := nI 0) dX0_layOut_78 (by decide) ?_
      refine Rn.istore (pc := 79) dX0_layOut_79 (by decide) rfl st8_5 ?_
      refine Rn.aload_n (pc := 81) dX0_layOut_81 rfl rfl ?_
      refine Rn.getI (pc := 82) (t := 0) flX0_73 (show mI _ 8 i 3 = nI (rK A) from hk) dX0_layOut_82 ?_
      refine Rn.bipush (pc := 85) (v := nI 7) dX0_layOut_85 (by decide) ?_
      refine Rn.icmp_neN (pc := 87) (tgt := 94) dX0_layOut_87 (by decide) (by omega) (by omega) (fun c87 => ?_) (fun c87 => ?_)
      · exact absurd c87 (by omega)
      · refine Rn.iconst (pc := 90) (v := nI 1) dX0_layOut_90 (by decide) ?_
        refine Rn.goto (pc := 91) (tgt := 95) dX0_layOut_91 (by decide) ?_
        refine Rn.istore (pc := 95) dX0_layOut_95 (by decide) rfl st8_6 ?_
        refine Rn.iload (pc := 97) dX0_layOut_97 rfl ?_
        refine Rn.if_ne (pc := 99) (y := 0) (tgt := 110) dX0_layOut_99 (by decide) (fun c99 => ?_) (fun c99 => ?_)
        · exact absurd c99 (by decide)
        · refine Rn.aload_n (pc := 102) dX0_layOut_102 rfl rfl ?_
          refine Rn.getI (pc := 103) (t := 0) flX0_73 (show mI _ 8 i 3 = nI (rK A) from hk) dX0_layOut_103 ?_
          refine Rn.iconst (pc := 106) (v := nI 4) dX0_layOut_106 (by decide) ?_
          refine Rn.icmp_neN (pc := 107) (tgt := 114) dX0_layOut_107 (by decide) (by omega) (by omega) (fun c107 => ?_) (fun c107 => ?_)
          · refine Rn.iconst (pc := 114) (v := nI 0) dX0_layOut_114 (by decide) ?_
            refine Rn.istore (pc := 115) dX0_layOut_115 (by decide) rfl st8_7 ?_
            refine Rn.iload (pc := 117) dX0_layOut_117 rfl ?_
            refine Rn.if_eq (pc := 119) (y := 0) (tgt := 127) dX0_layOut_119 (by decide) (fun c119 => ?_) (fun c119 => ?_)
            · refine Rn.iload (pc := 127) dX0_layOut_127 rfl ?_
              refine Rn.if_eq (pc := 129) (y := 0) (tgt := 139) dX0_layOut_129 (by decide) (fun c129 => ?_) (fun c129 => ?_)
              · exact absurd c129 (by decide)
              · refine Rn.iload_n (pc := 132) dX0_layOut_132 rfl rfl ?_
                refine Rn.if_eq (pc := 133) (y := 0) (tgt := 139) dX0_layOut_133 (by decide) (fun c133 => ?_) (fun c133 => ?_)
                · refine Rn.iload (pc := 139) dX0_layOut_139 rfl ?_
                  refine Rn.if_eq (pc := 141) (y := 0) (tgt := 151) dX0_layOut_141 (by decide) (fun c141 => ?_) (fun c141 => ?_)
                  · exact absurd c141 (by decide)
                  · refine Rn.iload (pc := 144) dX0_layOut_144 rfl ?_
                    refine Rn.iconst (pc := 146) (v := nI 1) dX0_layOut_146 (by decide) ?_
                    refine Rn.iand (pc := 147) dX0_layOut_147 ?_
                    rw [pk_andN (by omega) 1 (by decide)]
                    refine Rn.if_ne (pc := 148) (y := 0) (tgt := 163) dX0_layOut_148 (by decide) (fun c148 => ?_) (fun c148 => ?_)
                    · refine Rn.bipush (pc := 163) (v := -6) dX0_layOut_163 (by decide) ?_
                      refine Rn.iret (pc := 165) rfl dX0_layOut_165 ?_
                      have hs0 : sec = 0 := rem_z (by omega) c133
                      have nk : ¬ badK A sec := fun q => by unfold badK at q; omega
                      have he : erL A sec z = -6 := by unfold erL; rw [if_neg nk, if_pos (Or.inl ⟨hrk, fun q => c148 (by rw [show z % 2 ^ 1 = 0 from q]; rfl)⟩)]
                      exact K _ _ ⟨by rw [he], (Fr.refl N), fun q => absurd (he.symm.trans q) (by decide)⟩
                    · refine Rn.iload (pc := 151) dX0_layOut_151 rfl ?_
                      refine Rn.if_eq (pc := 153) (y := 0) (tgt := 166) dX0_layOut_153 (by decide) (fun c153 => ?_) (fun c153 => ?_)
                      · refine Rn.iload (pc := 166) dX0_layOut_166 rfl ?_
                        refine Rn.aload_n (pc := 168) dX0_layOut_168 rfl rfl ?_
                        refine Rn.getI (pc := 169) (t := 0) flX0_76 hbyM dX0_layOut_169 ?_
                        refine Rn.iaddN (pc := 172) dX0_layOut_172 ?_
                        refine Rn.sipush (pc := 173) (v := nI 1024) dX0_layOut_173 (by decide) ?_
                        refine Rn.icmp_leN (pc := 176) (tgt := 182) dX0_layOut_176 (by decide) (by omega) (by omega) (fun c176 => ?_) (fun c176 => ?_)
                        · refine Rn.aload_n (pc := 182) dX0_layOut_182 rfl rfl ?_
                          refine Rn.getR (pc := 183) flX0_21 mu0_1 fx0_1 dX0_layOut_183 ?_
                          refine Rn.getR (pc := 186) flX0_54 mu4_0 fx4_0 dX0_layOut_186 ?_
                          refine Rn.iload_n (pc := 189) dX0_layOut_189 rfl rfl ?_
                          refine Rn.aaldN (pc := 190) ak18 (by decide) rfl (by omega) (by decide) fx18 dX0_layOut_190 ?_
                          refine Rn.iload_n (pc := 191) dX0_layOut_191 rfl rfl ?_
                          refine Rn.iload (pc := 192) dX0_layOut_192 rfl ?_
                          refine Rn.aload_n (pc := 194) dX0_layOut_194 rfl rfl ?_
                          refine Rn.getI (pc := 195) (t := 0) flX0_76 hbyM dX0_layOut_195 ?_
                          refine Rn.iaddN (pc := 198) dX0_layOut_198 ?_
                          refine Rn.iastN (pc := 199) ak19 (by omega) (by decide) dX0_layOut_199 ?_
                          refine Rn.iconst (pc := 200) (v := nI 0) dX0_layOut_200 (by decide) ?_
                          refine Rn.iret (pc := 201) rfl dX0_layOut_201 ?_
                          have hs0 : sec = 0 := rem_z (by omega) c133
                          have nk : ¬ badK A sec := fun q => by unfold badK at q; omega
                          have h8 := rem_z (by omega) c148
                          have na : ¬ badA A z := fun q => by unfold badA at q; omega
                          have hb1 : by1 A z = bN A := by unfold by1; rw [if_neg (by omega)]
                          have he : erL A sec z = 0 := by unfold erL; rw [if_neg nk, if_neg na, if_neg (by omega)]
                          exact K _ _ ⟨by rw [he]; rfl, (Fr.refl N).sI (Or.inr ⟨rfl, rfl, rfl⟩), fun q => by rw [mI_sI, if_pos ⟨rfl, rfl, rfl⟩, hb1]⟩
                        · refine Rn.bipush (pc := 179) (v := -7) dX0_layOut_179 (by decide) ?_
                          refine Rn.iret (pc := 181) rfl dX0_layOut_181 ?_
                          have hs0 : sec = 0 := rem_z (by omega) c133
                          have nk : ¬ badK A sec := fun q => by unfold badK at q; omega
                          have h8 := rem_z (by omega) c148
                          have na : ¬ badA A z := fun q => by unfold badA at q; omega
                          have hb1 : by1 A z = bN A := by unfold by1; rw [if_neg (by omega)]
                          have he : erL A sec z = -7 := by unfold erL; rw [if_neg nk, if_neg na, if_pos (by omega)]
                          exact K _ _ ⟨by rw [he], (Fr.refl N), fun q => absurd (he.symm.trans q) (by decide)⟩
                      · exact absurd c153 (by decide)
                · refine Rn.bipush (pc := 136) (v := -5) dX0_layOut_136 (by decide) ?_
                  refine Rn.iret (pc := 138) rfl dX0_layOut_138 ?_
                  have he : erL A sec z = -5 := by unfold erL; rw [if_pos (Or.inr ⟨hrk, fun q => c133 (by rw [q]; rfl)⟩)]
                  exact K _ _ ⟨by rw [he], (Fr.refl N), fun q => absurd (he.symm.trans q) (by decide)⟩
            · exact absurd c119 (by decide)
          · exact absurd c107 (by omega)
    · exact absurd c71 (by omega)
  · exact absurd c54 (by omega)
theorem lo48 (G : GX) {Post : Option AV → Mem → Prop} {N : Mem} (A : CR) (j i m sec z : Nat) (h7 : rK A ≤ 7) (hm : m < 4) (hsec : sec < 3) (hz : z ≤ 1024) (hk : mI N 8 i 3 = nI (rK A)) (hbyM : rK A ≠ 6 → mI N 8 i 6 = nI (bN A)) (hbn : bN A ≤ 512) (K : ∀ r M', r = some (vI (erL A sec z)) ∧ Fr (SL6 A j i m sec) N M' ∧ (erL A sec z = 0 → mI M' 19 (4 * (2 * j) + m) sec = nI (z + by1 A z)) → Post r M') : Rn G iX0_layOut Post 48 [some (vR 0 j), some (vR 8 i), some (vI (nI m)), some (vI (nI sec)), some (vI (nI z)), none, none, none] [] N := by
  rcases (show (rK A = 0 ∨ rK A = 1 ∨ rK A = 2 ∨ rK A = 5) ∨ rK A = 3 ∨ rK A = 4 ∨ rK A = 6 ∨ rK A = 7 by omega) with h | h | h | h | h
  · exact lo48_o G A j i m sec z h hm hsec hz hk hbyM hbn K
  · exact lo48_3 G A j i m sec z h hm hsec hz hk hbyM hbn K
  · exact lo48_4 G A j i m sec z h hm hsec hz hk hbyM hbn K
  · exact lo48_6 G A j i m sec z h hm hsec hz hk hbyM hbn K
  · exact lo48_7 G A j i m sec z h hm hsec hz hk hbyM hbn K
def RcB (A : CR) : Prop := RcOK A ∧ (rFa A = 0 → rBy A = nI (bN A)) ∧ rLab A < 2 ^ 48 ∧ rNm A < 2 ^ 48 ∧ (rFa A = 0 → rK A = 1 → rNo A = nI (sN A))
def PLo (A : CR) (j i m : Nat) (σ : S1) (M : Mem) : Option AV → Mem → Prop := fun r M' => r = some (vI (erL A σ.2.2 (zz m σ))) ∧ Fr (SLo A j i m σ.2.2) M M' ∧ (erL A σ.2.2 (zz m σ) = 0 → LbC j (lab1 A m σ) M' ∧ GbC j (lab1 A m σ) (fun _ => false) M' ∧ mI M' 19 (4 * (2 * j) + m) σ.2.2 = nI (zz m σ + by1 A (zz m σ)) ∧ mI M' 8 i 9 = nI σ.2.2 ∧ mI M' 8 i 10 = nI (zz m σ))
set_option maxRecDepth 20000 in
set_option maxHeartbeats 4000000 in
theorem k_layOut (G : GX) {M : Mem} (j i m : Nat) (A : CR) (σ : S1) (hR : RecC i A M) (hRb : RcB A) (hfa : rFa A = 0) (hm : m < 4) (hsec : σ.2.2 < 3) (hz : zz m σ ≤ 1024) (h96 : σ.1.1 < 96) (hL : LbC j σ.1 M) (hG : GbC j σ.1 (fun _ => false) M) (hS : mI M 19 (4 * (2 * j) + m) σ.2.2 = nI (zz m σ)) : MetM G yX0_layOut iX0_layOut [vR 0 j, vR 8 i, vI (nI m), vI (nI σ.2.2)] M (PLo A j i m σ M) := by
  refine MetM.of (ls := [some (vR 0 j), some (vR 8 i), some (vI (nI m)), some (vI (nI σ.2.2)), none, none, none, none]) (by decide) rfl (Nat.le_of_ble_eq_true rfl) rfl ?_
  intro hM0
  have hlb := hRb.2.2.1
  refine Rn.aload_n (pc := 0) dX0_layOut_0 rfl rfl ?_
  refine Rn.getR (pc := 1) flX0_21 mu0_1 fx0_1 dX0_layOut_1 ?_
  refine Rn.getR (pc := 4) flX0_54 mu4_0 fx4_0 dX0_layOut_4 ?_
  refine Rn.iload_n (pc := 7) dX0_layOut_7 rfl rfl ?_
  refine Rn.aaldN (pc := 8) ak18 (by decide) rfl (by omega) (by decide) fx18 dX0_layOut_8 ?_
  refine Rn.iload_n (pc := 9) dX0_layOut_9 rfl rfl ?_
  refine Rn.ialdN (pc := 10) ak19 (by omega) (by decide) hS dX0_layOut_10 ?_
  refine Rn.istore (pc := 11) dX0_layOut_11 (by decide) rfl st8_4 ?_
  refine Rn.aload_n (pc := 13) dX0_layOut_13 rfl rfl ?_
  refine Rn.iload_n (pc := 14) dX0_layOut_14 rfl rfl ?_
  refine Rn.putI (pc := 15) (t := 0) flX0_57 rfl rfl dX0_layOut_15 ?_
  refine Rn.aload_n (pc := 18) dX0_layOut_18 rfl rfl ?_
  refine Rn.iload (pc := 19) dX0_layOut_19 rfl ?_
  refine Rn.putI (pc := 21) (t := 0) flX0_62 rfl rfl dX0_layOut_21 ?_
  refine Rn.aload_n (pc := 24) dX0_layOut_24 rfl rfl ?_
  refine Rn.getJ (pc := 25) (t := 0) flX0_65 (show mJ (sI (sI M 8 i 9 (nI σ.2.2)) 8 i 10 (nI (zz m σ))) 8 i 0 = lN (rLab A) from hR.1.1) dX0_layOut_25 ?_
  refine Rn.lconst (pc := 28) (v := lN 0) dX0_layOut_28 (by decide) ?_
  refine Rn.lcmp (pc := 29) dX0_layOut_29 ?_
  refine Rn.if_eq (pc := 30) (y := 0) (tgt := 48) dX0_layOut_30 (by decide) (fun c30 => ?_) (fun c30 => ?_)
  · have hl : rLab A = 0 := (lN0_eq (by omega)).mp (lcmp0.mp c30)
    refine lo48 G A j i m σ.2.2 (zz m σ) (hRb.1 hfa).2.1 hm hsec hz (by rw [mI_sI, if_neg (by omega), mI_sI, if_neg (by omega)]; exact hR.1.2.2.2.1) (fun h => by rw [mI_sI, if_neg (by omega), mI_sI, if_neg (by omega), hR.2 h]; exact hRb.2.1 hfa) (hRb.1 hfa).1 (fun r M' q => by
      obtain ⟨q1, q2, q3⟩ := q
      have f9 : Fr (SLo A j i m σ.2.2) M M' := ((((Fr.refl M).sI (Or.inl ⟨rfl, rfl, Or.inl rfl⟩)).sI (Or.inl ⟨rfl, rfl, Or.inr (Or.inl rfl)⟩))).trans (q2.mono (fun k i' s h => SL6_SLo h))
      refine ⟨q1, f9, fun e => ⟨?_, ?_, q3 e, ?_, ?_⟩⟩
      · rw [lab1, if_pos hl]
        exact ⟨(q2.I (by unfold SL6; omega)).trans hL.1, fun x hx => ⟨(q2.J (by unfold SL6; omega)).trans (hL.2 x hx).1, (q2.I (by unfold SL6; omega)).trans (hL.2 x hx).2.1, (q2.I (by unfold SL6; omega)).trans (hL.2 x hx).2.2.1, (q2.I (by unfold SL6; omega)).trans (hL.2 x hx).2.2.2⟩⟩
      · rw [lab1, if_pos hl]
        exact fun x hx => (q2.I (by unfold SL6; omega)).trans (hG x hx)
      · rw [q2.I (by unfold SL6; omega)]; rw [mI_sI, if_neg (by omega), mI_sI, if_pos ⟨rfl, rfl, rfl⟩]
      · rw [q2.I (by unfold SL6; omega)]; rw [mI_sI, if_pos ⟨rfl, rfl, rfl⟩])
  · refine Rn.aload_n (pc := 33) dX0_layOut_33 rfl rfl ?_
    refine Rn.getR (pc := 34) flX0_12 mu0_0 fx0_0 dX0_layOut_34 ?_
    refine Rn.aload_n (pc := 37) dX0_layOut_37 rfl rfl ?_
    refine Rn.getJ (pc := 38) (t := 0) flX0_65 (show mJ (sI (sI M 8 i 9 (nI σ.2.2)) 8 i 10 (nI (zz m σ))) 8 i 0 = lN (rLab A) from hR.1.1) dX0_layOut_38 ?_
    refine Rn.iload_n (pc := 41) dX0_layOut_41 rfl rfl ?_
    refine Rn.iload_n (pc := 42) dX0_layOut_42 rfl rfl ?_
    refine Rn.iload (pc := 43) dX0_layOut_43 rfl ?_
    refine Rn.callV (pc := 45) (as := [_, _, _, _]) cvX0_69 ⟨by decide, rfl⟩ ⟨by decide, by decide⟩ dX0_layOut_45 (Nat.le_of_ble_eq_true rfl) rfl (k_append G j σ.1.1 (rLab A) m σ.2.2 (zz m σ) (show mI (sI (sI M 8 i 9 (nI σ.2.2)) 8 i 10 (nI (zz m σ))) 3 j 5 = nI σ.1.1 from hL.1) h96) ?_
    rintro _ _ ⟨rfl, rfl⟩
    have hl : rLab A ≠ 0 := fun e => c30 (lcmp0.mpr (by rw [e]))
    refine lo48 G A j i m σ.2.2 (zz m σ) (hRb.1 hfa).2.1 hm hsec hz (by rw [apC_fr.I (by unfold SAp; omega), mI_sI, if_neg (by omega), mI_sI, if_neg (by omega)]; exact hR.1.2.2.2.1) (fun h => by rw [apC_fr.I (by unfold SAp; omega), mI_sI, if_neg (by omega), mI_sI, if_neg (by omega), hR.2 h]; exact hRb.2.1 hfa) (hRb.1 hfa).1 (fun r M' q => by
      obtain ⟨q1, q2, q3⟩ := q
      have f9 : Fr (SLo A j i m σ.2.2) M M' := (((((Fr.refl M).sI (Or.inl ⟨rfl, rfl, Or.inl rfl⟩)).sI (Or.inl ⟨rfl, rfl, Or.inr (Or.inl rfl)⟩))).trans (apC_fr.mono (fun k i' s h => SAp_SLo h))).trans (q2.mono (fun k i' s h => SL6_SLo h))
      refine ⟨q1, f9, fun e => ⟨?_, ?_, q3 e, ?_, ?_⟩⟩
      · have h9 : LbC j (lab1 A m σ) (apC (sI (sI M 8 i 9 (nI σ.2.2)) 8 i 10 (nI (zz m σ))) j σ.1.1 (rLab A) m σ.2.2 (zz m σ)) := apC_lab hl ⟨hL.1, hL.2⟩
        exact ⟨(q2.I (by unfold SL6; omega)).trans h9.1, fun x hx => ⟨(q2.J (by unfold SL6; omega)).trans (h9.2 x hx).1, (q2.I (by unfold SL6; omega)).trans (h9.2 x hx).2.1, (q2.I (by unfold SL6; omega)).trans (h9.2 x hx).2.2.1, (q2.I (by unfold SL6; omega)).trans (h9.2 x hx).2.2.2⟩⟩
      · have h9 : GbC j (lab1 A m σ) (fun _ => false) (apC (sI (sI M 8 i 9 (nI σ.2.2)) 8 i 10 (nI (zz m σ))) j σ.1.1 (rLab A) m σ.2.2 (zz m σ)) := apC_g hl (fun x hx => hG x hx)
        exact fun x hx => (q2.I (by unfold SL6; omega)).trans (h9 x hx)
      · rw [q2.I (by unfold SL6; omega)]; rw [apC_fr.I (by unfold SAp; omega), mI_sI, if_neg (by omega), mI_sI, if_pos ⟨rfl, rfl, rfl⟩]
      · rw [q2.I (by unfold SL6; omega)]; rw [apC_fr.I (by unfold SAp; omega), mI_sI, if_pos ⟨rfl, rfl, rfl⟩])

