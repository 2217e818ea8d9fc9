theorem RecC.fr {i : Nat} {A : CR} {M N : Mem} {S : Nat → Nat → Nat → Prop} (h : RecC i A M) (f : Fr S M N) (hS : ∀ s, s ≠ 6 → s ≠ 9 → s ≠ 10 → ¬ S 8 i s) (h6 : rK A ≠ 6 → ¬ S 8 i 6) : RecC i A N := by
  obtain ⟨⟨h0, h1, h2, h3, h4, h5, h7, h8, h11, h12⟩, hb⟩ := h
  exact ⟨⟨(f.J (hS 0 (by decide) (by decide) (by decide))).trans h0, (f.I (hS 1 (by decide) (by decide) (by decide))).trans h1, (f.I (hS 2 (by decide) (by decide) (by decide))).trans h2, (f.I (hS 3 (by decide) (by decide) (by decide))).trans h3, (f.I (hS 4 (by decide) (by decide) (by decide))).trans h4, (f.I (hS 5 (by decide) (by decide) (by decide))).trans h5, (f.J (hS 7 (by decide) (by decide) (by decide))).trans h7, (f.I (hS 8 (by decide) (by decide) (by decide))).trans h8, (f.I (hS 11 (by decide) (by decide) (by decide))).trans h11, (f.I (hS 12 (by decide) (by decide) (by decide))).trans h12⟩, fun q => (f.I (h6 q)).trans (hb q)⟩
def SrcC (R : Nat → Nat → CR) (cnt : Nat → Nat) (M : Mem) : Prop := ∀ m, m < 4 → mI M 7 m 1 = nI (cnt m) ∧ cnt m ≤ 24 ∧ ∀ n, n < cnt m → RecC (24 * m + n) (R m n) M
theorem SrcC.fr {R : Nat → Nat → CR} {cnt : Nat → Nat} {M N : Mem} {S : Nat → Nat → Nat → Prop} (h : SrcC R cnt M) (f : Fr S M N) (hS : ∀ k i s, k = 7 ∨ k = 8 → ¬ S k i s) : SrcC R cnt N := by
  intro m hm
  obtain ⟨h1, h2, h3⟩ := h m hm
  exact ⟨(f.I (hS _ _ _ (Or.inl rfl))).trans h1, h2, fun n hn => (h3 n hn).fr f (fun s _ _ _ => hS _ _ _ (Or.inr rfl)) (fun _ => hS _ _ _ (Or.inr rfl))⟩
def RcA (R : Nat → Nat → CR) (cnt : Nat → Nat) : Prop := ∀ m n, m < 4 → n < cnt m → RcB (R m n)
def SJ1 (j k i s : Nat) : Prop := (k = 8 ∧ (s = 6 ∨ s = 9 ∨ s = 10)) ∨ ((k = 15 ∨ k = 16) ∧ i = j) ∨ (k = 17 ∧ 3 * j ≤ i ∧ i < 3 * j + 3) ∨ (k = 3 ∧ i = j ∧ s = 5) ∨ (k = 19 ∧ 4 * (2 * j) ≤ i ∧ i < 4 * (2 * j) + 4) ∨ k = 1
def Pl1 (R : Nat → Nat → CR) (cnt : Nat → Nat) (m n : Nat) (M : Mem) : Prop := ∀ m' n', lx m' n' m n → m' < 4 → n' < cnt m' → mI M 8 (24 * m' + n') 9 = nI (at1 R cnt m' n').2.2 ∧ mI M 8 (24 * m' + n') 10 = nI (pO R cnt m' n')
def J1 (R : Nat → Nat → CR) (cnt : Nat → Nat) (j : Nat) (M : Mem) (m n : Nat) (N : Mem) : Prop := Fr (SJ1 j) M N ∧ SrcC R cnt N ∧ Ok cnt (e1 R cnt) m n ∧ LbC j (at1 R cnt m n).1 N ∧ GbC j (at1 R cnt m n).1 (fun _ => false) N ∧ SzC j (at1 R cnt m n).2.1 N ∧ Pl1 R cnt m n N ∧ ∀ s, mI N 1 0 s = mI M 1 0 s
theorem st1_nm {R : Nat → Nat → CR} {cnt : Nat → Nat} (hR : RcA R cnt) {m : Nat} (hm : m < 4) (h0 : ∀ i, i < (at1 R cnt m 0).1.1 → ((at1 R cnt m 0).1.2 i).2.2.2 < 2 ^ 48) : ∀ n, n ≤ cnt m → ∀ i, i < (at1 R cnt m n).1.1 → ((at1 R cnt m n).1.2 i).2.2.2 < 2 ^ 48
  | 0, _ => h0
  | n + 1, hn => by
    intro i hi
    rw [at1_s] at hi ⊢
    change i < (lab1 (R m n) m (at1 R cnt m n)).1 at hi
    show ((lab1 (R m n) m (at1 R cnt m n)).2 i).2.2.2 < 2 ^ 48
    unfold lab1 at hi ⊢
    by_cases q : rLab (R m n) = 0
    · rw [if_pos q] at hi ⊢; exact st1_nm hR hm h0 n (by omega) i hi
    · rw [if_neg q] at hi ⊢
      dsimp only at hi ⊢
      by_cases z : i = (at1 R cnt m n).1.1
      · rw [if_pos z]; exact (hR m n hm (by omega)).2.2.1
      · rw [if_neg z]; exact st1_nm hR hm h0 n (by omega) i (by omega)
theorem at1_nm {R : Nat → Nat → CR} {cnt : Nat → Nat} (hR : RcA R cnt) : ∀ m, m ≤ 4 → ∀ i, i < (at1 R cnt m 0).1.1 → ((at1 R cnt m 0).1.2 i).2.2.2 < 2 ^ 48
  | 0, _, i, hi => absurd hi (Nat.not_lt_zero i)
  | m + 1, hm, i, hi => by
    rw [at1_m] at hi ⊢
    exact st1_nm hR (by omega) (at1_nm hR m (by omega)) (cnt m) (Nat.le_refl _) i hi
theorem at1_LbN {R : Nat → Nat → CR} {cnt : Nat → Nat} (hc : ∀ m, m < 4 → cnt m ≤ 24) (hR : RcA R cnt) {m n : Nat} (hm : m < 4) (hn : n ≤ cnt m) (hok : Ok cnt (e1 R cnt) m n) : LbN (at1 R cnt m n).1 := by
  have h9 := at1_inv hc (fun m n a b => (hR m n a b).1) m n hm hn hok
  have := hc m hm
  exact ⟨by have := h9.2.1; omega, fun i hi => ⟨(h9.1.1 i hi).1, st1_nm hR hm (at1_nm hR m (by omega)) n hn i hi⟩⟩
theorem lbE_LbN {R : Nat → Nat → CR} {cnt : Nat → Nat} (hc : ∀ m, m < 4 → cnt m ≤ 24) (hR : RcA R cnt) (hok : Ok cnt (e1 R cnt) 4 0) : LbN (lbE R cnt) := by
  have h9 := at1_end hc (fun m n a b => (hR m n a b).1) hok
  exact ⟨h9.2.1, fun i hi => ⟨(h9.1.1 i hi).1, at1_nm hR 4 (by decide) i hi⟩⟩
theorem SLo_SJ1 {A : CR} {j i m sec k i' s : Nat} (hm : m < 4) (h : SLo A j i m sec k i' s) : SJ1 j k i' s := by
  rcases h with ⟨h1, _, h⟩ | h | h | h | h
  · exact Or.inl ⟨h1, by omega⟩
  · exact Or.inr (Or.inl h)
  · exact Or.inr (Or.inr (Or.inl h))
  · exact Or.inr (Or.inr (Or.inr (Or.inl h)))
  · exact Or.inr (Or.inr (Or.inr (Or.inr (Or.inl ⟨h.1, by omega, by omega⟩))))
theorem J1.step {R : Nat → Nat → CR} {cnt : Nat → Nat} {j m n : Nat} {M N N' : Mem} (h : J1 R cnt j M m n N) (hm : m < 4) (hn : n < cnt m) (hc : ∀ m, m < 4 → cnt m ≤ 24) (hsec : (at1 R cnt m n).2.2 < 3) (he : (e1 R cnt m n).1 = 0)
    (f : Fr (SLo (R m n) j (24 * m + n) m (at1 R cnt m n).2.2) N N') (hL : LbC j (lab1 (R m n) m (at1 R cnt m n)) N') (hG : GbC j (lab1 (R m n) m (at1 R cnt m n)) (fun _ => false) N') (hz : mI N' 19 (4 * (2 * j) + m) (at1 R cnt m n).2.2 = nI (pO R cnt m n + pB1 R cnt m n)) (h9 : mI N' 8 (24 * m + n) 9 = nI (at1 R cnt m n).2.2) (h10 : mI N' 8 (24 * m + n) 10 = nI (pO R cnt m n)) : J1 R cnt j M m (n + 1) N' := by
  obtain ⟨g1, g2, g3, g4, g5, g6, g7, g8⟩ := h
  have hcm := hc m hm
  refine ⟨g1.trans (f.mono ?_), ?_, g3.s (fun _ => he), ?_, ?_, ?_, ?_, ?_⟩
  · intro k i s h; exact SLo_SJ1 hm h
  · intro m' hm'
    obtain ⟨a1, a2, a3⟩ := g2 m' hm'
    refine ⟨(f.I (by unfold SLo; omega)).trans a1, a2, fun n' hn' => (a3 n' hn').fr f (fun s b1 b2 b3 => by unfold SLo; omega) (fun b => ?_)⟩
    unfold SLo
    intro z
    by_cases q : m' = m ∧ n' = n
    · obtain ⟨rfl, rfl⟩ := q; omega
    · omega
  · rw [at1_s]; exact hL
  · rw [at1_s]; exact hG
  · intro m' s hm' hs
    rw [at1_s]
    show _ = nI (if 3 * m' + s = 3 * m + (at1 R cnt m n).2.2 then zz m (at1 R cnt m n) + by1 (R m n) (zz m (at1 R cnt m n)) else (at1 R cnt m n).2.1 (3 * m' + s))
    by_cases q : m' = m ∧ s = (at1 R cnt m n).2.2
    · obtain ⟨rfl, rfl⟩ := q; rw [if_pos rfl]; exact hz
    · rw [if_neg (by omega), f.I (by unfold SLo; omega)]; exact g6 m' s hm' hs
  · intro m' n' hl hm' hc'
    by_cases q : m' = m ∧ n' = n
    · obtain ⟨rfl, rfl⟩ := q; exact ⟨h9, h10⟩
    · have := hc m' hm'
      rw [f.I (by unfold SLo; omega), f.I (by unfold SLo; omega)]
      exact g7 m' n' (by unfold lx at hl ⊢; omega) hm' hc'
  · intro s; rw [f.I (by unfold SLo; omega)]; exact g8 s
def PJ1 (R : Nat → Nat → CR) (cnt : Nat → Nat) (j : Nat) (M : Mem) : Option AV → Mem → Prop := fun r M' => ∃ b : Bool, r = some (vI (bI b)) ∧ Fr (SJ1 j) M M' ∧ SrcC R cnt M' ∧ ((b = true ∧ J1 R cnt j M 4 0 M') ∨ (b = false ∧ FB cnt (e1 R cnt) (mI M' 1 0 0) (mI M' 1 0 1) (mI M' 1 0 2) (mI M' 1 0 3)))
set_option maxRecDepth 20000 in
set_option maxHeartbeats 4000000 in
theorem k_layOutLines (G : GX) {M : Mem} (R : Nat → Nat → CR) (cnt : Nat → Nat) (j : Nat) (hsrc : SrcC R cnt M) (hR : RcA R cnt) (hd5 : mR M 10 0 5 = j) (h3 : mI M 3 j 5 = nI 0) (h19 : SzC j (fun _ => 0) M) : MetM G yX11_layOutLines iX11_layOutLines [vR 10 0] M (PJ1 R cnt j M) := by
  refine MetM.of (ls := [some (vR 10 0), none, none, none, none, none, none]) (by decide) rfl (Nat.le_of_ble_eq_true rfl) rfl ?_
  intro hM0
  have hc : ∀ m, m < 4 → cnt m ≤ 24 := fun m hm => (hsrc m hm).2.1
  have inner : ∀ (m : Nat), m < 4 → (∀ (N : Mem) (x3 : Option AV) (x5 x6 : Option AV), J1 R cnt j M m (cnt m) N → Rn G iX11_layOutLines (PJ1 R cnt j M) 175 [some (vR 10 0), some (vI (nI m)), some (vR 7 m), x3, some (vI (nI (cnt m))), x5, x6] [] N) → ∀ (d n : Nat) (N : Mem) (x5 x6 : Option AV), cnt m - n = d → n ≤ cnt m → J1 R cnt j M m n N → Rn G iX11_layOutLines (PJ1 R cnt j M) 19 [some (vR 10 0), some (vI (nI m)), some (vR 7 m), some (vI (nI (at1 R cnt m n).2.2)), some (vI (nI n)), x5, x6] [] N := by
    intro m hm KM d
    induction d using Nat.strongRecOn with
    | ind d ih9 =>
      intro n N x5 x6 hd hnc hI
      have ih : ∀ (n' : Nat) (N : Mem) (x5 x6 : Option AV), n < n' → n' ≤ cnt m → J1 R cnt j M m n' N → Rn G iX11_layOutLines (PJ1 R cnt j M) 19 [some (vR 10 0), some (vI (nI m)), some (vR 7 m), some (vI (nI (at1 R cnt m n').2.2)), some (vI (nI n')), x5, x6] [] N := fun n' N x5 x6 h1 h2 h3 => ih9 (cnt m - n') (by omega) n' N x5 x6 rfl h2 h3
      have fN := hI.1
      have hsN := hI.2.1
      have hcm := hc m hm
      have hI1 := at1_inv hc (fun m n a b => (hR m n a b).1) m n hm hnc hI.2.2.1
      have hsec := hI1.2.2.2
      have hz : zz m (at1 R cnt m n) ≤ 1024 := hI1.2.2.1 _
      have hLN := at1_LbN hc hR hm hnc hI.2.2.1
      have hdN : mR N 10 0 5 = j := (fN.R).trans hd5
      have hs1 : ∀ {s : Nat}, SJ1 j 1 0 s := Or.inr (Or.inr (Or.inr (Or.inr (Or.inr rfl))))
      refine Rn.iload (pc := 19) dX11_layOutLines_19 rfl ?_
      refine Rn.aload_n (pc := 21) dX11_layOutLines_21 rfl rfl ?_
      refine Rn.getI (pc := 22) (t := 0) flX11_75 (hsN m hm).1 dX11_layOutLines_22 ?_
      refine Rn.icmp_geN (pc := 25) (tgt := 175) dX11_layOutLines_25 (by decide) (by omega) (by omega) (fun c25 => ?_) (fun c25 => ?_)
      · have hn : n = cnt m := by omega
        subst hn
        exact KM N _ x5 x6 hI
      · have hn : n < cnt m := c25
        have hrec := (hsN m hm).2.2 n hn
        have hRb := hR m n hm hn
        have hlb := hRb.2.2.1
        have h96 : (at1 R cnt m n).1.1 < 96 := by have := hI1.2.1; omega
        have K85 : ¬ (rLab (R m n) ≠ 0 ∧ (fnd (at1 R cnt m n).1 m (rLab (R m n))).isSome = true) → Rn G iX11_layOutLines (PJ1 R cnt j M) 85 [some (vR 10 0), some (vI (nI m)), some (vR 7 m), some (vI (nI (at1 R cnt m n).2.2)), some (vI (nI n)), some (vR 8 (24 * m + n)), x6] [] N := by
          intro htw
          refine Rn.aload (pc := 85) dX11_layOutLines_85 rfl ?_
          refine Rn.getI (pc := 87) (t := 0) flX11_182 hrec.1.2.2.2.2.2.2.2.2.1 dX11_layOutLines_87 ?_
          refine Rn.if_eq (pc := 90) (y := 0) (tgt := 114) dX11_layOutLines_90 (by decide) (fun c90 => ?_) (fun c90 => ?_)
          · have hfa : rFa (R m n) = 0 := c90
            refine Rn.aload_n (pc := 114) dX11_layOutLines_114 rfl rfl ?_
            refine Rn.getRm (pc := 115) flX11_44 hdN dX11_layOutLines_115 ?_
            refine Rn.aload (pc := 118) dX11_layOutLines_118 rfl ?_
            refine Rn.iload_n (pc := 120) dX11_layOutLines_120 rfl rfl ?_
            refine Rn.iload_n (pc := 121) dX11_layOutLines_121 rfl rfl ?_
            refine Rn.callV (pc := 122) (as := [_, _, _]) cvX11_188 ⟨by decide, rfl⟩ ⟨by decide, by decide⟩ dX11_layOutLines_122 (Nat.le_of_ble_eq_true rfl) rfl (k_layOut G j (24 * m + n) m (R m n) (at1 R cnt m n) hrec hRb hfa hm hsec hz (by omega) hI.2.2.2.1 hI.2.2.2.2.1 (hI.2.2.2.2.2.1 m _ hm hsec)) ?_
            rintro _ M2 ⟨rfl, f2, h2⟩
            refine Rn.istore (pc := 125) dX11_layOutLines_125 (by decide) rfl st7_6 ?_
            have hrec2 : RecC (24 * m + n) (R m n) M2 := hrec.fr f2 (fun s b1 b2 b3 => by unfold SLo; omega) (fun b => by unfold SLo; omega)
            have f2' : Fr (SJ1 j) N M2 := f2.mono (fun k i s h => SLo_SJ1 hm h)
            have hsrc2 : SrcC R cnt M2 := by
              intro m' hm'
              obtain ⟨a1, a2, a3⟩ := hsN m' hm'
              refine ⟨(f2.I (by unfold SLo; omega)).trans a1, a2, fun n' hn' => (a3 n' hn').fr f2 (fun s b1 b2 b3 => by unfold SLo; omega) (fun b => ?_)⟩
              unfold SLo; intro z
              by_cases q : m' = m ∧ n' = n
              · obtain ⟨rfl, rfl⟩ := q; omega
              · omega
            refine Rn.iload (pc := 127) dX11_layOutLines_127 rfl ?_
            refine Rn.if_eq (pc := 129) (y := 0) (tgt := 150) dX11_layOutLines_129 (by decide) (fun c129 => ?_) (fun c129 => ?_)
            · have he0 : (e1 R cnt m n).1 = 0 := by
                show (er1 (R m n) m (at1 R cnt m n)).1 = 0
                unfold er1; rw [if_neg htw, if_neg (fun q => q hfa)]; exact c129
              obtain ⟨q1, q2, q3, q4, q5⟩ := h2 c129
              have hstep := hI.step hm hn hc hsec he0 f2 q1 q2 q3 q4 q5
              refine Rn.aload (pc := 150) dX11_layOutLines_150 rfl ?_
              refine Rn.getI (pc := 152) (t := 0) flX11_193 hrec2.1.2.2.2.1 dX11_layOutLines_152 ?_
              refine Rn.iconst (pc := 155) (v := nI 1) dX11_layOutLines_155 (by decide) ?_
              refine Rn.icmp_neN (pc := 156) (tgt := 167) dX11_layOutLines_156 (by decide) (by have := (hRb.1 hfa).2.1; omega) (by decide) (fun c156 => ?_) (fun c156 => ?_)
              · refine Rn.iload_n (pc := 167) dX11_layOutLines_167 rfl rfl ?_
                refine Rn.istore_n (pc := 168) dX11_layOutLines_168 rfl (by decide) rfl st7_3 ?_
                refine Rn.iincN (pc := 169) (n := 1) dX11_layOutLines_169 rfl (by decide) (by decide) rfl st7_4 ?_
                refine Rn.goto (pc := 172) (tgt := 19) dX11_layOutLines_172 (by decide) ?_
                refine Rn.lsEq (ls := [some (vR 10 0), some (vI (nI m)), some (vR 7 m), some (vI (nI (at1 R cnt m (n + 1)).2.2)), some (vI (nI (n + 1))), some (vR 8 (24 * m + n)), some (vI (erL (R m n) (at1 R cnt m n).2.2 (zz m (at1 R cnt m n))))]) ?_ (ih (n + 1) M2 _ _ (by omega) (by omega) hstep)
                rw [at1_s, show (nx1 (R m n) m (at1 R cnt m n)).2.2 = if rK (R m n) = 1 then sN (R m n) else (at1 R cnt m n).2.2 from rfl, if_neg c156]
              · refine Rn.aload (pc := 159) dX11_layOutLines_159 rfl ?_
                refine Rn.getI (pc := 161) (t := 0) flX11_194 hrec2.1.2.2.2.2.2.1 dX11_layOutLines_161 ?_
                refine Rn.goto (pc := 164) (tgt := 168) dX11_layOutLines_164 (by decide) ?_
                refine Rn.istore_n (pc := 168) dX11_layOutLines_168 rfl (by decide) rfl st7_3 ?_
                refine Rn.iincN (pc := 169) (n := 1) dX11_layOutLines_169 rfl (by decide) (by decide) rfl st7_4 ?_
                refine Rn.goto (pc := 172) (tgt := 19) dX11_layOutLines_172 (by decide) ?_
                refine Rn.lsEq (ls := [some (vR 10 0), some (vI (nI m)), some (vR 7 m), some (vI (nI (at1 R cnt m (n + 1)).2.2)), some (vI (nI (n + 1))), some (vR 8 (24 * m + n)), some (vI (erL (R m n) (at1 R cnt m n).2.2 (zz m (at1 R cnt m n))))]) ?_ (ih (n + 1) M2 _ _ (by omega) (by omega) hstep)
                rw [at1_s, show (nx1 (R m n) m (at1 R cnt m n)).2.2 = if rK (R m n) = 1 then sN (R m n) else (at1 R cnt m n).2.2 from rfl, if_pos c156, hRb.2.2.2.2 hfa c156]
            · refine Rn.aload_n (pc := 132) dX11_layOutLines_132 rfl rfl ?_
              refine Rn.getR (pc := 133) flX11_33 mu10_3 fx10_3 dX11_layOutLines_133 ?_
              refine Rn.iload (pc := 136) dX11_layOutLines_136 rfl ?_
              refine Rn.iload_n (pc := 138) dX11_layOutLines_138 rfl rfl ?_
              refine Rn.iload (pc := 139) dX11_layOutLines_139 rfl ?_
              refine Rn.aload (pc := 141) dX11_layOutLines_141 rfl ?_
              refine Rn.getI (pc := 143) (t := 0) flX11_192 hrec2.1.2.2.1 dX11_layOutLines_143 ?_
              refine Rn.callV (pc := 146) (as := [_, _, _, _]) cvX11_178 ⟨by decide, rfl⟩ ⟨by decide, by decide⟩ dX11_layOutLines_146 (Nat.le_of_ble_eq_true rfl) rfl (k_tell G 0 (erL (R m n) (at1 R cnt m n).2.2 (zz m (at1 R cnt m n))) (nI m) (nI n) (nI (rPl (R m n)))) ?_
              rintro _ _ ⟨rfl, rfl⟩
              refine Rn.zret (pc := 149) rfl rfl dX11_layOutLines_149 ?_
              have hne : erL (R m n) (at1 R cnt m n).2.2 (zz m (at1 R cnt m n)) ≠ 0 := c129
              have he : er1 (R m n) m (at1 R cnt m n) = (erL (R m n) (at1 R cnt m n).2.2 (zz m (at1 R cnt m n)), nI (rPl (R m n))) := by
                unfold er1; rw [if_neg htw, if_neg (fun q => q hfa)]
              refine ⟨false, rfl, (fN.trans f2').trans ((((((Fr.refl _).sI hs1).sI hs1).sI hs1).sI hs1)), hsrc2.fr (S := fun k _ _ => k = 1) ((((((Fr.refl _).sI rfl).sI rfl).sI rfl).sI rfl)) (by intro k i s h; omega), Or.inr ⟨rfl, m, n, hm, hn, hI.2.2.1, ?_, ?_, rfl, rfl, ?_⟩⟩
              · show (er1 (R m n) m (at1 R cnt m n)).1 ≠ 0; rw [he]; exact hne
              · show _ = (er1 (R m n) m (at1 R cnt m n)).1; rw [he]; rfl
              · show _ = (er1 (R m n) m (at1 R cnt m n)).2; rw [he]; rfl
          · refine Rn.aload_n (pc := 93) dX11_layOutLines_93 rfl rfl ?_
            refine Rn.getR (pc := 94) flX11_33 mu10_3 fx10_3 dX11_layOutLines_94 ?_
            refine Rn.aload (pc := 97) dX11_layOutLines_97 rfl ?_
            refine Rn.getI (pc := 99) (t := 0) flX11_182 hrec.1.2.2.2.2.2.2.2.2.1 dX11_layOutLines_99 ?_
            refine Rn.iload_n (pc := 102) dX11_layOutLines_102 rfl rfl ?_
            refine Rn.iload (pc := 103) dX11_layOutLines_103 rfl ?_
            refine Rn.aload (pc := 105) dX11_layOutLines_105 rfl ?_
            refine Rn.getI (pc := 107) (t := 0) flX11_185 hrec.1.2.2.2.2.2.2.2.2.2 dX11_layOutLines_107 ?_
            refine Rn.callV (pc := 110) (as := [_, _, _, _]) cvX11_178 ⟨by decide, rfl⟩ ⟨by decide, by decide⟩ dX11_layOutLines_110 (Nat.le_of_ble_eq_true rfl) rfl (k_tell G 0 (rFa (R m n)) (nI m) (nI n) (rFP (R m n))) ?_
            rintro _ _ ⟨rfl, rfl⟩
            refine Rn.zret (pc := 113) rfl rfl dX11_layOutLines_113 ?_
            have hne : rFa (R m n) ≠ 0 := c90
            have he : er1 (R m n) m (at1 R cnt m n) = (rFa (R m n), rFP (R m n)) := by
              unfold er1; rw [if_neg htw, if_pos hne]
            refine ⟨false, rfl, fN.trans ((((((Fr.refl _).sI hs1).sI hs1).sI hs1).sI hs1)), hsN.fr (S := fun k _ _ => k = 1) ((((((Fr.refl _).sI rfl).sI rfl).sI rfl).sI rfl)) (by intro k i s h; omega), Or.inr ⟨rfl, m, n, hm, hn, hI.2.2.1, ?_, ?_, rfl, rfl, ?_⟩⟩
            · show (er1 (R m n) m (at1 R cnt m n)).1 ≠ 0; rw [he]; exact hne
            · show _ = (er1 (R m n) m (at1 R cnt m n)).1; rw [he]; rfl
            · show _ = (er1 (R m n) m (at1 R cnt m n)).2; rw [he]; rfl
        refine Rn.aload_n (pc := 28) dX11_layOutLines_28 rfl rfl ?_
        refine Rn.getR (pc := 29) flX11_80 mu7_0 fx7_0 dX11_layOutLines_29 ?_
        refine Rn.iload (pc := 32) dX11_layOutLines_32 rfl ?_
        refine Rn.aaldN (pc := 34) ak14 (by decide) rfl (by omega) (by decide) fx14 dX11_layOutLines_34 ?_
        refine Rn.astore (pc := 35) dX11_layOutLines_35 (by decide) rfl st7_5 ?_
        refine Rn.aload (pc := 37) dX11_layOutLines_37 rfl ?_
        refine Rn.getJ (pc := 39) (t := 0) flX11_169 hrec.1.1 dX11_layOutLines_39 ?_
        refine Rn.lconst (pc := 42) (v := lN 0) dX11_layOutLines_42 (by decide) ?_
        refine Rn.lcmp (pc := 43) dX11_layOutLines_43 ?_
        refine Rn.if_eq (pc := 44) (y := 0) (tgt := 85) dX11_layOutLines_44 (by decide) (fun c44 => ?_) (fun c44 => ?_)
        · exact K85 (fun z => z.1 ((lN0_eq (by omega)).mp (lcmp0.mp c44)))
        · refine Rn.aload_n (pc := 47) dX11_layOutLines_47 rfl rfl ?_
          refine Rn.getRm (pc := 48) flX11_44 hdN dX11_layOutLines_48 ?_
          refine Rn.getR (pc := 51) flX11_140 mu0_0 fx0_0 dX11_layOutLines_51 ?_
          refine Rn.iload_n (pc := 54) dX11_layOutLines_54 rfl rfl ?_
          refine Rn.aload (pc := 55) dX11_layOutLines_55 rfl ?_
          refine Rn.getJ (pc := 57) (t := 0) flX11_169 hrec.1.1 dX11_layOutLines_57 ?_
          refine Rn.callV (pc := 60) (as := [_, _]) cvX11_148 ⟨by decide, rfl⟩ ⟨by decide, by decide⟩ dX11_layOutLines_60 (Nat.le_of_ble_eq_true rfl) rfl (k_find G j (at1 R cnt m n).1 m (rLab (R m n)) hI.2.2.2.1 hLN (by omega) (by omega)) ?_
          rintro _ M9 ⟨rfl, h9⟩
          rw [h9]
          have hq1 := prV_m1 (q := fnd (at1 R cnt m n).1 m (rLab (R m n))) (fun k h => by have := (fnd_some h).1; have := hLN.1; omega)
          refine Rn.iconst (pc := 63) (v := -1) dX11_layOutLines_63 (by decide) ?_
          refine Rn.icmp_eq (pc := 64) (tgt := 85) dX11_layOutLines_64 (by decide) (fun c64 => ?_) (fun c64 => ?_)
          · exact K85 (fun z => by rw [hq1.mp c64] at z; exact absurd z.2 (by decide))
          · refine Rn.aload_n (pc := 67) dX11_layOutLines_67 rfl rfl ?_
            refine Rn.getR (pc := 68) flX11_33 mu10_3 fx10_3 dX11_layOutLines_68 ?_
            refine Rn.bipush (pc := 71) (v := -2) dX11_layOutLines_71 (by decide) ?_
            refine Rn.iload_n (pc := 73) dX11_layOutLines_73 rfl rfl ?_
            refine Rn.iload (pc := 74) dX11_layOutLines_74 rfl ?_
            refine Rn.aload (pc := 76) dX11_layOutLines_76 rfl ?_
            refine Rn.getI (pc := 78) (t := 0) flX11_175 hrec.1.2.1 dX11_layOutLines_78 ?_
            refine Rn.callV (pc := 81) (as := [_, _, _, _]) cvX11_178 ⟨by decide, rfl⟩ ⟨by decide, by decide⟩ dX11_layOutLines_81 (Nat.le_of_ble_eq_true rfl) rfl (k_tell G 0 (-2) (nI m) (nI n) (nI (rLP (R m n)))) ?_
            rintro _ _ ⟨rfl, rfl⟩
            refine Rn.zret (pc := 84) rfl rfl dX11_layOutLines_84 ?_
            have hne : (-2 : Int32) ≠ 0 := by decide
            have htw : rLab (R m n) ≠ 0 ∧ (fnd (at1 R cnt m n).1 m (rLab (R m n))).isSome = true := ⟨fun e => c44 (lcmp0.mpr (by rw [e])), by cases hf : fnd (at1 R cnt m n).1 m (rLab (R m n)) with | none => exact absurd (hq1.mpr hf) c64 | some k => rfl⟩
            have he : er1 (R m n) m (at1 R cnt m n) = (-2, nI (rLP (R m n))) := by
              unfold er1; rw [if_pos htw]
            refine ⟨false, rfl, fN.trans ((((((Fr.refl _).sI hs1).sI hs1).sI hs1).sI hs1)), hsN.fr (S := fun k _ _ => k = 1) ((((((Fr.refl _).sI rfl).sI rfl).sI rfl).sI rfl)) (by intro k i s h; omega), Or.inr ⟨rfl, m, n, hm, hn, hI.2.2.1, ?_, ?_, rfl, rfl, ?_⟩⟩
            · show (er1 (R m n) m (at1 R cnt m n)).1 ≠ 0; rw [he]; exact hne
            · show _ = (er1 (R m n) m (at1 R cnt m n)).1; rw [he]; rfl
            · show _ = (er1 (R m n) m (at1 R cnt m n)).2; rw [he]; rfl
  have outer : ∀ (d m : Nat) (N : Mem) (x2 x3 x4 x5 x6 : Option AV), 4 - m = d → m ≤ 4 → J1 R cnt j M m 0 N → Rn G iX11_layOutLines (PJ1 R cnt j M) 2 [some (vR 10 0), some (vI (nI m)), x2, x3, x4, x5, x6] [] N := by
    intro d
    induction d using Nat.strongRecOn with
    | ind d ih9 =>
      intro m N x2 x3 x4 x5 x6 hd hm4 hI
      have ihm : ∀ (m' : Nat) (N : Mem) (x2 x3 x4 x5 x6 : Option AV), m < m' → m' ≤ 4 → J1 R cnt j M m' 0 N → Rn G iX11_layOutLines (PJ1 R cnt j M) 2 [some (vR 10 0), some (vI (nI m')), x2, x3, x4, x5, x6] [] N := fun m' N x2 x3 x4 x5 x6 h1 h2 h3 => ih9 (4 - m') (by omega) m' N x2 x3 x4 x5 x6 rfl h2 h3
      refine Rn.iload_n (pc := 2) dX11_layOutLines_2 rfl rfl ?_
      refine Rn.iconst (pc := 3) (v := nI 4) dX11_layOutLines_3 (by decide) ?_
      refine Rn.icmp_geN (pc := 4) (tgt := 181) dX11_layOutLines_4 (by decide) (by omega) (by omega) (fun c4 => ?_) (fun c4 => ?_)
      · refine Rn.iconst (pc := 181) (v := nI 1) dX11_layOutLines_181 (by decide) ?_
        refine Rn.zret (pc := 182) rfl rfl dX11_layOutLines_182 ?_
        have h4 : m = 4 := by omega
        subst h4
        exact ⟨true, rfl, hI.1, hI.2.1, Or.inl ⟨rfl, hI⟩⟩
      · have hm : m < 4 := c4
        refine Rn.aload_n (pc := 7) dX11_layOutLines_7 rfl rfl ?_
        refine Rn.getR (pc := 8) flX11_18 mu10_1 fx10_1 dX11_layOutLines_8 ?_
        refine Rn.iload_n (pc := 11) dX11_layOutLines_11 rfl rfl ?_
        refine Rn.aaldN (pc := 12) ak13 (by decide) rfl (by omega) (by decide) fx13 dX11_layOutLines_12 ?_
        refine Rn.astore_n (pc := 13) dX11_layOutLines_13 rfl (by decide) rfl st7_2 ?_
        refine Rn.iconst (pc := 14) (v := nI 0) dX11_layOutLines_14 (by decide) ?_
        refine Rn.istore_n (pc := 15) dX11_layOutLines_15 rfl (by decide) rfl st7_3 ?_
        refine Rn.iconst (pc := 16) (v := nI 0) dX11_layOutLines_16 (by decide) ?_
        refine Rn.istore (pc := 17) dX11_layOutLines_17 (by decide) rfl st7_4 ?_
        refine Rn.lsEq (ls := [some (vR 10 0), some (vI (nI m)), some (vR 7 m), some (vI (nI (at1 R cnt m 0).2.2)), some (vI (nI 0)), x5, x6]) (by rw [at1_n0]) ?_
        refine inner m hm ?_ (cnt m) 0 _ _ _ rfl (Nat.zero_le _) hI
        intro N' y3 y5 y6 h'
        refine Rn.iincN (pc := 175) (n := 1) dX11_layOutLines_175 rfl (by decide) (by decide) rfl st7_1 ?_
        refine Rn.goto (pc := 178) (tgt := 2) dX11_layOutLines_178 (by decide) ?_
        refine ihm (m + 1) N' _ _ _ _ _ (by omega) (by omega) ⟨h'.1, h'.2.1, h'.2.2.1.m, h'.2.2.2.1, h'.2.2.2.2.1, h'.2.2.2.2.2.1, ?_, h'.2.2.2.2.2.2.2⟩
        intro a b q ha hb
        refine h'.2.2.2.2.2.2.1 a b ?_ ha hb
        unfold lx at q ⊢
        rcases q with q | q
        · rcases Nat.eq_or_lt_of_le (Nat.le_of_lt_succ q) with z | z
          · subst z; exact Or.inr ⟨rfl, hb⟩
          · exact Or.inl z
        · omega
  refine Rn.iconst (pc := 0) (v := nI 0) dX11_layOutLines_0 (by decide) ?_
  refine Rn.istore_n (pc := 1) dX11_layOutLines_1 rfl (by decide) rfl st7_1 ?_
  exact outer 4 0 M _ _ _ _ _ rfl (by decide) ⟨Fr.refl M, hsrc, fun a b p _ => absurd p (by unfold lx; omega), ⟨h3, fun i hi => absurd hi (Nat.not_lt_zero i)⟩, fun i hi => absurd hi (Nat.not_lt_zero i), h19, fun a b p => absurd p (by unfold lx; omega), fun s => rfl⟩

