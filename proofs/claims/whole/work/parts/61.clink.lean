abbrev wkd (A : CR) : Prop := rK A = 3 ∨ rK A = 4 ∨ rK A = 7
theorem wk_sec {R : Nat → Nat → CR} {cnt : Nat → Nat} (hok : Ok cnt (e1 R cnt) 4 0) {m n : Nat} (hm : m < 4) (hn : n < cnt m) : (rK (R m n) = 3 ∨ rK (R m n) = 4 → (at1 R cnt m n).2.2 ≠ 2) ∧ (rK (R m n) = 7 → (at1 R cnt m n).2.2 = 0) := by
  have h := (erL_0 (er1_0 (hok m n (Or.inl hm) hn)).2.2).1
  unfold badK at h
  constructor <;> intro q <;> omega
theorem ps_b {R : Nat → Nat → CR} {cnt : Nat → Nat} {m n : Nat} (hm : m < 4) (hn : n < cnt m) (hs : pS R cnt m n < 12) (h2 : pS R cnt m n % 3 ≠ 2) (hb : 0 < pB1 R cnt m n) : 8 ≤ ps R cnt m n ∧ ps R cnt m n + pB1 R cnt m n ≤ flE (szE R cnt) := by
  have h1 := p_in (R := R) hm hn
  have h3 := fl_b (sz := szE R cnt) hs h2 (by omega)
  unfold ps
  omega
theorem ps_dis {R : Nat → Nat → CR} {cnt : Nat → Nat} {m n m' n' x y : Nat} (hm : m < 4) (hn : n < cnt m) (hs : pS R cnt m n < 12) (h2 : pS R cnt m n % 3 ≠ 2) (hm' : m' < 4) (hn' : n' < cnt m') (hs' : pS R cnt m' n' < 12) (h2' : pS R cnt m' n' % 3 ≠ 2) (hne : ¬ (m' = m ∧ n' = n)) (hx : x < pB1 R cnt m n) (hy : y < pB1 R cnt m' n') : ps R cnt m n + x ≠ ps R cnt m' n' + y := by
  have h1 := p_in (R := R) hm hn
  have h1' := p_in (R := R) hm' hn'
  unfold ps
  by_cases q : pS R cnt m n = pS R cnt m' n'
  · have b5 : lx m' n' m n ∨ lx m n m' n' := by unfold lx; omega
    rcases b5 with z | z
    · have := p_dis (R := R) z hn' q.symm; rw [q]; omega
    · have := p_dis (R := R) z hn q; rw [q]; omega
  · have := fl_dis (sz := szE R cnt) hs hs' q h2 h2' (by omega) (by omega)
    omega
def ImP (R : Nat → Nat → CR) (cnt : Nat → Nat) (j m n : Nat) (N : Mem) : Prop := (∀ m' n', lx m' n' m n → m' < 4 → n' < cnt m' → wkd (R m' n') → ∀ x, x < pB1 R cnt m' n' → bC j N (ps R cnt m' n' + x) = nI (fbE R cnt m' n' x)) ∧ ∀ k, k < 2048 → (∀ m' n', lx m' n' m n → m' < 4 → n' < cnt m' → wkd (R m' n') → ¬ (ps R cnt m' n' ≤ k ∧ k < ps R cnt m' n' + pB1 R cnt m' n')) → bC j N k = nI 0
def SJ3 (j k i _s : Nat) : Prop := (k = 21 ∧ i = j) ∨ k = 1
def J3 (R : Nat → Nat → CR) (cnt : Nat → Nat) (j : Nat) (M : Mem) (m n : Nat) (N : Mem) : Prop := Fr (SJ3 j) M N ∧ Ok cnt (eE3 R cnt) m n ∧ ImP R cnt j m n N ∧ ∀ s, mI N 1 0 s = mI M 1 0 s
def PJ3 (R : Nat → Nat → CR) (cnt : Nat → Nat) (j : Nat) (M : Mem) : Option AV → Mem → Prop := fun r M' => ∃ b : Bool, r = some (vI (bI b)) ∧ Fr (SJ3 j) M M' ∧ ((b = true ∧ J3 R cnt j M 4 0 M') ∨ (b = false ∧ FB cnt (eE3 R cnt) (mI M' 1 0 0) (mI M' 1 0 1) (mI M' 1 0 2) (mI M' 1 0 3)))
theorem wrS_bC {A : CR} {j pl n x : Nat} {N N' : Mem} (f : Fr (wrS A j pl n) N N') (h : ¬ wkd A ∨ ¬ (pl ≤ x ∧ x < pl + n)) : bC j N' x = bC j N x := by
  unfold bC
  rw [f.I ?_]
  unfold wrS S21
  intro z
  rcases h with h | h
  · exact h z.1
  · exact h ⟨z.2.2.2.1, z.2.2.2.2⟩
theorem ImP.step {R : Nat → Nat → CR} {cnt : Nat → Nat} {j m n : Nat} {N N' : Mem} (hc : ∀ m, m < 4 → cnt m ≤ 24) (hR : ∀ m n, m < 4 → n < cnt m → RcOK (R m n)) (hok : Ok cnt (e1 R cnt) 4 0) (h : ImP R cnt j m n N) (hm : m < 4) (hn : n < cnt m) (f : Fr (wrS (R m n) j (ps R cnt m n) (pB1 R cnt m n)) N N') (hb : wkd (R m n) → ∀ x, x < pB1 R cnt m n → bC j N' (ps R cnt m n + x) = nI (fbE R cnt m n x)) : ImP R cnt j m (n + 1) N' := by
  have hS : ∀ m' n', m' < 4 → n' < cnt m' → wkd (R m' n') → pS R cnt m' n' < 12 ∧ pS R cnt m' n' % 3 ≠ 2 := by
    intro m' n' a b c
    have h1 := pS_lt hc hR hok a b
    have h2 := wk_sec hok a b
    refine ⟨h1.2, ?_⟩
    unfold pS
    have h3 : (at1 R cnt m' n').2.2 ≠ 2 := by
      rcases c with c | c | c
      · exact h2.1 (Or.inl c)
      · exact h2.1 (Or.inr c)
      · have := h2.2 c; omega
    omega
  refine ⟨fun m' n' hl hm' hn' hk x hx => ?_, fun k hk hno => ?_⟩
  · by_cases q : m' = m ∧ n' = n
    · obtain ⟨rfl, rfl⟩ := q; exact hb hk x hx
    · rw [wrS_bC f ?_]
      · exact h.1 m' n' (by unfold lx at hl ⊢; omega) hm' hn' hk x hx
      · by_cases w9 : wkd (R m n)
        · right
          rintro ⟨z1, z2⟩
          have s1 := hS m n hm hn w9
          have s2 := hS m' n' hm' hn' hk
          exact ps_dis (x := ps R cnt m' n' + x - ps R cnt m n) (y := x) hm hn s1.1 s1.2 hm' hn' s2.1 s2.2 q (by omega) hx (by omega)
        · exact Or.inl w9
  · rw [wrS_bC f ?_]
    · exact h.2 k hk (fun m' n' hl => hno m' n' (by unfold lx at hl ⊢; omega))
    · by_cases w9 : wkd (R m n)
      · exact Or.inr (hno m n (by unfold lx; omega) hm hn w9)
      · exact Or.inl w9
theorem er3_2 {bs : Nat → Nat} {B : LB} {g : Nat → Bool} {A : CR} {m s p : Nat} (h : (er3 bs B g A m s p).1 ≠ 0) : (er3 bs B g A m s p).2 = nI (rNP A) := by
  unfold er3 at h ⊢
  by_cases q : nref A
  · rw [if_pos q] at h ⊢
    cases hr : rs B g m (rNm A) with
    | none => rfl
    | some k =>
      rw [hr, show er3k bs B A m s p (some k) = if gd3 bs B A m s p k = true then (0, 0) else (-9, nI (rNP A)) from rfl] at h
      rw [show er3k bs B A m s p (some k) = if gd3 bs B A m s p k = true then (0, 0) else (-9, nI (rNP A)) from rfl]
      by_cases z : gd3 bs B A m s p k = true
      · rw [if_pos z] at h; exact absurd rfl h
      · rw [if_neg z]
  · rw [if_neg q] at h; exact absurd rfl h
theorem lx_nx {cnt : Nat → Nat} {a b m : Nat} (q : lx a b (m + 1) 0) (hb : b < cnt a) : lx a b m (cnt m) := by
  unfold lx at q ⊢
  rcases q with q | q
  · rcases Nat.eq_or_lt_of_le (Nat.le_of_lt_succ q) with z | z
    · subst z; exact Or.inr ⟨rfl, hb⟩
    · exact Or.inl z
  · omega
theorem ImP.nx {R : Nat → Nat → CR} {cnt : Nat → Nat} {j m : Nat} {N : Mem} (h : ImP R cnt j m (cnt m) N) : ImP R cnt j (m + 1) 0 N := by
  refine ⟨fun m' n' hl hm' hn' hk x hx => h.1 m' n' (lx_nx hl hn') hm' hn' hk x hx, fun k hk hno => h.2 k hk (fun m' n' hl hm' hn' => hno m' n' ?_ hm' hn')⟩
  unfold lx at hl ⊢; omega
set_option maxRecDepth 20000 in
set_option maxHeartbeats 4000000 in
theorem k_writeLines (G : GX) {M : Mem} (R : Nat → Nat → CR) (cnt : Nat → Nat) (j : Nat) (hsrc : SrcC R cnt M) (hR : RcA R cnt) (hok : Ok cnt (e1 R cnt) 4 0) (hd5 : mR M 10 0 5 = j) (hL : LbC j (lbE R cnt) M) (hN9 : LbN (lbE R cnt)) (hW : LbW (lbE R cnt)) (hG : GbC j (lbE R cnt) (glE R cnt) M) (hA : AdC j (bsA (szE R cnt)) M) (hF : FdC j (szE R cnt) M) (hrm : rmE R cnt) (hPl : Pl1 R cnt 4 0 M) (h0 : ∀ k, k < 2048 → bC j M k = nI 0) : MetM G yX11_writeLines iX11_writeLines [vR 10 0] M (PJ3 R cnt j M) := by
  refine MetM.of (ls := [some (vR 10 0), none, none, none, none]) (by decide) rfl (Nat.le_of_ble_eq_true rfl) rfl ?_
  intro hM0
  have hc : ∀ m, m < 4 → cnt m ≤ 24 := fun m hm => (hsrc m hm).2.1
  have hR1 : ∀ m n, m < 4 → n < cnt m → RcOK (R m n) := fun m n a b => (hR m n a b).1
  have hfa : ∀ m n, m < 4 → n < cnt m → rFa (R m n) = 0 := fun m n hm hn => (er1_0 (hok m n (Or.inl hm) hn)).2.1
  have inner : ∀ (m : Nat), m < 4 → (∀ (N : Mem) (x4 : Option AV), J3 R cnt j M m (cnt m) N → Rn G iX11_writeLines (PJ3 R cnt j M) 72 [some (vR 10 0), some (vI (nI m)), some (vR 7 m), some (vI (nI (cnt m))), x4] [] N) → ∀ (d n : Nat) (N : Mem) (x4 : Option AV), cnt m - n = d → n ≤ cnt m → J3 R cnt j M m n N → Rn G iX11_writeLines (PJ3 R cnt j M) 16 [some (vR 10 0), some (vI (nI m)), some (vR 7 m), some (vI (nI n)), x4] [] N := by
    intro m hm KM d
    induction d using Nat.strongRecOn with
    | ind d ih9 =>
      intro n N x4 hd hnc hI
      have ih : ∀ (n' : Nat) (N : Mem) (x4 : Option AV), n < n' → n' ≤ cnt m → J3 R cnt j M m n' N → Rn G iX11_writeLines (PJ3 R cnt j M) 16 [some (vR 10 0), some (vI (nI m)), some (vR 7 m), some (vI (nI n')), x4] [] N := fun n' N x4 h1 h2 h3 => ih9 (cnt m - n') (by omega) n' N x4 rfl h2 h3
      have fN := hI.1
      have hsN := hsrc.fr fN (by intro k i s h; unfold SJ3; omega)
      have hLN := hL.fr fN (by intro k i s h; unfold SJ3; omega)
      have hGN : GbC j (lbE R cnt) (glE R cnt) N := fun i hi => (fN.I (by unfold SJ3; omega)).trans (hG i hi)
      have hAN : AdC j (bsA (szE R cnt)) N := fun m s a b => (fN.I (by unfold SJ3; omega)).trans (hA m s a b)
      have hFN : FdC j (szE R cnt) N := fun m a => (fN.I (by unfold SJ3; omega)).trans (hF m a)
      have hcm := hc m hm
      have hdN : mR N 10 0 5 = j := (fN.R).trans hd5
      have hs1 : ∀ {s : Nat}, SJ3 j 1 0 s := by intro s; unfold SJ3; omega
      refine Rn.iload_n (pc := 16) dX11_writeLines_16 rfl rfl ?_
      refine Rn.aload_n (pc := 17) dX11_writeLines_17 rfl rfl ?_
      refine Rn.getI (pc := 18) (t := 0) flX11_75 (hsN m hm).1 dX11_writeLines_18 ?_
      refine Rn.icmp_geN (pc := 21) (tgt := 72) dX11_writeLines_21 (by decide) (by omega) (by omega) (fun c21 => ?_) (fun c21 => ?_)
      · have hn : n = cnt m := by omega
        subst hn
        exact KM N x4 hI
      · have hn : n < cnt m := c21
        have hrec := (hsN m hm).2.2 n hn
        have hRb := hR m n hm hn
        have hfa9 := hfa m n hm hn
        have hsec := pS_lt hc hR1 hok hm hn
        have hws := wk_sec hok hm hn
        have hpl : mI N 8 (24 * m + n) 9 = nI (at1 R cnt m n).2.2 ∧ mI N 8 (24 * m + n) 10 = nI (pO R cnt m n) := by
          rw [fN.I (by unfold SJ3; omega), fN.I (by unfold SJ3; omega)]
          exact hPl m n (Or.inl hm) hm hn
        have hbd : rK (R m n) = 3 ∨ rK (R m n) = 4 ∨ rK (R m n) = 7 → fl (szE R cnt) (3 * m + (at1 R cnt m n).2.2) + pO R cnt m n + by1 (R m n) (pO R cnt m n) ≤ 2048 := by
          intro q
          have h2 : pS R cnt m n % 3 ≠ 2 := by
            have h3 : (at1 R cnt m n).2.2 ≠ 2 := by
              rcases q with q | q | q
              · exact hws.1 (Or.inl q)
              · exact hws.1 (Or.inr q)
              · have := hws.2 q; omega
            unfold pS; have := hsec.1; omega
          have hpb : 0 < pB1 R cnt m n := by
            show 0 < by1 (R m n) (pO R cnt m n)
            unfold by1
            rw [if_neg (by omega)]
            have r9 := hRb.1 hfa9
            rcases q with q | q | q
            · have := r9.2.2.2.2.1 q; omega
            · have := r9.2.2.2.2.2.1 q; omega
            · have := (r9.2.2.2.2.2.2.2 q).2; split at this <;> omega
          exact Nat.le_trans (ps_b hm hn hsec.2 h2 hpb).2 hrm.1
        refine Rn.aload_n (pc := 24) dX11_writeLines_24 rfl rfl ?_
        refine Rn.getRm (pc := 25) flX11_44 hdN dX11_writeLines_25 ?_
        refine Rn.aload_n (pc := 28) dX11_writeLines_28 rfl rfl ?_
        refine Rn.getR (pc := 29) flX11_80 mu7_0 fx7_0 dX11_writeLines_29 ?_
        refine Rn.iload_n (pc := 32) dX11_writeLines_32 rfl rfl ?_
        refine Rn.aaldN (pc := 33) ak14 (by decide) rfl (by omega) (by decide) fx14 dX11_writeLines_33 ?_
        refine Rn.iload_n (pc := 34) dX11_writeLines_34 rfl rfl ?_
        refine Rn.callV (pc := 35) (as := [_, _]) cvX11_209 ⟨by decide, rfl⟩ ⟨by decide, by decide⟩ dX11_writeLines_35 (Nat.le_of_ble_eq_true rfl) rfl (k_write G j (24 * m + n) (szE R cnt) (lbE R cnt) (glE R cnt) (R m n) m (at1 R cnt m n).2.2 (pO R cnt m n) hrec hRb.1 hfa9 hRb.2.2.2.1 hm hsec.1 hpl.1 hpl.2 hws.1 hws.2 hbd hLN hGN hN9 hW hAN hFN) ?_
        rintro _ M2 ⟨rfl, f2, h2⟩
        have f2' : Fr (SJ3 j) N M2 := f2.mono (fun k i s h => by unfold wrS S21 at h; unfold SJ3; omega)
        refine Rn.istore (pc := 38) dX11_writeLines_38 (by decide) rfl st5_4 ?_
        refine Rn.iload (pc := 40) dX11_writeLines_40 rfl ?_
        refine Rn.if_eq (pc := 42) (y := 0) (tgt := 66) dX11_writeLines_42 (by decide) (fun c42 => ?_) (fun c42 => ?_)
        · refine Rn.iincN (pc := 66) (n := 1) dX11_writeLines_66 rfl (by decide) (by decide) rfl st5_3 ?_
          refine Rn.goto (pc := 69) (tgt := 16) dX11_writeLines_69 (by decide) ?_
          have he : (er3 (bsE R cnt) (lbE R cnt) (glE R cnt) (R m n) m (pS R cnt m n) (pO R cnt m n)).1 = 0 := c42
          refine ih (n + 1) M2 _ (by omega) (by omega) ⟨fN.trans f2', hI.2.1.s (fun _ => he), hI.2.2.1.step hc hR1 hok hm hn f2 (h2 he), fun s => ?_⟩
          rw [f2.I (by unfold wrS S21; omega)]; exact hI.2.2.2 s
        · refine Rn.aload_n (pc := 45) dX11_writeLines_45 rfl rfl ?_
          refine Rn.getR (pc := 46) flX11_33 mu10_3 fx10_3 dX11_writeLines_46 ?_
          refine Rn.iload (pc := 49) dX11_writeLines_49 rfl ?_
          refine Rn.iload_n (pc := 51) dX11_writeLines_51 rfl rfl ?_
          refine Rn.iload_n (pc := 52) dX11_writeLines_52 rfl rfl ?_
          refine Rn.aload_n (pc := 53) dX11_writeLines_53 rfl rfl ?_
          refine Rn.getR (pc := 54) flX11_80 mu7_0 fx7_0 dX11_writeLines_54 ?_
          refine Rn.iload_n (pc := 57) dX11_writeLines_57 rfl rfl ?_
          refine Rn.aaldN (pc := 58) ak14 (by decide) rfl (by omega) (by decide) fx14 dX11_writeLines_58 ?_
          refine Rn.getI (pc := 59) (t := 0) flX11_203 (show mI M2 8 (24 * m + n) 8 = nI (rNP (R m n)) from (f2.I (by unfold wrS S21; omega)).trans hrec.1.2.2.2.2.2.2.2.1) dX11_writeLines_59 ?_
          refine Rn.callV (pc := 62) (as := [_, _, _, _]) cvX11_178 ⟨by decide, rfl⟩ ⟨by decide, by decide⟩ dX11_writeLines_62 (Nat.le_of_ble_eq_true rfl) rfl (k_tell G 0 (er3 (bsE R cnt) (lbE R cnt) (glE R cnt) (R m n) m (pS R cnt m n) (pO R cnt m n)).1 (nI m) (nI n) (nI (rNP (R m n)))) ?_
          rintro _ _ ⟨rfl, rfl⟩
          refine Rn.zret (pc := 65) rfl rfl dX11_writeLines_65 ?_
          have hne : (er3 (bsE R cnt) (lbE R cnt) (glE R cnt) (R m n) m (pS R cnt m n) (pO R cnt m n)).1 ≠ 0 := c42
          have he2 : (er3 (bsE R cnt) (lbE R cnt) (glE R cnt) (R m n) m (pS R cnt m n) (pO R cnt m n)).2 = nI (rNP (R m n)) := er3_2 hne
          refine ⟨false, rfl, (fN.trans f2').trans ((((((Fr.refl _).sI hs1).sI hs1).sI hs1).sI hs1)), Or.inr ⟨rfl, m, n, hm, hn, hI.2.1, hne, rfl, rfl, rfl, ?_⟩⟩
          show _ = (er3 (bsE R cnt) (lbE R cnt) (glE R cnt) (R m n) m (pS R cnt m n) (pO R cnt m n)).2; rw [he2]; rfl
  have outer : ∀ (d m : Nat) (N : Mem) (x2 x3 x4 : Option AV), 4 - m = d → m ≤ 4 → J3 R cnt j M m 0 N → Rn G iX11_writeLines (PJ3 R cnt j M) 2 [some (vR 10 0), some (vI (nI m)), x2, x3, x4] [] N := by
    intro d
    induction d using Nat.strongRecOn with
    | ind d ih9 =>
      intro m N x2 x3 x4 hd hm4 hI
      have ihm : ∀ (m' : Nat) (N : Mem) (x2 x3 x4 : Option AV), m < m' → m' ≤ 4 → J3 R cnt j M m' 0 N → Rn G iX11_writeLines (PJ3 R cnt j M) 2 [some (vR 10 0), some (vI (nI m')), x2, x3, x4] [] N := fun m' N x2 x3 x4 h1 h2 h3 => ih9 (4 - m') (by omega) m' N x2 x3 x4 rfl h2 h3
      refine Rn.iload_n (pc := 2) dX11_writeLines_2 rfl rfl ?_
      refine Rn.iconst (pc := 3) (v := nI 4) dX11_writeLines_3 (by decide) ?_
      refine Rn.icmp_geN (pc := 4) (tgt := 78) dX11_writeLines_4 (by decide) (by omega) (by omega) (fun c4 => ?_) (fun c4 => ?_)
      · refine Rn.iconst (pc := 78) (v := nI 1) dX11_writeLines_78 (by decide) ?_
        refine Rn.zret (pc := 79) rfl rfl dX11_writeLines_79 ?_
        have h4 : m = 4 := by omega
        subst h4
        exact ⟨true, rfl, hI.1, Or.inl ⟨rfl, hI⟩⟩
      · have hm : m < 4 := c4
        refine Rn.aload_n (pc := 7) dX11_writeLines_7 rfl rfl ?_
        refine Rn.getR (pc := 8) flX11_18 mu10_1 fx10_1 dX11_writeLines_8 ?_
        refine Rn.iload_n (pc := 11) dX11_writeLines_11 rfl rfl ?_
        refine Rn.aaldN (pc := 12) ak13 (by decide) rfl (by omega) (by decide) fx13 dX11_writeLines_12 ?_
        refine Rn.astore_n (pc := 13) dX11_writeLines_13 rfl (by decide) rfl st5_2 ?_
        refine Rn.iconst (pc := 14) (v := nI 0) dX11_writeLines_14 (by decide) ?_
        refine Rn.istore_n (pc := 15) dX11_writeLines_15 rfl (by decide) rfl st5_3 ?_
        refine inner m hm ?_ (cnt m) 0 _ _ rfl (Nat.zero_le _) hI
        intro N' y4 h'
        refine Rn.iincN (pc := 72) (n := 1) dX11_writeLines_72 rfl (by decide) (by decide) rfl st5_1 ?_
        refine Rn.goto (pc := 75) (tgt := 2) dX11_writeLines_75 (by decide) ?_
        exact ihm (m + 1) N' _ _ _ (by omega) (by omega) ⟨h'.1, h'.2.1.m, ImP.nx h'.2.2.1, h'.2.2.2⟩
  refine Rn.iconst (pc := 0) (v := nI 0) dX11_writeLines_0 (by decide) ?_
  refine Rn.istore_n (pc := 1) dX11_writeLines_1 rfl (by decide) rfl st5_1 ?_
  exact outer 4 0 M _ _ _ rfl (by decide) ⟨Fr.refl M, fun a b p _ => absurd p (by unfold lx; omega), ⟨fun a b p => absurd p (by unfold lx; omega), fun k hk _ => h0 k hk⟩, fun s => rfl⟩

def SVc (j k i s : Nat) : Prop := (k = 21 ∧ i = j ∧ s < 8) ∨ (k = 2 ∧ i = j ∧ s = 1) ∨ k = 1
def PVc (j : Nat) (bs : Nat → Nat) (B : LB) (g : Nat → Bool) (z : Nat) (M : Mem) : Option AV → Mem → Prop := fun r M' => Fr (SVc j) M M' ∧ ((mnK B g = none ∧ r = some (vI (bI false)) ∧ TlM M' (-8) (-1) (-1) (-1)) ∨ (∃ k, mnK B g = some k ∧ r = some (vI (bI true)) ∧ (∀ s, mI M' 1 0 s = mI M 1 0 s) ∧ mI M' 2 j 1 = nI z ∧ ∀ x, x < 8 → bC j M' x = nI (vecs (ad bs B k) x)))
set_option maxRecDepth 20000 in
set_option maxHeartbeats 4000000 in
theorem k_writeVectors (G : GX) {M : Mem} (j : Nat) (bs : Nat → Nat) (B : LB) (g : Nat → Bool) (z : Nat) (hd5 : mR M 10 0 5 = j) (hL : LbC j B M) (hN9 : LbN B) (hW : LbW B) (hG : GbC j B g M) (hA : AdC j bs M) (hz : mI M 4 j 3 = nI z) : MetM G yX11_writeVectors iX11_writeVectors [vR 10 0] M (PVc j bs B g z M) := by
  refine MetM.of (ls := [some (vR 10 0), none]) (by decide) rfl (Nat.le_of_ble_eq_true rfl) rfl ?_
  intro hM0
  refine Rn.aload_n (pc := 0) dX11_writeVectors_0 rfl rfl ?_
  refine Rn.getRm (pc := 1) flX11_44 hd5 dX11_writeVectors_1 ?_
  refine Rn.getR (pc := 4) flX11_140 mu0_0 fx0_0 dX11_writeVectors_4 ?_
  refine Rn.ldc2 (pc := 7) dX11_writeVectors_7 wlX11_213 ?_
  refine Rn.callV (pc := 10) (as := [_]) cvX11_215 ⟨by decide, rfl⟩ ⟨by decide, by decide⟩ dX11_writeVectors_10 (Nat.le_of_ble_eq_true rfl) rfl (k_findGlobal G j B g mainV hL hG hN9 (by decide)) ?_
  rintro _ M9 ⟨rfl, h9⟩
  rw [h9]
  cases hf : fg B g mainV with
  | none =>
    rw [show prV none = (-1 : Int32) from rfl]
    refine Rn.istore_n (pc := 13) dX11_writeVectors_13 rfl (by decide) rfl st2_1 ?_
    refine Rn.iload_n (pc := 14) dX11_writeVectors_14 rfl rfl ?_
    refine Rn.iconst (pc := 15) (v := -1) dX11_writeVectors_15 (by decide) ?_
    refine Rn.icmp_eq (pc := 16) (tgt := 34) dX11_writeVectors_16 (by decide) (fun c16 => ?_) (fun c16 => ?_)
    · refine Rn.aload_n (pc := 34) dX11_writeVectors_34 rfl rfl ?_
      refine Rn.getR (pc := 35) flX11_33 mu10_3 fx10_3 dX11_writeVectors_35 ?_
      refine Rn.bipush (pc := 38) (v := -8) dX11_writeVectors_38 (by decide) ?_
      refine Rn.iconst (pc := 40) (v := -1) dX11_writeVectors_40 (by decide) ?_
      refine Rn.iconst (pc := 41) (v := -1) dX11_writeVectors_41 (by decide) ?_
      refine Rn.iconst (pc := 42) (v := -1) dX11_writeVectors_42 (by decide) ?_
      refine Rn.callV (pc := 43) (as := [_, _, _, _]) cvX11_178 ⟨by decide, rfl⟩ ⟨by decide, by decide⟩ dX11_writeVectors_43 (Nat.le_of_ble_eq_true rfl) rfl (k_tell G 0 (-8) (-1) (-1) (-1)) ?_
      rintro _ _ ⟨rfl, rfl⟩
      refine Rn.zret (pc := 46) rfl rfl dX11_writeVectors_46 ?_
      have hmn : mnK B g = none := by unfold mnK; rw [hf]
      have h1 : ∀ {s : Nat}, SVc j 1 0 s := by intro s; unfold SVc; omega
      exact ⟨((((Fr.refl M).sI h1).sI h1).sI h1).sI h1, Or.inl ⟨hmn, rfl, rfl, rfl, rfl, rfl⟩⟩
    · exact absurd rfl c16
  | some k =>
    have hkl := (fg_some hf).1
    have h96 := hN9.1
    obtain ⟨l1, l2, l3, l4⟩ := hL.2 k hkl
    have hw := hW.1 k hkl
    rw [prV_s]
    refine Rn.istore_n (pc := 13) dX11_writeVectors_13 rfl (by decide) rfl st2_1 ?_
    refine Rn.iload_n (pc := 14) dX11_writeVectors_14 rfl rfl ?_
    refine Rn.iconst (pc := 15) (v := -1) dX11_writeVectors_15 (by decide) ?_
    refine Rn.icmp_eq (pc := 16) (tgt := 34) dX11_writeVectors_16 (by decide) (fun c16 => ?_) (fun c16 => ?_)
    · exact absurd ((prV_m1 (q := some k) (fun i h => by cases h; omega)).mp c16) (fun z => by cases z)
    · refine Rn.aload_n (pc := 19) dX11_writeVectors_19 rfl rfl ?_
      refine Rn.getRm (pc := 20) flX11_44 hd5 dX11_writeVectors_20 ?_
      refine Rn.getR (pc := 23) flX11_140 mu0_0 fx0_0 dX11_writeVectors_23 ?_
      refine Rn.getR (pc := 26) flX11_219 mu3_3 fx3_3 dX11_writeVectors_26 ?_
      refine Rn.iload_n (pc := 29) dX11_writeVectors_29 rfl rfl ?_
      refine Rn.ialdN (pc := 30) ak17 (by omega) (by decide) l3 dX11_writeVectors_30 ?_
      refine Rn.if_eq (pc := 31) (y := 0) (tgt := 47) dX11_writeVectors_31 (by decide) (fun c31 => ?_) (fun c31 => ?_)
      · refine Rn.aload_n (pc := 47) dX11_writeVectors_47 rfl rfl ?_
        refine Rn.getRm (pc := 48) flX11_44 hd5 dX11_writeVectors_48 ?_
        refine Rn.getR (pc := 51) flX11_115 mu0_2 fx0_2 dX11_writeVectors_51 ?_
        refine Rn.iconst (pc := 54) (v := nI 0) dX11_writeVectors_54 (by decide) ?_
        refine Rn.ldc (pc := 55) dX11_writeVectors_55 wcX11_223 ?_
        refine Rn.callV (pc := 57) (as := [_, _]) cvX11_224 ⟨by decide, rfl⟩ ⟨by decide, by decide⟩ dX11_writeVectors_57 (Nat.le_of_ble_eq_true rfl) rfl (k_putWord G j 0 (nI 536871936) (by decide)) ?_
        rintro _ M5 ⟨rfl, f5, b5⟩
        refine Rn.aload_n (pc := 60) dX11_writeVectors_60 rfl rfl ?_
        refine Rn.getRm (pc := 61) flX11_44 (show mR M5 10 0 5 = j from (f5.R).trans hd5) dX11_writeVectors_61 ?_
        refine Rn.getR (pc := 64) flX11_115 mu0_2 fx0_2 dX11_writeVectors_64 ?_
        refine Rn.iconst (pc := 67) (v := nI 4) dX11_writeVectors_67 (by decide) ?_
        refine Rn.aload_n (pc := 68) dX11_writeVectors_68 rfl rfl ?_
        refine Rn.getRm (pc := 69) flX11_44 (show mR M5 10 0 5 = j from (f5.R).trans hd5) dX11_writeVectors_69 ?_
        refine Rn.iload_n (pc := 72) dX11_writeVectors_72 rfl rfl ?_
        refine Rn.callV (pc := 73) (as := [_]) cvX11_154 ⟨by decide, rfl⟩ ⟨by decide, by decide⟩ dX11_writeVectors_73 (Nat.le_of_ble_eq_true rfl) rfl (k_addressOf G j bs B k hkl (hL.fr f5 (by intro k i s h; unfold S21; omega)) hN9.1 hW (fun m s a b => (f5.I (by unfold S21; omega)).trans (hA m s a b))) ?_
        rintro _ M9 ⟨rfl, h9⟩
        rw [h9]
        refine Rn.iconst (pc := 76) (v := nI 1) dX11_writeVectors_76 (by decide) ?_
        refine Rn.iaddN (pc := 77) dX11_writeVectors_77 ?_
        refine Rn.callV (pc := 78) (as := [_, _]) cvX11_224 ⟨by decide, rfl⟩ ⟨by decide, by decide⟩ dX11_writeVectors_78 (Nat.le_of_ble_eq_true rfl) rfl (k_putWord G j 4 (nI (ad bs B k + 1)) (by decide)) ?_
        rintro _ M6 ⟨rfl, f6, b6⟩
        refine Rn.aload_n (pc := 81) dX11_writeVectors_81 rfl rfl ?_
        refine Rn.getRm (pc := 82) flX11_44 (show mR M6 10 0 5 = j from (f6.R).trans ((f5.R).trans hd5)) dX11_writeVectors_82 ?_
        refine Rn.getR (pc := 85) flX11_115 mu0_2 fx0_2 dX11_writeVectors_85 ?_
        refine Rn.aload_n (pc := 88) dX11_writeVectors_88 rfl rfl ?_
        refine Rn.getRm (pc := 89) flX11_44 (show mR M6 10 0 5 = j from (f6.R).trans ((f5.R).trans hd5)) dX11_writeVectors_89 ?_
        refine Rn.getR (pc := 92) flX11_159 mu0_1 fx0_1 dX11_writeVectors_92 ?_
        refine Rn.getI (pc := 95) (t := 0) flX11_228 (show mI M6 4 j 3 = nI z from (f6.I (by unfold S21; omega)).trans ((f5.I (by unfold S21; omega)).trans hz)) dX11_writeVectors_95 ?_
        refine Rn.putI (pc := 98) (t := 0) flX11_119 rfl rfl dX11_writeVectors_98 ?_
        refine Rn.iconst (pc := 101) (v := nI 1) dX11_writeVectors_101 (by decide) ?_
        refine Rn.zret (pc := 102) rfl rfl dX11_writeVectors_102 ?_
        have hmn : mnK B g = some k := by unfold mnK; rw [hf]; exact if_pos (rem_z (by omega) c31)
        refine ⟨((f5.mono ?_).trans (f6.mono ?_)).sI (by unfold SVc; omega), Or.inr ⟨k, hmn, rfl, fun s => ?_, by rw [mI_sI, if_pos ⟨rfl, rfl, rfl⟩], fun x hx => ?_⟩⟩
        · intro k i s h; unfold S21 at h; unfold SVc; omega
        · intro k i s h; unfold S21 at h; unfold SVc; omega
        · rw [mI_sI, if_neg (by omega), f6.I (by unfold S21; omega), f5.I (by unfold S21; omega)]
        · rw [show bC j (sI M6 2 j 1 (nI z)) x = bC j M6 x by unfold bC; rw [mI_sI, if_neg (by omega)]]
          unfold vecs
          rcases Nat.lt_or_ge x 4 with q | q
          · rw [if_pos q, bC_fr f6 (by omega)]
            have h9 := b5 x q
            rwa [Nat.zero_add] at h9
          · rw [if_neg (by omega), if_pos hx]
            have h9 := b6 (x - 4) (by omega)
            rwa [show 4 + (x - 4) = x by omega] at h9
      · refine Rn.aload_n (pc := 34) dX11_writeVectors_34 rfl rfl ?_
        refine Rn.getR (pc := 35) flX11_33 mu10_3 fx10_3 dX11_writeVectors_35 ?_
        refine Rn.bipush (pc := 38) (v := -8) dX11_writeVectors_38 (by decide) ?_
        refine Rn.iconst (pc := 40) (v := -1) dX11_writeVectors_40 (by decide) ?_
        refine Rn.iconst (pc := 41) (v := -1) dX11_writeVectors_41 (by decide) ?_
        refine Rn.iconst (pc := 42) (v := -1) dX11_writeVectors_42 (by decide) ?_
        refine Rn.callV (pc := 43) (as := [_, _, _, _]) cvX11_178 ⟨by decide, rfl⟩ ⟨by decide, by decide⟩ dX11_writeVectors_43 (Nat.le_of_ble_eq_true rfl) rfl (k_tell G 0 (-8) (-1) (-1) (-1)) ?_
        rintro _ _ ⟨rfl, rfl⟩
        refine Rn.zret (pc := 46) rfl rfl dX11_writeVectors_46 ?_
        have hmn : mnK B g = none := by unfold mnK; rw [hf]; exact if_neg (fun q => c31 (by rw [q]; rfl))
        have h1 : ∀ {s : Nat}, SVc j 1 0 s := by intro s; unfold SVc; omega
        exact ⟨((((Fr.refl M).sI h1).sI h1).sI h1).sI h1, Or.inl ⟨hmn, rfl, rfl, rfl, rfl, rfl⟩⟩

def imC (j : Nat) (M : Mem) (k : Nat) : Nat := bt (mI M 21 j k) 0
theorem imC_b (j : Nat) (M : Mem) (k : Nat) : bC j M k = nI (imC j M k) := bt_0 _
theorem imC_e {j : Nat} {M : Mem} {k v : Nat} (h : bC j M k = nI v) (hv : v < 256) : imC j M k = v := bt_in bt_lt hv ((imC_b j M k).symm.trans h)
theorem imC_ok {R : Nat → Nat → CR} {cnt : Nat → Nat} {j : Nat} {N N' : Mem} {ma : Nat} (hc : ∀ m, m < 4 → cnt m ≤ 24) (hR : ∀ m n, m < 4 → n < cnt m → RcOK (R m n)) (hok : Ok cnt (e1 R cnt) 4 0) (h : ImP R cnt j 4 0 N) (hrm : rmE R cnt) (f : Fr (SVc j) N N') (hv : ∀ x, x < 8 → bC j N' x = nI (vecs ma x)) : ImOK R cnt ma (imC j N') := by
  have hfr : ∀ x, 8 ≤ x → bC j N' x = bC j N x := by
    intro x hx; unfold bC; rw [f.I (by unfold SVc; omega)]
  have hS : ∀ m' n', m' < 4 → n' < cnt m' → wkd (R m' n') → pS R cnt m' n' < 12 ∧ pS R cnt m' n' % 3 ≠ 2 := by
    intro m' n' a b c
    have h1 := pS_lt hc hR hok a b
    have h2 := wk_sec hok a b
    refine ⟨h1.2, ?_⟩
    unfold pS
    have h3 : (at1 R cnt m' n').2.2 ≠ 2 := by
      rcases c with c | c | c
      · exact h2.1 (Or.inl c)
      · exact h2.1 (Or.inr c)
      · have := h2.2 c; omega
    omega
  refine ⟨fun k hk => imC_e (hv k hk) vecs_lt, fun m n hm hn h2 x hx => ?_, fun k h8 hk hno => ?_⟩
  · have hs := (pS_lt hc hR hok hm hn).2
    have hb := ps_b hm hn hs h2 (by omega)
    have e9 : bC j N' (ps R cnt m n + x) = bC j N (ps R cnt m n + x) := hfr _ (by omega)
    refine imC_e (e9.trans ?_) fb3_lt
    by_cases w9 : wkd (R m n)
    · exact h.1 m n (Or.inl hm) hm hn w9 x hx
    · have hz : fbE R cnt m n x = 0 := by
        unfold fbE fb3 lb
        rw [if_neg (by unfold nref; unfold wkd at w9; omega), if_neg (by unfold wkd at w9; omega)]
      have h0 := h.2 (ps R cnt m n + x) (by have := hrm.1; omega) (by
        intro m' n' _ hm' hn' hk z
        have s2 := hS m' n' hm' hn' hk
        by_cases q : m' = m ∧ n' = n
        · obtain ⟨rfl, rfl⟩ := q; exact w9 hk
        · exact ps_dis (x := x) (y := ps R cnt m n + x - ps R cnt m' n') hm hn hs h2 hm' hn' s2.1 s2.2 q hx (by omega) (by omega))
      rw [h0, ← hz]
  · refine imC_e (by rw [hfr _ h8]; exact h.2 k hk (fun m' n' _ hm' hn' hk9 => hno m' n' hm' hn' (hS m' n' hm' hn' hk9).2)) (by decide)
/-- what the build j holds of a good link -/
def GdC (sz : Nat → Nat) (B : LB) (z j : Nat) (M : Mem) : Prop := LbC j B M ∧ LbN B ∧ LbW B ∧ SzC j sz M ∧ AdC j (bsA sz) M ∧ mI M 2 j 1 = nI z
/-- what a link may change, but the two references -/
def SLC (j k i s : Nat) : Prop := SJ1 j k i s ∨ (k = 19 ∧ 4 * (2 * j) ≤ i ∧ i < 4 * (2 * j) + 8) ∨ ((k = 20 ∨ k = 21) ∧ i = j) ∨ (k = 4 ∧ i = j ∧ s = 3) ∨ (k = 2 ∧ i = j ∧ s = 1)
theorem SBd_SLC {j k i s : Nat} (h : SBd j k i s) : SLC j k i s := by
  rcases h with (h | h | h) | h | h | h
  · exact Or.inr (Or.inl h)
  · exact Or.inr (Or.inr (Or.inl ⟨Or.inl h.1, h.2⟩))
  · exact Or.inr (Or.inr (Or.inr (Or.inl h)))
  · exact Or.inr (Or.inr (Or.inl ⟨Or.inr h.1, h.2⟩))
  · exact Or.inr (Or.inr (Or.inr (Or.inr h)))
  · exact Or.inl (Or.inr (Or.inr (Or.inr (Or.inl h))))
theorem SJ2_SLC {j k i s : Nat} (h : SJ2 j k i s) : SLC j k i s := h.elim (fun q => Or.inl (Or.inr (Or.inl ⟨Or.inr q.1, q.2⟩))) (fun q => Or.inl (Or.inr (Or.inr (Or.inr (Or.inr (Or.inr q))))))
theorem SFr_SLC {j k i s : Nat} (h : SFr j k i s) : SLC j k i s := by
  rcases h with (h | h | h) | h
  · exact Or.inr (Or.inr (Or.inr (Or.inl h)))
  · exact Or.inr (Or.inr (Or.inl ⟨Or.inl h.1, h.2⟩))
  · exact Or.inr (Or.inl ⟨h.1, by omega, by omega⟩)
  · exact Or.inl (Or.inr (Or.inr (Or.inr (Or.inr (Or.inr h)))))
theorem SJ3_SLC {j k i s : Nat} (h : SJ3 j k i s) : SLC j k i s := h.elim (fun q => Or.inr (Or.inr (Or.inl ⟨Or.inr q.1, q.2⟩))) (fun q => Or.inl (Or.inr (Or.inr (Or.inr (Or.inr (Or.inr q))))))
theorem SVc_SLC {j k i s : Nat} (h : SVc j k i s) : SLC j k i s := by
  rcases h with h | h | h
  · exact Or.inr (Or.inr (Or.inl ⟨Or.inr h.1, h.2.1⟩))
  · exact Or.inr (Or.inr (Or.inr (Or.inr h)))
  · exact Or.inl (Or.inr (Or.inr (Or.inr (Or.inr (Or.inr h)))))
def PLC (R : Nat → Nat → CR) (cnt : Nat → Nat) (j l : Nat) (M : Mem) : Option AV → Mem → Prop := fun r M' => ∃ k : Int32, r = some (vI k) ∧ SrcC R cnt M' ∧ ((Fr (SLC j) M M' ∧ BadL R cnt k (mI M' 1 0 1) (mI M' 1 0 2) (mI M' 1 0 3)) ∨ (∃ N ma, Fr (SLC j) M N ∧ M' = sR (sR N 10 0 5 l) 10 0 4 j ∧ GoodL R cnt ma ∧ ImOK R cnt ma (imC j M') ∧ k = nI (flE (szE R cnt)) ∧ (∀ s, s < 3 → mI M' 1 0 (s + 1) = -1) ∧ GdC (szE R cnt) (lbE R cnt) (flE (szE R cnt)) j M'))
theorem SrcC.sR {R : Nat → Nat → CR} {cnt : Nat → Nat} {M : Mem} {a b c d e f g h : Nat} (q : SrcC R cnt M) : SrcC R cnt (sR (sR M a b c d) e f g h) := q
theorem LbC.fr8 {j : Nat} {B : LB} {M N : Mem} (h : LbC j B M) (f : Fr (SVc j) M N) : LbC j B N := h.fr f (by intro k i s h; unfold SVc; omega)
set_option maxRecDepth 20000 in
set_option maxHeartbeats 4000000 in
theorem k_link (G : GX) {M : Mem} (R : Nat → Nat → CR) (cnt : Nat → Nat) (j l : Nat) (hsrc : SrcC R cnt M) (hR : RcA R cnt) (hd0 : mR M 10 0 5 = j) (hl0 : mR M 10 0 4 = l) : MetM G yX11_link iX11_link [vR 10 0] M (PLC R cnt j l M) := by
  refine MetM.of (ls := [some (vR 10 0), none]) (by decide) rfl (Nat.le_of_ble_eq_true rfl) rfl ?_
  intro hM0
  have hc : ∀ m, m < 4 → cnt m ≤ 24 := fun m hm => (hsrc m hm).2.1
  have hR1 : ∀ m n, m < 4 → n < cnt m → RcOK (R m n) := fun m n a b => (hR m n a b).1
  have h1 : ∀ {s : Nat}, SLC j 1 0 s := Or.inl (Or.inr (Or.inr (Or.inr (Or.inr (Or.inr rfl)))))
  have hS3' : ∀ k i s, SBd j k i s → SLC j k i s := fun k i s h => SBd_SLC h
  have hS5' : ∀ k i s, SJ2 j k i s → SLC j k i s := fun k i s h => SJ2_SLC h
  have hS6' : ∀ k i s, SFr j k i s → SLC j k i s := fun k i s h => SFr_SLC h
  have hS7' : ∀ k i s, SJ3 j k i s → SLC j k i s := fun k i s h => SJ3_SLC h
  have hS8 : ∀ k i s, SVc j k i s → SLC j k i s := fun k i s h => SVc_SLC h
  refine Rn.aload_n (pc := 0) dX11_link_0 rfl rfl ?_
  refine Rn.getR (pc := 1) flX11_33 mu10_3 fx10_3 dX11_link_1 ?_
  refine Rn.callV (pc := 4) (as := []) cvX11_90 ⟨by decide, rfl⟩ ⟨by decide, by decide⟩ dX11_link_4 (Nat.le_of_ble_eq_true rfl) rfl (k_forget G 0) ?_
  rintro _ _ ⟨rfl, rfl⟩
  refine Rn.aload_n (pc := 7) dX11_link_7 rfl rfl ?_
  refine Rn.getRm (pc := 8) flX11_44 (show mR (sI (sI (sI (sI M 1 0 0 (nI 0)) 1 0 1 (-1)) 1 0 2 (-1)) 1 0 3 (-1)) 10 0 5 = j from hd0) dX11_link_8 ?_
  refine Rn.callV (pc := 11) (as := []) cvX11_93 ⟨by decide, rfl⟩ ⟨by decide, by decide⟩ dX11_link_11 (Nat.le_of_ble_eq_true rfl) rfl (k_clearB G j) ?_
  rintro _ M3 ⟨rfl, f3, h35, hS3, h21, hb3⟩
  have f03 : Fr (SLC j) M M3 := ((((((Fr.refl M).sI h1).sI h1).sI h1).sI h1)).trans (f3.mono hS3')
  have hd3 : mR M3 10 0 5 = j := (f3.R).trans hd0
  have hl3 : mR M3 10 0 4 = l := (f3.R).trans hl0
  have hsrc3 : SrcC R cnt M3 := (hsrc.fr (S := fun k _ _ => k = 1) (((((Fr.refl M).sI rfl).sI rfl).sI rfl).sI rfl) (by intro k i s h; omega)).fr f3 (by intro k i s h; unfold SBd SCl; omega)
  have h13 : ∀ s, s < 3 → mI M3 1 0 (s + 1) = -1 := by
    intro s hs
    rw [f3.I (by unfold SBd SCl; omega)]
    rcases (show s = 0 ∨ s = 1 ∨ s = 2 by omega) with rfl | rfl | rfl <;> rfl
  refine Rn.aload_n (pc := 14) dX11_link_14 rfl rfl ?_
  refine Rn.callV (pc := 15) (as := []) cvX11_96 ⟨by decide, rfl⟩ ⟨by decide, by decide⟩ dX11_link_15 (Nat.le_of_ble_eq_true rfl) rfl (k_layOutLines G R cnt j hsrc3 hR hd3 h35 hS3) ?_
  rintro _ M4 ⟨b4, rfl, f4, hsrc4, h4⟩
  have f04 : Fr (SLC j) M M4 := f03.trans (f4.mono (fun k i s h => Or.inl h))
  have hd4 : mR M4 10 0 5 = j := (f4.R).trans hd3
  have hl4 : mR M4 10 0 4 = l := (f4.R).trans hl3
  rcases h4 with ⟨rfl, h4⟩ | ⟨rfl, hb4'⟩
  · obtain ⟨_, _, ok1, hL4, hG4, hS4, hPl4, h14'⟩ := h4
    have hfa : ∀ m n, m < 4 → n < cnt m → rFa (R m n) = 0 := fun m n hm hn => (er1_0 (ok1 m n (Or.inl hm) hn)).2.1
    obtain ⟨hW, h96, hsz8⟩ := at1_end hc hR1 ok1
    have hN9 := lbE_LbN hc hR ok1
    have hb4 : ∀ k, k < 2048 → bC j M4 k = nI 0 := fun k hk => by unfold bC; rw [f4.I (by unfold SJ1; omega)]; exact hb3 k hk
    have h14 : ∀ s, s < 3 → mI M4 1 0 (s + 1) = -1 := fun s hs => (h14' (s + 1)).trans (h13 s hs)
    refine Rn.if_eqB (pc := 18) (tgt := 49) dX11_link_18 (by decide) (fun c18 => ?_) (fun c18 => ?_)
    · cases c18
    · refine Rn.aload_n (pc := 21) dX11_link_21 rfl rfl ?_
      refine Rn.callV (pc := 22) (as := []) cvX11_100 ⟨by decide, rfl⟩ ⟨by decide, by decide⟩ dX11_link_22 (Nat.le_of_ble_eq_true rfl) rfl (k_tellGlobals G R cnt j hsrc4 hR hfa hd4 hL4 hN9 hG4) ?_
      rintro _ M5 ⟨b5, rfl, f5, h5⟩
      have f05 : Fr (SLC j) M M5 := f04.trans (f5.mono hS5')
      have hsrc5 : SrcC R cnt M5 := hsrc4.fr f5 (by intro k i s h; unfold SJ2; omega)
      have hd5' : mR M5 10 0 5 = j := (f5.R).trans hd4
      have hl5 : mR M5 10 0 4 = l := (f5.R).trans hl4
      rcases h5 with ⟨rfl, h5⟩ | ⟨rfl, hb5'⟩
      · obtain ⟨_, ok2, hG5, hGU, h15'⟩ := h5
        have hL5 := hL4.fr f5 (by intro k i s h; unfold SJ2; omega)
        have hS5 : SzC j (szE R cnt) M5 := fun m s a b => (f5.I (by unfold SJ2; omega)).trans (hS4 m s a b)
        have hPl5 : Pl1 R cnt 4 0 M5 := fun a b p q r => ⟨(f5.I (by unfold SJ2; omega)).trans (hPl4 a b p q r).1, (f5.I (by unfold SJ2; omega)).trans (hPl4 a b p q r).2⟩
        have hb5 : ∀ k, k < 2048 → bC j M5 k = nI 0 := fun k hk => by unfold bC; rw [f5.I (by unfold SJ2; omega)]; exact hb4 k hk
        have h15 : ∀ s, s < 3 → mI M5 1 0 (s + 1) = -1 := fun s hs => (h15' (s + 1)).trans (h14 s hs)
        refine Rn.if_eqB (pc := 25) (tgt := 49) dX11_link_25 (by decide) (fun c25 => ?_) (fun c25 => ?_)
        · cases c25
        · refine Rn.aload_n (pc := 28) dX11_link_28 rfl rfl ?_
          refine Rn.callV (pc := 29) (as := []) cvX11_103 ⟨by decide, rfl⟩ ⟨by decide, by decide⟩ dX11_link_29 (Nat.le_of_ble_eq_true rfl) rfl (k_findRoom G j (szE R cnt) hsz8 hd5' hS5) ?_
          rintro _ M6 ⟨rfl, f6, hA6, hF6, hz6, hu6, ht6⟩
          have f06 : Fr (SLC j) M M6 := f05.trans (f6.mono hS6')
          have hsrc6 : SrcC R cnt M6 := hsrc5.fr f6 (by intro k i s h; unfold SFr SAr; omega)
          have hd6 : mR M6 10 0 5 = j := (f6.R).trans hd5'
          have hl6 : mR M6 10 0 4 = l := (f6.R).trans hl5
          by_cases hrm : rmE R cnt
          · have hL6 := hL5.fr f6 (by intro k i s h; unfold SFr SAr; omega)
            have hG6 : GbC j (lbE R cnt) (glE R cnt) M6 := fun i hi => (f6.I (by unfold SFr SAr; omega)).trans (hG5 i hi)
            have hS6 : SzC j (szE R cnt) M6 := fun m s a b => (f6.I (by unfold SFr SAr; omega)).trans (hS5 m s a b)
            have hPl6 : Pl1 R cnt 4 0 M6 := fun a b p q r => ⟨(f6.I (by unfold SFr SAr; omega)).trans (hPl5 a b p q r).1, (f6.I (by unfold SFr SAr; omega)).trans (hPl5 a b p q r).2⟩
            have hb6 : ∀ k, k < 2048 → bC j M6 k = nI 0 := fun k hk => by unfold bC; rw [f6.I (by unfold SFr SAr; omega)]; exact hb5 k hk
            have h16 : ∀ s, s < 3 → mI M6 1 0 (s + 1) = -1 := fun s hs => (hu6 hrm (s + 1)).trans (h15 s hs)
            refine Rn.if_eqB (pc := 32) (tgt := 49) dX11_link_32 (by decide) (fun c32 => ?_) (fun c32 => ?_)
            · rw [decide_eq_true hrm] at c32; cases c32
            · refine Rn.aload_n (pc := 35) dX11_link_35 rfl rfl ?_
              refine Rn.callV (pc := 36) (as := []) cvX11_106 ⟨by decide, rfl⟩ ⟨by decide, by decide⟩ dX11_link_36 (Nat.le_of_ble_eq_true rfl) rfl (k_writeLines G R cnt j hsrc6 hR ok1 hd6 hL6 hN9 hW hG6 hA6 hF6 hrm hPl6 hb6) ?_
              rintro _ M7 ⟨b7, rfl, f7, h7⟩
              have f07 : Fr (SLC j) M M7 := f06.trans (f7.mono hS7')
              have hsrc7 : SrcC R cnt M7 := hsrc6.fr f7 (by intro k i s h; unfold SJ3; omega)
              have hd7 : mR M7 10 0 5 = j := (f7.R).trans hd6
              have hl7 : mR M7 10 0 4 = l := (f7.R).trans hl6
              rcases h7 with ⟨rfl, h7⟩ | ⟨rfl, hb7⟩
              · obtain ⟨_, ok3, him7, h17'⟩ := h7
                have hL7 := hL6.fr f7 (by intro k i s h; unfold SJ3; omega)
                have hG7 : GbC j (lbE R cnt) (glE R cnt) M7 := fun i hi => (f7.I (by unfold SJ3; omega)).trans (hG6 i hi)
                have hA7 : AdC j (bsA (szE R cnt)) M7 := fun m s a b => (f7.I (by unfold SJ3; omega)).trans (hA6 m s a b)
                have hS7 : SzC j (szE R cnt) M7 := fun m s a b => (f7.I (by unfold SJ3; omega)).trans (hS6 m s a b)
                have hz7 : mI M7 4 j 3 = nI (flE (szE R cnt)) := (f7.I (by unfold SJ3; omega)).trans hz6
                have h17 : ∀ s, s < 3 → mI M7 1 0 (s + 1) = -1 := fun s hs => (h17' (s + 1)).trans (h16 s hs)
                refine Rn.if_eqB (pc := 39) (tgt := 49) dX11_link_39 (by decide) (fun c39 => ?_) (fun c39 => ?_)
                · cases c39
                · refine Rn.aload_n (pc := 42) dX11_link_42 rfl rfl ?_
                  refine Rn.callV (pc := 43) (as := []) cvX11_109 ⟨by decide, rfl⟩ ⟨by decide, by decide⟩ dX11_link_43 (Nat.le_of_ble_eq_true rfl) rfl (k_writeVectors G j (bsA (szE R cnt)) (lbE R cnt) (glE R cnt) (flE (szE R cnt)) hd7 hL7 hN9 hW hG7 hA7 hz7) ?_
                  rintro _ M8 ⟨f8, h8⟩
                  have hsrc8 : SrcC R cnt M8 := hsrc7.fr f8 (by intro k i s h; unfold SVc; omega)
                  rcases h8 with ⟨hmn, rfl, ht8⟩ | ⟨k8, hmn, rfl, hf8, hz8, hv8⟩
                  · refine Rn.if_neB (pc := 46) (tgt := 57) dX11_link_46 (by decide) (fun c46 => ?_) (fun c46 => ?_)
                    · cases c46
                    · refine Rn.aload_n (pc := 49) dX11_link_49 rfl rfl ?_
                      refine Rn.getR (pc := 50) flX11_33 mu10_3 fx10_3 dX11_link_50 ?_
                      refine Rn.getI (pc := 53) (t := 0) flX11_112 ht8.1 dX11_link_53 ?_
                      refine Rn.iret (pc := 56) rfl dX11_link_56 ?_
                      exact ⟨_, rfl, hsrc8, Or.inl ⟨f07.trans (f8.mono hS8), Or.inr (Or.inr (Or.inr (Or.inr ⟨⟨ok1, ok2⟩, hrm, ok3, hmn, rfl, ht8.2.1, ht8.2.2.1, ht8.2.2.2⟩)))⟩⟩
                  · have hd8 : mR M8 10 0 5 = j := (f8.R).trans hd7
                    have hl8 : mR M8 10 0 4 = l := (f8.R).trans hl7
                    refine Rn.if_neB (pc := 46) (tgt := 57) dX11_link_46 (by decide) (fun c46 => ?_) (fun c46 => ?_)
                    · refine Rn.aload_n (pc := 57) dX11_link_57 rfl rfl ?_
                      refine Rn.getRm (pc := 58) flX11_44 (show mR M8 10 0 5 = j from hd8) dX11_link_58 ?_
                      refine Rn.astore_n (pc := 61) dX11_link_61 rfl (by decide) rfl st2_1 ?_
                      refine Rn.aload_n (pc := 62) dX11_link_62 rfl rfl ?_
                      refine Rn.aload_n (pc := 63) dX11_link_63 rfl rfl ?_
                      refine Rn.getRm (pc := 64) flX11_40 (show mR M8 10 0 4 = l from hl8) dX11_link_64 ?_
                      refine Rn.putR (pc := 67) rfl flX11_44 rfl rfl dX11_link_67 ?_
                      refine Rn.aload_n (pc := 70) dX11_link_70 rfl rfl ?_
                      refine Rn.aload_n (pc := 71) dX11_link_71 rfl rfl ?_
                      refine Rn.putR (pc := 72) rfl flX11_40 rfl rfl dX11_link_72 ?_
                      refine Rn.aload_n (pc := 75) dX11_link_75 rfl rfl ?_
                      refine Rn.getRm (pc := 76) flX11_40 (show mR (sR (sR M8 10 0 5 l) 10 0 4 j) 10 0 4 = j from rfl) dX11_link_76 ?_
                      refine Rn.getR (pc := 79) flX11_115 mu0_2 fx0_2 dX11_link_79 ?_
                      refine Rn.getI (pc := 82) (t := 0) flX11_119 (show mI (sR (sR M8 10 0 5 l) 10 0 4 j) 2 j 1 = nI (flE (szE R cnt)) from hz8) dX11_link_82 ?_
                      refine Rn.iret (pc := 85) rfl dX11_link_85 ?_
                      have fL : Fr (SLC j) M M8 := f07.trans (f8.mono hS8)
                      have hI8 : ImOK R cnt (ad (bsA (szE R cnt)) (lbE R cnt) k8) (imC j M8) := imC_ok hc hR1 ok1 him7 hrm f8 hv8
                      have hG8 : GdC (szE R cnt) (lbE R cnt) (flE (szE R cnt)) j M8 := ⟨hL7.fr8 f8, hN9, hW, fun m s a b => (f8.I (by unfold SVc; omega)).trans (hS7 m s a b), fun m s a b => (f8.I (by unfold SVc; omega)).trans (hA7 m s a b), hz8⟩
                      exact ⟨_, rfl, hsrc8.sR, Or.inr ⟨M8, ad (bsA (szE R cnt)) (lbE R cnt) k8, fL, rfl, ⟨⟨ok1, ok2⟩, hrm, ok3, k8, hmn, rfl⟩, hI8, rfl, fun s hs => (hf8 (s + 1)).trans (h17 s hs), hG8⟩⟩
                    · cases c46
              · refine Rn.if_eqB (pc := 39) (tgt := 49) dX11_link_39 (by decide) (fun c39 => ?_) (fun c39 => ?_)
                · refine Rn.aload_n (pc := 49) dX11_link_49 rfl rfl ?_
                  refine Rn.getR (pc := 50) flX11_33 mu10_3 fx10_3 dX11_link_50 ?_
                  refine Rn.getI (pc := 53) (t := 0) flX11_112 (show mI M7 1 0 0 = mI M7 1 0 0 from rfl) dX11_link_53 ?_
                  refine Rn.iret (pc := 56) rfl dX11_link_56 ?_
                  exact ⟨_, rfl, hsrc7, Or.inl ⟨f07, Or.inr (Or.inr (Or.inr (Or.inl ⟨⟨ok1, ok2⟩, hrm, hb7⟩)))⟩⟩
                · cases c39
          · refine Rn.if_eqB (pc := 32) (tgt := 49) dX11_link_32 (by decide) (fun c32 => ?_) (fun c32 => ?_)
            · refine Rn.aload_n (pc := 49) dX11_link_49 rfl rfl ?_
              refine Rn.getR (pc := 50) flX11_33 mu10_3 fx10_3 dX11_link_50 ?_
              refine Rn.getI (pc := 53) (t := 0) flX11_112 (ht6 hrm).1 dX11_link_53 ?_
              refine Rn.iret (pc := 56) rfl dX11_link_56 ?_
              exact ⟨_, rfl, hsrc6, Or.inl ⟨f06, Or.inr (Or.inr (Or.inl ⟨⟨ok1, ok2⟩, hrm, rfl, (ht6 hrm).2.1, (ht6 hrm).2.2.1, (ht6 hrm).2.2.2⟩))⟩⟩
            · rw [decide_eq_false hrm] at c32; cases c32
      · refine Rn.if_eqB (pc := 25) (tgt := 49) dX11_link_25 (by decide) (fun c25 => ?_) (fun c25 => ?_)
        · refine Rn.aload_n (pc := 49) dX11_link_49 rfl rfl ?_
          refine Rn.getR (pc := 50) flX11_33 mu10_3 fx10_3 dX11_link_50 ?_
          refine Rn.getI (pc := 53) (t := 0) flX11_112 (show mI M5 1 0 0 = mI M5 1 0 0 from rfl) dX11_link_53 ?_
          refine Rn.iret (pc := 56) rfl dX11_link_56 ?_
          exact ⟨_, rfl, hsrc5, Or.inl ⟨f05, Or.inr (Or.inl ⟨ok1, hb5'⟩)⟩⟩
        · cases c25
  · refine Rn.if_eqB (pc := 18) (tgt := 49) dX11_link_18 (by decide) (fun c18 => ?_) (fun c18 => ?_)
    · refine Rn.aload_n (pc := 49) dX11_link_49 rfl rfl ?_
      refine Rn.getR (pc := 50) flX11_33 mu10_3 fx10_3 dX11_link_50 ?_
      refine Rn.getI (pc := 53) (t := 0) flX11_112 (show mI M4 1 0 0 = mI M4 1 0 0 from rfl) dX11_link_53 ?_
      refine Rn.iret (pc := 56) rfl dX11_link_56 ?_
      exact ⟨_, rfl, hsrc4, Or.inl ⟨f04, Or.inl hb4'⟩⟩
    · cases c18

