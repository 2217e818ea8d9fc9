theorem Fr.mono' {S T : Nat → Nat → Nat → Prop} {M N : Mem} (h : ∀ k j s, S k j s → T k j s) (a : Fr S M N) : Fr T M N := a.mono h
def M1 (σ : S1) (M : Mem) : Prop := mI M 11 0 19 = nI σ.1.1 ∧ LbM 0 σ.1 M ∧ (∀ s, s < 12 → mI M 31 0 s = nI (σ.2.1 s)) ∧ mI M 11 0 30 = nI σ.2.2
def Laid (R : Nat → Nat → CR) (cnt : Nat → Nat) (m n : Nat) (M : Mem) : Prop := ∀ m' n', lx m' n' m n → n' < cnt m' → ¬ nref (R m' n') → ∀ j, j < pB1 R cnt m' n' → mI M 34 0 (1024 * pS R cnt m' n' + pO R cnt m' n' + j) = nI (lb (R m' n') j)
theorem LbM.fr {B : LB} {M N : Mem} {S : Nat → Nat → Nat → Prop} (h : LbM 0 B M) (hB : B.1 ≤ 96) (f : Fr S M N) (hS : ∀ k j s, k = 26 ∨ k = 27 ∨ k = 28 ∨ k = 29 → ¬ S k j s) : LbM 0 B N := by
  intro i hi
  obtain ⟨h1, h2, h3, L, a, e, h4, h5, h6⟩ := h i hi
  exact ⟨(f.I (hS _ _ _ (by omega))).trans h1, (f.I (hS _ _ _ (by omega))).trans h2, (f.I (hS _ _ _ (by omega))).trans h3, L, a, e, h4, h5, fun j hj => (f.I (hS _ _ _ (by omega))).trans (h6 j hj)⟩
theorem at1_n0 {R : Nat → Nat → CR} {cnt : Nat → Nat} {m : Nat} : (at1 R cnt m 0).2.2 = 0 := by cases m <;> rfl
/-! a label is added -/
def SAL (k _j s : Nat) : Prop := (k = 11 ∧ s = 19) ∨ (k = 26 ∧ s < 576) ∨ ((k = 27 ∨ k = 28 ∨ k = 29 ∨ k = 30) ∧ s < 96)
def SNm (k _j s : Nat) : Prop := k = 26 ∧ s < 576
theorem nmS_fr {k : Nat} {T : Nat → Nat} (hk : k < 96) : ∀ (d i : Nat) (M : Mem), i + d ≤ 6 → Fr SNm M (nmS M k T d i)
  | 0, _, M, _ => Fr.refl M
  | d + 1, i, M, h => by rw [nmS]; exact ((Fr.refl M).sI ⟨rfl, by omega⟩).trans (nmS_fr hk d (i + 1) _ (by omega))
theorem nmS_out {k : Nat} {T : Nat → Nat} {s : Nat} : ∀ (d i : Nat) (M : Mem), (s < 6 * k + i ∨ 6 * k + i + d ≤ s) → mI (nmS M k T d i) 26 0 s = mI M 26 0 s
  | 0, _, M, _ => rfl
  | d + 1, i, M, h => by rw [nmS, nmS_out d (i + 1) _ (by omega), mI_sI, if_neg (by omega)]
theorem nmS_in {k : Nat} {T : Nat → Nat} : ∀ (d i : Nat) (M : Mem) (j : Nat), i ≤ j → j < i + d → mI (nmS M k T d i) 26 0 (6 * k + j) = nI (T j)
  | 0, _, _, j, h1, h2 => absurd h2 (by omega)
  | d + 1, i, M, j, h1, h2 => by
    rw [nmS]
    rcases Nat.eq_or_lt_of_le h1 with q | q
    · rw [nmS_out d (i + 1) _ (by omega), q, mI_sI, if_pos ⟨rfl, rfl, rfl⟩]
    · exact nmS_in d (i + 1) _ j q (by omega)
theorem aL_fr {M : Mem} {k : Nat} {m nw z : Int32} {T : Nat → Nat} (hk : k < 96) : Fr SAL M (aL M k m nw z T) := by
  unfold aL
  refine (((((((Fr.refl M).sI ?_).sI ?_).sI ?_).sI ?_).trans ((nmS_fr hk 6 0 _ (by decide)).mono (fun k j s h => Or.inr (Or.inl h))))).sI (Or.inl ⟨rfl, rfl⟩)
  all_goals exact Or.inr (Or.inr ⟨by decide, hk⟩)
theorem aL_r {M : Mem} {k : Nat} {m nw z : Int32} {T : Nat → Nat} : mI (aL M k m nw z T) 27 0 k = m ∧ mI (aL M k m nw z T) 28 0 k = nw ∧ mI (aL M k m nw z T) 29 0 k = z ∧ (∀ j, j < 6 → mI (aL M k m nw z T) 26 0 (6 * k + j) = nI (T j)) ∧ mI (aL M k m nw z T) 11 0 19 = nI (k + 1) ∧ mI (aL M k m nw z T) 30 0 k = nI 0 := by
  unfold aL
  refine ⟨?_, ?_, ?_, fun j hj => ?_, rfl, ?_⟩
  · rw [mI_sI, if_neg (by omega), nmS_oth (by decide), mI_sI, if_neg (by omega), mI_sI, if_neg (by omega), mI_sI, if_neg (by omega), mI_sI, if_pos ⟨rfl, rfl, rfl⟩]
  · rw [mI_sI, if_neg (by omega), nmS_oth (by decide), mI_sI, if_neg (by omega), mI_sI, if_neg (by omega), mI_sI, if_pos ⟨rfl, rfl, rfl⟩]
  · rw [mI_sI, if_neg (by omega), nmS_oth (by decide), mI_sI, if_neg (by omega), mI_sI, if_pos ⟨rfl, rfl, rfl⟩]
  · rw [mI_sI, if_neg (by omega)]; exact nmS_in 6 0 _ j (Nat.zero_le j) (by omega)
  · rw [mI_sI, if_neg (by omega), nmS_oth (by decide), mI_sI, if_pos ⟨rfl, rfl, rfl⟩]
theorem aL_oth {M : Mem} {k i : Nat} {m nw z : Int32} {T : Nat → Nat} (h : i < k) : mI (aL M k m nw z T) 27 0 i = mI M 27 0 i ∧ mI (aL M k m nw z T) 28 0 i = mI M 28 0 i ∧ mI (aL M k m nw z T) 29 0 i = mI M 29 0 i ∧ (∀ j, j < 6 → mI (aL M k m nw z T) 26 0 (6 * i + j) = mI M 26 0 (6 * i + j)) ∧ mI (aL M k m nw z T) 30 0 i = mI M 30 0 i := by
  unfold aL
  refine ⟨?_, ?_, ?_, fun j hj => ?_, ?_⟩
  · rw [mI_sI, if_neg (by omega), nmS_oth (by decide), mI_sI, if_neg (by omega), mI_sI, if_neg (by omega), mI_sI, if_neg (by omega), mI_sI, if_neg (by omega)]
  · rw [mI_sI, if_neg (by omega), nmS_oth (by decide), mI_sI, if_neg (by omega), mI_sI, if_neg (by omega), mI_sI, if_neg (by omega), mI_sI, if_neg (by omega)]
  · rw [mI_sI, if_neg (by omega), nmS_oth (by decide), mI_sI, if_neg (by omega), mI_sI, if_neg (by omega), mI_sI, if_neg (by omega), mI_sI, if_neg (by omega)]
  · rw [mI_sI, if_neg (by omega), nmS_out 6 0 _ (by omega), mI_sI, if_neg (by omega), mI_sI, if_neg (by omega), mI_sI, if_neg (by omega), mI_sI, if_neg (by omega)]
  · rw [mI_sI, if_neg (by omega), nmS_oth (by decide), mI_sI, if_neg (by omega), mI_sI, if_neg (by omega), mI_sI, if_neg (by omega), mI_sI, if_neg (by omega)]
theorem aL_lab {A : CR} {m : Nat} {σ : S1} {M : Mem} {L : Nat → Nat} {a e : Nat} (hA : rLab A ≠ 0) (hn : isNm L a e = true) (hv : rLab A = pkN L a (e - a)) (hB : LbM 0 σ.1 M) : LbM 0 (lab1 A m σ) (aL M σ.1.1 (nI m) (nI σ.2.2) (nI (zz m σ)) (tch L a e)) := by
  intro i hi
  unfold lab1 at hi ⊢
  rw [if_neg hA] at hi ⊢
  unfold LbR
  dsimp only at hi ⊢
  by_cases q : i = σ.1.1
  · rw [if_pos q, q, Nat.zero_add]
    have h9 := aL_r (M := M) (k := σ.1.1) (m := nI m) (nw := nI σ.2.2) (z := nI (zz m σ)) (T := tch L a e)
    exact ⟨h9.1, h9.2.1, h9.2.2.1, L, a, e, hn, hv, h9.2.2.2.1⟩
  · rw [if_neg q]
    have h9 := aL_oth (M := M) (k := σ.1.1) (i := i) (m := nI m) (nw := nI σ.2.2) (z := nI (zz m σ)) (T := tch L a e) (by omega)
    obtain ⟨g1, g2, g3, L', a', e', g4, g5, g6⟩ := hB i (by omega)
    rw [Nat.zero_add] at g1 g2 g3 g6 ⊢
    exact ⟨h9.1.trans g1, h9.2.1.trans g2, h9.2.2.1.trans g3, L', a', e', g4, g5, fun j hj => (h9.2.2.2.1 j hj).trans (g6 j hj)⟩
def P1 (R : Nat → Nat → CR) (cnt : Nat → Nat) (M : Mem) : Option AV → Mem → Prop := fun r M' => ∃ k : Int32, r = some (vI k) ∧ Fr SLk M M' ∧ ((k = 0 ∧ Ok cnt (e1 R cnt) 4 0 ∧ mI M' 11 0 19 = nI (at1 R cnt 4 0).1.1 ∧ LbM 0 (at1 R cnt 4 0).1 M' ∧ (∀ s, s < 12 → mI M' 31 0 s = nI ((at1 R cnt 4 0).2.1 s)) ∧ Laid R cnt 4 0 M' ∧ (∀ i, i < (at1 R cnt 4 0).1.1 → mI M' 30 0 i = nI 0) ∧ ∀ s, mI M' 38 0 s = mI M 38 0 s) ∨ (k ≠ 0 ∧ FB cnt (e1 R cnt) k (mI M' 38 0 0) (mI M' 38 0 1) (mI M' 38 0 2)))
/-- between two lines of the first pass -/
def I1 (R : Nat → Nat → CR) (cnt : Nat → Nat) (M : Mem) (m n : Nat) (N : Mem) : Prop := M1 (at1 R cnt m n) N ∧ Fr SLk M N ∧ Ok cnt (e1 R cnt) m n ∧ Laid R cnt m n N ∧ (∀ i, i < (at1 R cnt m n).1.1 → mI N 30 0 i = nI 0) ∧ ∀ s, mI N 38 0 s = mI M 38 0 s
theorem I1.step {R : Nat → Nat → CR} {cnt : Nat → Nat} {M N N3 N' : Mem} {m n : Nat} (hm : m < 4) (hn : n < cnt m) (hc : ∀ m, m < 4 → cnt m ≤ 24) (hR : ∀ m n, m < 4 → n < cnt m → RcOK (R m n)) (h : I1 R cnt M m n N)
    (he : (e1 R cnt m n).1 = 0) (hL : LbM 0 (lab1 (R m n) m (at1 R cnt m n)) N3) (hk : mI N3 11 0 19 = nI (lab1 (R m n) m (at1 R cnt m n)).1) (hg : ∀ i, i < (lab1 (R m n) m (at1 R cnt m n)).1 → mI N3 30 0 i = nI 0) (f3 : Fr (fun k j s => SRd k j s ∨ SAL k j s) N N3)
    (f4 : Fr (SLy (pS R cnt m n) (pO R cnt m n) (pO R cnt m n + pB1 R cnt m n)) N3 N') (hz : mI N' 31 0 (pS R cnt m n) = nI (pO R cnt m n + pB1 R cnt m n)) (hw : mI N' 11 0 30 = nI (if rK (R m n) = 1 then sN (R m n) else (at1 R cnt m n).2.2)) (hb : ¬ nref (R m n) → ∀ j, j < pB1 R cnt m n → mI N' 34 0 (1024 * pS R cnt m n + pO R cnt m n + j) = nI (lb (R m n) j)) : I1 R cnt M m (n + 1) N' := by
  obtain ⟨⟨g1, g2, g3, g4⟩, gf, gk, gl, gg, g38⟩ := h
  have hI := at1_inv hc hR m n hm (by omega) gk
  have hlab := lab1_W (A := R m n) hm hI (er1_0 he).1
  have hnw := hI.2.2.2
  have hcm := hc m hm
  have h96 : (lab1 (R m n) m (at1 R cnt m n)).1 ≤ 96 := by have := hlab.2; omega
  have hend : pO R cnt m n + pB1 R cnt m n ≤ 1024 := (erL_0 (er1_0 he).2.2).2.2
  refine ⟨⟨?_, ?_, ?_, ?_⟩, ?_, gk.s (fun _ => he), ?_, ?_, ?_⟩
  · rw [at1_s]; exact (f4.I (by unfold SLy SB; omega)).trans hk
  · rw [at1_s]; exact hL.fr h96 f4 (by intro k j s h; unfold SLy SB; omega)
  · intro s hs
    rw [at1_s]
    show _ = nI (if s = 3 * m + (at1 R cnt m n).2.2 then zz m (at1 R cnt m n) + by1 (R m n) (zz m (at1 R cnt m n)) else (at1 R cnt m n).2.1 s)
    by_cases q : s = 3 * m + (at1 R cnt m n).2.2
    · rw [if_pos q, q]; exact hz
    · rw [if_neg q, f4.I (by unfold SLy SB pS; omega), f3.I (by unfold SRd SAL; omega)]; exact g3 s hs
  · rw [at1_s]; exact hw
  · refine gf.trans ((f3.mono ?_).trans (f4.mono ?_))
    · intro k j s h; unfold SRd SAL at h; unfold SLk; omega
    · intro k j s h; unfold SLy SB at h; unfold SLk; omega
  · intro m' n' hl hc' hr j hj
    by_cases q : m' = m ∧ n' = n
    · obtain ⟨rfl, rfl⟩ := q; exact hb hr j hj
    · have hl' : lx m' n' m n := by unfold lx at hl ⊢; omega
      have e1' := p_end (R := R) hl' hc'
      have e2 := hI.2.2.1 (pS R cnt m' n')
      have e3 : pS R cnt m' n' = pS R cnt m n → pO R cnt m' n' + pB1 R cnt m' n' ≤ pO R cnt m n := p_dis hl' hc'
      rw [f4.I (by unfold SLy SB; omega), f3.I (by unfold SRd SAL; omega)]
      exact gl m' n' hl' hc' hr j hj
  · intro i hi
    rw [at1_s] at hi
    exact (f4.I (by unfold SLy SB; omega)).trans (hg i hi)
  · intro s
    rw [f4.I (by unfold SLy SB; omega), f3.I (by unfold SRd SAL; omega)]; exact g38 s
set_option maxRecDepth 20000 in
set_option maxHeartbeats 4000000 in
theorem c_firstPass (G : GX) {M : Mem} (R : Nat → Nat → CR) (cnt : Nat → Nat) (hsrc : SrcM R cnt M) : MetM G yX12_firstPass iX12_firstPass [vR 11 0] M (P1 R cnt M) := by
  refine MetM.of (ls := [some (vR 11 0), none, none, none]) (by decide) rfl (Nat.le_of_ble_eq_true rfl) rfl ?_
  intro hM0
  have hc : ∀ m, m < 4 → cnt m ≤ 24 := fun m hm => (hsrc m hm).2.1
  have hR : ∀ m n, m < 4 → n < cnt m → RcOK (R m n) := by
    intro m n hm hn
    obtain ⟨q, _, _, _, h⟩ := (hsrc m hm).2.2 n hn
    exact h.rc
  have inner : ∀ (m : Nat), m < 4 → (∀ (N : Mem) (x3 : Option AV), I1 R cnt M m (cnt m) N → Rn G iX12_firstPass (P1 R cnt M) 127 [some (vR 11 0), some (vI (nI m)), some (vI (nI (cnt m))), x3] [] N) → ∀ (d n : Nat) (N : Mem) (x3 : Option AV), cnt m - n = d → n ≤ cnt m → I1 R cnt M m n N → Rn G iX12_firstPass (P1 R cnt M) 40 [some (vR 11 0), some (vI (nI m)), some (vI (nI n)), x3] [] N := by
    intro m hm KM d
    induction d using Nat.strongRecOn with
    | ind d ih9 =>
      intro n N x3 hd hnc hI
      have ih : ∀ (n' : Nat) (N : Mem) (x3 : Option AV), n < n' → n' ≤ cnt m → I1 R cnt M m n' N → Rn G iX12_firstPass (P1 R cnt M) 40 [some (vR 11 0), some (vI (nI m)), some (vI (nI n')), x3] [] N := fun n' N x3 h1 h2 h3 => ih9 (cnt m - n') (by omega) n' N x3 rfl h2 h3
      have fN := hI.2.1
      have hsN := hsrc.fr fN
      have hcm := hc m hm
      have hI1 := at1_inv hc hR m n hm hnc hI.2.2.1
      have hnw := hI1.2.2.2
      have hlbc := hI1.2.1
      have hRdS : ∀ k j s, SRd k j s → SLk k j s := by intro k j s h; unfold SRd at h; unfold SLk; omega
      have hALS : ∀ k j s, SAL k j s → SLk k j s := by intro k j s h; unfold SAL at h; unfold SLk; omega
      have hs38 : ∀ {s : Nat}, SLk 38 0 s := by intro s; unfold SLk; omega
      refine Rn.iload_n (pc := 40) dX12_firstPass_40 rfl rfl ?_
      refine Rn.aload_n (pc := 41) dX12_firstPass_41 rfl rfl ?_
      refine Rn.getR (pc := 42) flX12_13 mu11_3 fx11_3 dX12_firstPass_42 ?_
      refine Rn.iload_n (pc := 45) dX12_firstPass_45 rfl rfl ?_
      refine Rn.ialdN (pc := 46) ak23 (by omega) (by decide) (hsN m hm).1 dX12_firstPass_46 ?_
      refine Rn.icmp_geN (pc := 47) (tgt := 127) dX12_firstPass_47 (by decide) (by omega) (by omega) (fun c47 => ?_) (fun c47 => ?_)
      · have hn : n = cnt m := by omega
        subst hn
        exact KM N x3 hI
      · have hn : n < cnt m := c47
        obtain ⟨q, hst, hq48, hq9, hA⟩ := (hsN m hm).2.2 n hn
        refine Rn.aload_n (pc := 50) dX12_firstPass_50 rfl rfl ?_
        refine Rn.iload_n (pc := 51) dX12_firstPass_51 rfl rfl ?_
        refine Rn.iload_n (pc := 52) dX12_firstPass_52 rfl rfl ?_
        refine Rn.iconst (pc := 53) (v := nI 1) dX12_firstPass_53 (by decide) ?_
        refine Rn.callV (pc := 54) (as := [_, _, _]) cvX12_334 ⟨by decide, rfl⟩ ⟨by decide, by decide⟩ dX12_firstPass_54 (Nat.le_of_ble_eq_true rfl) rfl (c_readL G (R m n) m n q (at1 R cnt m n).1 true hm (by omega) hst hq48 hq9 hA hI1.1 hI.1.2.1 hI.1.1 (by omega)) ?_
        rintro _ M2 ⟨rfl, fr2, hrd⟩
        have hLb2 : LbM 0 (at1 R cnt m n).1 M2 := hI.1.2.1.fr (by omega) fr2 (by intro k j s h; unfold SRd; omega)
        have hk2 : mI M2 11 0 19 = nI (at1 R cnt m n).1.1 := (fr2.I (by unfold SRd; omega)).trans hI.1.1
        have hz2 : ∀ s, s < 12 → mI M2 31 0 s = nI ((at1 R cnt m n).2.1 s) := fun s hs => (fr2.I (by unfold SRd; omega)).trans (hI.1.2.2.1 s hs)
        have hnw2 : mI M2 11 0 30 = nI (at1 R cnt m n).2.2 := (fr2.I (by unfold SRd; omega)).trans hI.1.2.2.2
        have hg2 : ∀ i, i < (at1 R cnt m n).1.1 → mI M2 30 0 i = nI 0 := fun i hi => (fr2.I (by unfold SRd; omega)).trans (hI.2.2.2.2.1 i hi)
        have hst2 : ∀ i, i < q.1 → mI M2 25 0 (48 * (24 * m + n) + i) = nI (q.2 i) := fun i hi => (fr2.I (by unfold SRd; omega)).trans (hst.2 i hi)
        by_cases htw : rLab (R m n) ≠ 0 ∧ (fnd (at1 R cnt m n).1 m (rLab (R m n))).isSome = true
        · have htb : twB (R m n) m (at1 R cnt m n).1 true = true := by unfold twB; rw [decide_eq_true htw.1, htw.2]; rfl
          obtain ⟨hq1, hq2⟩ := hrd.2.1 htb
          refine Rn.aload_n (pc := 57) dX12_firstPass_57 rfl rfl ?_
          refine Rn.getI (pc := 58) (t := 0) flX12_100 hq1 dX12_firstPass_58 ?_
          refine Rn.if_eq (pc := 61) (y := 0) (tgt := 79) dX12_firstPass_61 (by decide) (fun c61 => ?_) (fun c61 => ?_)
          · exact absurd c61 (by decide)
          · refine Rn.aload_n (pc := 64) dX12_firstPass_64 rfl rfl ?_
            refine Rn.aload_n (pc := 65) dX12_firstPass_65 rfl rfl ?_
            refine Rn.getI (pc := 66) (t := 0) flX12_100 hq1 dX12_firstPass_66 ?_
            refine Rn.iload_n (pc := 69) dX12_firstPass_69 rfl rfl ?_
            refine Rn.iload_n (pc := 70) dX12_firstPass_70 rfl rfl ?_
            refine Rn.aload_n (pc := 71) dX12_firstPass_71 rfl rfl ?_
            refine Rn.getI (pc := 72) (t := 0) flX12_106 hq2 dX12_firstPass_72 ?_
            refine Rn.callV (pc := 75) (as := [_, _, _, _]) cvX12_337 ⟨by decide, rfl⟩ ⟨by decide, by decide⟩ dX12_firstPass_75 (Nat.le_of_ble_eq_true rfl) rfl (c_report G (-2) (nI m) (nI n) (nI (rLP (R m n)))) ?_
            rintro _ _ ⟨rfl, rfl⟩
            refine Rn.iret (pc := 78) rfl dX12_firstPass_78 ?_
            have he : er1 (R m n) m (at1 R cnt m n) = (-2, nI (rLP (R m n))) := by
              unfold er1; rw [if_pos htw]
            refine ⟨_, rfl, fN.trans ((fr2.mono hRdS).trans ((((Fr.refl M2).sI hs38).sI hs38).sI hs38)), Or.inr ⟨by decide, m, n, hm, hn, hI.2.2.1, ?_, ?_, rfl, rfl, ?_⟩⟩
            · show (er1 (R m n) m (at1 R cnt m n)).1 ≠ 0; rw [he]; show (-2 : Int32) ≠ 0; decide
            · show (-2 : Int32) = (er1 (R m n) m (at1 R cnt m n)).1; rw [he]
            · show _ = (er1 (R m n) m (at1 R cnt m n)).2; rw [he]; rfl
        · have htb : twB (R m n) m (at1 R cnt m n).1 true = false := by
            unfold twB
            cases hx : (fnd (at1 R cnt m n).1 m (rLab (R m n))).isSome with
            | false => simp
            | true => rw [decide_eq_false (fun z => htw ⟨z, hx⟩)]; rfl
          obtain ⟨hq1, hq2, hlab, hrf⟩ := hrd.2.2 htb
          by_cases hfa : rFa (R m n) = 0
          · rw [hfa] at hq1
            have hrS := hrf hfa
            obtain ⟨s, hs15, hs, hsa2, hK, hnmO⟩ := hrS
            have K91 : ∀ N3 : Mem, LbM 0 (lab1 (R m n) m (at1 R cnt m n)) N3 → mI N3 11 0 19 = nI (lab1 (R m n) m (at1 R cnt m n)).1 → (∀ i, i < (lab1 (R m n) m (at1 R cnt m n)).1 → mI N3 30 0 i = nI 0) → Fr SAL M2 N3 → Rn G iX12_firstPass (P1 R cnt M) 91 [some (vR 11 0), some (vI (nI m)), some (vI (nI n)), x3] [] N3 := by
              intro N3 hL3 hk3 hg3 f3
              have hst3 : mI N3 11 0 13 = nI s := (f3.I (by unfold SAL; omega)).trans hs
              have hK3 : StK (R m n) s (mI N3 11 0 15) (mI N3 11 0 16) := by rw [f3.I (by unfold SAL; omega), f3.I (by unfold SAL; omega)]; exact hK
              have hnw3 : mI N3 11 0 30 = nI (at1 R cnt m n).2.2 := (f3.I (by unfold SAL; omega)).trans hnw2
              have hz3 : mI N3 31 0 (3 * m + (at1 R cnt m n).2.2) = nI (pO R cnt m n) := (f3.I (by unfold SAL; omega)).trans (hz2 _ (by omega))
              refine Rn.aload_n (pc := 91) dX12_firstPass_91 rfl rfl ?_
              refine Rn.iload_n (pc := 92) dX12_firstPass_92 rfl rfl ?_
              refine Rn.callV (pc := 93) (as := [_]) cvX12_343 ⟨by decide, rfl⟩ ⟨by decide, by decide⟩ dX12_firstPass_93 (Nat.le_of_ble_eq_true rfl) rfl (c_layL G (R m n) m (at1 R cnt m n).2.2 (pO R cnt m n) s hm hs15 hst3 hK3 hfa hnw3 hnw hz3 (hI1.2.2.1 _)) ?_
              rintro _ M4 ⟨rfl, hbad, hgood⟩
              refine Rn.istore_n (pc := 96) dX12_firstPass_96 rfl (by decide) rfl st4_3 ?_
              refine Rn.iload_n (pc := 97) dX12_firstPass_97 rfl rfl ?_
              refine Rn.if_eq (pc := 98) (y := 0) (tgt := 121) dX12_firstPass_98 (by decide) (fun c98 => ?_) (fun c98 => ?_)
              · have he0 : (e1 R cnt m n).1 = 0 := by
                  show (er1 (R m n) m (at1 R cnt m n)).1 = 0
                  unfold er1; rw [if_neg htw, if_neg (fun q => q hfa)]; exact c98
                refine Rn.iincN (pc := 121) (n := 1) dX12_firstPass_121 rfl (by decide) (by decide) rfl st4_2 ?_
                refine Rn.goto (pc := 124) (tgt := 40) dX12_firstPass_124 (by decide) ?_
                obtain ⟨f4, h31, h30, hbb⟩ := hgood c98
                exact ih (n + 1) M4 _ (by omega) (by omega) (hI.step hm hn hc hR he0 hL3 hk3 hg3 ((fr2.mono (fun _ _ _ h => Or.inl h)).trans (f3.mono (fun _ _ _ h => Or.inr h))) f4 h31 h30 hbb)
              · obtain ⟨f4, h5, h4⟩ := hbad c98
                have hsa : mI M4 11 0 14 = nI (48 * (24 * m + n) + rPl (R m n)) := by rw [h4 11 14 (Or.inl rfl), f3.I (by unfold SAL; omega)]; exact hsa2 (by omega)
                have hl4 : mI M4 11 0 6 = nI (24 * m + n) := by rw [h4 11 6 (Or.inl rfl), f3.I (by unfold SAL; omega)]; exact hrd.1
                refine Rn.aload_n (pc := 101) dX12_firstPass_101 rfl rfl ?_
                refine Rn.iload_n (pc := 102) dX12_firstPass_102 rfl rfl ?_
                refine Rn.iload_n (pc := 103) dX12_firstPass_103 rfl rfl ?_
                refine Rn.iload_n (pc := 104) dX12_firstPass_104 rfl rfl ?_
                refine Rn.aload_n (pc := 105) dX12_firstPass_105 rfl rfl ?_
                refine Rn.getI (pc := 106) (t := 0) flX12_304 hsa dX12_firstPass_106 ?_
                refine Rn.bipush (pc := 109) (v := nI 48) dX12_firstPass_109 (by decide) ?_
                refine Rn.aload_n (pc := 111) dX12_firstPass_111 rfl rfl ?_
                refine Rn.getI (pc := 112) (t := 0) flX12_103 hl4 dX12_firstPass_112 ?_
                refine Rn.imulN (pc := 115) dX12_firstPass_115 ?_
                refine Rn.isub (pc := 116) dX12_firstPass_116 ?_
                rw [pk_sub (by omega), Nat.add_sub_cancel_left]
                refine Rn.callV (pc := 117) (as := [_, _, _, _]) cvX12_337 ⟨by decide, rfl⟩ ⟨by decide, by decide⟩ dX12_firstPass_117 (Nat.le_of_ble_eq_true rfl) rfl (c_report G (erL (R m n) (at1 R cnt m n).2.2 (pO R cnt m n)) (nI m) (nI n) (nI (rPl (R m n)))) ?_
                rintro _ _ ⟨rfl, rfl⟩
                refine Rn.iret (pc := 120) rfl dX12_firstPass_120 ?_
                have he : er1 (R m n) m (at1 R cnt m n) = (erL (R m n) (at1 R cnt m n).2.2 (pO R cnt m n), nI (rPl (R m n))) := by
                  unfold er1; rw [if_neg htw, if_neg (fun q => q hfa)]; rfl
                refine ⟨_, rfl, fN.trans ((fr2.mono hRdS).trans ((f3.mono hALS).trans (f4.trans ((((Fr.refl M4).sI hs38).sI hs38).sI hs38)))), Or.inr ⟨c98, m, n, hm, hn, hI.2.2.1, ?_, ?_, rfl, rfl, ?_⟩⟩
                · show (er1 (R m n) m (at1 R cnt m n)).1 ≠ 0; rw [he]; exact c98
                · show _ = (er1 (R m n) m (at1 R cnt m n)).1; rw [he]
                · show _ = (er1 (R m n) m (at1 R cnt m n)).2; rw [he]; rfl
            rcases hlab with ⟨hl0, hlf⟩ | ⟨hl0, a, e, hlf, hlt, hae, hen, hnm, hlv⟩
            · refine Rn.aload_n (pc := 57) dX12_firstPass_57 rfl rfl ?_
              refine Rn.getI (pc := 58) (t := 0) flX12_100 hq1 dX12_firstPass_58 ?_
              refine Rn.if_eq (pc := 61) (y := 0) (tgt := 79) dX12_firstPass_61 (by decide) (fun c61 => ?_) (fun c61 => ?_)
              · refine Rn.aload_n (pc := 79) dX12_firstPass_79 rfl rfl ?_
                refine Rn.getI (pc := 80) (t := 0) flX12_294 hlf dX12_firstPass_80 ?_
                refine Rn.if_lt (pc := 83) (y := 0) (tgt := 91) dX12_firstPass_83 (by decide) (fun c83 => ?_) (fun c83 => ?_)
                · exact K91 M2 (by rw [lab1, if_pos hl0]; exact hLb2) (by rw [lab1, if_pos hl0]; exact hk2) (by rw [lab1, if_pos hl0]; exact hg2) (Fr.refl M2)
                · exact absurd (show (-1 : Int32) < 0 by decide) c83
              · exact absurd rfl c61
            · refine Rn.aload_n (pc := 57) dX12_firstPass_57 rfl rfl ?_
              refine Rn.getI (pc := 58) (t := 0) flX12_100 hq1 dX12_firstPass_58 ?_
              refine Rn.if_eq (pc := 61) (y := 0) (tgt := 79) dX12_firstPass_61 (by decide) (fun c61 => ?_) (fun c61 => ?_)
              · refine Rn.aload_n (pc := 79) dX12_firstPass_79 rfl rfl ?_
                refine Rn.getI (pc := 80) (t := 0) flX12_294 hlf dX12_firstPass_80 ?_
                refine Rn.if_lt (pc := 83) (y := 0) (tgt := 91) dX12_firstPass_83 (by decide) (fun c83 => ?_) (fun c83 => ?_)
                · exact absurd c83 (nI_pos (by omega))
                · refine Rn.aload_n (pc := 86) dX12_firstPass_86 rfl rfl ?_
                  refine Rn.iload_n (pc := 87) dX12_firstPass_87 rfl rfl ?_
                  refine Rn.callV (pc := 88) (as := [_]) cvX12_340 ⟨by decide, rfl⟩ ⟨by decide, by decide⟩ dX12_firstPass_88 (Nat.le_of_ble_eq_true rfl) rfl (c_addLabel G (o := 48 * (24 * m + n)) (L := q.2) m _ _ _ a e hm hk2 (by omega) hnw2 hnw (hz2 _ (by omega)) hae (by omega) (fun i _ h2 => hst2 i (by omega)) (fun i _ h2 => (hq9 i (by omega)).2) hlf hlt) ?_
                  rintro _ _ ⟨rfl, rfl⟩
                  refine K91 _ (aL_lab (m := m) hl0 hnm hlv hLb2) ?_ ?_ (aL_fr (by omega))
                  · rw [lab1, if_neg hl0]; exact aL_r.2.2.2.2.1
                  · rw [lab1, if_neg hl0]
                    intro i hi
                    dsimp only at hi
                    by_cases z : i = (at1 R cnt m n).1.1
                    · rw [z]; exact aL_r.2.2.2.2.2
                    · rw [(aL_oth (by omega)).2.2.2.2]; exact hg2 i (by omega)
              · exact absurd rfl c61
          · have hq2 := hq2 hfa
            refine Rn.aload_n (pc := 57) dX12_firstPass_57 rfl rfl ?_
            refine Rn.getI (pc := 58) (t := 0) flX12_100 hq1 dX12_firstPass_58 ?_
            refine Rn.if_eq (pc := 61) (y := 0) (tgt := 79) dX12_firstPass_61 (by decide) (fun c61 => ?_) (fun c61 => ?_)
            · exact absurd c61 hfa
            · refine Rn.aload_n (pc := 64) dX12_firstPass_64 rfl rfl ?_
              refine Rn.aload_n (pc := 65) dX12_firstPass_65 rfl rfl ?_
              refine Rn.getI (pc := 66) (t := 0) flX12_100 hq1 dX12_firstPass_66 ?_
              refine Rn.iload_n (pc := 69) dX12_firstPass_69 rfl rfl ?_
              refine Rn.iload_n (pc := 70) dX12_firstPass_70 rfl rfl ?_
              refine Rn.aload_n (pc := 71) dX12_firstPass_71 rfl rfl ?_
              refine Rn.getI (pc := 72) (t := 0) flX12_106 hq2 dX12_firstPass_72 ?_
              refine Rn.callV (pc := 75) (as := [_, _, _, _]) cvX12_337 ⟨by decide, rfl⟩ ⟨by decide, by decide⟩ dX12_firstPass_75 (Nat.le_of_ble_eq_true rfl) rfl (c_report G (rFa (R m n)) (nI m) (nI n) (rFP (R m n))) ?_
              rintro _ _ ⟨rfl, rfl⟩
              refine Rn.iret (pc := 78) rfl dX12_firstPass_78 ?_
              have he : er1 (R m n) m (at1 R cnt m n) = (rFa (R m n), rFP (R m n)) := by
                unfold er1; rw [if_neg htw, if_pos hfa]
              refine ⟨_, rfl, fN.trans ((fr2.mono hRdS).trans ((((Fr.refl M2).sI hs38).sI hs38).sI hs38)), Or.inr ⟨hfa, m, n, hm, hn, hI.2.2.1, ?_, ?_, rfl, rfl, ?_⟩⟩
              · show (er1 (R m n) m (at1 R cnt m n)).1 ≠ 0; rw [he]; exact hfa
              · show _ = (er1 (R m n) m (at1 R cnt m n)).1; rw [he]
              · show _ = (er1 (R m n) m (at1 R cnt m n)).2; rw [he]; rfl
  have outer : ∀ (d m : Nat) (N : Mem) (x2 x3 : Option AV), 4 - m = d → m ≤ 4 → ((mI N 11 0 19 = nI (at1 R cnt m 0).1.1 ∧ LbM 0 (at1 R cnt m 0).1 N ∧ ∀ s, s < 12 → mI N 31 0 s = nI ((at1 R cnt m 0).2.1 s)) ∧ Fr SLk M N ∧ Ok cnt (e1 R cnt) m 0 ∧ Laid R cnt m 0 N ∧ (∀ i, i < (at1 R cnt m 0).1.1 → mI N 30 0 i = nI 0) ∧ ∀ s, mI N 38 0 s = mI M 38 0 s) → Rn G iX12_firstPass (P1 R cnt M) 28 [some (vR 11 0), some (vI (nI m)), x2, x3] [] N := by
    intro d
    induction d using Nat.strongRecOn with
    | ind d ih9 =>
      intro m N x2 x3 hd hm4 hI
      have ihm : ∀ (m' : Nat) (N : Mem) (x2 x3 : Option AV), m < m' → m' ≤ 4 → ((mI N 11 0 19 = nI (at1 R cnt m' 0).1.1 ∧ LbM 0 (at1 R cnt m' 0).1 N ∧ ∀ s, s < 12 → mI N 31 0 s = nI ((at1 R cnt m' 0).2.1 s)) ∧ Fr SLk M N ∧ Ok cnt (e1 R cnt) m' 0 ∧ Laid R cnt m' 0 N ∧ (∀ i, i < (at1 R cnt m' 0).1.1 → mI N 30 0 i = nI 0) ∧ ∀ s, mI N 38 0 s = mI M 38 0 s) → Rn G iX12_firstPass (P1 R cnt M) 28 [some (vR 11 0), some (vI (nI m')), x2, x3] [] N := fun m' N x2 x3 h1 h2 h3 => ih9 (4 - m') (by omega) m' N x2 x3 rfl h2 h3
      refine Rn.iload_n (pc := 28) dX12_firstPass_28 rfl rfl ?_
      refine Rn.iconst (pc := 29) (v := nI 4) dX12_firstPass_29 (by decide) ?_
      refine Rn.icmp_geN (pc := 30) (tgt := 133) dX12_firstPass_30 (by decide) (by omega) (by omega) (fun c30 => ?_) (fun c30 => ?_)
      · refine Rn.iconst (pc := 133) (v := nI 0) dX12_firstPass_133 (by decide) ?_
        refine Rn.iret (pc := 134) rfl dX12_firstPass_134 ?_
        have h4 : m = 4 := by omega
        subst h4
        exact ⟨0, rfl, hI.2.1, Or.inl ⟨rfl, hI.2.2.1, hI.1.1, hI.1.2.1, hI.1.2.2, hI.2.2.2.1, hI.2.2.2.2.1, hI.2.2.2.2.2⟩⟩
      · have hm : m < 4 := c30
        refine Rn.aload_n (pc := 33) dX12_firstPass_33 rfl rfl ?_
        refine Rn.iconst (pc := 34) (v := nI 0) dX12_firstPass_34 (by decide) ?_
        refine Rn.putI (pc := 35) (t := 0) flX12_325 rfl rfl dX12_firstPass_35 ?_
        refine Rn.iconst (pc := 38) (v := nI 0) dX12_firstPass_38 (by decide) ?_
        refine Rn.istore_n (pc := 39) dX12_firstPass_39 rfl (by decide) rfl st4_2 ?_
        refine inner m hm ?_ (cnt m) 0 _ x3 rfl (Nat.zero_le _) ?_
        · intro N' y3 h'
          refine Rn.iincN (pc := 127) (n := 1) dX12_firstPass_127 rfl (by decide) (by decide) rfl st4_1 ?_
          refine Rn.goto (pc := 130) (tgt := 28) dX12_firstPass_130 (by decide) ?_
          refine ihm (m + 1) N' _ _ (by omega) (by omega) ?_
          refine ⟨⟨h'.1.1, h'.1.2.1, h'.1.2.2.1⟩, h'.2.1, h'.2.2.1.m, ?_, h'.2.2.2.2⟩
          intro a b p q r j hj
          exact h'.2.2.2.1 a b (by unfold lx at p ⊢; rcases p with p | p
                                   · rcases Nat.eq_or_lt_of_le (Nat.le_of_lt_succ p) with z | z
                                     · subst z; exact Or.inr ⟨rfl, q⟩
                                     · exact Or.inl z
                                   · omega) q r j hj
        · exact ⟨⟨hI.1.1, hI.1.2.1, hI.1.2.2, by rw [at1_n0]; rfl⟩, hI.2.1.sI (by unfold SLk; omega), hI.2.2.1, fun a b p q r j hj => hI.2.2.2.1 a b p q r j hj, hI.2.2.2.2.1, hI.2.2.2.2.2⟩
  have zl : ∀ (d t : Nat) (N : Mem), 12 - t = d → t ≤ 12 → mI N 11 0 19 = nI 0 → (∀ k, k < t → mI N 31 0 k = nI 0) → Fr SLk M N → (∀ s, mI N 38 0 s = mI M 38 0 s) → Rn G iX12_firstPass (P1 R cnt M) 7 [some (vR 11 0), some (vI (nI t)), none, none] [] N := by
    intro d
    induction d using Nat.strongRecOn with
    | ind d ih9 =>
      intro t N hd ht hz19 hz fZ h38
      have ihz : ∀ (t' : Nat) (N : Mem), t < t' → t' ≤ 12 → mI N 11 0 19 = nI 0 → (∀ k, k < t' → mI N 31 0 k = nI 0) → Fr SLk M N → (∀ s, mI N 38 0 s = mI M 38 0 s) → Rn G iX12_firstPass (P1 R cnt M) 7 [some (vR 11 0), some (vI (nI t')), none, none] [] N := fun t' N h1 h2 h3 h4 h5 h6 => ih9 (12 - t') (by omega) t' N rfl h2 h3 h4 h5 h6
      refine Rn.iload_n (pc := 7) dX12_firstPass_7 rfl rfl ?_
      refine Rn.bipush (pc := 8) (v := nI 12) dX12_firstPass_8 (by decide) ?_
      refine Rn.icmp_geN (pc := 10) (tgt := 26) dX12_firstPass_10 (by decide) (by omega) (by omega) (fun c10 => ?_) (fun c10 => ?_)
      · refine Rn.iconst (pc := 26) (v := nI 0) dX12_firstPass_26 (by decide) ?_
        refine Rn.istore_n (pc := 27) dX12_firstPass_27 rfl (by decide) rfl st4_1 ?_
        refine outer 4 0 N _ _ rfl (by decide) ⟨⟨hz19, fun i hi => absurd hi (Nat.not_lt_zero i), fun s hs => hz s (by omega)⟩, fZ, fun a b p _ => absurd p (by unfold lx; omega), fun a b p _ => absurd p (by unfold lx; omega), fun i hi => absurd hi (Nat.not_lt_zero i), h38⟩
      · refine Rn.aload_n (pc := 13) dX12_firstPass_13 rfl rfl ?_
        refine Rn.getR (pc := 14) flX12_39 mu11_26 fx11_26 dX12_firstPass_14 ?_
        refine Rn.iload_n (pc := 17) dX12_firstPass_17 rfl rfl ?_
        refine Rn.iconst (pc := 18) (v := nI 0) dX12_firstPass_18 (by decide) ?_
        refine Rn.iastN (pc := 19) ak31 (by omega) (by decide) dX12_firstPass_19 ?_
        refine Rn.iincN (pc := 20) (n := 1) dX12_firstPass_20 rfl (by decide) (by decide) rfl st4_1 ?_
        refine Rn.goto (pc := 23) (tgt := 7) dX12_firstPass_23 (by decide) ?_
        refine ihz (t + 1) _ (by omega) (by omega) hz19 (fun k hk => ?_) (fZ.sI (by unfold SLk; omega)) h38
        rw [mI_sI]
        by_cases e : k = t
        · rw [e, if_pos ⟨rfl, rfl, rfl⟩]
        · rw [if_neg (fun z => e z.2.2)]; exact hz k (by omega)
  refine Rn.aload_n (pc := 0) dX12_firstPass_0 rfl rfl ?_
  refine Rn.iconst (pc := 1) (v := nI 0) dX12_firstPass_1 (by decide) ?_
  refine Rn.putI (pc := 2) (t := 0) flX12_319 rfl rfl dX12_firstPass_2 ?_
  refine Rn.iconst (pc := 5) (v := nI 0) dX12_firstPass_5 (by decide) ?_
  refine Rn.istore_n (pc := 6) dX12_firstPass_6 rfl (by decide) rfl st4_1 ?_
  exact zl 12 0 _ rfl (by decide) rfl (fun k hk => absurd hk (Nat.not_lt_zero k)) ((Fr.refl M).sI (by unfold SLk; omega)) (fun s => rfl)

