theorem cRef_k {L : Nat → Nat} {n : Nat} {A : CR} {t : KS} : rPl (cRef L n A t).1 = rPl A ∧ rLab (cRef L n A t).1 = rLab A ∧ rLP (cRef L n A t).1 = rLP A := ⟨rfl, rfl, rfl⟩
theorem cSt_k {L : Nat → Nat} {n : Nat} {A : CR} {t : KS} {q : Option Nat} : rPl (cSt L n A t q).1 = t.1 ∧ rLab (cSt L n A t q).1 = rLab A ∧ rLP (cSt L n A t q).1 = rLP A := by
  cases q with
  | none => exact ⟨rfl, rfl, rfl⟩
  | some j =>
    show rPl (if mnFn j < 6 then _ else _ : CR × KS).1 = _ ∧ rLab (if mnFn j < 6 then _ else _ : CR × KS).1 = _ ∧ rLP (if mnFn j < 6 then _ else _ : CR × KS).1 = _
    by_cases hf : mnFn j < 6
    · rw [if_pos hf]
      unfold cDir
      split; · exact ⟨rfl, rfl, rfl⟩
      split; · exact ⟨rfl, rfl, rfl⟩
      split
      · unfold cVal
        split
        · unfold cV2
          split; · exact ⟨rfl, rfl, rfl⟩
          split <;> exact ⟨rfl, rfl, rfl⟩
        · exact ⟨rfl, rfl, rfl⟩
      split; · exact ⟨rfl, rfl, rfl⟩
      split <;> exact ⟨rfl, rfl, rfl⟩
    · rw [if_neg hf]
      unfold cIns
      split; · exact ⟨rfl, rfl, rfl⟩
      split; · exact ⟨rfl, rfl, rfl⟩
      split; · exact ⟨rfl, rfl, rfl⟩
      split; · exact ⟨rfl, rfl, rfl⟩
      split
      · unfold cLd; split <;> exact ⟨rfl, rfl, rfl⟩
      split; · exact ⟨rfl, rfl, rfl⟩
      split; · exact ⟨rfl, rfl, rfl⟩
      split; · exact ⟨rfl, rfl, rfl⟩
      split; · exact ⟨rfl, rfl, rfl⟩
      split <;> exact ⟨rfl, rfl, rfl⟩
theorem cB2_1 {n : Nat} {q : CR × KS} : (cB2 n q).1 = q.1 := by unfold cB2; split <;> rfl
/-- a statement that begins at a -/
theorem stmt {o : Nat} {L : Nat → Nat} {n a : Nat} {A : CR} {r : SR} {s : PS} {t : KS} (hL : ChO L n) (hA : BsA A) (ha : a ≤ n) (hs0 : s.2.1 = 0) (ht : t = (a, tEnd L n a, t.2.2)) (ht0 : t.2.2.1 = 0) (hO : tEnd L n a = wEnd L n a → OKs L n s (cStep L n t)) : ((rdSt o L n a (wEnd L n a) r s).2.2.1 = 0 ∧ (cB2 n (cSt L n A t (mnS L t.1 t.2.1 49 0))).2.2.2.1 = 0 ∧ StP o L n (cB2 n (cSt L n A t (mnS L t.1 t.2.1 49 0))).1 (rdSt o L n a (wEnd L n a) r s).1) ∨ Bds (rdSt o L n a (wEnd L n a) r s).2 (cB2 n (cSt L n A t (mnS L t.1 t.2.1 49 0))).2 := by
  have h1 : t.1 = a := by rw [ht]
  have h2 : t.2.1 = tEnd L n a := by rw [ht]
  cases hm : mnS L t.1 t.2.1 49 0 with
  | none =>
    right
    have hs : ∀ j, j < 49 → swB L a (wEnd L n a) j = false := by
      intro j hj
      have h9 := mnS_none _ _ hm j (Nat.zero_le j) (by omega)
      rw [h1, h2] at h9
      rw [← (sw_same (by omega)).1]; exact h9
    rw [noSt (wEnd_le ha) hL hs]
    have hb : Bds (pWrong s (-3) a) (cFail t (-3) (nI t.1)) := by
      unfold pWrong cFail
      rw [if_pos hs0, if_pos ht0, if_pos ht0, h1]
      exact ⟨by show (-3 : Int32) ≠ 0; decide, rfl⟩
    show Bds (pWrong s (-3) a) (cB2 n (uPl A t.1, cFail t (-3) (nI t.1))).2
    unfold cB2
    split
    · exact hb
    · exact hb.st rfl (cFail_b hb.t)
  | some j =>
    have hj := mnS_lt hm
    have hsw := mnS_some _ _ hm
    rw [h1, h2] at hsw
    obtain ⟨hew, han⟩ := (sw_same (by omega)).2 hsw
    rw [hew] at hsw
    have hlen := (sw_iff.mp hsw).1
    have hpos := (sb_first j (by omega)).1
    obtain ⟨q0, e0, hRV⟩ := disp (o := o) (A := uPl A t.1) (r := r) (t := cStep L n t) ⟨hA.1, hA.2.1, hA.2.2.1, hA.2.2.2⟩ (hO hew) (by omega) hj hsw
    have hX : cSt L n A t (some j) = cX L n j (uPl A t.1) (cStep L n t) := rfl
    rw [e0, hX]
    obtain ⟨f1, f2, f3⟩ := rv_fin (q := q0) (A := (cX L n j (uPl A t.1) (cStep L n t)).1) (t := (cX L n j (uPl A t.1) (cStep L n t)).2) hL hRV
    rw [show ((cX L n j (uPl A t.1) (cStep L n t)).1, (cX L n j (uPl A t.1) (cStep L n t)).2) = cX L n j (uPl A t.1) (cStep L n t) from rfl] at f1 f3
    rcases f1 with ⟨g1, g2⟩ | g1
    · left
      exact ⟨g1.1, g1.2.1, by rw [f2, f3]; exact g2⟩
    · exact Or.inr g1
theorem fin_StO {o : Nat} {L : Nat → Nat} {n : Nat} {q : CR × KS} {r : SR} {sa : Int32} (h : StP o L n q.1 r) (hsa : sa = nI (o + rPl q.1)) : StO (cFin q) o n L r sa := by
  obtain ⟨st, h1, h2, h3, h4, h5⟩ := h
  refine ⟨st, h1, h3, fun _ => hsa, h4, fun z => ?_⟩
  obtain ⟨a, e, k1, k2, k3, k4, k5, k6, k7⟩ := h5 z
  exact ⟨a, e, k1, k2, k3, k4, k5, k6, k7⟩
theorem mp_0 {L : Nat → Nat} {n a : Nat} (h : chA L n a = 0) (hL : ChO L n) (ha : a ≤ n) : n ≤ a := by
  rcases Nat.lt_or_ge a n with q | q
  · unfold chA at h; rw [if_pos q] at h; have := hL a q; omega
  · exact q
theorem rd_ok {L : Nat → Nat} {n : Nat} (hL : ChO L n) : RdOK (cP L n) n L := by
  intro o r4 fp lt0
  have ha : skp L n 0 ≤ n := skp_le (Nat.zero_le n)
  have hT : cT0 L n = (skp L n 0, tEnd L n (skp L n 0), nI 0, nI 0) := rfl
  have hO0 : OKs L n (0, nI 0, fp) (cT0 L n) := ⟨rfl, rfl, Nat.zero_le n, rfl, rfl⟩
  have hb0 : BsA A0 := ⟨rfl, rfl, rfl, rfl⟩
  by_cases hz : chA L n (skp L n 0) = 0
  · have hn := mp_0 hz hL ha
    have hnm : cNm L (cT0 L n) = 0 := by
      unfold cNm nmV
      rw [hT]
      dsimp only
      rw [if_neg ?_]
      intro z
      have := (nm_f z).1
      rw [(tw_end hn).1] at this
      omega
    have hlb : cLb L n A0 (cT0 L n) = (A0, cT0 L n) := by unfold cLb; rw [if_pos hnm]
    have hcP : cP L n = uFP (uFa A0 (nI 0)) (nI 0) := by
      unfold cP cB1 cB2
      rw [hlb]
      dsimp only
      rw [if_pos (show n ≤ (cT0 L n).1 from hn), if_pos (show n ≤ (cT0 L n).1 from hn)]
      rfl
    have hr : ∀ b, rdR o L n b (nI 0, r4) fp lt0 = ((-1, lt0, -1), (nI 0, r4), (skp L n 0, nI 0, fp)) := by intro b; unfold rdR; rw [if_pos hz]
    rw [hr, hr, hcP]
    refine ⟨Or.inl ⟨rfl, rfl, rfl⟩, rfl, fun z => absurd rfl z, fun _ => ⟨0, by decide, rfl, fun z => absurd rfl z, Or.inl ⟨rfl, rfl, rfl⟩, fun z => absurd z (by decide)⟩⟩
  · by_cases hl : isNm L (skp L n 0) (wEnd L n (skp L n 0)) = true ∧ chA L n (skp L n (wEnd L n (skp L n 0))) = 58
    · have hew := nm_same.2 hl.1
      have hnm : cNm L (cT0 L n) = pkN L (skp L n 0) (wEnd L n (skp L n 0) - skp L n 0) := by
        unfold cNm nmV
        rw [hT]
        dsimp only
        rw [hew, if_pos hl.1]
      have hnz := nm_ne0 hl.1
      have hO1 : OKs L n (wEnd L n (skp L n 0), nI 0, fp) (cStep L n (cT0 L n)) := hO0.word hew
      have hS58 : sgn 58 := ⟨by decide, by decide, by decide⟩
      have hO2 : OKs L n (skp L n (wEnd L n (skp L n 0)) + 1, nI 0, fp) (cStep L n (cStep L n (cT0 L n))) := hO1.sign hS58 hl.2
      have hsee : cSee L n 58 (cStep L n (cT0 L n)) = true := (hO1.see (by decide)).mpr hl.2
      have hlb : cLb L n A0 (cT0 L n) = (uLP (uLab A0 (cNm L (cT0 L n))) (skp L n 0), cStep L n (cStep L n (cT0 L n))) := by
        unfold cLb; rw [if_neg (by rw [hnm]; exact hnz), if_pos hsee]; rfl
      have hee := wEnd_ge (L := L) ha
      have hel := wEnd_le (L := L) ha
      have htw : rdR o L n true (nI 0, r4) fp lt0 = ((nI (o + skp L n 0), nI (o + wEnd L n (skp L n 0)), -1), (nI 0, r4), pWrong (skp L n (wEnd L n (skp L n 0)) + 1, nI 0, fp) (-2) (skp L n 0)) := by
        unfold rdR; rw [if_neg hz, if_pos hl, if_pos rfl]
      have htp : pWrong (skp L n (wEnd L n (skp L n 0)) + 1, nI 0, fp) (-2) (skp L n 0) = (skp L n (wEnd L n (skp L n 0)) + 1, -2, nI (skp L n 0)) := by unfold pWrong; rw [if_pos (show nI 0 = 0 by decide)]
      rw [htw, htp]
      by_cases hz2 : chA L n (skp L n (skp L n (wEnd L n (skp L n 0)) + 1)) = 0
      · have hr : rdR o L n false (nI 0, r4) fp lt0 = ((nI (o + skp L n 0), nI (o + wEnd L n (skp L n 0)), -1), (nI 0, r4), (skp L n (skp L n (wEnd L n (skp L n 0)) + 1), nI 0, fp)) := by
          unfold rdR; rw [if_neg hz, if_pos hl, if_neg (by decide), if_pos hz2]
        have hn2 : n ≤ (cStep L n (cStep L n (cT0 L n))).1 := (hO2.fin hL).mp hz2
        have hcP : cP L n = uFP (uFa (uLP (uLab A0 (cNm L (cT0 L n))) (skp L n 0)) (nI 0)) (nI 0) := by
          unfold cP cB1 cB2
          rw [hlb]
          dsimp only
          rw [if_pos hn2, if_pos hn2]
          rfl
        rw [hr, hcP]
        refine ⟨Or.inr ⟨skp L n 0, wEnd L n (skp L n 0), rfl, rfl, hee, hel, hl.1, hnm, rfl, rfl, rfl, rfl, rfl⟩, rfl, fun z => absurd rfl z, fun _ => ⟨0, by decide, rfl, fun z => absurd rfl z, Or.inl ⟨rfl, rfl, rfl⟩, fun z => absurd z (by decide)⟩⟩
      · have hr : rdR o L n false (nI 0, r4) fp lt0 = ((nI (o + skp L n 0), nI (o + wEnd L n (skp L n 0)), nI (o + skp L n (skp L n (wEnd L n (skp L n 0)) + 1))), rdSt o L n (skp L n (skp L n (wEnd L n (skp L n 0)) + 1)) (wEnd L n (skp L n (skp L n (wEnd L n (skp L n 0)) + 1))) (nI 0, r4) (wEnd L n (skp L n (skp L n (wEnd L n (skp L n 0)) + 1)), nI 0, fp)) := by
          unfold rdR; rw [if_neg hz, if_pos hl, if_neg (by decide), if_neg hz2]
        have hn2 : ¬ n ≤ (cStep L n (cStep L n (cT0 L n))).1 := fun z => hz2 ((hO2.fin hL).mpr z)
        have hcP : cP L n = cFin (cB2 n (cSt L n (uLP (uLab A0 (cNm L (cT0 L n))) (skp L n 0)) (cStep L n (cStep L n (cT0 L n))) (mnS L (cStep L n (cStep L n (cT0 L n))).1 (cStep L n (cStep L n (cT0 L n))).2.1 49 0))) := by
          unfold cP cB1
          rw [hlb]
          dsimp only
          rw [if_neg hn2]
        have hA1 : BsA (uLP (uLab A0 (cNm L (cT0 L n))) (skp L n 0)) := ⟨rfl, rfl, rfl, rfl⟩
        have e1 := hO2.2.2.2.1
        have e2 := hO2.2.2.2.2
        have hst := stmt (o := o) (a := skp L n (skp L n (wEnd L n (skp L n 0)) + 1)) (r := (nI 0, r4)) (s := (wEnd L n (skp L n (skp L n (wEnd L n (skp L n 0)) + 1)), nI 0, fp)) (t := cStep L n (cStep L n (cT0 L n))) hL hA1 (skp_le hO2.2.2.1) rfl (Prod.ext e1 (Prod.ext e2 rfl)) hO2.2.1 (fun z => hO2.word z)
        have hk := cSt_k (L := L) (n := n) (A := uLP (uLab A0 (cNm L (cT0 L n))) (skp L n 0)) (t := cStep L n (cStep L n (cT0 L n))) (q := mnS L (cStep L n (cStep L n (cT0 L n))).1 (cStep L n (cStep L n (cT0 L n))).2.1 49 0)
        rw [hr, hcP]
        generalize cSt L n (uLP (uLab A0 (cNm L (cT0 L n))) (skp L n 0)) (cStep L n (cStep L n (cT0 L n))) (mnS L (cStep L n (cStep L n (cT0 L n))).1 (cStep L n (cStep L n (cT0 L n))).2.1 49 0) = Q at hst hk
        generalize rdSt o L n (skp L n (skp L n (wEnd L n (skp L n 0)) + 1)) (wEnd L n (skp L n (skp L n (wEnd L n (skp L n 0)) + 1))) (nI 0, r4) (wEnd L n (skp L n (skp L n (wEnd L n (skp L n 0)) + 1)), nI 0, fp) = Z at hst
        have hlab : rLab (cFin (cB2 n Q)) = pkN L (skp L n 0) (wEnd L n (skp L n 0) - skp L n 0) := by
          show rLab (cB2 n Q).1 = _; rw [cB2_1, hk.2.1]; exact hnm
        have hlp : rLP (cFin (cB2 n Q)) = skp L n 0 := by
          show rLP (cB2 n Q).1 = _; rw [cB2_1, hk.2.2]; rfl
        refine ⟨Or.inr ⟨skp L n 0, wEnd L n (skp L n 0), rfl, rfl, hee, hel, hl.1, hlab, hlp, rfl, rfl, rfl, rfl⟩, ?_⟩
        rcases hst with ⟨g1, g2, g3⟩ | g
        · refine ⟨g1.trans g2.symm, fun z => absurd (show rFa (cFin (cB2 n Q)) = 0 from g2) z, fun _ => fin_StO g3 ?_⟩
          rw [cB2_1, hk.1]; show nI (o + _) = nI (o + _); rw [e1]
        · exact ⟨(congrArg Prod.fst g.2).symm, fun _ => (congrArg Prod.snd g.2).symm, fun z => absurd (show (cB2 n Q).2.2.2.1 = 0 from z) g.t⟩
    · have hr : ∀ b, rdR o L n b (nI 0, r4) fp lt0 = ((-1, lt0, nI (o + skp L n 0)), rdSt o L n (skp L n 0) (wEnd L n (skp L n 0)) (nI 0, r4) ((if isNm L (skp L n 0) (wEnd L n (skp L n 0)) = true then skp L n (wEnd L n (skp L n 0)) else wEnd L n (skp L n 0)), nI 0, fp)) := by
        intro b; unfold rdR; rw [if_neg hz, if_neg hl]
      have hlb : cLb L n A0 (cT0 L n) = (A0, cT0 L n) := by
        unfold cLb
        by_cases q : cNm L (cT0 L n) = 0
        · rw [if_pos q]
        · rw [if_neg q]
          have hin : isNm L (skp L n 0) (wEnd L n (skp L n 0)) = true := by
            cases hx : isNm L (skp L n 0) (wEnd L n (skp L n 0)) with
            | true => rfl
            | false =>
              exfalso; apply q
              unfold cNm nmV
              rw [hT]
              dsimp only
              rw [nm_same.1, hx, if_neg (by decide)]
          have hO1 : OKs L n (wEnd L n (skp L n 0), nI 0, fp) (cStep L n (cT0 L n)) := hO0.word (nm_same.2 hin)
          rw [if_neg (fun z => hl ⟨hin, (hO1.see (by decide)).mp z⟩)]
          rw [show (cT0 L n).1 = skp L n 0 from rfl, skp_skp (Nat.zero_le n)]
          rfl
      have hn2 : ¬ n ≤ (cT0 L n).1 := fun z => hz ((hO0.fin hL).mpr z)
      have hcP : cP L n = cFin (cB2 n (cSt L n A0 (cT0 L n) (mnS L (cT0 L n).1 (cT0 L n).2.1 49 0))) := by
        unfold cP cB1
        rw [hlb]
        dsimp only
        rw [if_neg hn2]
      have hst := stmt (o := o) (a := skp L n 0) (r := (nI 0, r4)) (s := ((if isNm L (skp L n 0) (wEnd L n (skp L n 0)) = true then skp L n (wEnd L n (skp L n 0)) else wEnd L n (skp L n 0)), nI 0, fp)) (t := cT0 L n) hL hb0 ha rfl rfl rfl (fun z => by
        have h9 : OKs L n (wEnd L n (skp L n 0), nI 0, fp) (cStep L n (cT0 L n)) := hO0.word z
        split
        · exact h9.sk
        · exact h9)
      have hk := cSt_k (L := L) (n := n) (A := A0) (t := cT0 L n) (q := mnS L (cT0 L n).1 (cT0 L n).2.1 49 0)
      rw [hr, hr, hcP]
      generalize cSt L n A0 (cT0 L n) (mnS L (cT0 L n).1 (cT0 L n).2.1 49 0) = Q at hst hk
      generalize rdSt o L n (skp L n 0) (wEnd L n (skp L n 0)) (nI 0, r4) ((if isNm L (skp L n 0) (wEnd L n (skp L n 0)) = true then skp L n (wEnd L n (skp L n 0)) else wEnd L n (skp L n 0)), nI 0, fp) = Z at hst
      have hlab : rLab (cFin (cB2 n Q)) = 0 := by show rLab (cB2 n Q).1 = 0; rw [cB2_1, hk.2.1]; rfl
      refine ⟨Or.inl ⟨hlab, rfl, rfl⟩, ?_⟩
      rcases hst with ⟨g1, g2, g3⟩ | g
      · refine ⟨g1.trans g2.symm, fun z => absurd (show rFa (cFin (cB2 n Q)) = 0 from g2) z, fun _ => fin_StO g3 ?_⟩
        rw [cB2_1, hk.1]; rfl
      · exact ⟨(congrArg Prod.fst g.2).symm, fun _ => (congrArg Prod.snd g.2).symm, fun z => absurd (show (cB2 n Q).2.2.2.1 = 0 from z) g.t⟩
