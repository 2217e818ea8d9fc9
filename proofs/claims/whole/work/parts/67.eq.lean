abbrev S44 : sgn 44 := ⟨by decide, by decide, by decide⟩
abbrev S35 : sgn 35 := ⟨by decide, by decide, by decide⟩
abbrev S91 : sgn 91 := ⟨by decide, by decide, by decide⟩
abbrev S93 : sgn 93 := ⟨by decide, by decide, by decide⟩
theorem rv_FR {L : Nat → Nat} {n : Nat} {s : PS} {t : KS} (h : OKs L n s t) : RV L n ((pRg L n s).1 = (cFR L n t).1) (pWt L n 44 (pRg L n s).2) (cFR L n t).2 := rv_want' (rv_reg h) S44
theorem rv_pair {L : Nat → Nat} {n : Nat} {kk c : Nat} {r : SR} {s : PS} {t : KS} (hc : c = 16384 + 64 * kk) (h : OKs L n s t) : RV L n ((fTwo L n kk r s).1 = (nI 10, (cPr L n c t).1, r.2.2)) (fTwo L n kk r s).2 (cPr L n c t).2 := by
  unfold fTwo cPr
  dsimp only
  rcases rv_FR h with ⟨h1, e1⟩ | h1
  · rcases rv_reg h1 with ⟨h2, e2⟩ | h2
    · exact Or.inl ⟨h2, by rw [e1, e2, hc]⟩
    · exact Or.inr h2
  · exact Or.inr (h1.st (pRg_b h1.1) (cReg_b h1.t))
theorem rv_imm {L : Nat → Nat} {n : Nat} {lo hi : Int32} {s : PS} {t : KS} (h : OKs L n s t) (hs : chA L n (skp L n s.1) = 35) : RV L n ((pIm L n lo hi (nI 1) (skp L n s.1, s.2)).1 = (cNu L n lo hi (cStep L n t)).1) (pIm L n lo hi (nI 1) (skp L n s.1, s.2)).2 (cNu L n lo hi (cStep L n t)).2 := by
  have hw : pWt L n 35 (skp L n s.1, s.2) = (skp L n s.1 + 1, s.2) := by
    unfold pWt pTk
    have e : skp L n (skp L n s.1, s.2).1 = skp L n s.1 := skp_skp h.2.2.1
    rw [if_pos (show (skp L n s.1, s.2).2.1 = 0 from h.1), e, if_pos hs, if_pos rfl]
  unfold pIm
  rw [hw]
  exact rv_num (h.sign S35 hs)
/-- a number after a register and a comma, or a second register -/
theorem rv_move0 {L : Nat → Nat} {n : Nat} {wh : Nat} {k : Int32} {c : Nat} {r : SR} {s : PS} {t : KS} (h : OKs L n s t) (hk : ∀ a d : Nat, (if k < 0 then nI (8 * a + d) else nI 16384 + nI 64 * k + nI (8 * a) + nI d) = nI (c + 8 * a + d)) : RV L n ((fOne L n wh k r s).1 = (nI 10, (cMv L n c wh t).1, r.2.2)) (fOne L n wh k r s).2 (cMv L n c wh t).2 := by
  unfold fOne cMv
  rcases rv_FR h with ⟨h1, e1⟩ | h1
  · by_cases q : chA L n (skp L n (pWt L n 44 (pRg L n s).2).1) = 35
    · rw [if_pos q, if_pos ((h1.see (by decide)).mpr q)]
      rcases rv_imm (lo := nI 0) (hi := nI 255) h1 q with ⟨h2, e2⟩ | h2
      · exact Or.inl ⟨h2, by dsimp only; rw [e1, e2]⟩
      · exact Or.inr h2
    · rw [if_neg q, if_neg (fun z => q ((h1.see (by decide)).mp z))]
      rcases rv_reg h1.sk with ⟨h2, e2⟩ | h2
      · exact Or.inl ⟨h2, by dsimp only at e2 ⊢; rw [hk, e1, e2]⟩
      · exact Or.inr h2
  · refine Or.inr ?_
    have m1 : ∀ {lo hi : Int32}, (pIm L n lo hi (nI 1) (skp L n (pWt L n 44 (pRg L n s).2).1, (pWt L n 44 (pRg L n s).2).2)).2.2 = (pWt L n 44 (pRg L n s).2).2 := by intro lo hi; rw [pIm_b (s := (skp L n (pWt L n 44 (pRg L n s).2).1, (pWt L n 44 (pRg L n s).2).2)) h1.1]
    have m2 : (pRg L n (skp L n (pWt L n 44 (pRg L n s).2).1, (pWt L n 44 (pRg L n s).2).2)).2.2 = (pWt L n 44 (pRg L n s).2).2 := pRg_b (s := (skp L n (pWt L n 44 (pRg L n s).2).1, (pWt L n 44 (pRg L n s).2).2)) h1.1
    have c1 : (cNu L n (nI 0) (nI 255) (cStep L n (cFR L n t).2)).2.2.2 = (cFR L n t).2.2.2 := (cNu_b (t := cStep L n (cFR L n t).2) h1.t).trans rfl
    have c2 := cReg_b (L := L) (n := n) h1.t
    by_cases q : chA L n (skp L n (pWt L n 44 (pRg L n s).2).1) = 35 <;> by_cases q2 : cSee L n 35 (cFR L n t).2 = true
    · rw [if_pos q, if_pos q2]; exact h1.st m1 c1
    · rw [if_pos q, if_neg q2]; exact h1.st m1 c2
    · rw [if_neg q, if_pos q2]; exact h1.st m2 c1
    · rw [if_neg q, if_neg q2]; exact h1.st m2 c2
theorem rv_movs {L : Nat → Nat} {n : Nat} {r : SR} {s : PS} {t : KS} (h : OKs L n s t) : RV L n ((fOne L n 8192 (-1) r s).1 = (nI 10, (cMv L n 0 8192 t).1, r.2.2)) (fOne L n 8192 (-1) r s).2 (cMv L n 0 8192 t).2 := rv_move0 h (fun a d => by rw [if_pos (by decide), Nat.zero_add])
theorem rv_cmp {L : Nat → Nat} {n : Nat} {r : SR} {s : PS} {t : KS} (h : OKs L n s t) : RV L n ((fOne L n 10240 (nI 10) r s).1 = (nI 10, (cMv L n 17024 10240 t).1, r.2.2)) (fOne L n 10240 (nI 10) r s).2 (cMv L n 17024 10240 t).2 := rv_move0 h (fun a d => by rw [if_neg (by decide), show nI 16384 + nI 64 * nI 10 = nI 17024 by decide, nI_add, nI_add])
theorem rv_sum {L : Nat → Nat} {n : Nat} {wh th : Nat} {r : SR} {s : PS} {t : KS} (h : OKs L n s t) : RV L n ((fSum L n wh th r s).1 = (nI 10, (cSm L n th wh t).1, r.2.2)) (fSum L n wh th r s).2 (cSm L n th wh t).2 := by
  unfold fSum cSm
  rcases rv_FR h with ⟨h1, e1⟩ | h1
  · by_cases q : chA L n (skp L n (pWt L n 44 (pRg L n s).2).1) = 35
    · rw [if_pos q, if_pos ((h1.see (by decide)).mpr q)]
      rcases rv_imm (lo := nI 0) (hi := nI 255) h1 q with ⟨h2, e2⟩ | h2
      · exact Or.inl ⟨h2, by dsimp only; rw [e1, e2]⟩
      · exact Or.inr h2
    · rw [if_neg q, if_neg (fun z => q ((h1.see (by decide)).mp z))]
      have h3 : RV L n ((pRg L n (skp L n (pWt L n 44 (pRg L n s).2).1, (pWt L n 44 (pRg L n s).2).2)).1 = (cReg L n (cFR L n t).2).1) (pWt L n 44 (pRg L n (skp L n (pWt L n 44 (pRg L n s).2).1, (pWt L n 44 (pRg L n s).2).2)).2) (cS3 L n t) := rv_want' (rv_reg h1.sk) S44
      generalize hX : pRg L n (skp L n (pWt L n 44 (pRg L n s).2).1, (pWt L n 44 (pRg L n s).2).2) = X at h3 ⊢
      rcases h3 with ⟨h3, e3⟩ | h3
      · by_cases q2 : chA L n (skp L n (pWt L n 44 X.2).1) = 35
        · rw [if_pos q2, if_pos ((h3.see (by decide)).mpr q2)]
          rcases rv_imm (lo := nI 0) (hi := nI 7) h3 q2 with ⟨h4, e4⟩ | h4
          · exact Or.inl ⟨h4, by dsimp only; rw [e1, e3, e4]⟩
          · exact Or.inr h4
        · rw [if_neg q2, if_neg (fun z => q2 ((h3.see (by decide)).mp z))]
          rcases rv_reg h3.sk with ⟨h4, e4⟩ | h4
          · exact Or.inl ⟨h4, by dsimp only at e4 ⊢; rw [e1, e3, e4]⟩
          · exact Or.inr h4
      · refine Or.inr ?_
        have m1 : ∀ {lo hi : Int32}, (pIm L n lo hi (nI 1) (skp L n (pWt L n 44 X.2).1, (pWt L n 44 X.2).2)).2.2 = (pWt L n 44 X.2).2 := by intro lo hi; rw [pIm_b (s := (skp L n (pWt L n 44 X.2).1, (pWt L n 44 X.2).2)) h3.1]
        have m2 : (pRg L n (skp L n (pWt L n 44 X.2).1, (pWt L n 44 X.2).2)).2.2 = (pWt L n 44 X.2).2 := pRg_b (s := (skp L n (pWt L n 44 X.2).1, (pWt L n 44 X.2).2)) h3.1
        have c1 : (cNu L n (nI 0) (nI 7) (cStep L n (cS3 L n t))).2.2.2 = (cS3 L n t).2.2 := (cNu_b (t := cStep L n (cS3 L n t)) h3.t).trans rfl
        have c2 := cReg_b (L := L) (n := n) h3.t
        split <;> split
        · exact h3.st m1 c1
        · exact h3.st m1 c2
        · exact h3.st m2 c1
        · exact h3.st m2 c2
  · refine Or.inr ?_
    generalize hF : pWt L n 44 (pRg L n s).2 = F at h1 ⊢
    have n1 : (pRg L n (skp L n F.1, F.2)).2.2 = F.2 := pRg_b (s := (skp L n F.1, F.2)) h1.1
    generalize hX : pRg L n (skp L n F.1, F.2) = X at n1 ⊢
    have n2 : X.2.2.1 ≠ 0 := by rw [n1]; exact h1.1
    have n3 : pWt L n 44 X.2 = X.2 := pWt_b n2
    rw [n3]
    have m1 : ∀ {lo hi : Int32}, (pIm L n lo hi (nI 1) (skp L n F.1, F.2)).2.2 = F.2 := by intro lo hi; rw [pIm_b (s := (skp L n F.1, F.2)) h1.1]
    have m2 : ∀ {lo hi : Int32}, (pIm L n lo hi (nI 1) (skp L n X.2.1, X.2.2)).2.2 = F.2 := by intro lo hi; rw [pIm_b (s := (skp L n X.2.1, X.2.2)) n2]; exact n1
    have m3 : (pRg L n (skp L n X.2.1, X.2.2)).2.2 = F.2 := (pRg_b (s := (skp L n X.2.1, X.2.2)) n2).trans n1
    have s3 : (cS3 L n t).2.2 = (cFR L n t).2.2.2 := cS3_b h1.t
    have s4 : (cS3 L n t).2.2.1 ≠ 0 := by rw [s3]; exact h1.t
    have c1 : (cNu L n (nI 0) (nI 255) (cStep L n (cFR L n t).2)).2.2.2 = (cFR L n t).2.2.2 := (cNu_b (t := cStep L n (cFR L n t).2) h1.t).trans rfl
    have c2 : (cNu L n (nI 0) (nI 7) (cStep L n (cS3 L n t))).2.2.2 = (cFR L n t).2.2.2 := ((cNu_b (t := cStep L n (cS3 L n t)) s4).trans rfl).trans s3
    have c3 : (cReg L n (cS3 L n t)).2.2.2 = (cFR L n t).2.2.2 := (cReg_b s4).trans s3
    have hA : ∀ u : PS, u.2 = F.2 → ∀ v : KS, v.2.2 = (cFR L n t).2.2.2 → Bds u v := fun u hu v hv => h1.st hu hv
    split
    · split
      · exact hA _ m1 _ c1
      · split
        · exact hA _ m1 _ c2
        · exact hA _ m1 _ c3
    · split
      · split
        · exact hA _ m2 _ c1
        · split
          · exact hA _ m2 _ c2
          · exact hA _ m2 _ c3
      · split
        · exact hA _ m3 _ c1
        · split
          · exact hA _ m3 _ c2
          · exact hA _ m3 _ c3
theorem rv_shift {L : Nat → Nat} {n : Nat} {c x : Nat} {r : SR} {s : PS} {t : KS} (h : OKs L n s t) : RV L n ((fShf L n c (nI x) (nI (x + 31)) r s).1 = (nI 10, (cSh L n c x t).1, r.2.2)) (fShf L n c (nI x) (nI (x + 31)) r s).2 (cSh L n c x t).2 := by
  unfold fShf cSh
  dsimp only
  rcases rv_FR h with ⟨h1, e1⟩ | h1
  · have h3 : RV L n ((pRg L n (pWt L n 44 (pRg L n s).2)).1 = (cReg L n (cFR L n t).2).1) (pWt L n 35 (pWt L n 44 (pRg L n (pWt L n 44 (pRg L n s).2)).2)) (cExp L n 35 (cS3 L n t)) := rv_want' (rv_want' (rv_reg h1) S44) S35
    rcases h3 with ⟨h3, e3⟩ | h3
    · rcases rv_num (lo := nI x) (hi := nI (x + 31)) h3 with ⟨h4, e4⟩ | h4
      · exact Or.inl ⟨h4, by unfold pIm; rw [e1, e3, e4]⟩
      · exact Or.inr h4
    · exact Or.inr (h3.st (by unfold pIm; rw [pNu_b h3.1]) (cNu_b h3.t))
  · refine Or.inr ?_
    have n1 : (pRg L n (pWt L n 44 (pRg L n s).2)).2.2 = (pWt L n 44 (pRg L n s).2).2 := pRg_b h1.1
    have n2 : (pRg L n (pWt L n 44 (pRg L n s).2)).2.2.1 ≠ 0 := by rw [n1]; exact h1.1
    have s3 : (cS3 L n t).2.2 = (cFR L n t).2.2.2 := cS3_b h1.t
    have s4 : (cS3 L n t).2.2.1 ≠ 0 := by rw [s3]; exact h1.t
    have s5 := cExp_b (L := L) (n := n) (c := 35) s4
    refine h1.st ?_ ?_
    · rw [pWt_b n2, pIm_b n2]; exact n1
    · rw [cNu_b (by rw [s5]; exact s4), s5, s3]
theorem nI_mk {a b : Nat} : nI a + nI b = nI (a + b) := by rw [nI_add]
/-- the number of bytes in a memory operand -/
theorem rv_n4 {L : Nat → Nat} {n : Nat} {stp sh : Nat} {s : PS} {t : KS} (hs : (stp = 1 ∧ sh = 0) ∨ (stp = 4 ∧ sh = 2)) (h : OKs L n s t) : RV L n ((pNu L n (nI 0) (nI (31 * stp)) (nI stp) s).1 = (cNu L n (nI 0) (nI 31 <<< (nI sh &&& 31)) t).1 ∧ ∃ x, x ≤ 31 * stp ∧ (cNu L n (nI 0) (nI 31 <<< (nI sh &&& 31)) t).1 = nI x) (pNu L n (nI 0) (nI (31 * stp)) (nI stp) s).2 (if (cNu L n (nI 0) (nI 31 <<< (nI sh &&& 31)) t).1 >>> (nI sh &&& 31) <<< (nI sh &&& 31) = (cNu L n (nI 0) (nI 31 <<< (nI sh &&& 31)) t).1 then (cNu L n (nI 0) (nI 31 <<< (nI sh &&& 31)) t).2 else cFail (cNu L n (nI 0) (nI 31 <<< (nI sh &&& 31)) t).2 (-4) (nI t.1)) := by
  have hhi : nI 31 <<< (nI sh &&& 31) = nI (31 * stp) := by rcases hs with ⟨rfl, rfl⟩ | ⟨rfl, rfl⟩ <;> decide
  have key : ∀ x : Nat, x ≤ 31 * stp → (nI x >>> (nI sh &&& 31) <<< (nI sh &&& 31) = nI x ↔ nI x - nI x / nI stp * nI stp = 0) := by
    intro x hx
    rcases hs with ⟨rfl, rfl⟩ | ⟨rfl, rfl⟩
    · constructor
      · intro _; exact rem1 _
      · intro _
        rw [pk_shrN (by omega) _ 0 (by decide), pk_shlN _ 0 (by decide) (by omega)]
        congr 1; omega
    · rw [rem_N (by omega) (by decide) (by decide), pk_shrN (by omega) _ 2 (by decide), pk_shlN _ 2 (by decide) (by omega)]
      constructor
      · intro e
        have := (nI_eq (by omega) (by omega)).mp e
        rw [show x % 4 = 0 by omega]; rfl
      · intro e
        have := rem_z (by omega) e
        congr 1; omega
  have bad : ∀ (v : Int32) (u : PS) (k : KS), Bds u k → Bds u (if v >>> (nI sh &&& 31) <<< (nI sh &&& 31) = v then k else cFail k (-4) (nI t.1)) := by
    intro v u k hb
    split
    · exact hb
    · exact hb.st rfl (cFail_b hb.t)
  rw [hhi]
  have main : ∀ (v : Int32) (sM : PS) (tC : KS), OKs L n sM tC → ((v = nI 0 ∨ ∃ x, x < 10000 ∧ (v = nI x ∨ v = -(nI x)))) →
      RV L n (v = v ∧ ∃ x, x ≤ 31 * stp ∧ v = nI x) (if sM.2.1 = 0 ∧ (v < nI 0 ∨ nI (31 * stp) < v ∨ ¬ (v - v / nI stp * nI stp = 0)) then pWrong sM (-4) (skp L n s.1) else sM) (if v >>> (nI sh &&& 31) <<< (nI sh &&& 31) = v then (if v < nI 0 ∨ nI (31 * stp) < v then cFail tC (-4) (nI t.1) else tC) else cFail (if v < nI 0 ∨ nI (31 * stp) < v then cFail tC (-4) (nI t.1) else tC) (-4) (nI t.1)) := by
    intro v sM tC hO hv
    by_cases z : v < nI 0 ∨ nI (31 * stp) < v
    · rw [if_pos ⟨hO.1, z.elim Or.inl (fun y => Or.inr (Or.inl y))⟩, if_pos z]
      refine Or.inr (bad v _ _ ?_)
      have h9 := hO.fail sM.1 (-4) (by decide) (skp L n s.1)
      rw [h.2.2.2.1]; exact h9
    · obtain ⟨x, hx, rfl⟩ : ∃ x, x ≤ 31 * stp ∧ v = nI x := by
        have z1 : ¬ v < nI 0 := fun y => z (Or.inl y)
        have z2 : ¬ nI (31 * stp) < v := fun y => z (Or.inr y)
        obtain ⟨x, hx, rfl⟩ := nI_of (x := v) z1
        refine ⟨x, ?_, rfl⟩
        rcases Nat.lt_or_ge (31 * stp) x with q | q
        · exact absurd ((nI_ltI (by rcases hs with ⟨rfl, _⟩ | ⟨rfl, _⟩ <;> decide) hx).mpr q) z2
        · exact q
      rw [if_neg z]
      by_cases y : nI x - nI x / nI stp * nI stp = 0
      · rw [if_neg (fun q => q.2.elim (fun q => z (Or.inl q)) (fun q => q.elim (fun q => z (Or.inr q)) (fun q => q y))), if_pos ((key x hx).mpr y)]
        exact Or.inl ⟨hO, rfl, x, hx, rfl⟩
      · rw [if_pos ⟨hO.1, Or.inr (Or.inr y)⟩, if_neg (fun q => y ((key x hx).mp q))]
        refine Or.inr ?_
        have h9 := hO.fail sM.1 (-4) (by decide) (skp L n s.1)
        rw [h.2.2.2.1]; exact h9
  unfold pNu cNu
  rw [if_pos h.1]
  dsimp only
  by_cases q : chA L n (skp L n s.1) = 45
  · rw [if_pos q, if_pos q, if_pos ((h.see (by decide)).mpr q), if_pos ((h.see (by decide)).mpr q)]
    have h1 := h.sign (c := 45) ⟨by decide, by decide, by decide⟩ q
    rcases rv_dig h1 with ⟨h2, hv⟩ | h2
    · rw [hv]
      exact main _ _ _ h2 (Or.inr ⟨_, by rw [← hv]; exact pDg_lt, Or.inr rfl⟩)
    · refine Or.inr ?_
      rw [if_neg (fun y => h2.1 y.1)]
      refine bad _ _ _ ?_
      split
      · exact h2.st rfl (cFail_b h2.t)
      · exact h2
  · rw [if_neg q, if_neg q, if_neg (fun z => q ((h.see (by decide)).mp z)), if_neg (fun z => q ((h.see (by decide)).mp z))]
    rcases rv_dig h.sk with ⟨h2, hv⟩ | h2
    · rw [hv]
      exact main _ _ _ h2 (Or.inr ⟨_, by rw [← hv]; exact pDg_lt, Or.inl rfl⟩)
    · refine Or.inr ?_
      rw [if_neg (fun y => h2.1 y.1)]
      refine bad _ _ _ ?_
      split
      · exact h2.st rfl (cFail_b h2.t)
      · exact h2
theorem cMe_b {L : Nat → Nat} {n : Nat} {sh : Nat} {t : KS} (h : t.2.2.1 ≠ 0) : (cMe L n sh t).2.2.2 = t.2.2 := by
  have a1 := cExp_b (L := L) (n := n) (c := 91) h
  have a2 : (cM1 L n t).2.2.2 = t.2.2 := (cReg_b (by rw [a1]; exact h)).trans a1
  have a3 : (cM2 L n t).2.2 = t.2.2 := by
    unfold cM2
    rw [cExp_b (by rw [cExp_b (by rw [a2]; exact h), a2]; exact h), cExp_b (by rw [a2]; exact h), a2]
  have a4 : (cM3 L n sh t).2.2.2 = t.2.2 := (cNu_b (by rw [a3]; exact h)).trans a3
  show (cExp L n 93 _).2.2 = t.2.2
  split
  · rw [cExp_b (by rw [a4]; exact h)]; exact a4
  · rw [cExp_b (by rw [cFail_b (by rw [a4]; exact h), a4]; exact h), cFail_b (by rw [a4]; exact h)]; exact a4
theorem memT_2 {L : Nat → Nat} {n : Nat} {fr stp d : Nat} {r : SR} {u : PS} : (fMemT L n fr stp d r u).2 = pWt L n 93 (pNu L n (nI 0) (nI (31 * stp)) (nI stp) (pWt L n 35 (pWt L n 44 (pRg L n (pWt L n 91 u)).2))).2 := by unfold fMemT pIm; dsimp only
theorem memT_1 {L : Nat → Nat} {n : Nat} {fr stp d : Nat} {r : SR} {u : PS} : (fMemT L n fr stp d r u).1 = (nI 10, nI fr + nI 64 * ((pNu L n (nI 0) (nI (31 * stp)) (nI stp) (pWt L n 35 (pWt L n 44 (pRg L n (pWt L n 91 u)).2))).1 / nI stp) + nI (8 * (pRg L n (pWt L n 91 u)).1) + nI d, r.2.2) := by unfold fMemT pIm; dsimp only
theorem cMe_2 {L : Nat → Nat} {n : Nat} {sh : Nat} {t : KS} : (cMe L n sh t).2 = cExp L n 93 (if (cM3 L n sh t).1 >>> (nI sh &&& 31) <<< (nI sh &&& 31) = (cM3 L n sh t).1 then (cM3 L n sh t).2 else cFail (cM3 L n sh t).2 (-4) (nI (cM2 L n t).1)) := by unfold cMe; dsimp only
theorem cMe_1 {L : Nat → Nat} {n : Nat} {sh : Nat} {t : KS} : (cMe L n sh t).1 = nI 64 * ((cM3 L n sh t).1 >>> (nI sh &&& 31)) + nI (8 * (cM1 L n t).1) := by unfold cMe; dsimp only
theorem rv_mem1 {L : Nat → Nat} {n : Nat} {u : PS} {t : KS} (h : OKs L n u t) : RV L n ((pRg L n (pWt L n 91 u)).1 = (cM1 L n t).1) (pWt L n 35 (pWt L n 44 (pRg L n (pWt L n 91 u)).2)) (cM2 L n t) := by
  rcases rv_want h S91 with ⟨h1, _⟩ | h1
  · exact rv_want' (rv_want' (rv_reg h1) S44) S35
  · refine Or.inr ?_
    have n1 : (pRg L n (pWt L n 91 u)).2.2 = (pWt L n 91 u).2 := pRg_b h1.1
    have n2 : (pRg L n (pWt L n 91 u)).2.2.1 ≠ 0 := by rw [n1]; exact h1.1
    have c1 : (cM1 L n t).2.2.2 = (cExp L n 91 t).2.2 := cReg_b h1.t
    have c2 : (cM1 L n t).2.2.2.1 ≠ 0 := by rw [c1]; exact h1.t
    refine h1.st (by rw [pWt_b n2, pWt_b n2]; exact n1) ?_
    unfold cM2
    rw [cExp_b (by rw [cExp_b c2]; exact c2), cExp_b c2]; exact c1
theorem rv_mem2 {L : Nat → Nat} {n : Nat} {stp sh : Nat} {u : PS} {t : KS} (hs : (stp = 1 ∧ sh = 0) ∨ (stp = 4 ∧ sh = 2)) (h : OKs L n u t) : RV L n (((pNu L n (nI 0) (nI (31 * stp)) (nI stp) (pWt L n 35 (pWt L n 44 (pRg L n (pWt L n 91 u)).2))).1 = (cM3 L n sh t).1 ∧ ∃ x, x ≤ 31 * stp ∧ (cM3 L n sh t).1 = nI x) ∧ (pRg L n (pWt L n 91 u)).1 = (cM1 L n t).1) (pNu L n (nI 0) (nI (31 * stp)) (nI stp) (pWt L n 35 (pWt L n 44 (pRg L n (pWt L n 91 u)).2))).2 (if (cM3 L n sh t).1 >>> (nI sh &&& 31) <<< (nI sh &&& 31) = (cM3 L n sh t).1 then (cM3 L n sh t).2 else cFail (cM3 L n sh t).2 (-4) (nI (cM2 L n t).1)) := by
  have h1 := rv_mem1 h
  generalize pWt L n 35 (pWt L n 44 (pRg L n (pWt L n 91 u)).2) = X at h1 ⊢
  unfold cM3
  rcases h1 with ⟨h1, e1⟩ | h1
  · rcases rv_n4 hs h1 with ⟨h3, e3⟩ | h3
    · exact Or.inl ⟨h3, e3, e1⟩
    · exact Or.inr h3
  · refine Or.inr ?_
    have c1 : (cNu L n (nI 0) (nI 31 <<< (nI sh &&& 31)) (cM2 L n t)).2.2.2 = (cM2 L n t).2.2 := cNu_b h1.t
    rw [pNu_b h1.1]
    split
    · exact h1.st rfl c1
    · exact h1.st rfl ((cFail_b (by rw [c1]; exact h1.t)).trans c1)
theorem mem_div {stp sh x : Nat} (hs : (stp = 1 ∧ sh = 0) ∨ (stp = 4 ∧ sh = 2)) (hx : x < 2 ^ 31) : nI x / nI stp = nI x >>> (nI sh &&& 31) := by
  rcases hs with ⟨rfl, rfl⟩ | ⟨rfl, rfl⟩
  · rw [pk_div hx (by decide) (by decide), pk_shrN hx _ 0 (by decide)]
  · rw [pk_div hx (by decide) (by decide), pk_shrN hx _ 2 (by decide)]
theorem mem_sum (V W : Int32) (fr d : Nat) : nI fr + V + W + nI d = nI (fr + d) + (V + W) := by
  rw [← nI_mk (a := fr) (b := d), Int32.add_assoc, Int32.add_assoc, Int32.add_assoc, Int32.add_comm (nI d), Int32.add_assoc]
/-- a memory operand: what is read, up to the sum -/
theorem rv_memT {L : Nat → Nat} {n : Nat} {fr stp sh d : Nat} {r : SR} {u : PS} {t : KS} (hs : (stp = 1 ∧ sh = 0) ∨ (stp = 4 ∧ sh = 2)) (h : OKs L n u t) : RV L n ((fMemT L n fr stp d r u).1 = (nI 10, nI (fr + d) + (cMe L n sh t).1, r.2.2)) (fMemT L n fr stp d r u).2 (cMe L n sh t).2 := by
  have h3 := rv_want' (rv_mem2 hs h) S93
  rw [memT_2, cMe_2, memT_1, cMe_1]
  rcases h3 with ⟨h3, ⟨e1, x, hx, e2⟩, e3⟩ | h3
  · refine Or.inl ⟨h3, ?_⟩
    rw [e1, e2, e3, mem_div hs (by rcases hs with ⟨rfl, _⟩ | ⟨rfl, _⟩ <;> omega), mem_sum]
  · exact Or.inr h3
