/-! BOTH READINGS: the model's state s, the class's state t -/
def OKs (L : Nat → Nat) (n : Nat) (s : PS) (t : KS) : Prop := s.2.1 = 0 ∧ t.2.2.1 = 0 ∧ s.1 ≤ n ∧ t.1 = skp L n s.1 ∧ t.2.1 = tEnd L n (skp L n s.1)
def Bds (s : PS) (t : KS) : Prop := s.2.1 ≠ 0 ∧ t.2.2 = s.2
def RV (L : Nat → Nat) (n : Nat) (P : Prop) (s : PS) (t : KS) : Prop := (OKs L n s t ∧ P) ∨ Bds s t
abbrev ChO (L : Nat → Nat) (n : Nat) : Prop := ∀ i, i < n → 0 < L i ∧ L i < 256
abbrev sgn (c : Nat) : Prop := c ≠ 0 ∧ isWs c = false ∧ c ≠ 46
theorem OKs.sk {L : Nat → Nat} {n : Nat} {s : PS} {t : KS} (h : OKs L n s t) : OKs L n (skp L n s.1, s.2) t :=
  ⟨h.1, h.2.1, skp_le h.2.2.1, by show t.1 = skp L n (skp L n s.1); rw [skp_skp h.2.2.1]; exact h.2.2.2.1, by show t.2.1 = tEnd L n (skp L n (skp L n s.1)); rw [skp_skp h.2.2.1]; exact h.2.2.2.2⟩
theorem tw_word {L : Nat → Nat} {n a : Nat} (h : a < n) (hc : L a = 46 ∨ isWs (L a) = true) : tEnd L n a = wEnd L n a := by
  unfold tEnd wEnd
  rw [if_pos h]
  by_cases q : L a = 46
  · rw [if_pos q, if_pos ⟨h, q⟩]
  · rw [if_neg q, if_pos (hc.resolve_left q), if_neg (fun z : a < n ∧ L a = 46 => q z.2), run_yes h (hc.resolve_left q)]
theorem tw_sign {L : Nat → Nat} {n a : Nat} (h : a < n) (h1 : L a ≠ 46) (h2 : isWs (L a) = false) : tEnd L n a = a + 1 ∧ wEnd L n a = a := by
  unfold tEnd wEnd
  rw [if_pos h, if_neg h1, if_neg (by rw [h2]; decide), if_neg (fun z => h1 z.2), run_no h h2]
  exact ⟨rfl, rfl⟩
theorem tw_end {L : Nat → Nat} {n a : Nat} (h : n ≤ a) : tEnd L n a = a ∧ wEnd L n a = a := by
  unfold tEnd wEnd
  rw [if_neg (by omega), if_neg (fun z => by omega), run_end h]
  exact ⟨rfl, rfl⟩
/-- a word's end, or a sign, or the line's end -/
theorem tw_cases (L : Nat → Nat) (n a : Nat) : (a < n ∧ (L a = 46 ∨ isWs (L a) = true) ∧ tEnd L n a = wEnd L n a) ∨ (a < n ∧ L a ≠ 46 ∧ isWs (L a) = false ∧ tEnd L n a = a + 1 ∧ wEnd L n a = a) ∨ (n ≤ a ∧ tEnd L n a = a ∧ wEnd L n a = a) := by
  by_cases h : a < n
  · by_cases q : L a = 46 ∨ isWs (L a) = true
    · exact Or.inl ⟨h, q, tw_word h q⟩
    · have q1 : L a ≠ 46 := fun z => q (Or.inl z)
      have q2 : isWs (L a) = false := Bool.eq_false_iff.mpr (fun z => q (Or.inr z))
      exact Or.inr (Or.inl ⟨h, q1, q2, tw_sign h q1 q2⟩)
  · exact Or.inr (Or.inr ⟨by omega, tw_end (by omega)⟩)
theorem OKs.see {L : Nat → Nat} {n c : Nat} {s : PS} {t : KS} (h : OKs L n s t) (hc : c ≠ 0) : cSee L n c t = true ↔ chA L n (skp L n s.1) = c := by
  unfold cSee chA
  rw [h.2.2.2.1, decide_eq_true_eq]
  by_cases q : skp L n s.1 < n
  · rw [if_pos q]; exact ⟨fun z => z.2, fun z => ⟨q, z⟩⟩
  · rw [if_neg q]; exact ⟨fun z => absurd z.1 q, fun z => absurd z.symm hc⟩
theorem OKs.sign {L : Nat → Nat} {n c : Nat} {s : PS} {t : KS} (h : OKs L n s t) (hc : sgn c) (hs : chA L n (skp L n s.1) = c) : OKs L n (skp L n s.1 + 1, s.2) (cStep L n t) := by
  have hlt : skp L n s.1 < n := chA_pos hs (by have := hc.1; omega)
  have hch : L (skp L n s.1) = c := by unfold chA at hs; rwa [if_pos hlt] at hs
  have he := (tw_sign (L := L) hlt (by rw [hch]; exact hc.2.2) (by rw [hch]; exact hc.2.1)).1
  have e2 : t.2.1 = skp L n s.1 + 1 := h.2.2.2.2.trans he
  refine ⟨h.1, h.2.1, by show skp L n s.1 + 1 ≤ n; omega, ?_, ?_⟩
  · show skp L n t.2.1 = _; rw [e2]
  · show tEnd L n (skp L n t.2.1) = _; rw [e2]
theorem OKs.word {L : Nat → Nat} {n : Nat} {s : PS} {t : KS} (h : OKs L n s t) (he : tEnd L n (skp L n s.1) = wEnd L n (skp L n s.1)) : OKs L n (wEnd L n (skp L n s.1), s.2) (cStep L n t) := by
  have e2 : t.2.1 = wEnd L n (skp L n s.1) := h.2.2.2.2.trans he
  refine ⟨h.1, h.2.1, wEnd_le (skp_le h.2.2.1), ?_, ?_⟩
  · show skp L n t.2.1 = _; rw [e2]
  · show tEnd L n (skp L n t.2.1) = _; rw [e2]
theorem OKs.fail {L : Nat → Nat} {n : Nat} {s : PS} {t : KS} (h : OKs L n s t) (a : Nat) (k : Int32) (hk : k ≠ 0) (p : Nat) : Bds (pWrong (a, s.2) k p) (cFail t k (nI p)) := by
  unfold pWrong cFail
  rw [if_pos h.1, if_pos h.2.1, if_pos h.2.1]
  exact ⟨hk, rfl⟩
/-! a fault stays -/
theorem pWrong_b {s : PS} {k : Int32} {p : Nat} (h : s.2.1 ≠ 0) : pWrong s k p = s := if_neg h
theorem pTk_b {L : Nat → Nat} {n c : Nat} {s : PS} (h : s.2.1 ≠ 0) : pTk L n c s = (false, s) := if_neg h
theorem pWt_b {L : Nat → Nat} {n c : Nat} {s : PS} (h : s.2.1 ≠ 0) : pWt L n c s = s := by
  unfold pWt; rw [pTk_b h, if_neg (fun z => by cases z)]; exact pWrong_b h
theorem pRg_b {L : Nat → Nat} {n : Nat} {s : PS} (h : s.2.1 ≠ 0) : (pRg L n s).2.2 = s.2 := by
  unfold pRg; rw [if_neg (fun z => h z.1)]; show (pWrong (skp L n s.1, s.2) (-3) _).2 = s.2; rw [pWrong_b (s := (skp L n s.1, s.2)) h]
theorem pDg_b {L : Nat → Nat} {n : Nat} {s : PS} (h : s.2.1 ≠ 0) : (pDg L n s).2.2 = s.2 := by
  unfold pDg; rw [if_neg (fun z => h z.1)]; show (pWrong (skp L n s.1, s.2) (-3) _).2 = s.2; rw [pWrong_b (s := (skp L n s.1, s.2)) h]
theorem pNu_b {L : Nat → Nat} {n : Nat} {lo hi st : Int32} {s : PS} (h : s.2.1 ≠ 0) : (pNu L n lo hi st s).2 = s := by
  unfold pNu; rw [if_neg h]
theorem pIm_b {L : Nat → Nat} {n : Nat} {lo hi st : Int32} {s : PS} (h : s.2.1 ≠ 0) : (pIm L n lo hi st s).2 = s := by
  unfold pIm; rw [pWt_b h]; exact pNu_b h
theorem fNa_b {o : Nat} {L : Nat → Nat} {n : Nat} {r : SR} {s : PS} (h : s.2.1 ≠ 0) : (fNa o L n r s).2.2 = s.2 := by
  unfold fNa; rw [if_neg (fun z => h z.1)]; show (pWrong (skp L n s.1, s.2) (-3) _).2 = s.2; rw [pWrong_b (s := (skp L n s.1, s.2)) h]
theorem cFail_b {t : KS} {k p : Int32} (h : t.2.2.1 ≠ 0) : (cFail t k p).2.2 = t.2.2 := by
  unfold cFail; rw [if_neg h, if_neg h]
theorem cStep_b {L : Nat → Nat} {n : Nat} {t : KS} : (cStep L n t).2.2 = t.2.2 := rfl
theorem cAcc_b {L : Nat → Nat} {n c : Nat} {t : KS} : (cAcc L n c t).2.2 = t.2.2 := by unfold cAcc; split <;> rfl
theorem cExp_b {L : Nat → Nat} {n c : Nat} {t : KS} (h : t.2.2.1 ≠ 0) : (cExp L n c t).2.2 = t.2.2 := by
  unfold cExp; split
  · rfl
  · exact cFail_b h
theorem cReg_b {L : Nat → Nat} {n : Nat} {t : KS} (h : t.2.2.1 ≠ 0) : (cReg L n t).2.2.2 = t.2.2 := by
  unfold cReg; cases cRg L t.1 t.2.1 with
  | none => exact cFail_b h
  | some k => rfl
theorem cDg_b {L : Nat → Nat} {n : Nat} {t : KS} (h : t.2.2.1 ≠ 0) : (cDg L n t).2.2.2 = t.2.2 := by
  unfold cDg; split
  · rfl
  · exact cFail_b h
theorem cName_b {L : Nat → Nat} {n : Nat} {t : KS} (h : t.2.2.1 ≠ 0) : (cName L n t).2.2.2 = t.2.2 := by
  unfold cName; dsimp only; split
  · exact cFail_b h
  · rfl
theorem cNu_b {L : Nat → Nat} {n : Nat} {lo hi : Int32} {t : KS} (h : t.2.2.1 ≠ 0) : (cNu L n lo hi t).2.2.2 = t.2.2 := by
  have h1 : (cDg L n (cStep L n t)).2.2.2 = t.2.2 := (cDg_b (t := cStep L n t) h).trans rfl
  have h2 : (cDg L n t).2.2.2 = t.2.2 := cDg_b h
  unfold cNu; dsimp only; split
  · split
    · rw [cFail_b (by rw [h1]; exact h)]; exact h1
    · exact h1
  · split
    · rw [cFail_b (by rw [h2]; exact h)]; exact h2
    · exact h2
theorem cFR_b {L : Nat → Nat} {n : Nat} {t : KS} (h : t.2.2.1 ≠ 0) : (cFR L n t).2.2.2 = t.2.2 := by
  show (cExp L n 44 (cReg L n t).2).2.2 = t.2.2
  rw [cExp_b (by rw [cReg_b h]; exact h), cReg_b h]
theorem cS3_b {L : Nat → Nat} {n : Nat} {t : KS} (h : (cFR L n t).2.2.2.1 ≠ 0) : (cS3 L n t).2.2 = (cFR L n t).2.2.2 := by
  unfold cS3
  rw [cExp_b (by rw [cReg_b h]; exact h), cReg_b h]
theorem Bds.st {s s' : PS} {t t' : KS} (h : Bds s t) (h1 : s'.2 = s.2) (h2 : t'.2.2 = t.2.2) : Bds s' t' := ⟨by rw [h1]; exact h.1, by rw [h1, h2]; exact h.2⟩
theorem Bds.t {s : PS} {t : KS} (h : Bds s t) : t.2.2.1 ≠ 0 := by rw [h.2]; exact h.1
/-! the steps -/
theorem rv_want {L : Nat → Nat} {n c : Nat} {s : PS} {t : KS} (h : OKs L n s t) (hc : sgn c) : RV L n True (pWt L n c s) (cExp L n c t) := by
  unfold pWt cExp
  have hk : pTk L n c s = if chA L n (skp L n s.1) = c then (true, skp L n s.1 + 1, s.2) else (false, skp L n s.1, s.2) := by unfold pTk; rw [if_pos h.1]
  by_cases q : chA L n (skp L n s.1) = c
  · rw [if_pos q] at hk
    rw [hk, if_pos rfl, if_pos ((h.see hc.1).mpr q)]
    exact Or.inl ⟨h.sign hc q, trivial⟩
  · rw [if_neg q] at hk
    rw [hk, if_neg (fun z => by cases z), if_neg (fun z => q ((h.see hc.1).mp z))]
    refine Or.inr ?_
    have h9 := h.fail (skp L n s.1) (-3) (by decide) (skp L n s.1)
    rw [← h.2.2.2.1] at h9
    show Bds (pWrong (skp L n s.1, s.2) (-3) (skp L n s.1)) (cFail t (-3) (nI t.1))
    rw [← h.2.2.2.1]; exact h9
theorem rv_want' {L : Nat → Nat} {n c : Nat} {P : Prop} {s : PS} {t : KS} (h : RV L n P s t) (hc : sgn c) : RV L n P (pWt L n c s) (cExp L n c t) := by
  rcases h with ⟨h, hp⟩ | h
  · rcases rv_want h hc with ⟨q, _⟩ | q
    · exact Or.inl ⟨q, hp⟩
    · exact Or.inr q
  · exact Or.inr (h.st (by rw [pWt_b h.1]) (cExp_b h.t))
theorem rg_same {L : Nat → Nat} {n a : Nat} : isRg L a (tEnd L n a) = isRg L a (wEnd L n a) := by
  rcases tw_cases L n a with ⟨_, _, q⟩ | ⟨h1, h2, h3, q, q'⟩ | ⟨_, q, q'⟩
  · rw [q]
  · rw [q, q']; unfold isRg; rw [decide_eq_false (p := a + 1 - a = 2) (by omega), decide_eq_false (p := a - a = 2) (by omega)]
  · rw [q, q']
theorem rg_word {L : Nat → Nat} {n a : Nat} (h : isRg L a (wEnd L n a) = true) : tEnd L n a = wEnd L n a := by
  rcases tw_cases L n a with ⟨_, _, q⟩ | ⟨h1, h2, h3, q, q'⟩ | ⟨_, q, q'⟩
  · exact q
  · rw [q'] at h; unfold isRg at h; rw [decide_eq_false (p := a - a = 2) (by omega)] at h; cases h
  · rw [q, q']
theorem rv_reg {L : Nat → Nat} {n : Nat} {s : PS} {t : KS} (h : OKs L n s t) : RV L n ((pRg L n s).1 = (cReg L n t).1) (pRg L n s).2 (cReg L n t).2 := by
  have hr : cRg L t.1 t.2.1 = if isRg L (skp L n s.1) (wEnd L n (skp L n s.1)) = true then some (L (skp L n s.1 + 1) - 48) else none := by
    unfold cRg; rw [h.2.2.2.2, h.2.2.2.1, rg_same]
  unfold pRg cReg
  rw [hr]
  by_cases q : isRg L (skp L n s.1) (wEnd L n (skp L n s.1)) = true
  · rw [if_pos ⟨h.1, q⟩, if_pos q]
    exact Or.inl ⟨h.word (rg_word q), rfl⟩
  · rw [if_neg (fun z => q z.2), if_neg q]
    refine Or.inr ?_
    show Bds (pWrong (skp L n s.1, s.2) (-3) (skp L n s.1)) (cFail t (-3) (nI t.1))
    rw [h.2.2.2.1]; exact h.fail _ _ (by decide) _
theorem dg_same {L : Nat → Nat} {n a : Nat} : isDg L a (tEnd L n a) = isDg L a (wEnd L n a) ∧ (isDg L a (wEnd L n a) = true → tEnd L n a = wEnd L n a) := by
  rcases tw_cases L n a with ⟨_, _, q⟩ | ⟨h1, h2, h3, q, q'⟩ | ⟨_, q, q'⟩
  · rw [q]; exact ⟨rfl, fun _ => rfl⟩
  · rw [q, q']
    have e1 : isDg L a a = false := by unfold isDg; rw [decide_eq_false (p := a < a) (by omega)]; rfl
    have e2 : isDg L a (a + 1) = false := by
      have hd : isDig (L a) = false := by
        unfold isWs at h3
        exact (Bool.or_eq_false_iff.mp h3).2
      unfold isDg
      rw [run_no (by omega) hd, decide_eq_false (p := a = a + 1) (by omega), Bool.and_false]
    rw [e1, e2]; exact ⟨rfl, fun z => by cases z⟩
  · rw [q, q']; exact ⟨rfl, fun _ => rfl⟩
theorem rv_dig {L : Nat → Nat} {n : Nat} {s : PS} {t : KS} (h : OKs L n s t) : RV L n ((pDg L n s).1 = (cDg L n t).1) (pDg L n s).2 (cDg L n t).2 := by
  have hr : isDg L t.1 t.2.1 = isDg L (skp L n s.1) (wEnd L n (skp L n s.1)) := by rw [h.2.2.2.2, h.2.2.2.1]; exact dg_same.1
  unfold pDg cDg
  rw [hr]
  by_cases q : isDg L (skp L n s.1) (wEnd L n (skp L n s.1)) = true
  · have he := dg_same.2 q
    rw [if_pos ⟨h.1, q⟩, if_pos q]
    exact Or.inl ⟨h.word he, by dsimp only; rw [h.2.2.2.2, h.2.2.2.1, he]⟩
  · rw [if_neg (fun z => q z.2), if_neg q]
    refine Or.inr ?_
    show Bds (pWrong (skp L n s.1, s.2) (-3) (skp L n s.1)) (cFail t (-3) (nI t.1))
    rw [h.2.2.2.1]; exact h.fail _ _ (by decide) _
theorem rem1 (x : Int32) : x - x / nI 1 * nI 1 = 0 := by
  rw [show nI 1 = (1 : Int32) by decide, Int32.mul_one, Int32.div_one, Int32.sub_self]
theorem rv_num {L : Nat → Nat} {n : Nat} {lo hi : Int32} {s : PS} {t : KS} (h : OKs L n s t) : RV L n ((pNu L n lo hi (nI 1) s).1 = (cNu L n lo hi t).1) (pNu L n lo hi (nI 1) s).2 (cNu L n lo hi t).2 := by
  unfold pNu cNu
  rw [if_pos h.1]
  dsimp only
  by_cases q : chA L n (skp L n s.1) = 45
  · rw [if_pos q, if_pos q, if_pos ((h.see (by decide)).mpr q), if_pos ((h.see (by decide)).mpr q)]
    have h1 := h.sign (c := 45) ⟨by decide, by decide, by decide⟩ q
    rcases rv_dig h1 with ⟨h2, hv⟩ | h2
    · rw [hv]
      by_cases z : -(nI (cDg L n (cStep L n t)).1) < lo ∨ hi < -(nI (cDg L n (cStep L n t)).1)
      · rw [if_pos ⟨h2.1, z.elim Or.inl (fun y => Or.inr (Or.inl y))⟩, if_pos z]
        refine Or.inr ?_
        have h9 := h2.fail (pDg L n (skp L n s.1 + 1, s.2)).2.1 (-4) (by decide) (skp L n s.1)
        rw [h.2.2.2.1]; exact h9
      · rw [if_neg (fun y => z (y.2.elim Or.inl (fun y => y.elim Or.inr (fun y => absurd (rem1 _) y)))), if_neg z]
        exact Or.inl ⟨h2, rfl⟩
    · refine Or.inr ?_
      rw [if_neg (fun y => h2.1 y.1)]
      split
      · exact h2.st rfl (cFail_b h2.t)
      · exact h2
  · rw [if_neg q, if_neg q, if_neg (fun z => q ((h.see (by decide)).mp z)), if_neg (fun z => q ((h.see (by decide)).mp z))]
    rcases rv_dig h.sk with ⟨h2, hv⟩ | h2
    · rw [hv]
      by_cases z : nI (cDg L n t).1 < lo ∨ hi < nI (cDg L n t).1
      · rw [if_pos ⟨h2.1, z.elim Or.inl (fun y => Or.inr (Or.inl y))⟩, if_pos z]
        refine Or.inr ?_
        have h9 := h2.fail (pDg L n (skp L n s.1, s.2)).2.1 (-4) (by decide) (skp L n s.1)
        rw [h.2.2.2.1]; exact h9
      · rw [if_neg (fun y => z (y.2.elim Or.inl (fun y => y.elim Or.inr (fun y => absurd (rem1 _) y)))), if_neg z]
        exact Or.inl ⟨h2, rfl⟩
    · refine Or.inr ?_
      rw [if_neg (fun y => h2.1 y.1)]
      split
      · exact h2.st rfl (cFail_b h2.t)
      · exact h2
theorem nm_same {L : Nat → Nat} {n a : Nat} : isNm L a (tEnd L n a) = isNm L a (wEnd L n a) ∧ (isNm L a (wEnd L n a) = true → tEnd L n a = wEnd L n a) := by
  rcases tw_cases L n a with ⟨_, _, q⟩ | ⟨h1, h2, h3, q, q'⟩ | ⟨_, q, q'⟩
  · rw [q]; exact ⟨rfl, fun _ => rfl⟩
  · rw [q, q']
    have e1 : isNm L a a = false := by unfold isNm; rw [decide_eq_false (p := 1 ≤ a - a) (by omega)]; rfl
    have e2 : isNm L a (a + 1) = false := by
      have hd : isLow (L a) = false := by
        unfold isWs at h3
        exact (Bool.or_eq_false_iff.mp h3).1
      unfold isNm; rw [hd, Bool.and_false, Bool.false_and]
    rw [e1, e2]; exact ⟨rfl, fun z => by cases z⟩
  · rw [q, q']; exact ⟨rfl, fun _ => rfl⟩
/-- a name: where it lies, and what it says -/
def NmP (o : Nat) (L : Nat → Nat) (n : Nat) (r : SR) (v p : Nat) : Prop := ∃ a e : Nat, r.2.2.2.1 = nI (o + a) ∧ r.2.2.2.2 = nI (o + e) ∧ a ≤ e ∧ e ≤ n ∧ isNm L a e = true ∧ v = pkN L a (e - a) ∧ p = a
theorem rv_name {o : Nat} {L : Nat → Nat} {n : Nat} {r : SR} {s : PS} {t : KS} (h : OKs L n s t) : RV L n (NmP o L n (fNa o L n r s).1 (cName L n t).1 t.1 ∧ (fNa o L n r s).1.1 = r.1 ∧ (fNa o L n r s).1.2.1 = r.2.1 ∧ (fNa o L n r s).1.2.2.1 = r.2.2.1) (fNa o L n r s).2 (cName L n t).2 := by
  have hr : isNm L t.1 t.2.1 = isNm L (skp L n s.1) (wEnd L n (skp L n s.1)) := by rw [h.2.2.2.2, h.2.2.2.1]; exact nm_same.1
  unfold fNa cName cNm nmV
  dsimp only
  rw [hr]
  by_cases q : isNm L (skp L n s.1) (wEnd L n (skp L n s.1)) = true
  · have he := nm_same.2 q
    rw [if_pos ⟨h.1, q⟩, if_pos q, if_neg (by rw [h.2.2.2.2, h.2.2.2.1, he]; exact nm_ne0 q)]
    exact Or.inl ⟨h.word he, ⟨skp L n s.1, wEnd L n (skp L n s.1), rfl, rfl, wEnd_ge (skp_le h.2.2.1), wEnd_le (skp_le h.2.2.1), q, by rw [h.2.2.2.2, h.2.2.2.1, he], h.2.2.2.1⟩, rfl, rfl, rfl⟩
  · rw [if_neg (fun z => q z.2), if_neg q, if_pos rfl]
    refine Or.inr ?_
    rw [h.2.2.2.1]; exact h.fail _ _ (by decide) _
theorem OKs.fin {L : Nat → Nat} {n : Nat} {s : PS} {t : KS} (hL : ChO L n) (h : OKs L n s t) : chA L n (skp L n s.1) = 0 ↔ n ≤ t.1 := by
  unfold chA
  rw [h.2.2.2.1]
  by_cases q : skp L n s.1 < n
  · rw [if_pos q]; have := hL _ q; omega
  · rw [if_neg q]; omega
theorem rv_fin {L : Nat → Nat} {n : Nat} {P : Prop} {q : SR × PS} {A : CR} {t : KS} (hL : ChO L n) (h : RV L n P q.2 t) : RV L n P (rdFin L n q).2 (cB2 n (A, t)).2 ∧ (rdFin L n q).1 = q.1 ∧ (cB2 n (A, t)).1 = A := by
  have e1 : (rdFin L n q).1 = q.1 := by unfold rdFin; split; split <;> rfl; rfl
  have e2 : (cB2 n (A, t)).1 = A := by unfold cB2; split <;> rfl
  refine ⟨?_, e1, e2⟩
  unfold rdFin cB2
  rcases h with ⟨h, hp⟩ | h
  · rw [if_pos h.1]
    by_cases z : chA L n (skp L n q.2.1) = 0
    · rw [if_pos z, if_pos (show n ≤ (A, t).2.1 from (h.fin hL).mp z)]
      exact Or.inl ⟨h.sk, hp⟩
    · rw [if_neg z, if_neg (show ¬ n ≤ (A, t).2.1 from fun y => z ((h.fin hL).mpr y))]
      refine Or.inr ?_
      show Bds (pWrong (skp L n q.2.1, q.2.2) (-3) (skp L n q.2.1)) (cFail t (-3) (nI t.1))
      rw [h.2.2.2.1]; exact h.fail _ _ (by decide) _
  · rw [if_neg h.1]
    refine Or.inr ?_
    split
    · exact h
    · exact h.st rfl (cFail_b h.t)
