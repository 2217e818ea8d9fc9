theorem RV.imp {L : Nat → Nat} {n : Nat} {P Q : Prop} {s : PS} {t : KS} (h : RV L n P s t) (f : P → Q) : RV L n Q s t := h.elim (fun q => Or.inl ⟨q.1, f q.2⟩) Or.inr
/-- the record A says the model's statement r -/
def StP (o : Nat) (L : Nat → Nat) (n : Nat) (A : CR) (r : SR) : Prop := ∃ st : Nat, st < 15 ∧ 1 ≤ st ∧ r.1 = nI st ∧ StK A st r.2.1 r.2.2.1 ∧ ((st = 4 ∨ st = 6 ∨ 11 ≤ st) → NmP o L n r (rNm A) (rNP A))
def BsA (A : CR) : Prop := rNm A = 0 ∧ rRe A = 0 ∧ rBy A = nI 0 ∧ rNo A = nI 0
theorem sP_sec {L : Nat → Nat} {n : Nat} {o c : Nat} {A : CR} {r : SR} {s : PS} {t : KS} (hA : BsA A) (hc : c < 3) (h : OKs L n s t) : RV L n (StP o L n (cDir L n 0 c A t).1 (nI (1 + c), r.2)) s (cDir L n 0 c A t).2 := by
  refine Or.inl ⟨h, 1 + c, by omega, by omega, rfl, Or.inr (Or.inl (⟨by omega, by omega, rfl, by show nI c = nI (1 + c - 1); congr 1; omega, hA.2.2.1⟩)), fun q => absurd q (by omega)⟩
theorem sP_glo {L : Nat → Nat} {n : Nat} {o c : Nat} {A : CR} {r : SR} {s : PS} {t : KS} (hA : BsA A) (h : OKs L n s t) : RV L n (StP o L n (cDir L n 1 c A t).1 (fNa o L n (nI 4, r.2) s).1) (fNa o L n (nI 4, r.2) s).2 (cDir L n 1 c A t).2 := by
  refine (rv_name (o := o) (r := (nI 4, r.2)) h).imp (fun q => ⟨4, by decide, by decide, q.2.1, Or.inr (Or.inr (Or.inl (⟨rfl, rfl, hA.2.2.1⟩))), fun _ => q.1⟩)
theorem sP_fil {L : Nat → Nat} {n : Nat} {o c : Nat} {A : CR} {r : SR} {s : PS} {t : KS} (hA : BsA A) (h : OKs L n s t) : RV L n (StP o L n (cDir L n 5 c A t).1 (nI 9, r.2)) s (cDir L n 5 c A t).2 := by
  refine Or.inl ⟨h, 9, by decide, by decide, rfl, Or.inr (Or.inr (Or.inr (Or.inr (Or.inr (Or.inr (Or.inr (Or.inl (⟨rfl, rfl, hA.2.2.1⟩)))))))), fun q => absurd q (by decide)⟩
theorem sP_byt {L : Nat → Nat} {n : Nat} {o c : Nat} {A : CR} {r : SR} {s : PS} {t : KS} (h : OKs L n s t) : RV L n (StP o L n (cDir L n 3 c A t).1 (nI 7, r.2.1, (pNu L n (-128) (nI 255) (nI 1) s).1, r.2.2.2)) (pNu L n (-128) (nI 255) (nI 1) s).2 (cDir L n 3 c A t).2 := by
  refine (rv_num (lo := -128) (hi := nI 255) h).imp (fun q => ⟨7, by decide, by decide, rfl, Or.inr (Or.inr (Or.inr (Or.inr (Or.inr (Or.inl (⟨rfl, rfl, q, rfl⟩)))))), fun q => absurd q (by decide)⟩)
theorem cNu_in {L : Nat → Nat} {n : Nat} {lo hi : Int32} {t : KS} (h : (cNu L n lo hi t).2.2.2.1 = 0) : ¬ (cNu L n lo hi t).1 < lo ∧ ¬ hi < (cNu L n lo hi t).1 := by
  have key : ∀ (v : Int32) (k : KS), (if v < lo ∨ hi < v then cFail k (-4) (nI t.1) else k).2.2.1 = 0 → ¬ v < lo ∧ ¬ hi < v := by
    intro v k hz
    by_cases z : v < lo ∨ hi < v
    · rw [if_pos z] at hz
      unfold cFail at hz
      dsimp only at hz
      split at hz
      · exact absurd hz (by decide)
      · rename_i q; exact absurd hz q
    · exact ⟨fun y => z (Or.inl y), fun y => z (Or.inr y)⟩
  unfold cNu at h ⊢
  dsimp only at h ⊢
  by_cases q : cSee L n 45 t = true
  · rw [if_pos q] at h ⊢; exact key _ _ h
  · rw [if_neg q] at h ⊢; exact key _ _ h
theorem sP_spc {L : Nat → Nat} {n : Nat} {o c : Nat} {A : CR} {r : SR} {s : PS} {t : KS} (h : OKs L n s t) : RV L n (StP o L n (cDir L n 4 c A t).1 (nI 8, r.2.1, (pNu L n (nI 0) (nI 512) (nI 1) s).1, r.2.2.2)) (pNu L n (nI 0) (nI 512) (nI 1) s).2 (cDir L n 4 c A t).2 := by
  rcases rv_num (lo := nI 0) (hi := nI 512) h with ⟨h1, e1⟩ | h1
  · obtain ⟨z1, z2⟩ := cNu_in h1.2.1
    obtain ⟨x, hx, e2⟩ := nI_of (x := (cNu L n (nI 0) (nI 512) t).1) z1
    have hx5 : x ≤ 512 := by
      rcases Nat.lt_or_ge 512 x with q | q
      · rw [e2] at z2; exact absurd ((nI_ltI (by decide) hx).mpr q) z2
      · exact q
    exact Or.inl ⟨h1, 8, by decide, by decide, rfl, Or.inr (Or.inr (Or.inr (Or.inr (Or.inr (Or.inr (Or.inl (⟨rfl, rfl, x, hx5, e1.trans e2, e2⟩))))))), fun q => absurd q (by decide)⟩
  · exact Or.inr h1
/-- a plain instruction -/
theorem sP_pl {L : Nat → Nat} {n : Nat} {o : Nat} {A : CR} {r r' : SR} {V : Int32} {s : PS} {t : KS} (hA : BsA A) (h : RV L n (r' = (nI 10, V, r.2.2)) s t) : RV L n (StP o L n (uNo (cI7 A) V) r') s t := by
  refine h.imp (fun e => ?_)
  rw [e]
  exact ⟨10, by decide, by decide, rfl, Or.inr (Or.inr (Or.inr (Or.inr (Or.inr (Or.inr (Or.inr (Or.inr (Or.inl (⟨rfl, rfl, hA.2.1, rfl, rfl⟩))))))))), fun q => absurd q (by decide)⟩
theorem sP_go1 {L : Nat → Nat} {n : Nat} {o c : Nat} {A : CR} {r : SR} {s : PS} {t : KS} (h : OKs L n s t) : RV L n (StP o L n (cRef L n (uBy (uRe (uNo (cI7 A) (nI c)) 1) (nI 2)) t).1 (fJmp o L n (nI 11) (nI c) r s).1) (fJmp o L n (nI 11) (nI c) r s).2 (cRef L n (uBy (uRe (uNo (cI7 A) (nI c)) 1) (nI 2)) t).2 := by
  refine (rv_name (o := o) (r := r) h).imp (fun q => ⟨11, by decide, by decide, rfl, Or.inr (Or.inr (Or.inr (Or.inr (Or.inr (Or.inr (Or.inr (Or.inr (Or.inr (Or.inl (⟨rfl, rfl, rfl, rfl, rfl⟩)))))))))), fun _ => q.1⟩)
theorem sP_go2 {L : Nat → Nat} {n : Nat} {o c : Nat} {A : CR} {r : SR} {s : PS} {t : KS} (h : OKs L n s t) : RV L n (StP o L n (cRef L n (uBy (uRe (uNo (cI7 A) (nI c)) 2) (nI 2)) t).1 (fJmp o L n (nI 12) (nI c) r s).1) (fJmp o L n (nI 12) (nI c) r s).2 (cRef L n (uBy (uRe (uNo (cI7 A) (nI c)) 2) (nI 2)) t).2 := by
  refine (rv_name (o := o) (r := r) h).imp (fun q => ⟨12, by decide, by decide, rfl, Or.inr (Or.inr (Or.inr (Or.inr (Or.inr (Or.inr (Or.inr (Or.inr (Or.inr (Or.inr (Or.inl (⟨rfl, rfl, rfl, rfl, rfl⟩))))))))))), fun _ => q.1⟩)
theorem sP_go3 {L : Nat → Nat} {n : Nat} {o : Nat} {A : CR} {r : SR} {s : PS} {t : KS} (h : OKs L n s t) : RV L n (StP o L n (cRef L n (uBy (uRe (uNo (cI7 A) (nI 61440)) 3) (nI 4)) t).1 (fJmp o L n (nI 13) (nI 0) r s).1) (fJmp o L n (nI 13) (nI 0) r s).2 (cRef L n (uBy (uRe (uNo (cI7 A) (nI 61440)) 3) (nI 4)) t).2 := by
  refine (rv_name (o := o) (r := r) h).imp (fun q => ⟨13, by decide, by decide, rfl, Or.inr (Or.inr (Or.inr (Or.inr (Or.inr (Or.inr (Or.inr (Or.inr (Or.inr (Or.inr (Or.inr (Or.inl (⟨rfl, rfl, rfl, rfl, rfl⟩)))))))))))), fun _ => q.1⟩)
theorem cRef_b {L : Nat → Nat} {n : Nat} {A : CR} {t : KS} (h : t.2.2.1 ≠ 0) : (cRef L n A t).2.2.2 = t.2.2 := cName_b h
/-- a load: from memory, or of a name -/
theorem sP_ld {L : Nat → Nat} {n : Nat} {o : Nat} {A : CR} {r : SR} {s : PS} {t : KS} (hA : BsA A) (h : OKs L n s t) : RV L n (StP o L n (cLd L n 26624 18432 (cI7 A) t).1 (fMem o L n 26624 4 true r s).1) (fMem o L n 26624 4 true r s).2 (cLd L n 26624 18432 (cI7 A) t).2 := by
  unfold fMem cLd
  rw [if_pos rfl]
  have h1 := rv_FR h
  generalize pWt L n 44 (pRg L n s).2 = F at h1 ⊢
  rcases h1 with ⟨h1, e1⟩ | h1
  · by_cases q : chA L n (skp L n F.1) = 91
    · rw [if_pos q, if_pos ((h1.see (by decide)).mpr q)]
      have h2 := rv_memT (fr := 26624) (stp := 4) (sh := 2) (d := (pRg L n s).1) (r := r) (Or.inr ⟨rfl, rfl⟩) h1.sk
      refine sP_pl (r := r) hA (h2.imp (fun e => ?_))
      rw [e, e1, ← nI_mk (a := 26624), Int32.add_comm (nI 26624), Int32.add_assoc]
    · rw [if_neg q, if_neg (fun z => q ((h1.see (by decide)).mp z))]
      refine (rv_name (o := o) (r := r) h1.sk).imp (fun z => ⟨14, by decide, by decide, rfl, Or.inr (Or.inr (Or.inr (Or.inr (Or.inr (Or.inr (Or.inr (Or.inr (Or.inr (Or.inr (Or.inr (Or.inr (⟨rfl, rfl, rfl, by show nI _ = nI _; rw [e1], rfl⟩)))))))))))), fun _ => z.1⟩)
  · refine Or.inr ?_
    have m1 : (fMemT L n 26624 4 (pRg L n s).1 r (skp L n F.1, F.2)).2.2 = F.2 := by
      rw [memT_2]
      have n0 : pWt L n 91 (skp L n F.1, F.2) = (skp L n F.1, F.2) := pWt_b h1.1
      rw [n0]
      have n1 : (pRg L n (skp L n F.1, F.2)).2.2 = F.2 := pRg_b (s := (skp L n F.1, F.2)) h1.1
      have n2 : (pRg L n (skp L n F.1, F.2)).2.2.1 ≠ 0 := by rw [n1]; exact h1.1
      rw [pWt_b n2, pWt_b n2, pNu_b n2, pWt_b n2]; exact n1
    have m2 : (fNa o L n r (skp L n F.1, F.2)).2.2 = F.2 := fNa_b (s := (skp L n F.1, F.2)) h1.1
    have c1 : (cMe L n 2 (cFR L n t).2).2.2.2 = (cFR L n t).2.2.2 := cMe_b h1.t
    have c2 : (cRef L n (uRe (uNo (cI7 A) (nI (18432 + 256 * (cFR L n t).1))) 4) (cFR L n t).2).2.2.2 = (cFR L n t).2.2.2 := cRef_b h1.t
    by_cases q : chA L n (skp L n F.1) = 91 <;> by_cases q2 : cSee L n 91 (cFR L n t).2 = true
    · rw [if_pos q, if_pos q2]; exact h1.st m1 c1
    · rw [if_pos q, if_neg q2]; exact h1.st m1 c2
    · rw [if_neg q, if_pos q2]; exact h1.st m2 c1
    · rw [if_neg q, if_neg q2]; exact h1.st m2 c2
theorem sP_mem {L : Nat → Nat} {n : Nat} {o fr stp sh : Nat} {A : CR} {r : SR} {s : PS} {t : KS} (hA : BsA A) (hs : (stp = 1 ∧ sh = 0) ∨ (stp = 4 ∧ sh = 2)) (h : OKs L n s t) : RV L n (StP o L n (uNo (cI7 A) (nI (fr + (cFR L n t).1) + (cMe L n sh (cFR L n t).2).1)) (fMem o L n fr stp false r s).1) (fMem o L n fr stp false r s).2 (cMe L n sh (cFR L n t).2).2 := by
  unfold fMem
  rw [if_neg (by decide)]
  have h1 := rv_FR h
  generalize pWt L n 44 (pRg L n s).2 = F at h1 ⊢
  rcases h1 with ⟨h1, e1⟩ | h1
  · refine sP_pl (r := r) hA ((rv_memT (fr := fr) (d := (pRg L n s).1) (r := r) hs h1).imp (fun e => ?_))
    rw [e, e1]
  · refine Or.inr (h1.st ?_ (cMe_b h1.t))
    rw [memT_2]
    have n0 : pWt L n 91 F = F := pWt_b h1.1
    rw [n0]
    have n1 : (pRg L n F).2.2 = F.2 := pRg_b h1.1
    have n2 : (pRg L n F).2.2.1 ≠ 0 := by rw [n1]; exact h1.1
    rw [pWt_b n2, pWt_b n2, pNu_b n2, pWt_b n2]; exact n1
theorem cV2_b {L : Nat → Nat} {n : Nat} {A : CR} {t : KS} (h : t.2.2.1 ≠ 0) : (cV2 L n A t).2.2.2 = t.2.2 := by
  unfold cV2
  have c1 : (cDg L n (cStep L n t)).2.2.2 = t.2.2 := (cDg_b (t := cStep L n t) h).trans rfl
  split
  · exact c1
  · split
    · exact c1
    · rfl
theorem low_dig {c : Nat} (h : isLow c = true) : isDig c = false ∧ c ≠ 45 := by
  unfold isLow at h
  simp only [Bool.and_eq_true, decide_eq_true_eq] at h
  refine ⟨?_, by omega⟩
  unfold isDig; rw [decide_eq_false (p := c ≤ 57) (by omega), Bool.and_false]
theorem sP_wrd {L : Nat → Nat} {n : Nat} {o c : Nat} {A : CR} {r : SR} {s : PS} {t : KS} (hA : BsA A) (h : OKs L n s t) : RV L n (StP o L n (cDir L n 2 c A t).1 (fWrd o L n r s).1) (fWrd o L n r s).2 (cDir L n 2 c A t).2 := by
  show RV L n (StP o L n (cVal L n (uBy (uK A 3) (nI 4)) t).1 (fWrd o L n r s).1) (fWrd o L n r s).2 (cVal L n (uBy (uK A 3) (nI 4)) t).2
  have hlet : (decide (t.1 < n) && isLow (L t.1)) = true ↔ isLow (chA L n (skp L n s.1)) = true := by
    rw [h.2.2.2.1]
    unfold chA
    by_cases q : skp L n s.1 < n
    · rw [if_pos q, decide_eq_true q, Bool.true_and]
    · rw [if_neg q, decide_eq_false q, Bool.false_and]; exact ⟨fun z => (by cases z), fun z => absurd z (by decide)⟩
  unfold fWrd cVal
  by_cases q : chA L n (skp L n s.1) = 45 ∨ isDig (chA L n (skp L n s.1)) = true
  · have hnl : ¬ (decide (t.1 < n) && isLow (L t.1)) = true := fun z => by
      have := low_dig (hlet.mp z)
      rcases q with q | q
      · exact this.2 q
      · rw [this.1] at q; cases q
    rw [if_pos q, if_neg hnl]
    refine (rv_num (lo := -9999) (hi := nI 9999) h.sk).imp (fun z => ⟨5, by decide, by decide, rfl, Or.inr (Or.inr (Or.inr (Or.inl (⟨rfl, rfl, hA.1, z, rfl⟩)))), fun q => absurd q (by decide)⟩)
  · rw [if_neg q]
    have h1 := rv_name (o := o) (r := (nI 6, r.2.1, nI 0, r.2.2.2)) h.sk
    have hnb : isLow (chA L n (skp L n s.1)) = false → (fNa o L n (nI 6, r.2.1, nI 0, r.2.2.2) (skp L n s.1, s.2)).2 = pWrong (skp L n s.1, s.2) (-3) (skp L n s.1) := by
      intro z
      unfold fNa
      rw [show skp L n (skp L n s.1, s.2).1 = skp L n s.1 from skp_skp h.2.2.1, if_neg ?_]
      rintro ⟨_, y⟩
      have hf := nm_f y
      have hlt : skp L n s.1 < n := Nat.lt_of_lt_of_le hf.1 (wEnd_le (skp_le h.2.2.1))
      unfold chA at z
      rw [if_pos hlt, hf.2.2.1] at z; cases z
    generalize fNa o L n (nI 6, r.2.1, nI 0, r.2.2.2) (skp L n s.1, s.2) = N at h1 hnb ⊢
    by_cases hl : (decide (t.1 < n) && isLow (L t.1)) = true
    · rw [if_pos hl]
      have eR : (cRef L n (uBy (uK A 3) (nI 4)) t).2 = (cName L n t).2 := rfl
      rcases h1 with ⟨h1, hn, e1, e2, e3⟩ | h1
      · have hnz : (cName L n t).1 ≠ 0 := by
          obtain ⟨a, e, _, _, _, _, y, z, _⟩ := hn
          rw [z]; exact nm_ne0 y
        have hSt : ∀ V : Int32, StP o L n (uNo (cRef L n (uBy (uK A 3) (nI 4)) t).1 V) (N.1.1, N.1.2.1, V, N.1.2.2.2) := fun V => ⟨6, by decide, by decide, e1, Or.inr (Or.inr (Or.inr (Or.inr (Or.inl (⟨rfl, rfl, hnz, rfl, rfl⟩))))), fun _ => hn⟩
        have hk : ∀ c, pTk L n c N.2 = if chA L n (skp L n N.2.1) = c then (true, skp L n N.2.1 + 1, N.2.2) else (false, skp L n N.2.1, N.2.2) := fun c => by unfold pTk; rw [if_pos h1.1]
        unfold cV2
        rw [eR]
        by_cases q4 : chA L n (skp L n N.2.1) = 43
        · have s4 := (h1.see (c := 43) (by decide)).mpr q4
          rw [if_pos s4, hk 43, if_pos q4, if_pos rfl]
          rcases rv_dig (h1.sign (c := 43) ⟨by decide, by decide, by decide⟩ q4) with ⟨h2, e4⟩ | h2
          · refine Or.inl ⟨h2, ?_⟩
            dsimp only
            rw [e4]; exact hSt _
          · exact Or.inr h2
        · have s4 : ¬ cSee L n 43 (cName L n t).2 = true := fun z => q4 ((h1.see (by decide)).mp z)
          rw [if_neg s4, hk 43, if_neg q4, if_neg (show ¬ (false, skp L n N.2.1, N.2.2).1 = true from fun z => by cases z), show (false, skp L n N.2.1, N.2.2).2 = (skp L n N.2.1, N.2.2) from rfl]
          have hk5 : pTk L n 45 (skp L n N.2.1, N.2.2) = if chA L n (skp L n N.2.1) = 45 then (true, skp L n N.2.1 + 1, N.2.2) else (false, skp L n N.2.1, N.2.2) := by
            unfold pTk
            rw [if_pos (show (skp L n N.2.1, N.2.2).2.1 = 0 from h1.1), show skp L n (skp L n N.2.1, N.2.2).1 = skp L n N.2.1 from skp_skp h1.2.2.1]
          by_cases q5 : chA L n (skp L n N.2.1) = 45
          · have s5 := (h1.see (c := 45) (by decide)).mpr q5
            rw [if_pos s5, hk5, if_pos q5, if_pos rfl]
            rcases rv_dig (h1.sign (c := 45) ⟨by decide, by decide, by decide⟩ q5) with ⟨h2, e4⟩ | h2
            · refine Or.inl ⟨h2, ?_⟩
              dsimp only
              rw [e4]; exact hSt _
            · exact Or.inr h2
          · have s5 : ¬ cSee L n 45 (cName L n t).2 = true := fun z => q5 ((h1.see (by decide)).mp z)
            rw [if_neg s5, hk5, if_neg q5, if_neg (show ¬ (false, skp L n N.2.1, N.2.2).1 = true from fun z => by cases z)]
            refine Or.inl ⟨h1.sk, ?_⟩
            have h9 := hSt N.1.2.2.1
            have e5 : uNo (cRef L n (uBy (uK A 3) (nI 4)) t).1 N.1.2.2.1 = (cRef L n (uBy (uK A 3) (nI 4)) t).1 := by
              rw [e3]; show uNo _ (nI 0) = _; rw [← hA.2.2.2]; rfl
            rw [e5] at h9
            exact h9
      · refine Or.inr ?_
        have c1 := cV2_b (L := L) (n := n) (A := (cRef L n (uBy (uK A 3) (nI 4)) t).1) (t := (cName L n t).2) h1.t
        rw [pTk_b h1.1, if_neg (fun z => by cases z), pTk_b h1.1, if_neg (fun z => by cases z)]
        exact h1.st rfl c1
    · rw [if_neg hl]
      have hlo : isLow (chA L n (skp L n s.1)) = false := Bool.eq_false_iff.mpr (fun z => hl (hlet.mpr z))
      have hN := hnb hlo
      have hf := h.fail (skp L n s.1) (-3) (by decide) (skp L n s.1)
      rw [← hN] at hf
      refine Or.inr ?_
      rw [pTk_b hf.1, if_neg (fun z => by cases z), pTk_b hf.1, if_neg (fun z => by cases z)]
      refine hf.st rfl ?_
      have hc45 : ¬ cSee L n 45 t = true := fun z => q (Or.inl ((h.see (by decide)).mp z))
      have hdg : isDg L t.1 t.2.1 = false := by
        rw [h.2.2.2.2, h.2.2.2.1, dg_same.1]
        cases z : isDg L (skp L n s.1) (wEnd L n (skp L n s.1)) with
        | false => rfl
        | true =>
          unfold isDg at z
          simp only [Bool.and_eq_true, decide_eq_true_eq] at z
          have hlt : skp L n s.1 < n := Nat.lt_of_lt_of_le z.1.1 (wEnd_le (skp_le h.2.2.1))
          have := run_all (p := isDig) (L := L) (n := wEnd L n (skp L n s.1)) (a := skp L n s.1) (by omega) (skp L n s.1) (Nat.le_refl _) (by omega)
          exact absurd (Or.inr (by unfold chA; rw [if_pos hlt]; exact this)) q
      have hd9 : cDg L n t = (0, cFail t (-3) (nI t.1)) := by unfold cDg; rw [if_neg (by rw [hdg]; decide)]
      unfold cNu
      dsimp only
      rw [if_neg hc45, hd9, if_neg (show ¬ (nI 0 < -9999 ∨ nI 9999 < nI 0) by decide), h.2.2.2.1]
