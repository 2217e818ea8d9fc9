theorem stS_oth {M : Mem} {r : SR} {q : Nat} {g : Int32} (h : q ≠ 13 ∧ q ≠ 15 ∧ q ≠ 16 ∧ q ≠ 17 ∧ q ≠ 18) : sI (stS M r) 11 0 q g = stS (sI M 11 0 q g) r := by
  unfold stS
  rw [sI_comm (fun e => h.2.2.2.2 e.2.2.symm), sI_comm (s := 17) (fun e => h.2.2.2.1 e.2.2.symm), sI_comm (s := 16) (fun e => h.2.2.1 e.2.2.symm), sI_comm (s := 15) (fun e => h.2.1 e.2.2.symm), sI_comm (s := 13) (fun e => h.1 e.2.2.symm)]
theorem wQ_oth {o : Nat} {M : Mem} {r : SR} {s : PS} {q : Nat} {g : Int32} (h : q ≠ 7 ∧ q ≠ 9 ∧ q ≠ 10 ∧ q ≠ 13 ∧ q ≠ 15 ∧ q ≠ 16 ∧ q ≠ 17 ∧ q ≠ 18) : sI (wS o (stS M r) s) 11 0 q g = wS o (stS (sI M 11 0 q g) r) s := by
  rw [wS_oth h.1 h.2.1 h.2.2.1, stS_oth h.2.2.2]
theorem wS_intro {o : Nat} {M : Mem} : sI M 11 0 7 (nI o) = wS o M (0, mI M 11 0 9, mI M 11 0 10) := by
  show sI M 11 0 7 (nI o) = sI (sI (sI M 11 0 7 (nI o)) 11 0 9 (mI M 11 0 9)) 11 0 10 (mI M 11 0 10)
  rw [sI_self (M := sI M 11 0 7 (nI o)) (k := 11) (j := 0) (s := 9) (v := mI M 11 0 9) rfl, sI_self (M := sI M 11 0 7 (nI o)) (k := 11) (j := 0) (s := 10) (v := mI M 11 0 10) rfl]
def srM (M : Mem) : SR := (mI M 11 0 13, mI M 11 0 15, mI M 11 0 16, mI M 11 0 17, mI M 11 0 18)
theorem stS_intro (M : Mem) : stS M (srM M) = M := by
  show sI (sI (sI (sI (sI M 11 0 13 (mI M 11 0 13)) 11 0 15 (mI M 11 0 15)) 11 0 16 (mI M 11 0 16)) 11 0 17 (mI M 11 0 17)) 11 0 18 (mI M 11 0 18) = M
  rw [sI_self (M := M) (s := 13) rfl, sI_self (M := M) (s := 15) rfl, sI_self (M := M) (s := 16) rfl, sI_self (M := M) (s := 17) rfl, sI_self (M := M) (s := 18) rfl]
def rB (M : Mem) (l n : Nat) (lf lt sa : Int32) : Mem := sI (sI (sI (sI (sI M 11 0 6 (nI l)) 11 0 8 (nI (48 * l + n))) 11 0 11 lf) 11 0 12 lt) 11 0 14 sa
theorem rB_intro {M : Mem} {l n : Nat} {lf sa : Int32} : sI (sI (sI (sI M 11 0 6 (nI l)) 11 0 8 (nI (48 * l + n))) 11 0 11 lf) 11 0 14 sa = rB M l n lf (mI M 11 0 12) sa := by
  unfold rB
  rw [sI_self (M := sI (sI (sI M 11 0 6 (nI l)) 11 0 8 (nI (48 * l + n))) 11 0 11 lf) (k := 11) (j := 0) (s := 12) (v := mI M 11 0 12) rfl]
theorem rB_11 {M : Mem} {l n : Nat} {lf lt sa v : Int32} : sI (rB M l n lf lt sa) 11 0 11 v = rB M l n v lt sa := by
  unfold rB
  rw [sI_comm (by decide), sI_comm (s := 12) (by decide), sI_sI]
theorem rB_12 {M : Mem} {l n : Nat} {lf lt sa v : Int32} : sI (rB M l n lf lt sa) 11 0 12 v = rB M l n lf v sa := by
  unfold rB
  rw [sI_comm (by decide), sI_sI]
theorem rB_14 {M : Mem} {l n : Nat} {lf lt sa v : Int32} : sI (rB M l n lf lt sa) 11 0 14 v = rB M l n lf lt v := by
  unfold rB
  rw [sI_sI]
def rdFin (L : Nat → Nat) (n : Nat) (q : SR × PS) : SR × PS := if q.2.2.1 = 0 then (if chA L n (skp L n q.2.1) = 0 then (q.1, (skp L n q.2.1, q.2.2)) else (q.1, pWrong (skp L n q.2.1, q.2.2) (-3) (skp L n q.2.1))) else q
def rdSt (o : Nat) (L : Nat → Nat) (n a e : Nat) (r : SR) (s : PS) : SR × PS :=
  if e = a then (r, pWrong s (-3) a)
  else if (fDir o L n a e r s).1 = true then rdFin L n (fDir o L n a e r s).2
  else if (fSim L n a e r s).1 = true then rdFin L n (fSim L n a e r s).2
  else if (fOth o L n a e r s).1 = true then rdFin L n (fOth o L n a e r s).2
  else (r, pWrong s (-3) a)
def rdR (o : Nat) (L : Nat → Nat) (n : Nat) (tw : Bool) (r : SR) (fp lt0 : Int32) : (Int32 × Int32 × Int32) × SR × PS :=
  if chA L n (skp L n 0) = 0 then ((-1, lt0, -1), r, (skp L n 0, nI 0, fp))
  else if isNm L (skp L n 0) (wEnd L n (skp L n 0)) = true ∧ chA L n (skp L n (wEnd L n (skp L n 0))) = 58 then
    (if tw = true then ((nI (o + skp L n 0), nI (o + wEnd L n (skp L n 0)), -1), r, pWrong (skp L n (wEnd L n (skp L n 0)) + 1, nI 0, fp) (-2) (skp L n 0))
     else if chA L n (skp L n (skp L n (wEnd L n (skp L n 0)) + 1)) = 0 then ((nI (o + skp L n 0), nI (o + wEnd L n (skp L n 0)), -1), r, (skp L n (skp L n (wEnd L n (skp L n 0)) + 1), nI 0, fp))
     else ((nI (o + skp L n 0), nI (o + wEnd L n (skp L n 0)), nI (o + skp L n (skp L n (wEnd L n (skp L n 0)) + 1))), rdSt o L n (skp L n (skp L n (wEnd L n (skp L n 0)) + 1)) (wEnd L n (skp L n (skp L n (wEnd L n (skp L n 0)) + 1))) r (wEnd L n (skp L n (skp L n (wEnd L n (skp L n 0)) + 1)), nI 0, fp)))
  else ((-1, lt0, nI (o + skp L n 0)), rdSt o L n (skp L n 0) (wEnd L n (skp L n 0)) r ((if isNm L (skp L n 0) (wEnd L n (skp L n 0)) = true then skp L n (wEnd L n (skp L n 0)) else wEnd L n (skp L n 0)), nI 0, fp))
theorem fDir_f {o : Nat} {L : Nat → Nat} {n a e : Nat} {r : SR} {s : PS} (h : (fDir o L n a e r s).1 = false) : (fDir o L n a e r s).2 = (r, s) := by
  unfold fDir at h ⊢
  by_cases q0 : isW L a e 199521302644 = true ∨ isW L a e 199252604001 = true ∨ isW L a e 778204019 = true
  · rw [if_pos q0] at h; cases h
  rw [if_neg q0] at h ⊢
  by_cases q1 : isW L a e 13061564351537516 = true
  · rw [if_pos q1] at h; cases h
  rw [if_neg q1] at h ⊢
  by_cases q2 : isW L a e 199572288100 = true
  · rw [if_pos q2] at h; cases h
  rw [if_neg q2] at h ⊢
  by_cases q3 : isW L a e 199220622437 = true
  · rw [if_pos q3] at h; cases h
  rw [if_neg q3] at h ⊢
  by_cases q4 : isW L a e 51073341547365 = true
  · rw [if_pos q4] at h; cases h
  rw [if_neg q4] at h ⊢
  by_cases q5 : isW L a e 50995965552494 = true
  · rw [if_pos q5] at h; cases h
  rw [if_neg q5] at h ⊢

theorem fSim_f {o : Nat} {L : Nat → Nat} {n a e : Nat} {r : SR} {s : PS} (h : (fSim L n a e r s).1 = false) : (fSim L n a e r s).2 = (r, s) := by
  unfold fSim at h ⊢
  by_cases q0 : isW L a e 7237488 = true
  · rw [if_pos q0] at h; cases h
  rw [if_neg q0] at h ⊢
  by_cases q1 : isW L a e 1836021363 = true
  · rw [if_pos q1] at h; cases h
  rw [if_neg q1] at h ⊢
  by_cases q2 : isW L a e 6516080 = true
  · rw [if_pos q2] at h; cases h
  rw [if_neg q2] at h ⊢
  by_cases q3 : isW L a e 1633969267 = true
  · rw [if_pos q3] at h; cases h
  rw [if_neg q3] at h ⊢
  by_cases q4 : isW L a e 1937072755 = true
  · rw [if_pos q4] at h; cases h
  rw [if_neg q4] at h ⊢
  by_cases q5 : isW L a e 1819503731 = true
  · rw [if_pos q5] at h; cases h
  rw [if_neg q5] at h ⊢
  by_cases q6 : isW L a e 1819505267 = true
  · rw [if_pos q6] at h; cases h
  rw [if_neg q6] at h ⊢
  by_cases q7 : isW L a e 1634955891 = true
  · rw [if_pos q7] at h; cases h
  rw [if_neg q7] at h ⊢
  cases hp : prN L a e with
  | none => rfl
  | some k => rw [hp] at h; cases h
theorem fOth_f {o : Nat} {L : Nat → Nat} {n a e : Nat} {r : SR} {s : PS} (h : (fOth o L n a e r s).1 = false) : (fOth o L n a e r s).2 = (r, s) := by
  unfold fOth at h ⊢
  by_cases q0 : isW L a e 7103602 = true
  · rw [if_pos q0] at h; cases h
  rw [if_neg q0] at h ⊢
  by_cases q1 : isW L a e 7566450 = true
  · rw [if_pos q1] at h; cases h
  rw [if_neg q1] at h ⊢
  by_cases q2 : isW L a e 1818522210 = true
  · rw [if_pos q2] at h; cases h
  rw [if_neg q2] at h ⊢
  by_cases q3 : isW L a e 1937011298 = true
  · rw [if_pos q3] at h; cases h
  rw [if_neg q3] at h ⊢
  by_cases q4 : isW L a e 1886745448 = true
  · rw [if_pos q4] at h; cases h
  rw [if_neg q4] at h ⊢
  by_cases q5 : isW L a e 7368560 = true
  · rw [if_pos q5] at h; cases h
  rw [if_neg q5] at h ⊢
  by_cases q6 : isW L a e 98 = true
  · rw [if_pos q6] at h; cases h
  rw [if_neg q6] at h ⊢
  by_cases q7 : isW L a e 25196 = true
  · rw [if_pos q7] at h; cases h
  rw [if_neg q7] at h ⊢
  by_cases q8 : isW L a e 25208 = true
  · rw [if_pos q8] at h; cases h
  rw [if_neg q8] at h ⊢
  by_cases q98 : L a = 98
  · rw [if_pos q98] at h ⊢
    cases hp : cdN L (a + 1) e with
    | none => rfl
    | some k => rw [hp] at h; cases h
  · rw [if_neg q98]
theorem pIm_le {L : Nat → Nat} {n : Nat} {lo hi st : Int32} {s : PS} (h : s.1 ≤ n) : (pIm L n lo hi st s).2.1 ≤ n := by
  unfold pIm
  exact pNu_le (pWt_le h (by decide))
theorem fTwo_le {L : Nat → Nat} {n kk : Nat} {r : SR} {s : PS} (h : s.1 ≤ n) : (fTwo L n kk r s).2.1 ≤ n := by
  unfold fTwo; dsimp only
  exact pRg_le (pWt_le (pRg_le h) (by decide))
theorem sk_le {L : Nat → Nat} {n : Nat} {s : PS} (h : s.1 ≤ n) : (skp L n s.1, s.2).1 ≤ n := skp_le h
theorem fOne_le {L : Nat → Nat} {n wh : Nat} {k : Int32} {r : SR} {s : PS} (h : s.1 ≤ n) : (fOne L n wh k r s).2.1 ≤ n := by
  unfold fOne
  split
  · dsimp only; exact pIm_le (sk_le (pWt_le (pRg_le h) (by decide)))
  · dsimp only; exact pRg_le (sk_le (pWt_le (pRg_le h) (by decide)))
theorem fSum_le {L : Nat → Nat} {n wh th : Nat} {r : SR} {s : PS} (h : s.1 ≤ n) : (fSum L n wh th r s).2.1 ≤ n := by
  unfold fSum
  split
  · dsimp only; exact pIm_le (sk_le (pWt_le (pRg_le h) (by decide)))
  · split
    · dsimp only; exact pIm_le (sk_le (pWt_le (pRg_le (sk_le (pWt_le (pRg_le h) (by decide)))) (by decide)))
    · dsimp only; exact pRg_le (sk_le (pWt_le (pRg_le (sk_le (pWt_le (pRg_le h) (by decide)))) (by decide)))
theorem fShf_le {L : Nat → Nat} {n fr : Nat} {lo hi : Int32} {r : SR} {s : PS} (h : s.1 ≤ n) : (fShf L n fr lo hi r s).2.1 ≤ n := by
  unfold fShf; dsimp only
  exact pIm_le (pWt_le (pRg_le (pWt_le (pRg_le h) (by decide))) (by decide))
theorem fMemT_le {L : Nat → Nat} {n fr stp d : Nat} {r : SR} {u : PS} (h : u.1 ≤ n) : (fMemT L n fr stp d r u).2.1 ≤ n := by
  unfold fMemT; dsimp only
  exact pWt_le (pIm_le (pWt_le (pRg_le (pWt_le h (by decide))) (by decide))) (by decide)
theorem fMem_le {o : Nat} {L : Nat → Nat} {n fr stp : Nat} {nm : Bool} {r : SR} {s : PS} (h : s.1 ≤ n) : (fMem o L n fr stp nm r s).2.1 ≤ n := by
  unfold fMem
  split
  · split
    · exact fMemT_le (sk_le (pWt_le (pRg_le h) (by decide)))
    · dsimp only; exact fNa_le (sk_le (pWt_le (pRg_le h) (by decide)))
  · exact fMemT_le (pWt_le (pRg_le h) (by decide))
theorem fLst_le {L : Nat → Nat} {n fr last : Nat} {r : SR} {s : PS} (h : s.1 ≤ n) : (fLst L n fr last r s).2.1 ≤ n := by
  unfold fLst; dsimp only
  exact pWt_le (lsQ_le h) (by decide)
theorem fJmp_le {o : Nat} {L : Nat → Nat} {n : Nat} {wh v : Int32} {r : SR} {s : PS} (h : s.1 ≤ n) : (fJmp o L n wh v r s).2.1 ≤ n := by
  unfold fJmp; dsimp only
  exact fNa_le h
theorem fBx_le {L : Nat → Nat} {n : Nat} {r : SR} {s : PS} (h : s.1 ≤ n) : (fBx L n r s).2.1 ≤ n := by
  unfold fBx
  split
  · dsimp only; exact wEnd_le (skp_le h)
  · dsimp only; exact pRg_le (sk_le h)
theorem fWrd_le {o : Nat} {L : Nat → Nat} {n : Nat} {r : SR} {s : PS} (h : s.1 ≤ n) : (fWrd o L n r s).2.1 ≤ n := by
  unfold fWrd
  split
  · dsimp only; exact pNu_le (sk_le h)
  · split
    · dsimp only; exact pDg_le (pTk_le (fNa_le (sk_le h)) (by decide))
    · split
      · dsimp only; exact pDg_le (pTk_le (pTk_le (fNa_le (sk_le h)) (by decide)) (by decide))
      · dsimp only; exact pTk_le (pTk_le (fNa_le (sk_le h)) (by decide)) (by decide)
theorem fDir_le {o : Nat} {L : Nat → Nat} {n a e : Nat} {r : SR} {s : PS} (h : s.1 ≤ n) : (fDir o L n a e r s).2.2.1 ≤ n := by
  unfold fDir
  by_cases q0 : isW L a e 199521302644 = true ∨ isW L a e 199252604001 = true ∨ isW L a e 778204019 = true
  · rw [if_pos q0]; dsimp only; exact h
  rw [if_neg q0]
  by_cases q1 : isW L a e 13061564351537516 = true
  · rw [if_pos q1]; dsimp only; exact fNa_le h
  rw [if_neg q1]
  by_cases q2 : isW L a e 199572288100 = true
  · rw [if_pos q2]; dsimp only; exact fWrd_le h
  rw [if_neg q2]
  by_cases q3 : isW L a e 199220622437 = true
  · rw [if_pos q3]; dsimp only; exact pNu_le h
  rw [if_neg q3]
  by_cases q4 : isW L a e 51073341547365 = true
  · rw [if_pos q4]; dsimp only; exact pNu_le h
  rw [if_neg q4]
  by_cases q5 : isW L a e 50995965552494 = true
  · rw [if_pos q5]; dsimp only; exact h
  rw [if_neg q5]
  exact h
theorem fSim_le {o : Nat} {L : Nat → Nat} {n a e : Nat} {r : SR} {s : PS} (h : s.1 ≤ n) : (fSim L n a e r s).2.2.1 ≤ n := by
  unfold fSim
  by_cases q0 : isW L a e 7237488 = true
  · rw [if_pos q0]; dsimp only; exact h
  rw [if_neg q0]
  by_cases q1 : isW L a e 1836021363 = true
  · rw [if_pos q1]; dsimp only; exact fOne_le h
  rw [if_neg q1]
  by_cases q2 : isW L a e 6516080 = true
  · rw [if_pos q2]; dsimp only; exact fOne_le h
  rw [if_neg q2]
  by_cases q3 : isW L a e 1633969267 = true
  · rw [if_pos q3]; dsimp only; exact fSum_le h
  rw [if_neg q3]
  by_cases q4 : isW L a e 1937072755 = true
  · rw [if_pos q4]; dsimp only; exact fSum_le h
  rw [if_neg q4]
  by_cases q5 : isW L a e 1819503731 = true
  · rw [if_pos q5]; dsimp only; exact fShf_le h
  rw [if_neg q5]
  by_cases q6 : isW L a e 1819505267 = true
  · rw [if_pos q6]; dsimp only; exact fShf_le h
  rw [if_neg q6]
  by_cases q7 : isW L a e 1634955891 = true
  · rw [if_pos q7]; dsimp only; exact fShf_le h
  rw [if_neg q7]
  cases hp : prN L a e with
  | none => exact h
  | some k => dsimp only; exact fTwo_le h
theorem fOth_le {o : Nat} {L : Nat → Nat} {n a e : Nat} {r : SR} {s : PS} (h : s.1 ≤ n) : (fOth o L n a e r s).2.2.1 ≤ n := by
  unfold fOth
  by_cases q0 : isW L a e 7103602 = true
  · rw [if_pos q0]; dsimp only; exact fMem_le h
  rw [if_neg q0]
  by_cases q1 : isW L a e 7566450 = true
  · rw [if_pos q1]; dsimp only; exact fMem_le h
  rw [if_neg q1]
  by_cases q2 : isW L a e 1818522210 = true
  · rw [if_pos q2]; dsimp only; exact fMem_le h
  rw [if_neg q2]
  by_cases q3 : isW L a e 1937011298 = true
  · rw [if_pos q3]; dsimp only; exact fMem_le h
  rw [if_neg q3]
  by_cases q4 : isW L a e 1886745448 = true
  · rw [if_pos q4]; dsimp only; exact fLst_le h
  rw [if_neg q4]
  by_cases q5 : isW L a e 7368560 = true
  · rw [if_pos q5]; dsimp only; exact fLst_le h
  rw [if_neg q5]
  by_cases q6 : isW L a e 98 = true
  · rw [if_pos q6]; dsimp only; exact fJmp_le h
  rw [if_neg q6]
  by_cases q7 : isW L a e 25196 = true
  · rw [if_pos q7]; dsimp only; exact fJmp_le h
  rw [if_neg q7]
  by_cases q8 : isW L a e 25208 = true
  · rw [if_pos q8]; dsimp only; exact fBx_le h
  rw [if_neg q8]
  by_cases q98 : L a = 98
  · rw [if_pos q98]
    cases hp : cdN L (a + 1) e with
    | none => exact h
    | some k => dsimp only; exact fJmp_le h
  · rw [if_neg q98]; exact h
