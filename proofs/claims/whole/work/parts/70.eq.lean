theorem mnS_some {L : Nat → Nat} {b e j : Nat} : ∀ (d k : Nat), mnS L b e d k = some j → swB L b e j = true
  | 0, k, h => by cases h
  | d + 1, k, h => by
    rw [mnS] at h
    split at h
    · rename_i q; cases h; exact q
    · exact mnS_some d (k + 1) h
theorem mnS_none {L : Nat → Nat} {b e : Nat} : ∀ (d k : Nat), mnS L b e d k = none → ∀ j, k ≤ j → j < k + d → swB L b e j = false
  | 0, k, _, j, h1, h2 => absurd h2 (by omega)
  | d + 1, k, h, j, h1, h2 => by
    rw [mnS] at h
    split at h
    · cases h
    · rename_i q
      rcases Nat.eq_or_lt_of_le h1 with z | z
      · rw [← z]; exact Bool.eq_false_iff.mpr q
      · exact mnS_none d (k + 1) h j z (by omega)
def dirL : List Nat := [199521302644, 199252604001, 778204019, 13061564351537516, 199572288100, 199220622437, 51073341547365, 50995965552494]
def simL : List Nat := [7237488, 1836021363, 6516080, 1633969267, 1937072755, 1819503731, 1819505267, 1634955891, 1634624627, 1701802611, 1633969011, 1935827827, 7631732, 1852139379, 1869771379, 1836412019, 1651073907, 1836478067]
def othL : List Nat := [7103602, 7566450, 1818522210, 1937011298, 1886745448, 7368560, 98, 25196, 25208]
theorem noDir {o : Nat} {L : Nat → Nat} {n a e : Nat} {r : SR} {s : PS} (h : ∀ v, v ∈ dirL → isW L a e v = false) : fDir o L n a e r s = (false, r, s) := by
  unfold fDir
  rw [if_neg (fun z => by rw [h 199521302644 (by decide), h 199252604001 (by decide), h 778204019 (by decide)] at z; exact absurd z (by decide)), if_neg (by rw [h 13061564351537516 (by decide)]; decide), if_neg (by rw [h 199572288100 (by decide)]; decide), if_neg (by rw [h 199220622437 (by decide)]; decide), if_neg (by rw [h 51073341547365 (by decide)]; decide), if_neg (by rw [h 50995965552494 (by decide)]; decide)]
theorem noSim {L : Nat → Nat} {n a e : Nat} {r : SR} {s : PS} (h : ∀ v, v ∈ simL → isW L a e v = false) : fSim L n a e r s = (false, r, s) := by
  have hP : prN L a e = none := by
    unfold prN
    rw [if_neg (by rw [h 1634624627 (by decide)]; decide), if_neg (by rw [h 1701802611 (by decide)]; decide), if_neg (by rw [h 1633969011 (by decide)]; decide), if_neg (by rw [h 1935827827 (by decide)]; decide), if_neg (by rw [h 7631732 (by decide)]; decide), if_neg (by rw [h 1852139379 (by decide)]; decide), if_neg (by rw [h 1869771379 (by decide)]; decide), if_neg (by rw [h 1836412019 (by decide)]; decide), if_neg (by rw [h 1651073907 (by decide)]; decide), if_neg (by rw [h 1836478067 (by decide)]; decide)]
  unfold fSim
  rw [if_neg (by rw [h 7237488 (by decide)]; decide), if_neg (by rw [h 1836021363 (by decide)]; decide), if_neg (by rw [h 6516080 (by decide)]; decide), if_neg (by rw [h 1633969267 (by decide)]; decide), if_neg (by rw [h 1937072755 (by decide)]; decide), if_neg (by rw [h 1819503731 (by decide)]; decide), if_neg (by rw [h 1819505267 (by decide)]; decide), if_neg (by rw [h 1634955891 (by decide)]; decide)]
  simp only [hP]
def cX (L : Nat → Nat) (n j : Nat) (A : CR) (t : KS) : CR × KS := if mnFn j < 6 then cDir L n (mnFn j) (mnCn j) A t else cIns L n (mnFn j) (mnCn j) (mnXn j) A t
theorem disp_0 {o : Nat} {L : Nat → Nat} {n a e : Nat} {A : CR} {r : SR} {s : PS} {t : KS} (hA : BsA A) (h : OKs L n s t) (hea : e ≠ a) (hsw : swB L a e 0 = true) : ∃ q : SR × PS, rdSt o L n a e r s = rdFin L n q ∧ RV L n (StP o L n (cX L n 0 A t).1 q.1) q.2 (cX L n 0 A t).2 := by
  have hn : ∀ v, dif 0 v = true → isW L a e v = false := fun v hv => isW_no hsw hv
  have hp : ∀ v, mtc2 0 v = true → isW L a e v = true := fun v hv => by rw [isW_sw hv]; exact hsw
  have hD : fDir o L n a e r s = (true, ((nI (1 + 0), r.2), s).1, ((nI (1 + 0), r.2), s).2) := by
    have hc := (sw_iff.mp hsw).2 1 (by decide +kernel)
    rw [show sbc 0 1 = 116 by decide +kernel] at hc
    unfold fDir
    rw [if_pos (Or.inl (hp 199521302644 (by decide +kernel))), if_pos hc]
  refine ⟨((nI (1 + 0), r.2), s), by unfold rdSt; rw [if_neg hea, hD, if_pos rfl], ?_⟩
  have hX : cX L n 0 A t = cDir L n 0 0 A t := by
    unfold cX
    rw [show mnFn 0 = 0 by decide +kernel, show mnCn 0 = 0 by decide +kernel, if_pos (by decide)]
  rw [hX]
  exact sP_sec hA (by decide) h
theorem disp_1 {o : Nat} {L : Nat → Nat} {n a e : Nat} {A : CR} {r : SR} {s : PS} {t : KS} (hA : BsA A) (h : OKs L n s t) (hea : e ≠ a) (hsw : swB L a e 1 = true) : ∃ q : SR × PS, rdSt o L n a e r s = rdFin L n q ∧ RV L n (StP o L n (cX L n 1 A t).1 q.1) q.2 (cX L n 1 A t).2 := by
  have hn : ∀ v, dif 1 v = true → isW L a e v = false := fun v hv => isW_no hsw hv
  have hp : ∀ v, mtc2 1 v = true → isW L a e v = true := fun v hv => by rw [isW_sw hv]; exact hsw
  have hD : fDir o L n a e r s = (true, ((nI (1 + 1), r.2), s).1, ((nI (1 + 1), r.2), s).2) := by
    have hc := (sw_iff.mp hsw).2 1 (by decide +kernel)
    rw [show sbc 1 1 = 100 by decide +kernel] at hc
    unfold fDir
    rw [if_pos (Or.inr (Or.inl (hp 199252604001 (by decide +kernel)))), if_neg (by omega), if_pos hc]
  refine ⟨((nI (1 + 1), r.2), s), by unfold rdSt; rw [if_neg hea, hD, if_pos rfl], ?_⟩
  have hX : cX L n 1 A t = cDir L n 0 1 A t := by
    unfold cX
    rw [show mnFn 1 = 0 by decide +kernel, show mnCn 1 = 1 by decide +kernel, if_pos (by decide)]
  rw [hX]
  exact sP_sec hA (by decide) h
theorem disp_2 {o : Nat} {L : Nat → Nat} {n a e : Nat} {A : CR} {r : SR} {s : PS} {t : KS} (hA : BsA A) (h : OKs L n s t) (hea : e ≠ a) (hsw : swB L a e 2 = true) : ∃ q : SR × PS, rdSt o L n a e r s = rdFin L n q ∧ RV L n (StP o L n (cX L n 2 A t).1 q.1) q.2 (cX L n 2 A t).2 := by
  have hn : ∀ v, dif 2 v = true → isW L a e v = false := fun v hv => isW_no hsw hv
  have hp : ∀ v, mtc2 2 v = true → isW L a e v = true := fun v hv => by rw [isW_sw hv]; exact hsw
  have hD : fDir o L n a e r s = (true, ((nI (1 + 2), r.2), s).1, ((nI (1 + 2), r.2), s).2) := by
    have hc := (sw_iff.mp hsw).2 1 (by decide +kernel)
    rw [show sbc 2 1 = 98 by decide +kernel] at hc
    unfold fDir
    rw [if_pos (Or.inr (Or.inr (hp 778204019 (by decide +kernel)))), if_neg (by omega), if_neg (by omega)]
  refine ⟨((nI (1 + 2), r.2), s), by unfold rdSt; rw [if_neg hea, hD, if_pos rfl], ?_⟩
  have hX : cX L n 2 A t = cDir L n 0 2 A t := by
    unfold cX
    rw [show mnFn 2 = 0 by decide +kernel, show mnCn 2 = 2 by decide +kernel, if_pos (by decide)]
  rw [hX]
  exact sP_sec hA (by decide) h
theorem disp_3 {o : Nat} {L : Nat → Nat} {n a e : Nat} {A : CR} {r : SR} {s : PS} {t : KS} (hA : BsA A) (h : OKs L n s t) (hea : e ≠ a) (hsw : swB L a e 3 = true) : ∃ q : SR × PS, rdSt o L n a e r s = rdFin L n q ∧ RV L n (StP o L n (cX L n 3 A t).1 q.1) q.2 (cX L n 3 A t).2 := by
  have hn : ∀ v, dif 3 v = true → isW L a e v = false := fun v hv => isW_no hsw hv
  have hp : ∀ v, mtc2 3 v = true → isW L a e v = true := fun v hv => by rw [isW_sw hv]; exact hsw
  have hD : fDir o L n a e r s = (true, (fNa o L n (nI 4, r.2) s).1, (fNa o L n (nI 4, r.2) s).2) := by
    unfold fDir
    rw [if_neg (fun z => by rw [hn 199521302644 (by decide +kernel), hn 199252604001 (by decide +kernel), hn 778204019 (by decide +kernel)] at z; exact absurd z (by decide)), if_pos (hp 13061564351537516 (by decide +kernel))]
  refine ⟨(fNa o L n (nI 4, r.2) s), by unfold rdSt; rw [if_neg hea, hD, if_pos rfl], ?_⟩
  have hX : cX L n 3 A t = cDir L n 1 0 A t := by
    unfold cX
    rw [show mnFn 3 = 1 by decide +kernel, show mnCn 3 = 0 by decide +kernel, if_pos (by decide)]
  rw [hX]
  exact sP_glo hA h
theorem disp_4 {o : Nat} {L : Nat → Nat} {n a e : Nat} {A : CR} {r : SR} {s : PS} {t : KS} (hA : BsA A) (h : OKs L n s t) (hea : e ≠ a) (hsw : swB L a e 4 = true) : ∃ q : SR × PS, rdSt o L n a e r s = rdFin L n q ∧ RV L n (StP o L n (cX L n 4 A t).1 q.1) q.2 (cX L n 4 A t).2 := by
  have hn : ∀ v, dif 4 v = true → isW L a e v = false := fun v hv => isW_no hsw hv
  have hp : ∀ v, mtc2 4 v = true → isW L a e v = true := fun v hv => by rw [isW_sw hv]; exact hsw
  have hD : fDir o L n a e r s = (true, (fWrd o L n r s).1, (fWrd o L n r s).2) := by
    unfold fDir
    rw [if_neg (fun z => by rw [hn 199521302644 (by decide +kernel), hn 199252604001 (by decide +kernel), hn 778204019 (by decide +kernel)] at z; exact absurd z (by decide)), if_neg (by rw [hn 13061564351537516 (by decide +kernel)]; decide), if_pos (hp 199572288100 (by decide +kernel))]
  refine ⟨(fWrd o L n r s), by unfold rdSt; rw [if_neg hea, hD, if_pos rfl], ?_⟩
  have hX : cX L n 4 A t = cDir L n 2 0 A t := by
    unfold cX
    rw [show mnFn 4 = 2 by decide +kernel, show mnCn 4 = 0 by decide +kernel, if_pos (by decide)]
  rw [hX]
  exact sP_wrd hA h
theorem disp_5 {o : Nat} {L : Nat → Nat} {n a e : Nat} {A : CR} {r : SR} {s : PS} {t : KS} (hA : BsA A) (h : OKs L n s t) (hea : e ≠ a) (hsw : swB L a e 5 = true) : ∃ q : SR × PS, rdSt o L n a e r s = rdFin L n q ∧ RV L n (StP o L n (cX L n 5 A t).1 q.1) q.2 (cX L n 5 A t).2 := by
  have hn : ∀ v, dif 5 v = true → isW L a e v = false := fun v hv => isW_no hsw hv
  have hp : ∀ v, mtc2 5 v = true → isW L a e v = true := fun v hv => by rw [isW_sw hv]; exact hsw
  have hD : fDir o L n a e r s = (true, ((nI 7, r.2.1, (pNu L n (-128) (nI 255) (nI 1) s).1, r.2.2.2), (pNu L n (-128) (nI 255) (nI 1) s).2).1, ((nI 7, r.2.1, (pNu L n (-128) (nI 255) (nI 1) s).1, r.2.2.2), (pNu L n (-128) (nI 255) (nI 1) s).2).2) := by
    unfold fDir
    rw [if_neg (fun z => by rw [hn 199521302644 (by decide +kernel), hn 199252604001 (by decide +kernel), hn 778204019 (by decide +kernel)] at z; exact absurd z (by decide)), if_neg (by rw [hn 13061564351537516 (by decide +kernel)]; decide), if_neg (by rw [hn 199572288100 (by decide +kernel)]; decide), if_pos (hp 199220622437 (by decide +kernel))]
  refine ⟨((nI 7, r.2.1, (pNu L n (-128) (nI 255) (nI 1) s).1, r.2.2.2), (pNu L n (-128) (nI 255) (nI 1) s).2), by unfold rdSt; rw [if_neg hea, hD, if_pos rfl], ?_⟩
  have hX : cX L n 5 A t = cDir L n 3 0 A t := by
    unfold cX
    rw [show mnFn 5 = 3 by decide +kernel, show mnCn 5 = 0 by decide +kernel, if_pos (by decide)]
  rw [hX]
  exact sP_byt h
theorem disp_6 {o : Nat} {L : Nat → Nat} {n a e : Nat} {A : CR} {r : SR} {s : PS} {t : KS} (hA : BsA A) (h : OKs L n s t) (hea : e ≠ a) (hsw : swB L a e 6 = true) : ∃ q : SR × PS, rdSt o L n a e r s = rdFin L n q ∧ RV L n (StP o L n (cX L n 6 A t).1 q.1) q.2 (cX L n 6 A t).2 := by
  have hn : ∀ v, dif 6 v = true → isW L a e v = false := fun v hv => isW_no hsw hv
  have hp : ∀ v, mtc2 6 v = true → isW L a e v = true := fun v hv => by rw [isW_sw hv]; exact hsw
  have hD : fDir o L n a e r s = (true, ((nI 8, r.2.1, (pNu L n (nI 0) (nI 512) (nI 1) s).1, r.2.2.2), (pNu L n (nI 0) (nI 512) (nI 1) s).2).1, ((nI 8, r.2.1, (pNu L n (nI 0) (nI 512) (nI 1) s).1, r.2.2.2), (pNu L n (nI 0) (nI 512) (nI 1) s).2).2) := by
    unfold fDir
    rw [if_neg (fun z => by rw [hn 199521302644 (by decide +kernel), hn 199252604001 (by decide +kernel), hn 778204019 (by decide +kernel)] at z; exact absurd z (by decide)), if_neg (by rw [hn 13061564351537516 (by decide +kernel)]; decide), if_neg (by rw [hn 199572288100 (by decide +kernel)]; decide), if_neg (by rw [hn 199220622437 (by decide +kernel)]; decide), if_pos (hp 51073341547365 (by decide +kernel))]
  refine ⟨((nI 8, r.2.1, (pNu L n (nI 0) (nI 512) (nI 1) s).1, r.2.2.2), (pNu L n (nI 0) (nI 512) (nI 1) s).2), by unfold rdSt; rw [if_neg hea, hD, if_pos rfl], ?_⟩
  have hX : cX L n 6 A t = cDir L n 4 0 A t := by
    unfold cX
    rw [show mnFn 6 = 4 by decide +kernel, show mnCn 6 = 0 by decide +kernel, if_pos (by decide)]
  rw [hX]
  exact sP_spc h
theorem disp_7 {o : Nat} {L : Nat → Nat} {n a e : Nat} {A : CR} {r : SR} {s : PS} {t : KS} (hA : BsA A) (h : OKs L n s t) (hea : e ≠ a) (hsw : swB L a e 7 = true) : ∃ q : SR × PS, rdSt o L n a e r s = rdFin L n q ∧ RV L n (StP o L n (cX L n 7 A t).1 q.1) q.2 (cX L n 7 A t).2 := by
  have hn : ∀ v, dif 7 v = true → isW L a e v = false := fun v hv => isW_no hsw hv
  have hp : ∀ v, mtc2 7 v = true → isW L a e v = true := fun v hv => by rw [isW_sw hv]; exact hsw
  have hD : fDir o L n a e r s = (true, ((nI 9, r.2), s).1, ((nI 9, r.2), s).2) := by
    unfold fDir
    rw [if_neg (fun z => by rw [hn 199521302644 (by decide +kernel), hn 199252604001 (by decide +kernel), hn 778204019 (by decide +kernel)] at z; exact absurd z (by decide)), if_neg (by rw [hn 13061564351537516 (by decide +kernel)]; decide), if_neg (by rw [hn 199572288100 (by decide +kernel)]; decide), if_neg (by rw [hn 199220622437 (by decide +kernel)]; decide), if_neg (by rw [hn 51073341547365 (by decide +kernel)]; decide), if_pos (hp 50995965552494 (by decide +kernel))]
  refine ⟨((nI 9, r.2), s), by unfold rdSt; rw [if_neg hea, hD, if_pos rfl], ?_⟩
  have hX : cX L n 7 A t = cDir L n 5 0 A t := by
    unfold cX
    rw [show mnFn 7 = 5 by decide +kernel, show mnCn 7 = 0 by decide +kernel, if_pos (by decide)]
  rw [hX]
  exact sP_fil hA h
theorem disp_8 {o : Nat} {L : Nat → Nat} {n a e : Nat} {A : CR} {r : SR} {s : PS} {t : KS} (hA : BsA A) (h : OKs L n s t) (hea : e ≠ a) (hsw : swB L a e 8 = true) : ∃ q : SR × PS, rdSt o L n a e r s = rdFin L n q ∧ RV L n (StP o L n (cX L n 8 A t).1 q.1) q.2 (cX L n 8 A t).2 := by
  have hn : ∀ v, dif 8 v = true → isW L a e v = false := fun v hv => isW_no hsw hv
  have hp : ∀ v, mtc2 8 v = true → isW L a e v = true := fun v hv => by rw [isW_sw hv]; exact hsw
  have hD : fDir o L n a e r s = (false, r, s) := noDir (fun v hv => hn v ((show ∀ v, v ∈ dirL → dif 8 v = true by decide +kernel) v hv))
  have hS : fSim L n a e r s = (true, ((nI 10, nI 48896, r.2.2), s).1, ((nI 10, nI 48896, r.2.2), s).2) := by
    unfold fSim
    rw [if_pos (hp 7237488 (by decide +kernel))]
  refine ⟨((nI 10, nI 48896, r.2.2), s), by unfold rdSt; rw [if_neg hea, hD, if_neg (fun z => by cases z), hS, if_pos rfl], ?_⟩
  have hX : cX L n 8 A t = cIns L n 6 48896 0 A t := by
    unfold cX
    rw [show mnFn 8 = 6 by decide +kernel, show mnCn 8 = 48896 by decide +kernel, show mnXn 8 = 0 by decide +kernel, if_neg (by decide)]
  rw [hX]
  exact sP_pl (r := r) hA (Or.inl ⟨h, rfl⟩)
theorem disp_9 {o : Nat} {L : Nat → Nat} {n a e : Nat} {A : CR} {r : SR} {s : PS} {t : KS} (hA : BsA A) (h : OKs L n s t) (hea : e ≠ a) (hsw : swB L a e 9 = true) : ∃ q : SR × PS, rdSt o L n a e r s = rdFin L n q ∧ RV L n (StP o L n (cX L n 9 A t).1 q.1) q.2 (cX L n 9 A t).2 := by
  have hn : ∀ v, dif 9 v = true → isW L a e v = false := fun v hv => isW_no hsw hv
  have hp : ∀ v, mtc2 9 v = true → isW L a e v = true := fun v hv => by rw [isW_sw hv]; exact hsw
  have hD : fDir o L n a e r s = (false, r, s) := noDir (fun v hv => hn v ((show ∀ v, v ∈ dirL → dif 9 v = true by decide +kernel) v hv))
  have hS : fSim L n a e r s = (true, (fOne L n 8192 (-1) r s).1, (fOne L n 8192 (-1) r s).2) := by
    unfold fSim
    rw [if_neg (by rw [hn 7237488 (by decide +kernel)]; decide), if_pos (hp 1836021363 (by decide +kernel))]
  refine ⟨(fOne L n 8192 (-1) r s), by unfold rdSt; rw [if_neg hea, hD, if_neg (fun z => by cases z), hS, if_pos rfl], ?_⟩
  have hX : cX L n 9 A t = cIns L n 7 0 8192 A t := by
    unfold cX
    rw [show mnFn 9 = 7 by decide +kernel, show mnCn 9 = 0 by decide +kernel, show mnXn 9 = 8192 by decide +kernel, if_neg (by decide)]
  rw [hX]
  exact sP_pl (r := r) hA (rv_movs h)
theorem disp_10 {o : Nat} {L : Nat → Nat} {n a e : Nat} {A : CR} {r : SR} {s : PS} {t : KS} (hA : BsA A) (h : OKs L n s t) (hea : e ≠ a) (hsw : swB L a e 10 = true) : ∃ q : SR × PS, rdSt o L n a e r s = rdFin L n q ∧ RV L n (StP o L n (cX L n 10 A t).1 q.1) q.2 (cX L n 10 A t).2 := by
  have hn : ∀ v, dif 10 v = true → isW L a e v = false := fun v hv => isW_no hsw hv
  have hp : ∀ v, mtc2 10 v = true → isW L a e v = true := fun v hv => by rw [isW_sw hv]; exact hsw
  have hD : fDir o L n a e r s = (false, r, s) := noDir (fun v hv => hn v ((show ∀ v, v ∈ dirL → dif 10 v = true by decide +kernel) v hv))
  have hS : fSim L n a e r s = (true, (fOne L n 10240 (nI 10) r s).1, (fOne L n 10240 (nI 10) r s).2) := by
    unfold fSim
    rw [if_neg (by rw [hn 7237488 (by decide +kernel)]; decide), if_neg (by rw [hn 1836021363 (by decide +kernel)]; decide), if_pos (hp 6516080 (by decide +kernel))]
  refine ⟨(fOne L n 10240 (nI 10) r s), by unfold rdSt; rw [if_neg hea, hD, if_neg (fun z => by cases z), hS, if_pos rfl], ?_⟩
  have hX : cX L n 10 A t = cIns L n 7 17024 10240 A t := by
    unfold cX
    rw [show mnFn 10 = 7 by decide +kernel, show mnCn 10 = 17024 by decide +kernel, show mnXn 10 = 10240 by decide +kernel, if_neg (by decide)]
  rw [hX]
  exact sP_pl (r := r) hA (rv_cmp h)
theorem disp_11 {o : Nat} {L : Nat → Nat} {n a e : Nat} {A : CR} {r : SR} {s : PS} {t : KS} (hA : BsA A) (h : OKs L n s t) (hea : e ≠ a) (hsw : swB L a e 11 = true) : ∃ q : SR × PS, rdSt o L n a e r s = rdFin L n q ∧ RV L n (StP o L n (cX L n 11 A t).1 q.1) q.2 (cX L n 11 A t).2 := by
  have hn : ∀ v, dif 11 v = true → isW L a e v = false := fun v hv => isW_no hsw hv
  have hp : ∀ v, mtc2 11 v = true → isW L a e v = true := fun v hv => by rw [isW_sw hv]; exact hsw
  have hD : fDir o L n a e r s = (false, r, s) := noDir (fun v hv => hn v ((show ∀ v, v ∈ dirL → dif 11 v = true by decide +kernel) v hv))
  have hS : fSim L n a e r s = (true, (fSum L n 12288 6144 r s).1, (fSum L n 12288 6144 r s).2) := by
    unfold fSim
    rw [if_neg (by rw [hn 7237488 (by decide +kernel)]; decide), if_neg (by rw [hn 1836021363 (by decide +kernel)]; decide), if_neg (by rw [hn 6516080 (by decide +kernel)]; decide), if_pos (hp 1633969267 (by decide +kernel))]
  refine ⟨(fSum L n 12288 6144 r s), by unfold rdSt; rw [if_neg hea, hD, if_neg (fun z => by cases z), hS, if_pos rfl], ?_⟩
  have hX : cX L n 11 A t = cIns L n 8 6144 12288 A t := by
    unfold cX
    rw [show mnFn 11 = 8 by decide +kernel, show mnCn 11 = 6144 by decide +kernel, show mnXn 11 = 12288 by decide +kernel, if_neg (by decide)]
  rw [hX]
  exact sP_pl (r := r) hA (rv_sum h)
theorem disp_12 {o : Nat} {L : Nat → Nat} {n a e : Nat} {A : CR} {r : SR} {s : PS} {t : KS} (hA : BsA A) (h : OKs L n s t) (hea : e ≠ a) (hsw : swB L a e 12 = true) : ∃ q : SR × PS, rdSt o L n a e r s = rdFin L n q ∧ RV L n (StP o L n (cX L n 12 A t).1 q.1) q.2 (cX L n 12 A t).2 := by
  have hn : ∀ v, dif 12 v = true → isW L a e v = false := fun v hv => isW_no hsw hv
  have hp : ∀ v, mtc2 12 v = true → isW L a e v = true := fun v hv => by rw [isW_sw hv]; exact hsw
  have hD : fDir o L n a e r s = (false, r, s) := noDir (fun v hv => hn v ((show ∀ v, v ∈ dirL → dif 12 v = true by decide +kernel) v hv))
  have hS : fSim L n a e r s = (true, (fSum L n 14336 6656 r s).1, (fSum L n 14336 6656 r s).2) := by
    unfold fSim
    rw [if_neg (by rw [hn 7237488 (by decide +kernel)]; decide), if_neg (by rw [hn 1836021363 (by decide +kernel)]; decide), if_neg (by rw [hn 6516080 (by decide +kernel)]; decide), if_neg (by rw [hn 1633969267 (by decide +kernel)]; decide), if_pos (hp 1937072755 (by decide +kernel))]
  refine ⟨(fSum L n 14336 6656 r s), by unfold rdSt; rw [if_neg hea, hD, if_neg (fun z => by cases z), hS, if_pos rfl], ?_⟩
  have hX : cX L n 12 A t = cIns L n 8 6656 14336 A t := by
    unfold cX
    rw [show mnFn 12 = 8 by decide +kernel, show mnCn 12 = 6656 by decide +kernel, show mnXn 12 = 14336 by decide +kernel, if_neg (by decide)]
  rw [hX]
  exact sP_pl (r := r) hA (rv_sum h)
theorem disp_13 {o : Nat} {L : Nat → Nat} {n a e : Nat} {A : CR} {r : SR} {s : PS} {t : KS} (hA : BsA A) (h : OKs L n s t) (hea : e ≠ a) (hsw : swB L a e 13 = true) : ∃ q : SR × PS, rdSt o L n a e r s = rdFin L n q ∧ RV L n (StP o L n (cX L n 13 A t).1 q.1) q.2 (cX L n 13 A t).2 := by
  have hn : ∀ v, dif 13 v = true → isW L a e v = false := fun v hv => isW_no hsw hv
  have hp : ∀ v, mtc2 13 v = true → isW L a e v = true := fun v hv => by rw [isW_sw hv]; exact hsw
  have hD : fDir o L n a e r s = (false, r, s) := noDir (fun v hv => hn v ((show ∀ v, v ∈ dirL → dif 13 v = true by decide +kernel) v hv))
  have hS : fSim L n a e r s = (true, (fShf L n 0 (nI 0) (nI 31) r s).1, (fShf L n 0 (nI 0) (nI 31) r s).2) := by
    unfold fSim
    rw [if_neg (by rw [hn 7237488 (by decide +kernel)]; decide), if_neg (by rw [hn 1836021363 (by decide +kernel)]; decide), if_neg (by rw [hn 6516080 (by decide +kernel)]; decide), if_neg (by rw [hn 1633969267 (by decide +kernel)]; decide), if_neg (by rw [hn 1937072755 (by decide +kernel)]; decide), if_pos (hp 1819503731 (by decide +kernel))]
  refine ⟨(fShf L n 0 (nI 0) (nI 31) r s), by unfold rdSt; rw [if_neg hea, hD, if_neg (fun z => by cases z), hS, if_pos rfl], ?_⟩
  have hX : cX L n 13 A t = cIns L n 9 0 0 A t := by
    unfold cX
    rw [show mnFn 13 = 9 by decide +kernel, show mnCn 13 = 0 by decide +kernel, show mnXn 13 = 0 by decide +kernel, if_neg (by decide)]
  rw [hX]
  exact sP_pl (r := r) hA (rv_shift (c := 0) (x := 0) h)
theorem disp_14 {o : Nat} {L : Nat → Nat} {n a e : Nat} {A : CR} {r : SR} {s : PS} {t : KS} (hA : BsA A) (h : OKs L n s t) (hea : e ≠ a) (hsw : swB L a e 14 = true) : ∃ q : SR × PS, rdSt o L n a e r s = rdFin L n q ∧ RV L n (StP o L n (cX L n 14 A t).1 q.1) q.2 (cX L n 14 A t).2 := by
  have hn : ∀ v, dif 14 v = true → isW L a e v = false := fun v hv => isW_no hsw hv
  have hp : ∀ v, mtc2 14 v = true → isW L a e v = true := fun v hv => by rw [isW_sw hv]; exact hsw
  have hD : fDir o L n a e r s = (false, r, s) := noDir (fun v hv => hn v ((show ∀ v, v ∈ dirL → dif 14 v = true by decide +kernel) v hv))
  have hS : fSim L n a e r s = (true, (fShf L n 2048 (nI 1) (nI 32) r s).1, (fShf L n 2048 (nI 1) (nI 32) r s).2) := by
    unfold fSim
    rw [if_neg (by rw [hn 7237488 (by decide +kernel)]; decide), if_neg (by rw [hn 1836021363 (by decide +kernel)]; decide), if_neg (by rw [hn 6516080 (by decide +kernel)]; decide), if_neg (by rw [hn 1633969267 (by decide +kernel)]; decide), if_neg (by rw [hn 1937072755 (by decide +kernel)]; decide), if_neg (by rw [hn 1819503731 (by decide +kernel)]; decide), if_pos (hp 1819505267 (by decide +kernel))]
  refine ⟨(fShf L n 2048 (nI 1) (nI 32) r s), by unfold rdSt; rw [if_neg hea, hD, if_neg (fun z => by cases z), hS, if_pos rfl], ?_⟩
  have hX : cX L n 14 A t = cIns L n 9 2048 1 A t := by
    unfold cX
    rw [show mnFn 14 = 9 by decide +kernel, show mnCn 14 = 2048 by decide +kernel, show mnXn 14 = 1 by decide +kernel, if_neg (by decide)]
  rw [hX]
  exact sP_pl (r := r) hA (rv_shift (c := 2048) (x := 1) h)
theorem disp_15 {o : Nat} {L : Nat → Nat} {n a e : Nat} {A : CR} {r : SR} {s : PS} {t : KS} (hA : BsA A) (h : OKs L n s t) (hea : e ≠ a) (hsw : swB L a e 15 = true) : ∃ q : SR × PS, rdSt o L n a e r s = rdFin L n q ∧ RV L n (StP o L n (cX L n 15 A t).1 q.1) q.2 (cX L n 15 A t).2 := by
  have hn : ∀ v, dif 15 v = true → isW L a e v = false := fun v hv => isW_no hsw hv
  have hp : ∀ v, mtc2 15 v = true → isW L a e v = true := fun v hv => by rw [isW_sw hv]; exact hsw
  have hD : fDir o L n a e r s = (false, r, s) := noDir (fun v hv => hn v ((show ∀ v, v ∈ dirL → dif 15 v = true by decide +kernel) v hv))
  have hS : fSim L n a e r s = (true, (fShf L n 4096 (nI 1) (nI 32) r s).1, (fShf L n 4096 (nI 1) (nI 32) r s).2) := by
    unfold fSim
    rw [if_neg (by rw [hn 7237488 (by decide +kernel)]; decide), if_neg (by rw [hn 1836021363 (by decide +kernel)]; decide), if_neg (by rw [hn 6516080 (by decide +kernel)]; decide), if_neg (by rw [hn 1633969267 (by decide +kernel)]; decide), if_neg (by rw [hn 1937072755 (by decide +kernel)]; decide), if_neg (by rw [hn 1819503731 (by decide +kernel)]; decide), if_neg (by rw [hn 1819505267 (by decide +kernel)]; decide), if_pos (hp 1634955891 (by decide +kernel))]
  refine ⟨(fShf L n 4096 (nI 1) (nI 32) r s), by unfold rdSt; rw [if_neg hea, hD, if_neg (fun z => by cases z), hS, if_pos rfl], ?_⟩
  have hX : cX L n 15 A t = cIns L n 9 4096 1 A t := by
    unfold cX
    rw [show mnFn 15 = 9 by decide +kernel, show mnCn 15 = 4096 by decide +kernel, show mnXn 15 = 1 by decide +kernel, if_neg (by decide)]
  rw [hX]
  exact sP_pl (r := r) hA (rv_shift (c := 4096) (x := 1) h)
theorem disp_16 {o : Nat} {L : Nat → Nat} {n a e : Nat} {A : CR} {r : SR} {s : PS} {t : KS} (hA : BsA A) (h : OKs L n s t) (hea : e ≠ a) (hsw : swB L a e 16 = true) : ∃ q : SR × PS, rdSt o L n a e r s = rdFin L n q ∧ RV L n (StP o L n (cX L n 16 A t).1 q.1) q.2 (cX L n 16 A t).2 := by
  have hn : ∀ v, dif 16 v = true → isW L a e v = false := fun v hv => isW_no hsw hv
  have hp : ∀ v, mtc2 16 v = true → isW L a e v = true := fun v hv => by rw [isW_sw hv]; exact hsw
  have hD : fDir o L n a e r s = (false, r, s) := noDir (fun v hv => hn v ((show ∀ v, v ∈ dirL → dif 16 v = true by decide +kernel) v hv))
  have hS : fSim L n a e r s = (true, (fTwo L n 0 r s).1, (fTwo L n 0 r s).2) := by
    have hP : prN L a e = some 0 := by
      unfold prN
      rw [if_pos (hp 1634624627 (by decide +kernel))]
    unfold fSim
    rw [if_neg (by rw [hn 7237488 (by decide +kernel)]; decide), if_neg (by rw [hn 1836021363 (by decide +kernel)]; decide), if_neg (by rw [hn 6516080 (by decide +kernel)]; decide), if_neg (by rw [hn 1633969267 (by decide +kernel)]; decide), if_neg (by rw [hn 1937072755 (by decide +kernel)]; decide), if_neg (by rw [hn 1819503731 (by decide +kernel)]; decide), if_neg (by rw [hn 1819505267 (by decide +kernel)]; decide), if_neg (by rw [hn 1634955891 (by decide +kernel)]; decide)]
    simp only [hP]
  refine ⟨(fTwo L n 0 r s), by unfold rdSt; rw [if_neg hea, hD, if_neg (fun z => by cases z), hS, if_pos rfl], ?_⟩
  have hX : cX L n 16 A t = cIns L n 10 16384 0 A t := by
    unfold cX
    rw [show mnFn 16 = 10 by decide +kernel, show mnCn 16 = 16384 by decide +kernel, show mnXn 16 = 0 by decide +kernel, if_neg (by decide)]
  rw [hX]
  exact sP_pl (r := r) hA (rv_pair (c := 16384) (by decide) h)
theorem disp_17 {o : Nat} {L : Nat → Nat} {n a e : Nat} {A : CR} {r : SR} {s : PS} {t : KS} (hA : BsA A) (h : OKs L n s t) (hea : e ≠ a) (hsw : swB L a e 17 = true) : ∃ q : SR × PS, rdSt o L n a e r s = rdFin L n q ∧ RV L n (StP o L n (cX L n 17 A t).1 q.1) q.2 (cX L n 17 A t).2 := by
  have hn : ∀ v, dif 17 v = true → isW L a e v = false := fun v hv => isW_no hsw hv
  have hp : ∀ v, mtc2 17 v = true → isW L a e v = true := fun v hv => by rw [isW_sw hv]; exact hsw
  have hD : fDir o L n a e r s = (false, r, s) := noDir (fun v hv => hn v ((show ∀ v, v ∈ dirL → dif 17 v = true by decide +kernel) v hv))
  have hS : fSim L n a e r s = (true, (fTwo L n 1 r s).1, (fTwo L n 1 r s).2) := by
    have hP : prN L a e = some 1 := by
      unfold prN
      rw [if_neg (by rw [hn 1634624627 (by decide +kernel)]; decide), if_pos (hp 1701802611 (by decide +kernel))]
    unfold fSim
    rw [if_neg (by rw [hn 7237488 (by decide +kernel)]; decide), if_neg (by rw [hn 1836021363 (by decide +kernel)]; decide), if_neg (by rw [hn 6516080 (by decide +kernel)]; decide), if_neg (by rw [hn 1633969267 (by decide +kernel)]; decide), if_neg (by rw [hn 1937072755 (by decide +kernel)]; decide), if_neg (by rw [hn 1819503731 (by decide +kernel)]; decide), if_neg (by rw [hn 1819505267 (by decide +kernel)]; decide), if_neg (by rw [hn 1634955891 (by decide +kernel)]; decide)]
    simp only [hP]
  refine ⟨(fTwo L n 1 r s), by unfold rdSt; rw [if_neg hea, hD, if_neg (fun z => by cases z), hS, if_pos rfl], ?_⟩
  have hX : cX L n 17 A t = cIns L n 10 16448 0 A t := by
    unfold cX
    rw [show mnFn 17 = 10 by decide +kernel, show mnCn 17 = 16448 by decide +kernel, show mnXn 17 = 0 by decide +kernel, if_neg (by decide)]
  rw [hX]
  exact sP_pl (r := r) hA (rv_pair (c := 16448) (by decide) h)
theorem disp_18 {o : Nat} {L : Nat → Nat} {n a e : Nat} {A : CR} {r : SR} {s : PS} {t : KS} (hA : BsA A) (h : OKs L n s t) (hea : e ≠ a) (hsw : swB L a e 18 = true) : ∃ q : SR × PS, rdSt o L n a e r s = rdFin L n q ∧ RV L n (StP o L n (cX L n 18 A t).1 q.1) q.2 (cX L n 18 A t).2 := by
  have hn : ∀ v, dif 18 v = true → isW L a e v = false := fun v hv => isW_no hsw hv
  have hp : ∀ v, mtc2 18 v = true → isW L a e v = true := fun v hv => by rw [isW_sw hv]; exact hsw
  have hD : fDir o L n a e r s = (false, r, s) := noDir (fun v hv => hn v ((show ∀ v, v ∈ dirL → dif 18 v = true by decide +kernel) v hv))
  have hS : fSim L n a e r s = (true, (fTwo L n 5 r s).1, (fTwo L n 5 r s).2) := by
    have hP : prN L a e = some 5 := by
      unfold prN
      rw [if_neg (by rw [hn 1634624627 (by decide +kernel)]; decide), if_neg (by rw [hn 1701802611 (by decide +kernel)]; decide), if_pos (hp 1633969011 (by decide +kernel))]
    unfold fSim
    rw [if_neg (by rw [hn 7237488 (by decide +kernel)]; decide), if_neg (by rw [hn 1836021363 (by decide +kernel)]; decide), if_neg (by rw [hn 6516080 (by decide +kernel)]; decide), if_neg (by rw [hn 1633969267 (by decide +kernel)]; decide), if_neg (by rw [hn 1937072755 (by decide +kernel)]; decide), if_neg (by rw [hn 1819503731 (by decide +kernel)]; decide), if_neg (by rw [hn 1819505267 (by decide +kernel)]; decide), if_neg (by rw [hn 1634955891 (by decide +kernel)]; decide)]
    simp only [hP]
  refine ⟨(fTwo L n 5 r s), by unfold rdSt; rw [if_neg hea, hD, if_neg (fun z => by cases z), hS, if_pos rfl], ?_⟩
  have hX : cX L n 18 A t = cIns L n 10 16704 0 A t := by
    unfold cX
    rw [show mnFn 18 = 10 by decide +kernel, show mnCn 18 = 16704 by decide +kernel, show mnXn 18 = 0 by decide +kernel, if_neg (by decide)]
  rw [hX]
  exact sP_pl (r := r) hA (rv_pair (c := 16704) (by decide) h)
theorem disp_19 {o : Nat} {L : Nat → Nat} {n a e : Nat} {A : CR} {r : SR} {s : PS} {t : KS} (hA : BsA A) (h : OKs L n s t) (hea : e ≠ a) (hsw : swB L a e 19 = true) : ∃ q : SR × PS, rdSt o L n a e r s = rdFin L n q ∧ RV L n (StP o L n (cX L n 19 A t).1 q.1) q.2 (cX L n 19 A t).2 := by
  have hn : ∀ v, dif 19 v = true → isW L a e v = false := fun v hv => isW_no hsw hv
  have hp : ∀ v, mtc2 19 v = true → isW L a e v = true := fun v hv => by rw [isW_sw hv]; exact hsw
  have hD : fDir o L n a e r s = (false, r, s) := noDir (fun v hv => hn v ((show ∀ v, v ∈ dirL → dif 19 v = true by decide +kernel) v hv))
  have hS : fSim L n a e r s = (true, (fTwo L n 6 r s).1, (fTwo L n 6 r s).2) := by
    have hP : prN L a e = some 6 := by
      unfold prN
      rw [if_neg (by rw [hn 1634624627 (by decide +kernel)]; decide), if_neg (by rw [hn 1701802611 (by decide +kernel)]; decide), if_neg (by rw [hn 1633969011 (by decide +kernel)]; decide), if_pos (hp 1935827827 (by decide +kernel))]
    unfold fSim
    rw [if_neg (by rw [hn 7237488 (by decide +kernel)]; decide), if_neg (by rw [hn 1836021363 (by decide +kernel)]; decide), if_neg (by rw [hn 6516080 (by decide +kernel)]; decide), if_neg (by rw [hn 1633969267 (by decide +kernel)]; decide), if_neg (by rw [hn 1937072755 (by decide +kernel)]; decide), if_neg (by rw [hn 1819503731 (by decide +kernel)]; decide), if_neg (by rw [hn 1819505267 (by decide +kernel)]; decide), if_neg (by rw [hn 1634955891 (by decide +kernel)]; decide)]
    simp only [hP]
  refine ⟨(fTwo L n 6 r s), by unfold rdSt; rw [if_neg hea, hD, if_neg (fun z => by cases z), hS, if_pos rfl], ?_⟩
  have hX : cX L n 19 A t = cIns L n 10 16768 0 A t := by
    unfold cX
    rw [show mnFn 19 = 10 by decide +kernel, show mnCn 19 = 16768 by decide +kernel, show mnXn 19 = 0 by decide +kernel, if_neg (by decide)]
  rw [hX]
  exact sP_pl (r := r) hA (rv_pair (c := 16768) (by decide) h)
theorem disp_20 {o : Nat} {L : Nat → Nat} {n a e : Nat} {A : CR} {r : SR} {s : PS} {t : KS} (hA : BsA A) (h : OKs L n s t) (hea : e ≠ a) (hsw : swB L a e 20 = true) : ∃ q : SR × PS, rdSt o L n a e r s = rdFin L n q ∧ RV L n (StP o L n (cX L n 20 A t).1 q.1) q.2 (cX L n 20 A t).2 := by
  have hn : ∀ v, dif 20 v = true → isW L a e v = false := fun v hv => isW_no hsw hv
  have hp : ∀ v, mtc2 20 v = true → isW L a e v = true := fun v hv => by rw [isW_sw hv]; exact hsw
  have hD : fDir o L n a e r s = (false, r, s) := noDir (fun v hv => hn v ((show ∀ v, v ∈ dirL → dif 20 v = true by decide +kernel) v hv))
  have hS : fSim L n a e r s = (true, (fTwo L n 8 r s).1, (fTwo L n 8 r s).2) := by
    have hP : prN L a e = some 8 := by
      unfold prN
      rw [if_neg (by rw [hn 1634624627 (by decide +kernel)]; decide), if_neg (by rw [hn 1701802611 (by decide +kernel)]; decide), if_neg (by rw [hn 1633969011 (by decide +kernel)]; decide), if_neg (by rw [hn 1935827827 (by decide +kernel)]; decide), if_pos (hp 7631732 (by decide +kernel))]
    unfold fSim
    rw [if_neg (by rw [hn 7237488 (by decide +kernel)]; decide), if_neg (by rw [hn 1836021363 (by decide +kernel)]; decide), if_neg (by rw [hn 6516080 (by decide +kernel)]; decide), if_neg (by rw [hn 1633969267 (by decide +kernel)]; decide), if_neg (by rw [hn 1937072755 (by decide +kernel)]; decide), if_neg (by rw [hn 1819503731 (by decide +kernel)]; decide), if_neg (by rw [hn 1819505267 (by decide +kernel)]; decide), if_neg (by rw [hn 1634955891 (by decide +kernel)]; decide)]
    simp only [hP]
  refine ⟨(fTwo L n 8 r s), by unfold rdSt; rw [if_neg hea, hD, if_neg (fun z => by cases z), hS, if_pos rfl], ?_⟩
  have hX : cX L n 20 A t = cIns L n 10 16896 0 A t := by
    unfold cX
    rw [show mnFn 20 = 10 by decide +kernel, show mnCn 20 = 16896 by decide +kernel, show mnXn 20 = 0 by decide +kernel, if_neg (by decide)]
  rw [hX]
  exact sP_pl (r := r) hA (rv_pair (c := 16896) (by decide) h)
theorem disp_21 {o : Nat} {L : Nat → Nat} {n a e : Nat} {A : CR} {r : SR} {s : PS} {t : KS} (hA : BsA A) (h : OKs L n s t) (hea : e ≠ a) (hsw : swB L a e 21 = true) : ∃ q : SR × PS, rdSt o L n a e r s = rdFin L n q ∧ RV L n (StP o L n (cX L n 21 A t).1 q.1) q.2 (cX L n 21 A t).2 := by
  have hn : ∀ v, dif 21 v = true → isW L a e v = false := fun v hv => isW_no hsw hv
  have hp : ∀ v, mtc2 21 v = true → isW L a e v = true := fun v hv => by rw [isW_sw hv]; exact hsw
  have hD : fDir o L n a e r s = (false, r, s) := noDir (fun v hv => hn v ((show ∀ v, v ∈ dirL → dif 21 v = true by decide +kernel) v hv))
  have hS : fSim L n a e r s = (true, (fTwo L n 9 r s).1, (fTwo L n 9 r s).2) := by
    have hP : prN L a e = some 9 := by
      unfold prN
      rw [if_neg (by rw [hn 1634624627 (by decide +kernel)]; decide), if_neg (by rw [hn 1701802611 (by decide +kernel)]; decide), if_neg (by rw [hn 1633969011 (by decide +kernel)]; decide), if_neg (by rw [hn 1935827827 (by decide +kernel)]; decide), if_neg (by rw [hn 7631732 (by decide +kernel)]; decide), if_pos (hp 1852139379 (by decide +kernel))]
    unfold fSim
    rw [if_neg (by rw [hn 7237488 (by decide +kernel)]; decide), if_neg (by rw [hn 1836021363 (by decide +kernel)]; decide), if_neg (by rw [hn 6516080 (by decide +kernel)]; decide), if_neg (by rw [hn 1633969267 (by decide +kernel)]; decide), if_neg (by rw [hn 1937072755 (by decide +kernel)]; decide), if_neg (by rw [hn 1819503731 (by decide +kernel)]; decide), if_neg (by rw [hn 1819505267 (by decide +kernel)]; decide), if_neg (by rw [hn 1634955891 (by decide +kernel)]; decide)]
    simp only [hP]
  refine ⟨(fTwo L n 9 r s), by unfold rdSt; rw [if_neg hea, hD, if_neg (fun z => by cases z), hS, if_pos rfl], ?_⟩
  have hX : cX L n 21 A t = cIns L n 10 16960 0 A t := by
    unfold cX
    rw [show mnFn 21 = 10 by decide +kernel, show mnCn 21 = 16960 by decide +kernel, show mnXn 21 = 0 by decide +kernel, if_neg (by decide)]
  rw [hX]
  exact sP_pl (r := r) hA (rv_pair (c := 16960) (by decide) h)
theorem disp_22 {o : Nat} {L : Nat → Nat} {n a e : Nat} {A : CR} {r : SR} {s : PS} {t : KS} (hA : BsA A) (h : OKs L n s t) (hea : e ≠ a) (hsw : swB L a e 22 = true) : ∃ q : SR × PS, rdSt o L n a e r s = rdFin L n q ∧ RV L n (StP o L n (cX L n 22 A t).1 q.1) q.2 (cX L n 22 A t).2 := by
  have hn : ∀ v, dif 22 v = true → isW L a e v = false := fun v hv => isW_no hsw hv
  have hp : ∀ v, mtc2 22 v = true → isW L a e v = true := fun v hv => by rw [isW_sw hv]; exact hsw
  have hD : fDir o L n a e r s = (false, r, s) := noDir (fun v hv => hn v ((show ∀ v, v ∈ dirL → dif 22 v = true by decide +kernel) v hv))
  have hS : fSim L n a e r s = (true, (fTwo L n 12 r s).1, (fTwo L n 12 r s).2) := by
    have hP : prN L a e = some 12 := by
      unfold prN
      rw [if_neg (by rw [hn 1634624627 (by decide +kernel)]; decide), if_neg (by rw [hn 1701802611 (by decide +kernel)]; decide), if_neg (by rw [hn 1633969011 (by decide +kernel)]; decide), if_neg (by rw [hn 1935827827 (by decide +kernel)]; decide), if_neg (by rw [hn 7631732 (by decide +kernel)]; decide), if_neg (by rw [hn 1852139379 (by decide +kernel)]; decide), if_pos (hp 1869771379 (by decide +kernel))]
    unfold fSim
    rw [if_neg (by rw [hn 7237488 (by decide +kernel)]; decide), if_neg (by rw [hn 1836021363 (by decide +kernel)]; decide), if_neg (by rw [hn 6516080 (by decide +kernel)]; decide), if_neg (by rw [hn 1633969267 (by decide +kernel)]; decide), if_neg (by rw [hn 1937072755 (by decide +kernel)]; decide), if_neg (by rw [hn 1819503731 (by decide +kernel)]; decide), if_neg (by rw [hn 1819505267 (by decide +kernel)]; decide), if_neg (by rw [hn 1634955891 (by decide +kernel)]; decide)]
    simp only [hP]
  refine ⟨(fTwo L n 12 r s), by unfold rdSt; rw [if_neg hea, hD, if_neg (fun z => by cases z), hS, if_pos rfl], ?_⟩
  have hX : cX L n 22 A t = cIns L n 10 17152 0 A t := by
    unfold cX
    rw [show mnFn 22 = 10 by decide +kernel, show mnCn 22 = 17152 by decide +kernel, show mnXn 22 = 0 by decide +kernel, if_neg (by decide)]
  rw [hX]
  exact sP_pl (r := r) hA (rv_pair (c := 17152) (by decide) h)
theorem disp_23 {o : Nat} {L : Nat → Nat} {n a e : Nat} {A : CR} {r : SR} {s : PS} {t : KS} (hA : BsA A) (h : OKs L n s t) (hea : e ≠ a) (hsw : swB L a e 23 = true) : ∃ q : SR × PS, rdSt o L n a e r s = rdFin L n q ∧ RV L n (StP o L n (cX L n 23 A t).1 q.1) q.2 (cX L n 23 A t).2 := by
  have hn : ∀ v, dif 23 v = true → isW L a e v = false := fun v hv => isW_no hsw hv
  have hp : ∀ v, mtc2 23 v = true → isW L a e v = true := fun v hv => by rw [isW_sw hv]; exact hsw
  have hD : fDir o L n a e r s = (false, r, s) := noDir (fun v hv => hn v ((show ∀ v, v ∈ dirL → dif 23 v = true by decide +kernel) v hv))
  have hS : fSim L n a e r s = (true, (fTwo L n 13 r s).1, (fTwo L n 13 r s).2) := by
    have hP : prN L a e = some 13 := by
      unfold prN
      rw [if_neg (by rw [hn 1634624627 (by decide +kernel)]; decide), if_neg (by rw [hn 1701802611 (by decide +kernel)]; decide), if_neg (by rw [hn 1633969011 (by decide +kernel)]; decide), if_neg (by rw [hn 1935827827 (by decide +kernel)]; decide), if_neg (by rw [hn 7631732 (by decide +kernel)]; decide), if_neg (by rw [hn 1852139379 (by decide +kernel)]; decide), if_neg (by rw [hn 1869771379 (by decide +kernel)]; decide), if_pos (hp 1836412019 (by decide +kernel))]
    unfold fSim
    rw [if_neg (by rw [hn 7237488 (by decide +kernel)]; decide), if_neg (by rw [hn 1836021363 (by decide +kernel)]; decide), if_neg (by rw [hn 6516080 (by decide +kernel)]; decide), if_neg (by rw [hn 1633969267 (by decide +kernel)]; decide), if_neg (by rw [hn 1937072755 (by decide +kernel)]; decide), if_neg (by rw [hn 1819503731 (by decide +kernel)]; decide), if_neg (by rw [hn 1819505267 (by decide +kernel)]; decide), if_neg (by rw [hn 1634955891 (by decide +kernel)]; decide)]
    simp only [hP]
  refine ⟨(fTwo L n 13 r s), by unfold rdSt; rw [if_neg hea, hD, if_neg (fun z => by cases z), hS, if_pos rfl], ?_⟩
  have hX : cX L n 23 A t = cIns L n 10 17216 0 A t := by
    unfold cX
    rw [show mnFn 23 = 10 by decide +kernel, show mnCn 23 = 17216 by decide +kernel, show mnXn 23 = 0 by decide +kernel, if_neg (by decide)]
  rw [hX]
  exact sP_pl (r := r) hA (rv_pair (c := 17216) (by decide) h)
theorem disp_24 {o : Nat} {L : Nat → Nat} {n a e : Nat} {A : CR} {r : SR} {s : PS} {t : KS} (hA : BsA A) (h : OKs L n s t) (hea : e ≠ a) (hsw : swB L a e 24 = true) : ∃ q : SR × PS, rdSt o L n a e r s = rdFin L n q ∧ RV L n (StP o L n (cX L n 24 A t).1 q.1) q.2 (cX L n 24 A t).2 := by
  have hn : ∀ v, dif 24 v = true → isW L a e v = false := fun v hv => isW_no hsw hv
  have hp : ∀ v, mtc2 24 v = true → isW L a e v = true := fun v hv => by rw [isW_sw hv]; exact hsw
  have hD : fDir o L n a e r s = (false, r, s) := noDir (fun v hv => hn v ((show ∀ v, v ∈ dirL → dif 24 v = true by decide +kernel) v hv))
  have hS : fSim L n a e r s = (true, (fTwo L n 14 r s).1, (fTwo L n 14 r s).2) := by
    have hP : prN L a e = some 14 := by
      unfold prN
      rw [if_neg (by rw [hn 1634624627 (by decide +kernel)]; decide), if_neg (by rw [hn 1701802611 (by decide +kernel)]; decide), if_neg (by rw [hn 1633969011 (by decide +kernel)]; decide), if_neg (by rw [hn 1935827827 (by decide +kernel)]; decide), if_neg (by rw [hn 7631732 (by decide +kernel)]; decide), if_neg (by rw [hn 1852139379 (by decide +kernel)]; decide), if_neg (by rw [hn 1869771379 (by decide +kernel)]; decide), if_neg (by rw [hn 1836412019 (by decide +kernel)]; decide), if_pos (hp 1651073907 (by decide +kernel))]
    unfold fSim
    rw [if_neg (by rw [hn 7237488 (by decide +kernel)]; decide), if_neg (by rw [hn 1836021363 (by decide +kernel)]; decide), if_neg (by rw [hn 6516080 (by decide +kernel)]; decide), if_neg (by rw [hn 1633969267 (by decide +kernel)]; decide), if_neg (by rw [hn 1937072755 (by decide +kernel)]; decide), if_neg (by rw [hn 1819503731 (by decide +kernel)]; decide), if_neg (by rw [hn 1819505267 (by decide +kernel)]; decide), if_neg (by rw [hn 1634955891 (by decide +kernel)]; decide)]
    simp only [hP]
  refine ⟨(fTwo L n 14 r s), by unfold rdSt; rw [if_neg hea, hD, if_neg (fun z => by cases z), hS, if_pos rfl], ?_⟩
  have hX : cX L n 24 A t = cIns L n 10 17280 0 A t := by
    unfold cX
    rw [show mnFn 24 = 10 by decide +kernel, show mnCn 24 = 17280 by decide +kernel, show mnXn 24 = 0 by decide +kernel, if_neg (by decide)]
  rw [hX]
  exact sP_pl (r := r) hA (rv_pair (c := 17280) (by decide) h)
theorem disp_25 {o : Nat} {L : Nat → Nat} {n a e : Nat} {A : CR} {r : SR} {s : PS} {t : KS} (hA : BsA A) (h : OKs L n s t) (hea : e ≠ a) (hsw : swB L a e 25 = true) : ∃ q : SR × PS, rdSt o L n a e r s = rdFin L n q ∧ RV L n (StP o L n (cX L n 25 A t).1 q.1) q.2 (cX L n 25 A t).2 := by
  have hn : ∀ v, dif 25 v = true → isW L a e v = false := fun v hv => isW_no hsw hv
  have hp : ∀ v, mtc2 25 v = true → isW L a e v = true := fun v hv => by rw [isW_sw hv]; exact hsw
  have hD : fDir o L n a e r s = (false, r, s) := noDir (fun v hv => hn v ((show ∀ v, v ∈ dirL → dif 25 v = true by decide +kernel) v hv))
  have hS : fSim L n a e r s = (true, (fTwo L n 15 r s).1, (fTwo L n 15 r s).2) := by
    have hP : prN L a e = some 15 := by
      unfold prN
      rw [if_neg (by rw [hn 1634624627 (by decide +kernel)]; decide), if_neg (by rw [hn 1701802611 (by decide +kernel)]; decide), if_neg (by rw [hn 1633969011 (by decide +kernel)]; decide), if_neg (by rw [hn 1935827827 (by decide +kernel)]; decide), if_neg (by rw [hn 7631732 (by decide +kernel)]; decide), if_neg (by rw [hn 1852139379 (by decide +kernel)]; decide), if_neg (by rw [hn 1869771379 (by decide +kernel)]; decide), if_neg (by rw [hn 1836412019 (by decide +kernel)]; decide), if_neg (by rw [hn 1651073907 (by decide +kernel)]; decide), if_pos (hp 1836478067 (by decide +kernel))]
    unfold fSim
    rw [if_neg (by rw [hn 7237488 (by decide +kernel)]; decide), if_neg (by rw [hn 1836021363 (by decide +kernel)]; decide), if_neg (by rw [hn 6516080 (by decide +kernel)]; decide), if_neg (by rw [hn 1633969267 (by decide +kernel)]; decide), if_neg (by rw [hn 1937072755 (by decide +kernel)]; decide), if_neg (by rw [hn 1819503731 (by decide +kernel)]; decide), if_neg (by rw [hn 1819505267 (by decide +kernel)]; decide), if_neg (by rw [hn 1634955891 (by decide +kernel)]; decide)]
    simp only [hP]
  refine ⟨(fTwo L n 15 r s), by unfold rdSt; rw [if_neg hea, hD, if_neg (fun z => by cases z), hS, if_pos rfl], ?_⟩
  have hX : cX L n 25 A t = cIns L n 10 17344 0 A t := by
    unfold cX
    rw [show mnFn 25 = 10 by decide +kernel, show mnCn 25 = 17344 by decide +kernel, show mnXn 25 = 0 by decide +kernel, if_neg (by decide)]
  rw [hX]
  exact sP_pl (r := r) hA (rv_pair (c := 17344) (by decide) h)
theorem disp_26 {o : Nat} {L : Nat → Nat} {n a e : Nat} {A : CR} {r : SR} {s : PS} {t : KS} (hA : BsA A) (h : OKs L n s t) (hea : e ≠ a) (hsw : swB L a e 26 = true) : ∃ q : SR × PS, rdSt o L n a e r s = rdFin L n q ∧ RV L n (StP o L n (cX L n 26 A t).1 q.1) q.2 (cX L n 26 A t).2 := by
  have hn : ∀ v, dif 26 v = true → isW L a e v = false := fun v hv => isW_no hsw hv
  have hp : ∀ v, mtc2 26 v = true → isW L a e v = true := fun v hv => by rw [isW_sw hv]; exact hsw
  have hD : fDir o L n a e r s = (false, r, s) := noDir (fun v hv => hn v ((show ∀ v, v ∈ dirL → dif 26 v = true by decide +kernel) v hv))
  have hS : fSim L n a e r s = (false, r, s) := noSim (fun v hv => hn v ((show ∀ v, v ∈ simL → dif 26 v = true by decide +kernel) v hv))
  have hO : fOth o L n a e r s = (true, (fMem o L n 26624 4 true r s).1, (fMem o L n 26624 4 true r s).2) := by
    unfold fOth
    rw [if_pos (hp 7103602 (by decide +kernel))]
  refine ⟨(fMem o L n 26624 4 true r s), by unfold rdSt; rw [if_neg hea, hD, if_neg (fun z => by cases z), hS, if_neg (fun z => by cases z), hO, if_pos rfl], ?_⟩
  have hX : cX L n 26 A t = cIns L n 11 26624 18432 A t := by
    unfold cX
    rw [show mnFn 26 = 11 by decide +kernel, show mnCn 26 = 26624 by decide +kernel, show mnXn 26 = 18432 by decide +kernel, if_neg (by decide)]
  rw [hX]
  exact sP_ld hA h
theorem disp_27 {o : Nat} {L : Nat → Nat} {n a e : Nat} {A : CR} {r : SR} {s : PS} {t : KS} (hA : BsA A) (h : OKs L n s t) (hea : e ≠ a) (hsw : swB L a e 27 = true) : ∃ q : SR × PS, rdSt o L n a e r s = rdFin L n q ∧ RV L n (StP o L n (cX L n 27 A t).1 q.1) q.2 (cX L n 27 A t).2 := by
  have hn : ∀ v, dif 27 v = true → isW L a e v = false := fun v hv => isW_no hsw hv
  have hp : ∀ v, mtc2 27 v = true → isW L a e v = true := fun v hv => by rw [isW_sw hv]; exact hsw
  have hD : fDir o L n a e r s = (false, r, s) := noDir (fun v hv => hn v ((show ∀ v, v ∈ dirL → dif 27 v = true by decide +kernel) v hv))
  have hS : fSim L n a e r s = (false, r, s) := noSim (fun v hv => hn v ((show ∀ v, v ∈ simL → dif 27 v = true by decide +kernel) v hv))
  have hO : fOth o L n a e r s = (true, (fMem o L n 24576 4 false r s).1, (fMem o L n 24576 4 false r s).2) := by
    unfold fOth
    rw [if_neg (by rw [hn 7103602 (by decide +kernel)]; decide), if_pos (hp 7566450 (by decide +kernel))]
  refine ⟨(fMem o L n 24576 4 false r s), by unfold rdSt; rw [if_neg hea, hD, if_neg (fun z => by cases z), hS, if_neg (fun z => by cases z), hO, if_pos rfl], ?_⟩
  have hX : cX L n 27 A t = cIns L n 12 24576 2 A t := by
    unfold cX
    rw [show mnFn 27 = 12 by decide +kernel, show mnCn 27 = 24576 by decide +kernel, show mnXn 27 = 2 by decide +kernel, if_neg (by decide)]
  rw [hX]
  exact sP_mem (fr := 24576) (sh := 2) hA (Or.inr ⟨rfl, rfl⟩) h
theorem disp_28 {o : Nat} {L : Nat → Nat} {n a e : Nat} {A : CR} {r : SR} {s : PS} {t : KS} (hA : BsA A) (h : OKs L n s t) (hea : e ≠ a) (hsw : swB L a e 28 = true) : ∃ q : SR × PS, rdSt o L n a e r s = rdFin L n q ∧ RV L n (StP o L n (cX L n 28 A t).1 q.1) q.2 (cX L n 28 A t).2 := by
  have hn : ∀ v, dif 28 v = true → isW L a e v = false := fun v hv => isW_no hsw hv
  have hp : ∀ v, mtc2 28 v = true → isW L a e v = true := fun v hv => by rw [isW_sw hv]; exact hsw
  have hD : fDir o L n a e r s = (false, r, s) := noDir (fun v hv => hn v ((show ∀ v, v ∈ dirL → dif 28 v = true by decide +kernel) v hv))
  have hS : fSim L n a e r s = (false, r, s) := noSim (fun v hv => hn v ((show ∀ v, v ∈ simL → dif 28 v = true by decide +kernel) v hv))
  have hO : fOth o L n a e r s = (true, (fMem o L n 30720 1 false r s).1, (fMem o L n 30720 1 false r s).2) := by
    unfold fOth
    rw [if_neg (by rw [hn 7103602 (by decide +kernel)]; decide), if_neg (by rw [hn 7566450 (by decide +kernel)]; decide), if_pos (hp 1818522210 (by decide +kernel))]
  refine ⟨(fMem o L n 30720 1 false r s), by unfold rdSt; rw [if_neg hea, hD, if_neg (fun z => by cases z), hS, if_neg (fun z => by cases z), hO, if_pos rfl], ?_⟩
  have hX : cX L n 28 A t = cIns L n 12 30720 0 A t := by
    unfold cX
    rw [show mnFn 28 = 12 by decide +kernel, show mnCn 28 = 30720 by decide +kernel, show mnXn 28 = 0 by decide +kernel, if_neg (by decide)]
  rw [hX]
  exact sP_mem (fr := 30720) (sh := 0) hA (Or.inl ⟨rfl, rfl⟩) h
theorem disp_29 {o : Nat} {L : Nat → Nat} {n a e : Nat} {A : CR} {r : SR} {s : PS} {t : KS} (hA : BsA A) (h : OKs L n s t) (hea : e ≠ a) (hsw : swB L a e 29 = true) : ∃ q : SR × PS, rdSt o L n a e r s = rdFin L n q ∧ RV L n (StP o L n (cX L n 29 A t).1 q.1) q.2 (cX L n 29 A t).2 := by
  have hn : ∀ v, dif 29 v = true → isW L a e v = false := fun v hv => isW_no hsw hv
  have hp : ∀ v, mtc2 29 v = true → isW L a e v = true := fun v hv => by rw [isW_sw hv]; exact hsw
  have hD : fDir o L n a e r s = (false, r, s) := noDir (fun v hv => hn v ((show ∀ v, v ∈ dirL → dif 29 v = true by decide +kernel) v hv))
  have hS : fSim L n a e r s = (false, r, s) := noSim (fun v hv => hn v ((show ∀ v, v ∈ simL → dif 29 v = true by decide +kernel) v hv))
  have hO : fOth o L n a e r s = (true, (fMem o L n 28672 1 false r s).1, (fMem o L n 28672 1 false r s).2) := by
    unfold fOth
    rw [if_neg (by rw [hn 7103602 (by decide +kernel)]; decide), if_neg (by rw [hn 7566450 (by decide +kernel)]; decide), if_neg (by rw [hn 1818522210 (by decide +kernel)]; decide), if_pos (hp 1937011298 (by decide +kernel))]
  refine ⟨(fMem o L n 28672 1 false r s), by unfold rdSt; rw [if_neg hea, hD, if_neg (fun z => by cases z), hS, if_neg (fun z => by cases z), hO, if_pos rfl], ?_⟩
  have hX : cX L n 29 A t = cIns L n 12 28672 0 A t := by
    unfold cX
    rw [show mnFn 29 = 12 by decide +kernel, show mnCn 29 = 28672 by decide +kernel, show mnXn 29 = 0 by decide +kernel, if_neg (by decide)]
  rw [hX]
  exact sP_mem (fr := 28672) (sh := 0) hA (Or.inl ⟨rfl, rfl⟩) h
theorem disp_30 {o : Nat} {L : Nat → Nat} {n a e : Nat} {A : CR} {r : SR} {s : PS} {t : KS} (hA : BsA A) (h : OKs L n s t) (hea : e ≠ a) (hsw : swB L a e 30 = true) : ∃ q : SR × PS, rdSt o L n a e r s = rdFin L n q ∧ RV L n (StP o L n (cX L n 30 A t).1 q.1) q.2 (cX L n 30 A t).2 := by
  have hn : ∀ v, dif 30 v = true → isW L a e v = false := fun v hv => isW_no hsw hv
  have hp : ∀ v, mtc2 30 v = true → isW L a e v = true := fun v hv => by rw [isW_sw hv]; exact hsw
  have hD : fDir o L n a e r s = (false, r, s) := noDir (fun v hv => hn v ((show ∀ v, v ∈ dirL → dif 30 v = true by decide +kernel) v hv))
  have hS : fSim L n a e r s = (false, r, s) := noSim (fun v hv => hn v ((show ∀ v, v ∈ simL → dif 30 v = true by decide +kernel) v hv))
  have hO : fOth o L n a e r s = (true, (fLst L n 46080 27762 r s).1, (fLst L n 46080 27762 r s).2) := by
    unfold fOth
    rw [if_neg (by rw [hn 7103602 (by decide +kernel)]; decide), if_neg (by rw [hn 7566450 (by decide +kernel)]; decide), if_neg (by rw [hn 1818522210 (by decide +kernel)]; decide), if_neg (by rw [hn 1937011298 (by decide +kernel)]; decide), if_pos (hp 1886745448 (by decide +kernel))]
  refine ⟨(fLst L n 46080 27762 r s), by unfold rdSt; rw [if_neg hea, hD, if_neg (fun z => by cases z), hS, if_neg (fun z => by cases z), hO, if_pos rfl], ?_⟩
  have hX : cX L n 30 A t = cIns L n 13 46080 0 A t := by
    unfold cX
    rw [show mnFn 30 = 13 by decide +kernel, show mnCn 30 = 46080 by decide +kernel, show mnXn 30 = 0 by decide +kernel, if_neg (by decide)]
  rw [hX]
  exact sP_pl (r := r) hA (rv_list (j := 49) (fr := 46080) (by decide) (by decide +kernel) h)
theorem disp_31 {o : Nat} {L : Nat → Nat} {n a e : Nat} {A : CR} {r : SR} {s : PS} {t : KS} (hA : BsA A) (h : OKs L n s t) (hea : e ≠ a) (hsw : swB L a e 31 = true) : ∃ q : SR × PS, rdSt o L n a e r s = rdFin L n q ∧ RV L n (StP o L n (cX L n 31 A t).1 q.1) q.2 (cX L n 31 A t).2 := by
  have hn : ∀ v, dif 31 v = true → isW L a e v = false := fun v hv => isW_no hsw hv
  have hp : ∀ v, mtc2 31 v = true → isW L a e v = true := fun v hv => by rw [isW_sw hv]; exact hsw
  have hD : fDir o L n a e r s = (false, r, s) := noDir (fun v hv => hn v ((show ∀ v, v ∈ dirL → dif 31 v = true by decide +kernel) v hv))
  have hS : fSim L n a e r s = (false, r, s) := noSim (fun v hv => hn v ((show ∀ v, v ∈ simL → dif 31 v = true by decide +kernel) v hv))
  have hO : fOth o L n a e r s = (true, (fLst L n 48128 28771 r s).1, (fLst L n 48128 28771 r s).2) := by
    unfold fOth
    rw [if_neg (by rw [hn 7103602 (by decide +kernel)]; decide), if_neg (by rw [hn 7566450 (by decide +kernel)]; decide), if_neg (by rw [hn 1818522210 (by decide +kernel)]; decide), if_neg (by rw [hn 1937011298 (by decide +kernel)]; decide), if_neg (by rw [hn 1886745448 (by decide +kernel)]; decide), if_pos (hp 7368560 (by decide +kernel))]
  refine ⟨(fLst L n 48128 28771 r s), by unfold rdSt; rw [if_neg hea, hD, if_neg (fun z => by cases z), hS, if_neg (fun z => by cases z), hO, if_pos rfl], ?_⟩
  have hX : cX L n 31 A t = cIns L n 14 48128 0 A t := by
    unfold cX
    rw [show mnFn 31 = 14 by decide +kernel, show mnCn 31 = 48128 by decide +kernel, show mnXn 31 = 0 by decide +kernel, if_neg (by decide)]
  rw [hX]
  exact sP_pl (r := r) hA (rv_list (j := 50) (fr := 48128) (by decide) (by decide +kernel) h)
theorem disp_32 {o : Nat} {L : Nat → Nat} {n a e : Nat} {A : CR} {r : SR} {s : PS} {t : KS} (hA : BsA A) (h : OKs L n s t) (hea : e ≠ a) (hsw : swB L a e 32 = true) : ∃ q : SR × PS, rdSt o L n a e r s = rdFin L n q ∧ RV L n (StP o L n (cX L n 32 A t).1 q.1) q.2 (cX L n 32 A t).2 := by
  have hn : ∀ v, dif 32 v = true → isW L a e v = false := fun v hv => isW_no hsw hv
  have hp : ∀ v, mtc2 32 v = true → isW L a e v = true := fun v hv => by rw [isW_sw hv]; exact hsw
  have hD : fDir o L n a e r s = (false, r, s) := noDir (fun v hv => hn v ((show ∀ v, v ∈ dirL → dif 32 v = true by decide +kernel) v hv))
  have hS : fSim L n a e r s = (false, r, s) := noSim (fun v hv => hn v ((show ∀ v, v ∈ simL → dif 32 v = true by decide +kernel) v hv))
  have hO : fOth o L n a e r s = (true, (fJmp o L n (nI 11) (nI 57344) r s).1, (fJmp o L n (nI 11) (nI 57344) r s).2) := by
    unfold fOth
    rw [if_neg (by rw [hn 7103602 (by decide +kernel)]; decide), if_neg (by rw [hn 7566450 (by decide +kernel)]; decide), if_neg (by rw [hn 1818522210 (by decide +kernel)]; decide), if_neg (by rw [hn 1937011298 (by decide +kernel)]; decide), if_neg (by rw [hn 1886745448 (by decide +kernel)]; decide), if_neg (by rw [hn 7368560 (by decide +kernel)]; decide), if_pos (hp 98 (by decide +kernel))]
  refine ⟨(fJmp o L n (nI 11) (nI 57344) r s), by unfold rdSt; rw [if_neg hea, hD, if_neg (fun z => by cases z), hS, if_neg (fun z => by cases z), hO, if_pos rfl], ?_⟩
  have hX : cX L n 32 A t = cIns L n 15 57344 1 A t := by
    unfold cX
    rw [show mnFn 32 = 15 by decide +kernel, show mnCn 32 = 57344 by decide +kernel, show mnXn 32 = 1 by decide +kernel, if_neg (by decide)]
  rw [hX]
  exact sP_go1 (c := 57344) h
theorem disp_33 {o : Nat} {L : Nat → Nat} {n a e : Nat} {A : CR} {r : SR} {s : PS} {t : KS} (hA : BsA A) (h : OKs L n s t) (hea : e ≠ a) (hsw : swB L a e 33 = true) : ∃ q : SR × PS, rdSt o L n a e r s = rdFin L n q ∧ RV L n (StP o L n (cX L n 33 A t).1 q.1) q.2 (cX L n 33 A t).2 := by
  have hn : ∀ v, dif 33 v = true → isW L a e v = false := fun v hv => isW_no hsw hv
  have hp : ∀ v, mtc2 33 v = true → isW L a e v = true := fun v hv => by rw [isW_sw hv]; exact hsw
  have hD : fDir o L n a e r s = (false, r, s) := noDir (fun v hv => hn v ((show ∀ v, v ∈ dirL → dif 33 v = true by decide +kernel) v hv))
  have hS : fSim L n a e r s = (false, r, s) := noSim (fun v hv => hn v ((show ∀ v, v ∈ simL → dif 33 v = true by decide +kernel) v hv))
  have hO : fOth o L n a e r s = (true, (fJmp o L n (nI 13) (nI 0) r s).1, (fJmp o L n (nI 13) (nI 0) r s).2) := by
    unfold fOth
    rw [if_neg (by rw [hn 7103602 (by decide +kernel)]; decide), if_neg (by rw [hn 7566450 (by decide +kernel)]; decide), if_neg (by rw [hn 1818522210 (by decide +kernel)]; decide), if_neg (by rw [hn 1937011298 (by decide +kernel)]; decide), if_neg (by rw [hn 1886745448 (by decide +kernel)]; decide), if_neg (by rw [hn 7368560 (by decide +kernel)]; decide), if_neg (by rw [hn 98 (by decide +kernel)]; decide), if_pos (hp 25196 (by decide +kernel))]
  refine ⟨(fJmp o L n (nI 13) (nI 0) r s), by unfold rdSt; rw [if_neg hea, hD, if_neg (fun z => by cases z), hS, if_neg (fun z => by cases z), hO, if_pos rfl], ?_⟩
  have hX : cX L n 33 A t = cIns L n 15 61440 3 A t := by
    unfold cX
    rw [show mnFn 33 = 15 by decide +kernel, show mnCn 33 = 61440 by decide +kernel, show mnXn 33 = 3 by decide +kernel, if_neg (by decide)]
  rw [hX]
  exact sP_go3 h
theorem disp_34 {o : Nat} {L : Nat → Nat} {n a e : Nat} {A : CR} {r : SR} {s : PS} {t : KS} (hA : BsA A) (h : OKs L n s t) (hea : e ≠ a) (hsw : swB L a e 34 = true) : ∃ q : SR × PS, rdSt o L n a e r s = rdFin L n q ∧ RV L n (StP o L n (cX L n 34 A t).1 q.1) q.2 (cX L n 34 A t).2 := by
  have hn : ∀ v, dif 34 v = true → isW L a e v = false := fun v hv => isW_no hsw hv
  have hp : ∀ v, mtc2 34 v = true → isW L a e v = true := fun v hv => by rw [isW_sw hv]; exact hsw
  have hD : fDir o L n a e r s = (false, r, s) := noDir (fun v hv => hn v ((show ∀ v, v ∈ dirL → dif 34 v = true by decide +kernel) v hv))
  have hS : fSim L n a e r s = (false, r, s) := noSim (fun v hv => hn v ((show ∀ v, v ∈ simL → dif 34 v = true by decide +kernel) v hv))
  have hO : fOth o L n a e r s = (true, (fJmp o L n (nI 12) (nI (53248 + 256 * 0)) r s).1, (fJmp o L n (nI 12) (nI (53248 + 256 * 0)) r s).2) := by
    have hc0 := (sw_iff.mp hsw).2 0 (by decide +kernel)
    have hc1 := (sw_iff.mp hsw).2 1 (by decide +kernel)
    have hc2 := (sw_iff.mp hsw).2 2 (by decide +kernel)
    have hlen := (sw_iff.mp hsw).1
    rw [Nat.add_zero, show sbc 34 0 = 98 by decide +kernel] at hc0
    rw [show sbc 34 1 = 101 by decide +kernel] at hc1
    rw [show sbc 34 2 = 113 by decide +kernel] at hc2
    rw [show sbn 34 = 3 by decide +kernel] at hlen
    have hC : cdN L (a + 1) e = some 0 := by
      unfold cdN
      rw [if_pos (by omega), hc1, show a + 1 + 1 = a + 2 from rfl, hc2]
      decide
    unfold fOth
    rw [if_neg (by rw [hn 7103602 (by decide +kernel)]; decide), if_neg (by rw [hn 7566450 (by decide +kernel)]; decide), if_neg (by rw [hn 1818522210 (by decide +kernel)]; decide), if_neg (by rw [hn 1937011298 (by decide +kernel)]; decide), if_neg (by rw [hn 1886745448 (by decide +kernel)]; decide), if_neg (by rw [hn 7368560 (by decide +kernel)]; decide), if_neg (by rw [hn 98 (by decide +kernel)]; decide), if_neg (by rw [hn 25196 (by decide +kernel)]; decide), if_neg (by rw [hn 25208 (by decide +kernel)]; decide), if_pos hc0]
    simp only [hC]
  refine ⟨(fJmp o L n (nI 12) (nI (53248 + 256 * 0)) r s), by unfold rdSt; rw [if_neg hea, hD, if_neg (fun z => by cases z), hS, if_neg (fun z => by cases z), hO, if_pos rfl], ?_⟩
  have hX : cX L n 34 A t = cIns L n 15 53248 2 A t := by
    unfold cX
    rw [show mnFn 34 = 15 by decide +kernel, show mnCn 34 = 53248 by decide +kernel, show mnXn 34 = 2 by decide +kernel, if_neg (by decide)]
  rw [hX]
  exact sP_go2 (c := 53248) h
theorem disp_35 {o : Nat} {L : Nat → Nat} {n a e : Nat} {A : CR} {r : SR} {s : PS} {t : KS} (hA : BsA A) (h : OKs L n s t) (hea : e ≠ a) (hsw : swB L a e 35 = true) : ∃ q : SR × PS, rdSt o L n a e r s = rdFin L n q ∧ RV L n (StP o L n (cX L n 35 A t).1 q.1) q.2 (cX L n 35 A t).2 := by
  have hn : ∀ v, dif 35 v = true → isW L a e v = false := fun v hv => isW_no hsw hv
  have hp : ∀ v, mtc2 35 v = true → isW L a e v = true := fun v hv => by rw [isW_sw hv]; exact hsw
  have hD : fDir o L n a e r s = (false, r, s) := noDir (fun v hv => hn v ((show ∀ v, v ∈ dirL → dif 35 v = true by decide +kernel) v hv))
  have hS : fSim L n a e r s = (false, r, s) := noSim (fun v hv => hn v ((show ∀ v, v ∈ simL → dif 35 v = true by decide +kernel) v hv))
  have hO : fOth o L n a e r s = (true, (fJmp o L n (nI 12) (nI (53248 + 256 * 1)) r s).1, (fJmp o L n (nI 12) (nI (53248 + 256 * 1)) r s).2) := by
    have hc0 := (sw_iff.mp hsw).2 0 (by decide +kernel)
    have hc1 := (sw_iff.mp hsw).2 1 (by decide +kernel)
    have hc2 := (sw_iff.mp hsw).2 2 (by decide +kernel)
    have hlen := (sw_iff.mp hsw).1
    rw [Nat.add_zero, show sbc 35 0 = 98 by decide +kernel] at hc0
    rw [show sbc 35 1 = 110 by decide +kernel] at hc1
    rw [show sbc 35 2 = 101 by decide +kernel] at hc2
    rw [show sbn 35 = 3 by decide +kernel] at hlen
    have hC : cdN L (a + 1) e = some 1 := by
      unfold cdN
      rw [if_pos (by omega), hc1, show a + 1 + 1 = a + 2 from rfl, hc2]
      decide
    unfold fOth
    rw [if_neg (by rw [hn 7103602 (by decide +kernel)]; decide), if_neg (by rw [hn 7566450 (by decide +kernel)]; decide), if_neg (by rw [hn 1818522210 (by decide +kernel)]; decide), if_neg (by rw [hn 1937011298 (by decide +kernel)]; decide), if_neg (by rw [hn 1886745448 (by decide +kernel)]; decide), if_neg (by rw [hn 7368560 (by decide +kernel)]; decide), if_neg (by rw [hn 98 (by decide +kernel)]; decide), if_neg (by rw [hn 25196 (by decide +kernel)]; decide), if_neg (by rw [hn 25208 (by decide +kernel)]; decide), if_pos hc0]
    simp only [hC]
  refine ⟨(fJmp o L n (nI 12) (nI (53248 + 256 * 1)) r s), by unfold rdSt; rw [if_neg hea, hD, if_neg (fun z => by cases z), hS, if_neg (fun z => by cases z), hO, if_pos rfl], ?_⟩
  have hX : cX L n 35 A t = cIns L n 15 53504 2 A t := by
    unfold cX
    rw [show mnFn 35 = 15 by decide +kernel, show mnCn 35 = 53504 by decide +kernel, show mnXn 35 = 2 by decide +kernel, if_neg (by decide)]
  rw [hX]
  exact sP_go2 (c := 53504) h
theorem disp_36 {o : Nat} {L : Nat → Nat} {n a e : Nat} {A : CR} {r : SR} {s : PS} {t : KS} (hA : BsA A) (h : OKs L n s t) (hea : e ≠ a) (hsw : swB L a e 36 = true) : ∃ q : SR × PS, rdSt o L n a e r s = rdFin L n q ∧ RV L n (StP o L n (cX L n 36 A t).1 q.1) q.2 (cX L n 36 A t).2 := by
  have hn : ∀ v, dif 36 v = true → isW L a e v = false := fun v hv => isW_no hsw hv
  have hp : ∀ v, mtc2 36 v = true → isW L a e v = true := fun v hv => by rw [isW_sw hv]; exact hsw
  have hD : fDir o L n a e r s = (false, r, s) := noDir (fun v hv => hn v ((show ∀ v, v ∈ dirL → dif 36 v = true by decide +kernel) v hv))
  have hS : fSim L n a e r s = (false, r, s) := noSim (fun v hv => hn v ((show ∀ v, v ∈ simL → dif 36 v = true by decide +kernel) v hv))
  have hO : fOth o L n a e r s = (true, (fJmp o L n (nI 12) (nI (53248 + 256 * 2)) r s).1, (fJmp o L n (nI 12) (nI (53248 + 256 * 2)) r s).2) := by
    have hc0 := (sw_iff.mp hsw).2 0 (by decide +kernel)
    have hc1 := (sw_iff.mp hsw).2 1 (by decide +kernel)
    have hc2 := (sw_iff.mp hsw).2 2 (by decide +kernel)
    have hlen := (sw_iff.mp hsw).1
    rw [Nat.add_zero, show sbc 36 0 = 98 by decide +kernel] at hc0
    rw [show sbc 36 1 = 99 by decide +kernel] at hc1
    rw [show sbc 36 2 = 115 by decide +kernel] at hc2
    rw [show sbn 36 = 3 by decide +kernel] at hlen
    have hC : cdN L (a + 1) e = some 2 := by
      unfold cdN
      rw [if_pos (by omega), hc1, show a + 1 + 1 = a + 2 from rfl, hc2]
      decide
    unfold fOth
    rw [if_neg (by rw [hn 7103602 (by decide +kernel)]; decide), if_neg (by rw [hn 7566450 (by decide +kernel)]; decide), if_neg (by rw [hn 1818522210 (by decide +kernel)]; decide), if_neg (by rw [hn 1937011298 (by decide +kernel)]; decide), if_neg (by rw [hn 1886745448 (by decide +kernel)]; decide), if_neg (by rw [hn 7368560 (by decide +kernel)]; decide), if_neg (by rw [hn 98 (by decide +kernel)]; decide), if_neg (by rw [hn 25196 (by decide +kernel)]; decide), if_neg (by rw [hn 25208 (by decide +kernel)]; decide), if_pos hc0]
    simp only [hC]
  refine ⟨(fJmp o L n (nI 12) (nI (53248 + 256 * 2)) r s), by unfold rdSt; rw [if_neg hea, hD, if_neg (fun z => by cases z), hS, if_neg (fun z => by cases z), hO, if_pos rfl], ?_⟩
  have hX : cX L n 36 A t = cIns L n 15 53760 2 A t := by
    unfold cX
    rw [show mnFn 36 = 15 by decide +kernel, show mnCn 36 = 53760 by decide +kernel, show mnXn 36 = 2 by decide +kernel, if_neg (by decide)]
  rw [hX]
  exact sP_go2 (c := 53760) h
theorem disp_37 {o : Nat} {L : Nat → Nat} {n a e : Nat} {A : CR} {r : SR} {s : PS} {t : KS} (hA : BsA A) (h : OKs L n s t) (hea : e ≠ a) (hsw : swB L a e 37 = true) : ∃ q : SR × PS, rdSt o L n a e r s = rdFin L n q ∧ RV L n (StP o L n (cX L n 37 A t).1 q.1) q.2 (cX L n 37 A t).2 := by
  have hn : ∀ v, dif 37 v = true → isW L a e v = false := fun v hv => isW_no hsw hv
  have hp : ∀ v, mtc2 37 v = true → isW L a e v = true := fun v hv => by rw [isW_sw hv]; exact hsw
  have hD : fDir o L n a e r s = (false, r, s) := noDir (fun v hv => hn v ((show ∀ v, v ∈ dirL → dif 37 v = true by decide +kernel) v hv))
  have hS : fSim L n a e r s = (false, r, s) := noSim (fun v hv => hn v ((show ∀ v, v ∈ simL → dif 37 v = true by decide +kernel) v hv))
  have hO : fOth o L n a e r s = (true, (fJmp o L n (nI 12) (nI (53248 + 256 * 3)) r s).1, (fJmp o L n (nI 12) (nI (53248 + 256 * 3)) r s).2) := by
    have hc0 := (sw_iff.mp hsw).2 0 (by decide +kernel)
    have hc1 := (sw_iff.mp hsw).2 1 (by decide +kernel)
    have hc2 := (sw_iff.mp hsw).2 2 (by decide +kernel)
    have hlen := (sw_iff.mp hsw).1
    rw [Nat.add_zero, show sbc 37 0 = 98 by decide +kernel] at hc0
    rw [show sbc 37 1 = 99 by decide +kernel] at hc1
    rw [show sbc 37 2 = 99 by decide +kernel] at hc2
    rw [show sbn 37 = 3 by decide +kernel] at hlen
    have hC : cdN L (a + 1) e = some 3 := by
      unfold cdN
      rw [if_pos (by omega), hc1, show a + 1 + 1 = a + 2 from rfl, hc2]
      decide
    unfold fOth
    rw [if_neg (by rw [hn 7103602 (by decide +kernel)]; decide), if_neg (by rw [hn 7566450 (by decide +kernel)]; decide), if_neg (by rw [hn 1818522210 (by decide +kernel)]; decide), if_neg (by rw [hn 1937011298 (by decide +kernel)]; decide), if_neg (by rw [hn 1886745448 (by decide +kernel)]; decide), if_neg (by rw [hn 7368560 (by decide +kernel)]; decide), if_neg (by rw [hn 98 (by decide +kernel)]; decide), if_neg (by rw [hn 25196 (by decide +kernel)]; decide), if_neg (by rw [hn 25208 (by decide +kernel)]; decide), if_pos hc0]
    simp only [hC]
  refine ⟨(fJmp o L n (nI 12) (nI (53248 + 256 * 3)) r s), by unfold rdSt; rw [if_neg hea, hD, if_neg (fun z => by cases z), hS, if_neg (fun z => by cases z), hO, if_pos rfl], ?_⟩
  have hX : cX L n 37 A t = cIns L n 15 54016 2 A t := by
    unfold cX
    rw [show mnFn 37 = 15 by decide +kernel, show mnCn 37 = 54016 by decide +kernel, show mnXn 37 = 2 by decide +kernel, if_neg (by decide)]
  rw [hX]
  exact sP_go2 (c := 54016) h
theorem disp_38 {o : Nat} {L : Nat → Nat} {n a e : Nat} {A : CR} {r : SR} {s : PS} {t : KS} (hA : BsA A) (h : OKs L n s t) (hea : e ≠ a) (hsw : swB L a e 38 = true) : ∃ q : SR × PS, rdSt o L n a e r s = rdFin L n q ∧ RV L n (StP o L n (cX L n 38 A t).1 q.1) q.2 (cX L n 38 A t).2 := by
  have hn : ∀ v, dif 38 v = true → isW L a e v = false := fun v hv => isW_no hsw hv
  have hp : ∀ v, mtc2 38 v = true → isW L a e v = true := fun v hv => by rw [isW_sw hv]; exact hsw
  have hD : fDir o L n a e r s = (false, r, s) := noDir (fun v hv => hn v ((show ∀ v, v ∈ dirL → dif 38 v = true by decide +kernel) v hv))
  have hS : fSim L n a e r s = (false, r, s) := noSim (fun v hv => hn v ((show ∀ v, v ∈ simL → dif 38 v = true by decide +kernel) v hv))
  have hO : fOth o L n a e r s = (true, (fJmp o L n (nI 12) (nI (53248 + 256 * 4)) r s).1, (fJmp o L n (nI 12) (nI (53248 + 256 * 4)) r s).2) := by
    have hc0 := (sw_iff.mp hsw).2 0 (by decide +kernel)
    have hc1 := (sw_iff.mp hsw).2 1 (by decide +kernel)
    have hc2 := (sw_iff.mp hsw).2 2 (by decide +kernel)
    have hlen := (sw_iff.mp hsw).1
    rw [Nat.add_zero, show sbc 38 0 = 98 by decide +kernel] at hc0
    rw [show sbc 38 1 = 109 by decide +kernel] at hc1
    rw [show sbc 38 2 = 105 by decide +kernel] at hc2
    rw [show sbn 38 = 3 by decide +kernel] at hlen
    have hC : cdN L (a + 1) e = some 4 := by
      unfold cdN
      rw [if_pos (by omega), hc1, show a + 1 + 1 = a + 2 from rfl, hc2]
      decide
    unfold fOth
    rw [if_neg (by rw [hn 7103602 (by decide +kernel)]; decide), if_neg (by rw [hn 7566450 (by decide +kernel)]; decide), if_neg (by rw [hn 1818522210 (by decide +kernel)]; decide), if_neg (by rw [hn 1937011298 (by decide +kernel)]; decide), if_neg (by rw [hn 1886745448 (by decide +kernel)]; decide), if_neg (by rw [hn 7368560 (by decide +kernel)]; decide), if_neg (by rw [hn 98 (by decide +kernel)]; decide), if_neg (by rw [hn 25196 (by decide +kernel)]; decide), if_neg (by rw [hn 25208 (by decide +kernel)]; decide), if_pos hc0]
    simp only [hC]
  refine ⟨(fJmp o L n (nI 12) (nI (53248 + 256 * 4)) r s), by unfold rdSt; rw [if_neg hea, hD, if_neg (fun z => by cases z), hS, if_neg (fun z => by cases z), hO, if_pos rfl], ?_⟩
  have hX : cX L n 38 A t = cIns L n 15 54272 2 A t := by
    unfold cX
    rw [show mnFn 38 = 15 by decide +kernel, show mnCn 38 = 54272 by decide +kernel, show mnXn 38 = 2 by decide +kernel, if_neg (by decide)]
  rw [hX]
  exact sP_go2 (c := 54272) h
theorem disp_39 {o : Nat} {L : Nat → Nat} {n a e : Nat} {A : CR} {r : SR} {s : PS} {t : KS} (hA : BsA A) (h : OKs L n s t) (hea : e ≠ a) (hsw : swB L a e 39 = true) : ∃ q : SR × PS, rdSt o L n a e r s = rdFin L n q ∧ RV L n (StP o L n (cX L n 39 A t).1 q.1) q.2 (cX L n 39 A t).2 := by
  have hn : ∀ v, dif 39 v = true → isW L a e v = false := fun v hv => isW_no hsw hv
  have hp : ∀ v, mtc2 39 v = true → isW L a e v = true := fun v hv => by rw [isW_sw hv]; exact hsw
  have hD : fDir o L n a e r s = (false, r, s) := noDir (fun v hv => hn v ((show ∀ v, v ∈ dirL → dif 39 v = true by decide +kernel) v hv))
  have hS : fSim L n a e r s = (false, r, s) := noSim (fun v hv => hn v ((show ∀ v, v ∈ simL → dif 39 v = true by decide +kernel) v hv))
  have hO : fOth o L n a e r s = (true, (fJmp o L n (nI 12) (nI (53248 + 256 * 5)) r s).1, (fJmp o L n (nI 12) (nI (53248 + 256 * 5)) r s).2) := by
    have hc0 := (sw_iff.mp hsw).2 0 (by decide +kernel)
    have hc1 := (sw_iff.mp hsw).2 1 (by decide +kernel)
    have hc2 := (sw_iff.mp hsw).2 2 (by decide +kernel)
    have hlen := (sw_iff.mp hsw).1
    rw [Nat.add_zero, show sbc 39 0 = 98 by decide +kernel] at hc0
    rw [show sbc 39 1 = 112 by decide +kernel] at hc1
    rw [show sbc 39 2 = 108 by decide +kernel] at hc2
    rw [show sbn 39 = 3 by decide +kernel] at hlen
    have hC : cdN L (a + 1) e = some 5 := by
      unfold cdN
      rw [if_pos (by omega), hc1, show a + 1 + 1 = a + 2 from rfl, hc2]
      decide
    unfold fOth
    rw [if_neg (by rw [hn 7103602 (by decide +kernel)]; decide), if_neg (by rw [hn 7566450 (by decide +kernel)]; decide), if_neg (by rw [hn 1818522210 (by decide +kernel)]; decide), if_neg (by rw [hn 1937011298 (by decide +kernel)]; decide), if_neg (by rw [hn 1886745448 (by decide +kernel)]; decide), if_neg (by rw [hn 7368560 (by decide +kernel)]; decide), if_neg (by rw [hn 98 (by decide +kernel)]; decide), if_neg (by rw [hn 25196 (by decide +kernel)]; decide), if_neg (by rw [hn 25208 (by decide +kernel)]; decide), if_pos hc0]
    simp only [hC]
  refine ⟨(fJmp o L n (nI 12) (nI (53248 + 256 * 5)) r s), by unfold rdSt; rw [if_neg hea, hD, if_neg (fun z => by cases z), hS, if_neg (fun z => by cases z), hO, if_pos rfl], ?_⟩
  have hX : cX L n 39 A t = cIns L n 15 54528 2 A t := by
    unfold cX
    rw [show mnFn 39 = 15 by decide +kernel, show mnCn 39 = 54528 by decide +kernel, show mnXn 39 = 2 by decide +kernel, if_neg (by decide)]
  rw [hX]
  exact sP_go2 (c := 54528) h
theorem disp_40 {o : Nat} {L : Nat → Nat} {n a e : Nat} {A : CR} {r : SR} {s : PS} {t : KS} (hA : BsA A) (h : OKs L n s t) (hea : e ≠ a) (hsw : swB L a e 40 = true) : ∃ q : SR × PS, rdSt o L n a e r s = rdFin L n q ∧ RV L n (StP o L n (cX L n 40 A t).1 q.1) q.2 (cX L n 40 A t).2 := by
  have hn : ∀ v, dif 40 v = true → isW L a e v = false := fun v hv => isW_no hsw hv
  have hp : ∀ v, mtc2 40 v = true → isW L a e v = true := fun v hv => by rw [isW_sw hv]; exact hsw
  have hD : fDir o L n a e r s = (false, r, s) := noDir (fun v hv => hn v ((show ∀ v, v ∈ dirL → dif 40 v = true by decide +kernel) v hv))
  have hS : fSim L n a e r s = (false, r, s) := noSim (fun v hv => hn v ((show ∀ v, v ∈ simL → dif 40 v = true by decide +kernel) v hv))
  have hO : fOth o L n a e r s = (true, (fJmp o L n (nI 12) (nI (53248 + 256 * 6)) r s).1, (fJmp o L n (nI 12) (nI (53248 + 256 * 6)) r s).2) := by
    have hc0 := (sw_iff.mp hsw).2 0 (by decide +kernel)
    have hc1 := (sw_iff.mp hsw).2 1 (by decide +kernel)
    have hc2 := (sw_iff.mp hsw).2 2 (by decide +kernel)
    have hlen := (sw_iff.mp hsw).1
    rw [Nat.add_zero, show sbc 40 0 = 98 by decide +kernel] at hc0
    rw [show sbc 40 1 = 118 by decide +kernel] at hc1
    rw [show sbc 40 2 = 115 by decide +kernel] at hc2
    rw [show sbn 40 = 3 by decide +kernel] at hlen
    have hC : cdN L (a + 1) e = some 6 := by
      unfold cdN
      rw [if_pos (by omega), hc1, show a + 1 + 1 = a + 2 from rfl, hc2]
      decide
    unfold fOth
    rw [if_neg (by rw [hn 7103602 (by decide +kernel)]; decide), if_neg (by rw [hn 7566450 (by decide +kernel)]; decide), if_neg (by rw [hn 1818522210 (by decide +kernel)]; decide), if_neg (by rw [hn 1937011298 (by decide +kernel)]; decide), if_neg (by rw [hn 1886745448 (by decide +kernel)]; decide), if_neg (by rw [hn 7368560 (by decide +kernel)]; decide), if_neg (by rw [hn 98 (by decide +kernel)]; decide), if_neg (by rw [hn 25196 (by decide +kernel)]; decide), if_neg (by rw [hn 25208 (by decide +kernel)]; decide), if_pos hc0]
    simp only [hC]
  refine ⟨(fJmp o L n (nI 12) (nI (53248 + 256 * 6)) r s), by unfold rdSt; rw [if_neg hea, hD, if_neg (fun z => by cases z), hS, if_neg (fun z => by cases z), hO, if_pos rfl], ?_⟩
  have hX : cX L n 40 A t = cIns L n 15 54784 2 A t := by
    unfold cX
    rw [show mnFn 40 = 15 by decide +kernel, show mnCn 40 = 54784 by decide +kernel, show mnXn 40 = 2 by decide +kernel, if_neg (by decide)]
  rw [hX]
  exact sP_go2 (c := 54784) h
theorem disp_41 {o : Nat} {L : Nat → Nat} {n a e : Nat} {A : CR} {r : SR} {s : PS} {t : KS} (hA : BsA A) (h : OKs L n s t) (hea : e ≠ a) (hsw : swB L a e 41 = true) : ∃ q : SR × PS, rdSt o L n a e r s = rdFin L n q ∧ RV L n (StP o L n (cX L n 41 A t).1 q.1) q.2 (cX L n 41 A t).2 := by
  have hn : ∀ v, dif 41 v = true → isW L a e v = false := fun v hv => isW_no hsw hv
  have hp : ∀ v, mtc2 41 v = true → isW L a e v = true := fun v hv => by rw [isW_sw hv]; exact hsw
  have hD : fDir o L n a e r s = (false, r, s) := noDir (fun v hv => hn v ((show ∀ v, v ∈ dirL → dif 41 v = true by decide +kernel) v hv))
  have hS : fSim L n a e r s = (false, r, s) := noSim (fun v hv => hn v ((show ∀ v, v ∈ simL → dif 41 v = true by decide +kernel) v hv))
  have hO : fOth o L n a e r s = (true, (fJmp o L n (nI 12) (nI (53248 + 256 * 7)) r s).1, (fJmp o L n (nI 12) (nI (53248 + 256 * 7)) r s).2) := by
    have hc0 := (sw_iff.mp hsw).2 0 (by decide +kernel)
    have hc1 := (sw_iff.mp hsw).2 1 (by decide +kernel)
    have hc2 := (sw_iff.mp hsw).2 2 (by decide +kernel)
    have hlen := (sw_iff.mp hsw).1
    rw [Nat.add_zero, show sbc 41 0 = 98 by decide +kernel] at hc0
    rw [show sbc 41 1 = 118 by decide +kernel] at hc1
    rw [show sbc 41 2 = 99 by decide +kernel] at hc2
    rw [show sbn 41 = 3 by decide +kernel] at hlen
    have hC : cdN L (a + 1) e = some 7 := by
      unfold cdN
      rw [if_pos (by omega), hc1, show a + 1 + 1 = a + 2 from rfl, hc2]
      decide
    unfold fOth
    rw [if_neg (by rw [hn 7103602 (by decide +kernel)]; decide), if_neg (by rw [hn 7566450 (by decide +kernel)]; decide), if_neg (by rw [hn 1818522210 (by decide +kernel)]; decide), if_neg (by rw [hn 1937011298 (by decide +kernel)]; decide), if_neg (by rw [hn 1886745448 (by decide +kernel)]; decide), if_neg (by rw [hn 7368560 (by decide +kernel)]; decide), if_neg (by rw [hn 98 (by decide +kernel)]; decide), if_neg (by rw [hn 25196 (by decide +kernel)]; decide), if_neg (by rw [hn 25208 (by decide +kernel)]; decide), if_pos hc0]
    simp only [hC]
  refine ⟨(fJmp o L n (nI 12) (nI (53248 + 256 * 7)) r s), by unfold rdSt; rw [if_neg hea, hD, if_neg (fun z => by cases z), hS, if_neg (fun z => by cases z), hO, if_pos rfl], ?_⟩
  have hX : cX L n 41 A t = cIns L n 15 55040 2 A t := by
    unfold cX
    rw [show mnFn 41 = 15 by decide +kernel, show mnCn 41 = 55040 by decide +kernel, show mnXn 41 = 2 by decide +kernel, if_neg (by decide)]
  rw [hX]
  exact sP_go2 (c := 55040) h
theorem disp_42 {o : Nat} {L : Nat → Nat} {n a e : Nat} {A : CR} {r : SR} {s : PS} {t : KS} (hA : BsA A) (h : OKs L n s t) (hea : e ≠ a) (hsw : swB L a e 42 = true) : ∃ q : SR × PS, rdSt o L n a e r s = rdFin L n q ∧ RV L n (StP o L n (cX L n 42 A t).1 q.1) q.2 (cX L n 42 A t).2 := by
  have hn : ∀ v, dif 42 v = true → isW L a e v = false := fun v hv => isW_no hsw hv
  have hp : ∀ v, mtc2 42 v = true → isW L a e v = true := fun v hv => by rw [isW_sw hv]; exact hsw
  have hD : fDir o L n a e r s = (false, r, s) := noDir (fun v hv => hn v ((show ∀ v, v ∈ dirL → dif 42 v = true by decide +kernel) v hv))
  have hS : fSim L n a e r s = (false, r, s) := noSim (fun v hv => hn v ((show ∀ v, v ∈ simL → dif 42 v = true by decide +kernel) v hv))
  have hO : fOth o L n a e r s = (true, (fJmp o L n (nI 12) (nI (53248 + 256 * 8)) r s).1, (fJmp o L n (nI 12) (nI (53248 + 256 * 8)) r s).2) := by
    have hc0 := (sw_iff.mp hsw).2 0 (by decide +kernel)
    have hc1 := (sw_iff.mp hsw).2 1 (by decide +kernel)
    have hc2 := (sw_iff.mp hsw).2 2 (by decide +kernel)
    have hlen := (sw_iff.mp hsw).1
    rw [Nat.add_zero, show sbc 42 0 = 98 by decide +kernel] at hc0
    rw [show sbc 42 1 = 104 by decide +kernel] at hc1
    rw [show sbc 42 2 = 105 by decide +kernel] at hc2
    rw [show sbn 42 = 3 by decide +kernel] at hlen
    have hC : cdN L (a + 1) e = some 8 := by
      unfold cdN
      rw [if_pos (by omega), hc1, show a + 1 + 1 = a + 2 from rfl, hc2]
      decide
    unfold fOth
    rw [if_neg (by rw [hn 7103602 (by decide +kernel)]; decide), if_neg (by rw [hn 7566450 (by decide +kernel)]; decide), if_neg (by rw [hn 1818522210 (by decide +kernel)]; decide), if_neg (by rw [hn 1937011298 (by decide +kernel)]; decide), if_neg (by rw [hn 1886745448 (by decide +kernel)]; decide), if_neg (by rw [hn 7368560 (by decide +kernel)]; decide), if_neg (by rw [hn 98 (by decide +kernel)]; decide), if_neg (by rw [hn 25196 (by decide +kernel)]; decide), if_neg (by rw [hn 25208 (by decide +kernel)]; decide), if_pos hc0]
    simp only [hC]
  refine ⟨(fJmp o L n (nI 12) (nI (53248 + 256 * 8)) r s), by unfold rdSt; rw [if_neg hea, hD, if_neg (fun z => by cases z), hS, if_neg (fun z => by cases z), hO, if_pos rfl], ?_⟩
  have hX : cX L n 42 A t = cIns L n 15 55296 2 A t := by
    unfold cX
    rw [show mnFn 42 = 15 by decide +kernel, show mnCn 42 = 55296 by decide +kernel, show mnXn 42 = 2 by decide +kernel, if_neg (by decide)]
  rw [hX]
  exact sP_go2 (c := 55296) h
theorem disp_43 {o : Nat} {L : Nat → Nat} {n a e : Nat} {A : CR} {r : SR} {s : PS} {t : KS} (hA : BsA A) (h : OKs L n s t) (hea : e ≠ a) (hsw : swB L a e 43 = true) : ∃ q : SR × PS, rdSt o L n a e r s = rdFin L n q ∧ RV L n (StP o L n (cX L n 43 A t).1 q.1) q.2 (cX L n 43 A t).2 := by
  have hn : ∀ v, dif 43 v = true → isW L a e v = false := fun v hv => isW_no hsw hv
  have hp : ∀ v, mtc2 43 v = true → isW L a e v = true := fun v hv => by rw [isW_sw hv]; exact hsw
  have hD : fDir o L n a e r s = (false, r, s) := noDir (fun v hv => hn v ((show ∀ v, v ∈ dirL → dif 43 v = true by decide +kernel) v hv))
  have hS : fSim L n a e r s = (false, r, s) := noSim (fun v hv => hn v ((show ∀ v, v ∈ simL → dif 43 v = true by decide +kernel) v hv))
  have hO : fOth o L n a e r s = (true, (fJmp o L n (nI 12) (nI (53248 + 256 * 9)) r s).1, (fJmp o L n (nI 12) (nI (53248 + 256 * 9)) r s).2) := by
    have hc0 := (sw_iff.mp hsw).2 0 (by decide +kernel)
    have hc1 := (sw_iff.mp hsw).2 1 (by decide +kernel)
    have hc2 := (sw_iff.mp hsw).2 2 (by decide +kernel)
    have hlen := (sw_iff.mp hsw).1
    rw [Nat.add_zero, show sbc 43 0 = 98 by decide +kernel] at hc0
    rw [show sbc 43 1 = 108 by decide +kernel] at hc1
    rw [show sbc 43 2 = 115 by decide +kernel] at hc2
    rw [show sbn 43 = 3 by decide +kernel] at hlen
    have hC : cdN L (a + 1) e = some 9 := by
      unfold cdN
      rw [if_pos (by omega), hc1, show a + 1 + 1 = a + 2 from rfl, hc2]
      decide
    unfold fOth
    rw [if_neg (by rw [hn 7103602 (by decide +kernel)]; decide), if_neg (by rw [hn 7566450 (by decide +kernel)]; decide), if_neg (by rw [hn 1818522210 (by decide +kernel)]; decide), if_neg (by rw [hn 1937011298 (by decide +kernel)]; decide), if_neg (by rw [hn 1886745448 (by decide +kernel)]; decide), if_neg (by rw [hn 7368560 (by decide +kernel)]; decide), if_neg (by rw [hn 98 (by decide +kernel)]; decide), if_neg (by rw [hn 25196 (by decide +kernel)]; decide), if_neg (by rw [hn 25208 (by decide +kernel)]; decide), if_pos hc0]
    simp only [hC]
  refine ⟨(fJmp o L n (nI 12) (nI (53248 + 256 * 9)) r s), by unfold rdSt; rw [if_neg hea, hD, if_neg (fun z => by cases z), hS, if_neg (fun z => by cases z), hO, if_pos rfl], ?_⟩
  have hX : cX L n 43 A t = cIns L n 15 55552 2 A t := by
    unfold cX
    rw [show mnFn 43 = 15 by decide +kernel, show mnCn 43 = 55552 by decide +kernel, show mnXn 43 = 2 by decide +kernel, if_neg (by decide)]
  rw [hX]
  exact sP_go2 (c := 55552) h
theorem disp_44 {o : Nat} {L : Nat → Nat} {n a e : Nat} {A : CR} {r : SR} {s : PS} {t : KS} (hA : BsA A) (h : OKs L n s t) (hea : e ≠ a) (hsw : swB L a e 44 = true) : ∃ q : SR × PS, rdSt o L n a e r s = rdFin L n q ∧ RV L n (StP o L n (cX L n 44 A t).1 q.1) q.2 (cX L n 44 A t).2 := by
  have hn : ∀ v, dif 44 v = true → isW L a e v = false := fun v hv => isW_no hsw hv
  have hp : ∀ v, mtc2 44 v = true → isW L a e v = true := fun v hv => by rw [isW_sw hv]; exact hsw
  have hD : fDir o L n a e r s = (false, r, s) := noDir (fun v hv => hn v ((show ∀ v, v ∈ dirL → dif 44 v = true by decide +kernel) v hv))
  have hS : fSim L n a e r s = (false, r, s) := noSim (fun v hv => hn v ((show ∀ v, v ∈ simL → dif 44 v = true by decide +kernel) v hv))
  have hO : fOth o L n a e r s = (true, (fJmp o L n (nI 12) (nI (53248 + 256 * 10)) r s).1, (fJmp o L n (nI 12) (nI (53248 + 256 * 10)) r s).2) := by
    have hc0 := (sw_iff.mp hsw).2 0 (by decide +kernel)
    have hc1 := (sw_iff.mp hsw).2 1 (by decide +kernel)
    have hc2 := (sw_iff.mp hsw).2 2 (by decide +kernel)
    have hlen := (sw_iff.mp hsw).1
    rw [Nat.add_zero, show sbc 44 0 = 98 by decide +kernel] at hc0
    rw [show sbc 44 1 = 103 by decide +kernel] at hc1
    rw [show sbc 44 2 = 101 by decide +kernel] at hc2
    rw [show sbn 44 = 3 by decide +kernel] at hlen
    have hC : cdN L (a + 1) e = some 10 := by
      unfold cdN
      rw [if_pos (by omega), hc1, show a + 1 + 1 = a + 2 from rfl, hc2]
      decide
    unfold fOth
    rw [if_neg (by rw [hn 7103602 (by decide +kernel)]; decide), if_neg (by rw [hn 7566450 (by decide +kernel)]; decide), if_neg (by rw [hn 1818522210 (by decide +kernel)]; decide), if_neg (by rw [hn 1937011298 (by decide +kernel)]; decide), if_neg (by rw [hn 1886745448 (by decide +kernel)]; decide), if_neg (by rw [hn 7368560 (by decide +kernel)]; decide), if_neg (by rw [hn 98 (by decide +kernel)]; decide), if_neg (by rw [hn 25196 (by decide +kernel)]; decide), if_neg (by rw [hn 25208 (by decide +kernel)]; decide), if_pos hc0]
    simp only [hC]
  refine ⟨(fJmp o L n (nI 12) (nI (53248 + 256 * 10)) r s), by unfold rdSt; rw [if_neg hea, hD, if_neg (fun z => by cases z), hS, if_neg (fun z => by cases z), hO, if_pos rfl], ?_⟩
  have hX : cX L n 44 A t = cIns L n 15 55808 2 A t := by
    unfold cX
    rw [show mnFn 44 = 15 by decide +kernel, show mnCn 44 = 55808 by decide +kernel, show mnXn 44 = 2 by decide +kernel, if_neg (by decide)]
  rw [hX]
  exact sP_go2 (c := 55808) h
theorem disp_45 {o : Nat} {L : Nat → Nat} {n a e : Nat} {A : CR} {r : SR} {s : PS} {t : KS} (hA : BsA A) (h : OKs L n s t) (hea : e ≠ a) (hsw : swB L a e 45 = true) : ∃ q : SR × PS, rdSt o L n a e r s = rdFin L n q ∧ RV L n (StP o L n (cX L n 45 A t).1 q.1) q.2 (cX L n 45 A t).2 := by
  have hn : ∀ v, dif 45 v = true → isW L a e v = false := fun v hv => isW_no hsw hv
  have hp : ∀ v, mtc2 45 v = true → isW L a e v = true := fun v hv => by rw [isW_sw hv]; exact hsw
  have hD : fDir o L n a e r s = (false, r, s) := noDir (fun v hv => hn v ((show ∀ v, v ∈ dirL → dif 45 v = true by decide +kernel) v hv))
  have hS : fSim L n a e r s = (false, r, s) := noSim (fun v hv => hn v ((show ∀ v, v ∈ simL → dif 45 v = true by decide +kernel) v hv))
  have hO : fOth o L n a e r s = (true, (fJmp o L n (nI 12) (nI (53248 + 256 * 11)) r s).1, (fJmp o L n (nI 12) (nI (53248 + 256 * 11)) r s).2) := by
    have hc0 := (sw_iff.mp hsw).2 0 (by decide +kernel)
    have hc1 := (sw_iff.mp hsw).2 1 (by decide +kernel)
    have hc2 := (sw_iff.mp hsw).2 2 (by decide +kernel)
    have hlen := (sw_iff.mp hsw).1
    rw [Nat.add_zero, show sbc 45 0 = 98 by decide +kernel] at hc0
    rw [show sbc 45 1 = 108 by decide +kernel] at hc1
    rw [show sbc 45 2 = 116 by decide +kernel] at hc2
    rw [show sbn 45 = 3 by decide +kernel] at hlen
    have hC : cdN L (a + 1) e = some 11 := by
      unfold cdN
      rw [if_pos (by omega), hc1, show a + 1 + 1 = a + 2 from rfl, hc2]
      decide
    unfold fOth
    rw [if_neg (by rw [hn 7103602 (by decide +kernel)]; decide), if_neg (by rw [hn 7566450 (by decide +kernel)]; decide), if_neg (by rw [hn 1818522210 (by decide +kernel)]; decide), if_neg (by rw [hn 1937011298 (by decide +kernel)]; decide), if_neg (by rw [hn 1886745448 (by decide +kernel)]; decide), if_neg (by rw [hn 7368560 (by decide +kernel)]; decide), if_neg (by rw [hn 98 (by decide +kernel)]; decide), if_neg (by rw [hn 25196 (by decide +kernel)]; decide), if_neg (by rw [hn 25208 (by decide +kernel)]; decide), if_pos hc0]
    simp only [hC]
  refine ⟨(fJmp o L n (nI 12) (nI (53248 + 256 * 11)) r s), by unfold rdSt; rw [if_neg hea, hD, if_neg (fun z => by cases z), hS, if_neg (fun z => by cases z), hO, if_pos rfl], ?_⟩
  have hX : cX L n 45 A t = cIns L n 15 56064 2 A t := by
    unfold cX
    rw [show mnFn 45 = 15 by decide +kernel, show mnCn 45 = 56064 by decide +kernel, show mnXn 45 = 2 by decide +kernel, if_neg (by decide)]
  rw [hX]
  exact sP_go2 (c := 56064) h
theorem disp_46 {o : Nat} {L : Nat → Nat} {n a e : Nat} {A : CR} {r : SR} {s : PS} {t : KS} (hA : BsA A) (h : OKs L n s t) (hea : e ≠ a) (hsw : swB L a e 46 = true) : ∃ q : SR × PS, rdSt o L n a e r s = rdFin L n q ∧ RV L n (StP o L n (cX L n 46 A t).1 q.1) q.2 (cX L n 46 A t).2 := by
  have hn : ∀ v, dif 46 v = true → isW L a e v = false := fun v hv => isW_no hsw hv
  have hp : ∀ v, mtc2 46 v = true → isW L a e v = true := fun v hv => by rw [isW_sw hv]; exact hsw
  have hD : fDir o L n a e r s = (false, r, s) := noDir (fun v hv => hn v ((show ∀ v, v ∈ dirL → dif 46 v = true by decide +kernel) v hv))
  have hS : fSim L n a e r s = (false, r, s) := noSim (fun v hv => hn v ((show ∀ v, v ∈ simL → dif 46 v = true by decide +kernel) v hv))
  have hO : fOth o L n a e r s = (true, (fJmp o L n (nI 12) (nI (53248 + 256 * 12)) r s).1, (fJmp o L n (nI 12) (nI (53248 + 256 * 12)) r s).2) := by
    have hc0 := (sw_iff.mp hsw).2 0 (by decide +kernel)
    have hc1 := (sw_iff.mp hsw).2 1 (by decide +kernel)
    have hc2 := (sw_iff.mp hsw).2 2 (by decide +kernel)
    have hlen := (sw_iff.mp hsw).1
    rw [Nat.add_zero, show sbc 46 0 = 98 by decide +kernel] at hc0
    rw [show sbc 46 1 = 103 by decide +kernel] at hc1
    rw [show sbc 46 2 = 116 by decide +kernel] at hc2
    rw [show sbn 46 = 3 by decide +kernel] at hlen
    have hC : cdN L (a + 1) e = some 12 := by
      unfold cdN
      rw [if_pos (by omega), hc1, show a + 1 + 1 = a + 2 from rfl, hc2]
      decide
    unfold fOth
    rw [if_neg (by rw [hn 7103602 (by decide +kernel)]; decide), if_neg (by rw [hn 7566450 (by decide +kernel)]; decide), if_neg (by rw [hn 1818522210 (by decide +kernel)]; decide), if_neg (by rw [hn 1937011298 (by decide +kernel)]; decide), if_neg (by rw [hn 1886745448 (by decide +kernel)]; decide), if_neg (by rw [hn 7368560 (by decide +kernel)]; decide), if_neg (by rw [hn 98 (by decide +kernel)]; decide), if_neg (by rw [hn 25196 (by decide +kernel)]; decide), if_neg (by rw [hn 25208 (by decide +kernel)]; decide), if_pos hc0]
    simp only [hC]
  refine ⟨(fJmp o L n (nI 12) (nI (53248 + 256 * 12)) r s), by unfold rdSt; rw [if_neg hea, hD, if_neg (fun z => by cases z), hS, if_neg (fun z => by cases z), hO, if_pos rfl], ?_⟩
  have hX : cX L n 46 A t = cIns L n 15 56320 2 A t := by
    unfold cX
    rw [show mnFn 46 = 15 by decide +kernel, show mnCn 46 = 56320 by decide +kernel, show mnXn 46 = 2 by decide +kernel, if_neg (by decide)]
  rw [hX]
  exact sP_go2 (c := 56320) h
theorem disp_47 {o : Nat} {L : Nat → Nat} {n a e : Nat} {A : CR} {r : SR} {s : PS} {t : KS} (hA : BsA A) (h : OKs L n s t) (hea : e ≠ a) (hsw : swB L a e 47 = true) : ∃ q : SR × PS, rdSt o L n a e r s = rdFin L n q ∧ RV L n (StP o L n (cX L n 47 A t).1 q.1) q.2 (cX L n 47 A t).2 := by
  have hn : ∀ v, dif 47 v = true → isW L a e v = false := fun v hv => isW_no hsw hv
  have hp : ∀ v, mtc2 47 v = true → isW L a e v = true := fun v hv => by rw [isW_sw hv]; exact hsw
  have hD : fDir o L n a e r s = (false, r, s) := noDir (fun v hv => hn v ((show ∀ v, v ∈ dirL → dif 47 v = true by decide +kernel) v hv))
  have hS : fSim L n a e r s = (false, r, s) := noSim (fun v hv => hn v ((show ∀ v, v ∈ simL → dif 47 v = true by decide +kernel) v hv))
  have hO : fOth o L n a e r s = (true, (fJmp o L n (nI 12) (nI (53248 + 256 * 13)) r s).1, (fJmp o L n (nI 12) (nI (53248 + 256 * 13)) r s).2) := by
    have hc0 := (sw_iff.mp hsw).2 0 (by decide +kernel)
    have hc1 := (sw_iff.mp hsw).2 1 (by decide +kernel)
    have hc2 := (sw_iff.mp hsw).2 2 (by decide +kernel)
    have hlen := (sw_iff.mp hsw).1
    rw [Nat.add_zero, show sbc 47 0 = 98 by decide +kernel] at hc0
    rw [show sbc 47 1 = 108 by decide +kernel] at hc1
    rw [show sbc 47 2 = 101 by decide +kernel] at hc2
    rw [show sbn 47 = 3 by decide +kernel] at hlen
    have hC : cdN L (a + 1) e = some 13 := by
      unfold cdN
      rw [if_pos (by omega), hc1, show a + 1 + 1 = a + 2 from rfl, hc2]
      decide
    unfold fOth
    rw [if_neg (by rw [hn 7103602 (by decide +kernel)]; decide), if_neg (by rw [hn 7566450 (by decide +kernel)]; decide), if_neg (by rw [hn 1818522210 (by decide +kernel)]; decide), if_neg (by rw [hn 1937011298 (by decide +kernel)]; decide), if_neg (by rw [hn 1886745448 (by decide +kernel)]; decide), if_neg (by rw [hn 7368560 (by decide +kernel)]; decide), if_neg (by rw [hn 98 (by decide +kernel)]; decide), if_neg (by rw [hn 25196 (by decide +kernel)]; decide), if_neg (by rw [hn 25208 (by decide +kernel)]; decide), if_pos hc0]
    simp only [hC]
  refine ⟨(fJmp o L n (nI 12) (nI (53248 + 256 * 13)) r s), by unfold rdSt; rw [if_neg hea, hD, if_neg (fun z => by cases z), hS, if_neg (fun z => by cases z), hO, if_pos rfl], ?_⟩
  have hX : cX L n 47 A t = cIns L n 15 56576 2 A t := by
    unfold cX
    rw [show mnFn 47 = 15 by decide +kernel, show mnCn 47 = 56576 by decide +kernel, show mnXn 47 = 2 by decide +kernel, if_neg (by decide)]
  rw [hX]
  exact sP_go2 (c := 56576) h
theorem disp_48 {o : Nat} {L : Nat → Nat} {n a e : Nat} {A : CR} {r : SR} {s : PS} {t : KS} (hA : BsA A) (h : OKs L n s t) (hea : e ≠ a) (hsw : swB L a e 48 = true) : ∃ q : SR × PS, rdSt o L n a e r s = rdFin L n q ∧ RV L n (StP o L n (cX L n 48 A t).1 q.1) q.2 (cX L n 48 A t).2 := by
  have hn : ∀ v, dif 48 v = true → isW L a e v = false := fun v hv => isW_no hsw hv
  have hp : ∀ v, mtc2 48 v = true → isW L a e v = true := fun v hv => by rw [isW_sw hv]; exact hsw
  have hD : fDir o L n a e r s = (false, r, s) := noDir (fun v hv => hn v ((show ∀ v, v ∈ dirL → dif 48 v = true by decide +kernel) v hv))
  have hS : fSim L n a e r s = (false, r, s) := noSim (fun v hv => hn v ((show ∀ v, v ∈ simL → dif 48 v = true by decide +kernel) v hv))
  have hO : fOth o L n a e r s = (true, (fBx L n r s).1, (fBx L n r s).2) := by
    unfold fOth
    rw [if_neg (by rw [hn 7103602 (by decide +kernel)]; decide), if_neg (by rw [hn 7566450 (by decide +kernel)]; decide), if_neg (by rw [hn 1818522210 (by decide +kernel)]; decide), if_neg (by rw [hn 1937011298 (by decide +kernel)]; decide), if_neg (by rw [hn 1886745448 (by decide +kernel)]; decide), if_neg (by rw [hn 7368560 (by decide +kernel)]; decide), if_neg (by rw [hn 98 (by decide +kernel)]; decide), if_neg (by rw [hn 25196 (by decide +kernel)]; decide), if_pos (hp 25208 (by decide +kernel))]
  refine ⟨(fBx L n r s), by unfold rdSt; rw [if_neg hea, hD, if_neg (fun z => by cases z), hS, if_neg (fun z => by cases z), hO, if_pos rfl], ?_⟩
  have hX : cX L n 48 A t = cIns L n 16 18176 0 A t := by
    unfold cX
    rw [show mnFn 48 = 16 by decide +kernel, show mnCn 48 = 18176 by decide +kernel, show mnXn 48 = 0 by decide +kernel, if_neg (by decide)]
  rw [hX]
  exact sP_pl (r := r) hA (rv_bx h)
theorem disp {o : Nat} {L : Nat → Nat} {n a e j : Nat} {A : CR} {r : SR} {s : PS} {t : KS} (hA : BsA A) (h : OKs L n s t) (hea : e ≠ a) (hj : j < 49) (hsw : swB L a e j = true) : ∃ q : SR × PS, rdSt o L n a e r s = rdFin L n q ∧ RV L n (StP o L n (cX L n j A t).1 q.1) q.2 (cX L n j A t).2 := by
  match j, hj, hsw with
  | 0, _, hsw => exact disp_0 hA h hea hsw
  | 1, _, hsw => exact disp_1 hA h hea hsw
  | 2, _, hsw => exact disp_2 hA h hea hsw
  | 3, _, hsw => exact disp_3 hA h hea hsw
  | 4, _, hsw => exact disp_4 hA h hea hsw
  | 5, _, hsw => exact disp_5 hA h hea hsw
  | 6, _, hsw => exact disp_6 hA h hea hsw
  | 7, _, hsw => exact disp_7 hA h hea hsw
  | 8, _, hsw => exact disp_8 hA h hea hsw
  | 9, _, hsw => exact disp_9 hA h hea hsw
  | 10, _, hsw => exact disp_10 hA h hea hsw
  | 11, _, hsw => exact disp_11 hA h hea hsw
  | 12, _, hsw => exact disp_12 hA h hea hsw
  | 13, _, hsw => exact disp_13 hA h hea hsw
  | 14, _, hsw => exact disp_14 hA h hea hsw
  | 15, _, hsw => exact disp_15 hA h hea hsw
  | 16, _, hsw => exact disp_16 hA h hea hsw
  | 17, _, hsw => exact disp_17 hA h hea hsw
  | 18, _, hsw => exact disp_18 hA h hea hsw
  | 19, _, hsw => exact disp_19 hA h hea hsw
  | 20, _, hsw => exact disp_20 hA h hea hsw
  | 21, _, hsw => exact disp_21 hA h hea hsw
  | 22, _, hsw => exact disp_22 hA h hea hsw
  | 23, _, hsw => exact disp_23 hA h hea hsw
  | 24, _, hsw => exact disp_24 hA h hea hsw
  | 25, _, hsw => exact disp_25 hA h hea hsw
  | 26, _, hsw => exact disp_26 hA h hea hsw
  | 27, _, hsw => exact disp_27 hA h hea hsw
  | 28, _, hsw => exact disp_28 hA h hea hsw
  | 29, _, hsw => exact disp_29 hA h hea hsw
  | 30, _, hsw => exact disp_30 hA h hea hsw
  | 31, _, hsw => exact disp_31 hA h hea hsw
  | 32, _, hsw => exact disp_32 hA h hea hsw
  | 33, _, hsw => exact disp_33 hA h hea hsw
  | 34, _, hsw => exact disp_34 hA h hea hsw
  | 35, _, hsw => exact disp_35 hA h hea hsw
  | 36, _, hsw => exact disp_36 hA h hea hsw
  | 37, _, hsw => exact disp_37 hA h hea hsw
  | 38, _, hsw => exact disp_38 hA h hea hsw
  | 39, _, hsw => exact disp_39 hA h hea hsw
  | 40, _, hsw => exact disp_40 hA h hea hsw
  | 41, _, hsw => exact disp_41 hA h hea hsw
  | 42, _, hsw => exact disp_42 hA h hea hsw
  | 43, _, hsw => exact disp_43 hA h hea hsw
  | 44, _, hsw => exact disp_44 hA h hea hsw
  | 45, _, hsw => exact disp_45 hA h hea hsw
  | 46, _, hsw => exact disp_46 hA h hea hsw
  | 47, _, hsw => exact disp_47 hA h hea hsw
  | 48, _, hsw => exact disp_48 hA h hea hsw
  | k + 49, hj, _ => exact absurd hj (by omega)
theorem noOth {o : Nat} {L : Nat → Nat} {n a e : Nat} {r : SR} {s : PS} (he : e ≤ n) (hL : ChO L n) (h : ∀ v, v ∈ othL → isW L a e v = false) (hs : ∀ j, j < 49 → swB L a e j = false) : fOth o L n a e r s = (false, r, s) := by
  unfold fOth
  rw [if_neg (by rw [h 7103602 (by decide)]; decide), if_neg (by rw [h 7566450 (by decide)]; decide), if_neg (by rw [h 1818522210 (by decide)]; decide), if_neg (by rw [h 1937011298 (by decide)]; decide), if_neg (by rw [h 1886745448 (by decide)]; decide), if_neg (by rw [h 7368560 (by decide)]; decide), if_neg (by rw [h 98 (by decide)]; decide), if_neg (by rw [h 25196 (by decide)]; decide), if_neg (by rw [h 25208 (by decide)]; decide)]
  by_cases q : L a = 98
  · have hC : cdN L (a + 1) e = none := by
      cases hc : cdN L (a + 1) e with
      | none => rfl
      | some k =>
        exfalso
        unfold cdN at hc
        by_cases h2 : e - (a + 1) = 2
        · rw [if_pos h2] at hc
          have b1 := hL (a + 1) (by omega)
          have b2 := hL (a + 1 + 1) (by omega)
          have key : ∀ j x y, j < 49 → sbn j = 3 → sbc j 0 = 98 → sbc j 1 = x → sbc j 2 = y → L (a + 1) * 256 + L (a + 1 + 1) = x * 256 + y → x < 256 → y < 256 → False := by
            intro j x y hj e1 e2 e3 e4 e5 hx hy
            have : swB L a e j = true := by
              rw [sw_iff, e1]
              refine ⟨by omega, fun i hi => ?_⟩
              rcases (show i = 0 ∨ i = 1 ∨ i = 2 by omega) with rfl | rfl | rfl
              · rw [e2]; exact q
              · rw [e3]; omega
              · rw [e4]; show L (a + 1 + 1) = y; omega
            rw [hs j hj] at this; cases this
          unfold cdF at hc
          by_cases q25443 : L (a + 1) * 256 + L (a + 1 + 1) = 25443
          · exact key 37 99 99 (by decide) (by decide +kernel) (by decide +kernel) (by decide +kernel) (by decide +kernel) q25443 (by decide) (by decide)
          rw [if_neg q25443] at hc
          by_cases q25459 : L (a + 1) * 256 + L (a + 1 + 1) = 25459
          · exact key 36 99 115 (by decide) (by decide +kernel) (by decide +kernel) (by decide +kernel) (by decide +kernel) q25459 (by decide) (by decide)
          rw [if_neg q25459] at hc
          by_cases q25969 : L (a + 1) * 256 + L (a + 1 + 1) = 25969
          · exact key 34 101 113 (by decide) (by decide +kernel) (by decide +kernel) (by decide +kernel) (by decide +kernel) q25969 (by decide) (by decide)
          rw [if_neg q25969] at hc
          by_cases q26469 : L (a + 1) * 256 + L (a + 1 + 1) = 26469
          · exact key 44 103 101 (by decide) (by decide +kernel) (by decide +kernel) (by decide +kernel) (by decide +kernel) q26469 (by decide) (by decide)
          rw [if_neg q26469] at hc
          by_cases q26484 : L (a + 1) * 256 + L (a + 1 + 1) = 26484
          · exact key 46 103 116 (by decide) (by decide +kernel) (by decide +kernel) (by decide +kernel) (by decide +kernel) q26484 (by decide) (by decide)
          rw [if_neg q26484] at hc
          by_cases q26729 : L (a + 1) * 256 + L (a + 1 + 1) = 26729
          · exact key 42 104 105 (by decide) (by decide +kernel) (by decide +kernel) (by decide +kernel) (by decide +kernel) q26729 (by decide) (by decide)
          rw [if_neg q26729] at hc
          by_cases q27749 : L (a + 1) * 256 + L (a + 1 + 1) = 27749
          · exact key 47 108 101 (by decide) (by decide +kernel) (by decide +kernel) (by decide +kernel) (by decide +kernel) q27749 (by decide) (by decide)
          rw [if_neg q27749] at hc
          by_cases q27763 : L (a + 1) * 256 + L (a + 1 + 1) = 27763
          · exact key 43 108 115 (by decide) (by decide +kernel) (by decide +kernel) (by decide +kernel) (by decide +kernel) q27763 (by decide) (by decide)
          rw [if_neg q27763] at hc
          by_cases q27764 : L (a + 1) * 256 + L (a + 1 + 1) = 27764
          · exact key 45 108 116 (by decide) (by decide +kernel) (by decide +kernel) (by decide +kernel) (by decide +kernel) q27764 (by decide) (by decide)
          rw [if_neg q27764] at hc
          by_cases q28009 : L (a + 1) * 256 + L (a + 1 + 1) = 28009
          · exact key 38 109 105 (by decide) (by decide +kernel) (by decide +kernel) (by decide +kernel) (by decide +kernel) q28009 (by decide) (by decide)
          rw [if_neg q28009] at hc
          by_cases q28261 : L (a + 1) * 256 + L (a + 1 + 1) = 28261
          · exact key 35 110 101 (by decide) (by decide +kernel) (by decide +kernel) (by decide +kernel) (by decide +kernel) q28261 (by decide) (by decide)
          rw [if_neg q28261] at hc
          by_cases q28780 : L (a + 1) * 256 + L (a + 1 + 1) = 28780
          · exact key 39 112 108 (by decide) (by decide +kernel) (by decide +kernel) (by decide +kernel) (by decide +kernel) q28780 (by decide) (by decide)
          rw [if_neg q28780] at hc
          by_cases q30307 : L (a + 1) * 256 + L (a + 1 + 1) = 30307
          · exact key 41 118 99 (by decide) (by decide +kernel) (by decide +kernel) (by decide +kernel) (by decide +kernel) q30307 (by decide) (by decide)
          rw [if_neg q30307] at hc
          by_cases q30323 : L (a + 1) * 256 + L (a + 1 + 1) = 30323
          · exact key 40 118 115 (by decide) (by decide +kernel) (by decide +kernel) (by decide +kernel) (by decide +kernel) q30323 (by decide) (by decide)
          rw [if_neg q30323] at hc
          cases hc
        · rw [if_neg h2] at hc; cases hc
    rw [if_pos q]
    simp only [hC]
  · rw [if_neg q]
theorem noW {L : Nat → Nat} {a e : Nat} (hs : ∀ j, j < 49 → swB L a e j = false) : (∀ v, v ∈ dirL → isW L a e v = false) ∧ (∀ v, v ∈ simL → isW L a e v = false) ∧ ∀ v, v ∈ othL → isW L a e v = false := by
  have key : ∀ v, (List.range 49).any (fun j => mtc2 j v) = true → isW L a e v = false := by
    intro v hv
    rw [List.any_eq_true] at hv
    obtain ⟨j, hj, hm⟩ := hv
    rw [isW_sw hm]; exact hs j (List.mem_range.mp hj)
  exact ⟨fun v hv => key v ((show ∀ v, v ∈ dirL → (List.range 49).any (fun j => mtc2 j v) = true by decide +kernel) v hv), fun v hv => key v ((show ∀ v, v ∈ simL → (List.range 49).any (fun j => mtc2 j v) = true by decide +kernel) v hv), fun v hv => key v ((show ∀ v, v ∈ othL → (List.range 49).any (fun j => mtc2 j v) = true by decide +kernel) v hv)⟩
theorem noSt {o : Nat} {L : Nat → Nat} {n a e : Nat} {r : SR} {s : PS} (he : e ≤ n) (hL : ChO L n) (hs : ∀ j, j < 49 → swB L a e j = false) : rdSt o L n a e r s = (r, pWrong s (-3) a) := by
  obtain ⟨h1, h2, h3⟩ := noW hs
  unfold rdSt
  by_cases q : e = a
  · rw [if_pos q]
  · rw [if_neg q, noDir h1, if_neg (fun z => by cases z), noSim h2, if_neg (fun z => by cases z), noOth he hL h3 hs, if_neg (fun z => by cases z)]
