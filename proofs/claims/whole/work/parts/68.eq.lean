theorem swF_iff {L : Nat → Nat} {b j : Nat} : ∀ (d k : Nat), swF L b j d k = true ↔ ∀ i, k ≤ i → i < k + d → L (b + i) = sbc j i
  | 0, k => ⟨fun _ i h1 h2 => absurd h2 (by omega), fun _ => rfl⟩
  | d + 1, k => by
    rw [swF, Bool.and_eq_true, decide_eq_true_eq, swF_iff d (k + 1)]
    constructor
    · intro q i h1 h2
      rcases Nat.eq_or_lt_of_le h1 with z | z
      · rw [← z]; exact q.1
      · exact q.2 i z (by omega)
    · intro q
      exact ⟨q k (Nat.le_refl k) (by omega), fun i h1 h2 => q i (by omega) (by omega)⟩
theorem sw_iff {L : Nat → Nat} {b e j : Nat} : swB L b e j = true ↔ (e - b = sbn j ∧ ∀ i, i < sbn j → L (b + i) = sbc j i) := by
  unfold swB
  rw [Bool.and_eq_true, decide_eq_true_eq, swF_iff]
  exact ⟨fun q => ⟨q.1, fun i hi => q.2 i (Nat.zero_le i) (by omega)⟩, fun q => ⟨q.1, fun i _ hi => q.2 i (by omega)⟩⟩
def wch (v k : Nat) : Nat := v / 2 ^ (8 * (nb v - 1 - k)) % 256
theorem mtF_iff {L : Nat → Nat} {a v : Nat} : ∀ (d k : Nat), mtF L a v (nb v) d k = true ↔ ∀ i, k ≤ i → i < k + d → L (a + i) = wch v i
  | 0, k => ⟨fun _ i h1 h2 => absurd h2 (by omega), fun _ => rfl⟩
  | d + 1, k => by
    rw [mtF, Bool.and_eq_true, decide_eq_true_eq, mtF_iff d (k + 1)]
    constructor
    · intro q i h1 h2
      rcases Nat.eq_or_lt_of_le h1 with z | z
      · rw [← z]; exact q.1
      · exact q.2 i z (by omega)
    · intro q
      exact ⟨q k (Nat.le_refl k) (by omega), fun i h1 h2 => q i (by omega) (by omega)⟩
theorem isW_iff {L : Nat → Nat} {a e v : Nat} : isW L a e v = true ↔ (e - a = nb v ∧ ∀ i, i < nb v → L (a + i) = wch v i) := by
  unfold isW
  rw [Bool.and_eq_true, decide_eq_true_eq, mtF_iff]
  exact ⟨fun q => ⟨q.1, fun i hi => q.2 i (Nat.zero_le i) (by omega)⟩, fun q => ⟨q.1, fun i _ hi => q.2 i (by omega)⟩⟩
/-- the word j is the number v -/
def mtc2 (j v : Nat) : Bool := decide (nb v = sbn j) && (List.range (sbn j)).all (fun i => decide (sbc j i = wch v i))
theorem isW_sw {L : Nat → Nat} {a e j v : Nat} (h : mtc2 j v = true) : isW L a e v = swB L a e j := by
  unfold mtc2 at h
  rw [Bool.and_eq_true, decide_eq_true_eq, List.all_eq_true] at h
  have hc : ∀ i, i < sbn j → sbc j i = wch v i := fun i hi => of_decide_eq_true (h.2 i (List.mem_range.mpr hi))
  have key : isW L a e v = true ↔ swB L a e j = true := by
    rw [isW_iff, sw_iff, h.1]
    constructor
    · intro q; exact ⟨q.1, fun i hi => (q.2 i hi).trans (hc i hi).symm⟩
    · intro q; exact ⟨q.1, fun i hi => (q.2 i hi).trans (hc i hi)⟩
  cases h1 : isW L a e v <;> cases h2 : swB L a e j
  · rfl
  · exact absurd (key.mpr h2) (by rw [h1]; decide)
  · exact absurd (key.mp h1) (by rw [h2]; decide)
  · rfl
/-- two words are not one -/
def dif (j v : Nat) : Bool := decide (nb v ≠ sbn j) || (List.range (sbn j)).any (fun i => decide (sbc j i ≠ wch v i))
theorem isW_no {L : Nat → Nat} {a e j v : Nat} (hs : swB L a e j = true) (h : dif j v = true) : isW L a e v = false := by
  have hs := sw_iff.mp hs
  cases h1 : isW L a e v with
  | false => rfl
  | true =>
    have h2 := isW_iff.mp h1
    unfold dif at h
    rw [Bool.or_eq_true, decide_eq_true_eq, List.any_eq_true] at h
    rcases h with h | ⟨i, hi, h⟩
    · exact absurd (h2.1.symm.trans hs.1) h
    · have hi := List.mem_range.mp hi
      exact absurd ((hs.2 i hi).symm.trans (h2.2 i (by rw [← h2.1, hs.1]; exact hi))) (of_decide_eq_true h)
theorem sb_first : ∀ j, j < 51 → 1 ≤ sbn j ∧ (sbc j 0 = 46 ∨ isWs (sbc j 0) = true) := by decide +kernel
theorem sw_same {L : Nat → Nat} {n a j : Nat} (hj : j < 51) : swB L a (tEnd L n a) j = swB L a (wEnd L n a) j ∧ (swB L a (tEnd L n a) j = true → tEnd L n a = wEnd L n a ∧ a < n) := by
  obtain ⟨f1, f2⟩ := sb_first j hj
  rcases tw_cases L n a with ⟨h, _, q⟩ | ⟨h1, h2, h3, q, q'⟩ | ⟨h, q, q'⟩
  · rw [q]; exact ⟨rfl, fun _ => ⟨rfl, h⟩⟩
  · have e1 : swB L a (a + 1) j = false := by
      cases z : swB L a (a + 1) j with
      | false => rfl
      | true =>
        have z2 := sw_iff.mp z
        have z3 := z2.2 0 (by omega)
        rw [Nat.add_zero] at z3
        rcases f2 with f2 | f2
        · exact absurd (z3.trans f2) h2
        · rw [← z3, h3] at f2; cases f2
    have e2 : swB L a a j = false := by
      cases z : swB L a a j with
      | false => rfl
      | true => have z2 := (sw_iff.mp z).1; omega
    rw [q, q', e1, e2]; exact ⟨rfl, fun z => by cases z⟩
  · have e2 : swB L a a j = false := by
      cases z : swB L a a j with
      | false => rfl
      | true => have z2 := (sw_iff.mp z).1; omega
    rw [q, q', e2]; exact ⟨rfl, fun z => by cases z⟩
theorem cLF_f {L : Nat → Nat} {n j d : Nat} {b lo : Int32} {t : KS} : cLF L n j d b lo false t = (b, t) := by cases d <;> rfl
theorem rv_ls {L : Nat → Nat} {n : Nat} {last j fr : Nat} (hj : j < 51) (hm : mtc2 j last = true) : ∀ (d f : Nat) (v b bef : Int32) (q : Nat) (s : PS) (t : KS), OKs L n s t → n < f + s.1 → ((bef = -1 ∧ q = 0) ∨ (1 ≤ q ∧ bef = nI (q - 1))) → 9 ≤ d + q → q ≤ 8 → v = nI fr + b → RV L n ((lsF L n last f v bef s).1 = nI fr + (cLF L n j d b bef true t).1) (lsF L n last f v bef s).2 (cLF L n j d b bef true t).2
  | 0, f, v, b, bef, q, s, t, h, hf, hb, hd, hq, hv => absurd hd (by omega)
  | d + 1, 0, v, b, bef, q, s, t, h, hf, hb, hd, hq, hv => absurd hf (by have := h.2.2.1; omega)
  | d + 1, f + 1, v, b, bef, q, s, t, h, hf, hb, hd, hq, hv => by
    have hw : isW L (skp L n s.1) (wEnd L n (skp L n s.1)) last = swB L t.1 t.2.1 j := by
      rw [isW_sw hm, h.2.2.2.2, h.2.2.2.1, (sw_same hj).1]
    rw [lsF, cLF, hw]
    by_cases z : swB L t.1 t.2.1 j = true
    · rw [if_pos z, if_pos z]
      have he : tEnd L n (skp L n s.1) = wEnd L n (skp L n s.1) := by
        rw [h.2.2.2.2, h.2.2.2.1] at z
        exact ((sw_same hj).2 z).1
      exact Or.inl ⟨h.word he, by rw [hv, Int32.add_assoc]⟩
    · rw [if_neg z, if_neg z]
      have hr : cRg L t.1 t.2.1 = if isRg L (skp L n s.1) (wEnd L n (skp L n s.1)) = true then some (L (skp L n s.1 + 1) - 48) else none := by
        unfold cRg; rw [h.2.2.2.2, h.2.2.2.1, rg_same]
      have e9 : skp L n (skp L n s.1, s.2).1 = skp L n s.1 := skp_skp h.2.2.1
      by_cases y : isRg L (skp L n s.1) (wEnd L n (skp L n s.1)) = true
      · rw [if_pos y] at hr
        have hk8 := cRg_lt hr
        generalize hk : L (skp L n s.1 + 1) - 48 = k at hr hk8
        have hp : pRg L n (skp L n s.1, s.2) = (k, wEnd L n (skp L n s.1), s.2) := by
          unfold pRg; rw [e9, if_pos ⟨h.1, y⟩, hk]
        have hO := h.word (rg_word y)
        have hp1 : (pRg L n (skp L n s.1, s.2)).1 = k := by rw [hp]
        rw [hr, show prV (some k) = nI k from rfl]
        by_cases x : nI k ≤ bef
        · rw [if_pos x]
          have hS : lsS L n bef s = pWrong (wEnd L n (skp L n s.1), s.2) (-3) (skp L n s.1) := by
            unfold lsS; rw [hp, if_pos ⟨h.1, Int32.not_lt.mpr x⟩]
          have hbd : Bds (lsS L n bef s) (cFail t (-3) (nI t.1)) := by
            rw [hS, h.2.2.2.1]; exact h.fail _ _ (by decide) _
          rw [pTk_b hbd.1, if_neg (fun z => by cases z)]
          exact Or.inr hbd
        · rw [if_neg x]
          have hlt : bef < nI k := Int32.not_le.mp x
          have hqk : q ≤ k := by
            rcases hb with ⟨_, rfl⟩ | ⟨h1, rfl⟩
            · omega
            · have := (nI_ltI (by omega) (by omega)).mp hlt; omega
          have hS : lsS L n bef s = (wEnd L n (skp L n s.1), s.2) := by
            unfold lsS; rw [hp, if_neg (fun z => z.2 hlt)]
          rw [hS, hp1]
          have hge : skp L n s.1 + 2 ≤ wEnd L n (skp L n s.1) := by
            unfold isRg at y
            simp only [Bool.and_eq_true, decide_eq_true_eq] at y
            omega
          have hge2 := skp_ge (L := L) h.2.2.1
          have hg3 := skp_ge (L := L) hO.2.2.1
          have hg4 : wEnd L n (skp L n s.1) ≤ skp L n (wEnd L n (skp L n s.1)) := hg3
          have hT : pTk L n 44 (wEnd L n (skp L n s.1), s.2) = if chA L n (skp L n (wEnd L n (skp L n s.1))) = 44 then (true, skp L n (wEnd L n (skp L n s.1)) + 1, s.2) else (false, skp L n (wEnd L n (skp L n s.1)), s.2) := by unfold pTk; rw [if_pos h.1]
          by_cases c4 : chA L n (skp L n (wEnd L n (skp L n s.1))) = 44
          · have hs4 := (hO.see (c := 44) (by decide)).mpr c4
            rw [if_pos c4] at hT
            rw [hT, if_pos rfl, hs4]
            have hO2 := hO.sign S44 c4
            rw [show cAcc L n 44 (cStep L n t) = cStep L n (cStep L n t) by unfold cAcc; rw [if_pos hs4]]
            exact rv_ls hj hm d f _ _ _ (k + 1) _ _ hO2 (by dsimp only; omega) (Or.inr ⟨by omega, rfl⟩) (by omega) (by omega) (by rw [hv, Int32.add_assoc])
          · have hs4 : cSee L n 44 (cStep L n t) = false := Bool.eq_false_iff.mpr (fun z => c4 ((hO.see (by decide)).mp z))
            rw [if_neg c4] at hT
            rw [hT, if_neg (fun z => by cases z), hs4, cLF_f]
            rw [show cAcc L n 44 (cStep L n t) = cStep L n t by unfold cAcc; rw [if_neg (by rw [hs4]; decide)]]
            exact Or.inl ⟨hO.sk, by dsimp only; rw [hv, Int32.add_assoc]⟩
      · rw [if_neg y] at hr
        have hp : (pRg L n (skp L n s.1, s.2)).2 = pWrong (skp L n s.1, s.2) (-3) (skp L n s.1) := by
          unfold pRg; rw [e9, if_neg (fun z => y z.2)]
        have hb9 : Bds (pRg L n (skp L n s.1, s.2)).2 (cFail t (-3) (nI t.1)) := by rw [hp, h.2.2.2.1]; exact h.fail _ _ (by decide) _
        have hS : lsS L n bef s = (pRg L n (skp L n s.1, s.2)).2 := by
          unfold lsS; rw [if_neg (fun z => hb9.1 z.1)]
        have hle : (-1 : Int32) ≤ bef := by
          rcases hb with ⟨rfl, _⟩ | ⟨_, rfl⟩
          · exact Int32.le_refl _
          · rw [Int32.le_iff_toInt_le, nI_toInt (by omega)]
            have : (-1 : Int32).toInt = -1 := by decide
            omega
        rw [hS, pTk_b hb9.1, if_neg (fun z => by cases z), hr, show prV none = (-1 : Int32) from rfl, if_pos hle]
        exact Or.inr hb9
theorem cLF_b {L : Nat → Nat} {n : Nat} {j : Nat} : ∀ (d : Nat) (b lo : Int32) (m : Bool) (t : KS), t.2.2.1 ≠ 0 → (cLF L n j d b lo m t).2.2.2 = t.2.2
  | 0, _, _, _, _, _ => rfl
  | _ + 1, _, _, false, _, _ => rfl
  | d + 1, b, lo, true, t, h => by
    rw [cLF]
    split
    · rfl
    · split
      · exact cFail_b h
      · rw [cLF_b d _ _ _ _ (by rw [cAcc_b]; exact h), cAcc_b]; rfl
theorem rv_list {L : Nat → Nat} {n : Nat} {last j fr : Nat} {r : SR} {s : PS} {t : KS} (hj : j < 51) (hm : mtc2 j last = true) (h : OKs L n s t) : RV L n ((fLst L n fr last r s).1 = (nI 10, nI fr + (cLs L n j t).1, r.2.2)) (fLst L n fr last r s).2 (cLs L n j t).2 := by
  unfold fLst cLs lsQ
  dsimp only
  have S123 : sgn 123 := ⟨by decide, by decide, by decide⟩
  have S125 : sgn 125 := ⟨by decide, by decide, by decide⟩
  rcases rv_want h S123 with ⟨h1, _⟩ | h1
  · rw [if_pos h1.1]
    have h2 := rv_ls (fr := fr) hj hm 9 (n + 1) (nI fr) (nI 0) (-1) 0 _ _ h1 (by omega) (Or.inl ⟨rfl, rfl⟩) (by decide) (by decide) (by rw [nI_add]; rfl)
    rcases rv_want' h2 S125 with ⟨h3, e3⟩ | h3
    · exact Or.inl ⟨h3, by rw [e3]⟩
    · exact Or.inr h3
  · rw [if_neg h1.1]
    refine Or.inr ?_
    have c1 := cLF_b (L := L) (n := n) (j := j) 9 (nI 0) (-1) true (cExp L n 123 t) h1.t
    refine h1.st (by rw [pWt_b h1.1]) ?_
    rw [cExp_b (by rw [c1]; exact h1.t)]; exact c1
theorem rv_bx {L : Nat → Nat} {n : Nat} {r : SR} {s : PS} {t : KS} (h : OKs L n s t) : RV L n ((fBx L n r s).1 = (nI 10, nI (18176 + 8 * (cXc L n t).1), r.2.2)) (fBx L n r s).2 (cXc L n t).2 := by
  have hw : isW L (skp L n s.1) (wEnd L n (skp L n s.1)) 27762 = swB L t.1 t.2.1 49 := by
    rw [isW_sw (j := 49) (by decide +kernel), h.2.2.2.2, h.2.2.2.1, (sw_same (by decide)).1]
  unfold fBx cXc
  rw [hw]
  by_cases z : swB L t.1 t.2.1 49 = true
  · rw [if_pos z, if_pos z]
    have he : tEnd L n (skp L n s.1) = wEnd L n (skp L n s.1) := by
      rw [h.2.2.2.2, h.2.2.2.1] at z
      exact ((sw_same (by decide)).2 z).1
    exact Or.inl ⟨h.word he, rfl⟩
  · rw [if_neg z, if_neg z]
    rcases rv_reg h.sk with ⟨h1, e1⟩ | h1
    · exact Or.inl ⟨h1, by dsimp only at e1 ⊢; rw [e1]⟩
    · exact Or.inr h1
