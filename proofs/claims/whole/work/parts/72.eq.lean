theorem StK.rb {A : CR} {s : Nat} {code num : Int32} (h : StK A s code num) : rBy A = nI (bN A) ∧ (rK A = 1 → rNo A = nI (sN A)) := by
  have key : ∀ b : Nat, rBy A = nI b → b < 2 ^ 31 → rBy A = nI (bN A) := fun b e hb => by rw [bN_n e hb]; exact e
  unfold StK at h
  rcases h with h | h | h | h | h | h | h | h | h | h | h | h | h
  · exact ⟨key _ h.2.2 (by decide), fun z => by omega⟩
  · exact ⟨key _ h.2.2.2.2 (by decide), fun _ => by rw [sN_n h.2.2.2.1 (by omega)]; exact h.2.2.2.1⟩
  · exact ⟨key _ h.2.2 (by decide), fun z => by omega⟩
  · exact ⟨key _ h.2.2.2.2 (by decide), fun z => by omega⟩
  · exact ⟨key _ h.2.2.2.2 (by decide), fun z => by omega⟩
  · exact ⟨key _ h.2.2.2 (by decide), fun z => by omega⟩
  · obtain ⟨b, hb, _, hc⟩ := h.2.2; exact ⟨key _ hc (by omega), fun z => by omega⟩
  · exact ⟨key _ h.2.2 (by decide), fun z => by omega⟩
  all_goals exact ⟨key _ h.2.2.2.2 (by decide), fun z => by omega⟩
theorem cName_lt {L : Nat → Nat} {n : Nat} {t : KS} : (cName L n t).1 < 2 ^ 48 := cNm_lt
theorem cRef_n {L : Nat → Nat} {n : Nat} {A : CR} {t : KS} : rNm (cRef L n A t).1 < 2 ^ 48 := cNm_lt
theorem cSt_n {L : Nat → Nat} {n : Nat} {A : CR} {t : KS} {q : Option Nat} (h : rNm A < 2 ^ 48) : rNm (cSt L n A t q).1 < 2 ^ 48 := by
  cases q with
  | none => exact h
  | some j =>
    show rNm (if mnFn j < 6 then _ else _ : CR × KS).1 < _
    by_cases hf : mnFn j < 6
    · rw [if_pos hf]
      unfold cDir
      split; · exact h
      split; · exact cNm_lt
      split
      · unfold cVal
        split
        · unfold cV2
          split; · exact cNm_lt
          split <;> exact cNm_lt
        · exact h
      split; · exact h
      split <;> exact h
    · rw [if_neg hf]
      unfold cIns
      split; · exact h
      split; · exact h
      split; · exact h
      split; · exact h
      split
      · unfold cLd; split
        · exact h
        · exact cNm_lt
      split; · exact h
      split; · exact h
      split; · exact h
      split; · exact cNm_lt
      split <;> exact h
theorem cLb_n {L : Nat → Nat} {n : Nat} {A : CR} {t : KS} (h1 : rLab A < 2 ^ 48) : rLab (cLb L n A t).1 < 2 ^ 48 ∧ rNm (cLb L n A t).1 = rNm A := by
  unfold cLb
  split
  · exact ⟨h1, rfl⟩
  · split
    · exact ⟨cNm_lt, rfl⟩
    · exact ⟨h1, rfl⟩
theorem cP_n {L : Nat → Nat} {n : Nat} : rLab (cP L n) < 2 ^ 48 ∧ rNm (cP L n) < 2 ^ 48 := by
  have hb := cLb_n (L := L) (n := n) (A := A0) (t := cT0 L n) (by decide)
  have hn : rNm (cLb L n A0 (cT0 L n)).1 < 2 ^ 48 := by rw [hb.2]; decide
  show rLab (cB2 n _).1 < _ ∧ rNm (cB2 n _).1 < _
  rw [cB2_1]
  unfold cB1
  split
  · exact ⟨hb.1, hn⟩
  · exact ⟨by rw [cSt_k.2.1]; exact hb.1, cSt_n hn⟩
theorem cP_rb {L : Nat → Nat} {n : Nat} (hL : ChO L n) : RcB (cP L n) := by
  have h := rd_ok hL
  refine ⟨h.rc, fun h0 => ?_, cP_n.1, cP_n.2, fun h0 h1 => ?_⟩
  · obtain ⟨s, _, _, _, hk, _⟩ := (h 0 (0, 0, 0, 0) 0 0).2.2.2 h0
    exact hk.rb.1
  · obtain ⟨s, _, _, _, hk, _⟩ := (h 0 (0, 0, 0, 0) 0 0).2.2.2 h0
    exact hk.rb.2 h1
