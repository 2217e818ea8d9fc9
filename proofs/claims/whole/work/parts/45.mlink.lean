def SB (sec a b k _j s : Nat) : Prop := (k = 31 ∧ s = sec) ∨ (k = 34 ∧ 1024 * sec + a ≤ s ∧ s < 1024 * sec + b)
theorem pB_fr {M : Mem} {sec z : Nat} {v : Int32} (h : z < 1024) : Fr (SB sec z (z + 1)) M (pB M sec z v) := by
  unfold pB
  rw [if_pos h]
  exact ((Fr.refl M).sI (Or.inr ⟨rfl, by omega, by omega⟩)).sI (Or.inl ⟨rfl, rfl⟩)
theorem pB_b {M : Mem} {sec z : Nat} {v : Int32} (h : z < 1024) : mI (pB M sec z v) 34 0 (1024 * sec + z) = v &&& nI 255 := by
  unfold pB
  rw [if_pos h, mI_sI, if_neg (fun q => absurd q.1 (by decide)), mI_sI, if_pos ⟨rfl, rfl, rfl⟩]
theorem SB_le {sec a b a' b' : Nat} (h1 : a' ≤ a) (h2 : b ≤ b') : ∀ k j s, SB sec a b k j s → SB sec a' b' k j s := by
  intro k j s h
  unfold SB at h ⊢
  omega
theorem pMF_fr {sec : Nat} {v : Int32} : ∀ (d k z : Nat) (M : Mem), z + d ≤ 1024 → Fr (SB sec z (z + d)) M (pMF sec v d k z M)
  | 0, _, _, M, _ => Fr.refl M
  | d + 1, k, z, M, h => by
    rw [pMF]
    exact ((pB_fr (by omega)).mono (SB_le (Nat.le_refl _) (by omega))).trans ((pMF_fr d (k + 1) (z + 1) _ (by omega)).mono (SB_le (by omega) (by omega)))
theorem pMF_b {sec : Nat} {v : Int32} : ∀ (d k z : Nat) (M : Mem), z + d ≤ 1024 → k + d ≤ 4 → ∀ j, j < d → mI (pMF sec v d k z M) 34 0 (1024 * sec + z + j) = nI (bt v (k + j))
  | 0, _, _, _, _, _, j, hj => absurd hj (by omega)
  | d + 1, k, z, M, h, h4, j, hj => by
    rw [pMF]
    rcases Nat.eq_zero_or_pos j with q | q
    · rw [q, (pMF_fr d (k + 1) (z + 1) _ (by omega)).I (by unfold SB; omega), Nat.add_zero, Nat.add_zero, pB_b (by omega), bt_shr v k (by omega)]
    · have h9 := pMF_b (sec := sec) (v := v) d (k + 1) (z + 1) (pB M sec z (v >>> (nI (8 * k) &&& 31))) (by omega) (by omega) (j - 1) (by omega)
      rw [show 1024 * sec + (z + 1) + (j - 1) = 1024 * sec + z + j by omega, show k + 1 + (j - 1) = k + j by omega] at h9
      exact h9
theorem zF_fr {sec : Nat} : ∀ (d z : Nat) (M : Mem), z + d ≤ 1024 → Fr (SB sec z (z + d)) M (zF sec d z M)
  | 0, _, M, _ => Fr.refl M
  | d + 1, z, M, h => by
    rw [zF]
    exact ((pB_fr (by omega)).mono (SB_le (Nat.le_refl _) (by omega))).trans ((zF_fr d (z + 1) _ (by omega)).mono (SB_le (by omega) (by omega)))
theorem zF_b {sec : Nat} : ∀ (d z : Nat) (M : Mem), z + d ≤ 1024 → ∀ j, j < d → mI (zF sec d z M) 34 0 (1024 * sec + z + j) = nI 0
  | 0, _, _, _, j, hj => absurd hj (by omega)
  | d + 1, z, M, h, j, hj => by
    rw [zF]
    rcases Nat.eq_zero_or_pos j with q | q
    · rw [q, (zF_fr d (z + 1) _ (by omega)).I (by unfold SB; omega), Nat.add_zero, pB_b (by omega)]; decide
    · have h9 := zF_b (sec := sec) d (z + 1) (pB M sec z (nI 0)) (by omega) (j - 1) (by omega)
      rw [show 1024 * sec + (z + 1) + (j - 1) = 1024 * sec + z + j by omega] at h9
      exact h9
/-- a record that names a label in its bytes -/
abbrev nref (A : CR) : Prop := (rK A = 3 ∧ rNm A ≠ 0) ∨ (rK A = 7 ∧ rRe A ≠ 0)
def lb (A : CR) (j : Nat) : Nat := if rK A = 3 ∨ rK A = 4 ∨ rK A = 7 then bt (rNo A) j else 0
theorem StK.lo {A : CR} {s nw z : Nat} {code num : Int32} (h : StK A s code num) (hs : s < 5) (hz : z ≤ 1024) : erL A nw z = 0 ∧ by1 A z = 0 := by
  have hk : rK A ≤ 2 ∧ bN A = 0 := by
    unfold StK at h
    rcases h with h | h | h | h | h | h | h | h | h | h | h | h | h
    · exact ⟨by omega, bN_n h.2.2 (by decide)⟩
    · exact ⟨by omega, bN_n h.2.2.2.2 (by decide)⟩
    · exact ⟨by omega, bN_n h.2.2 (by decide)⟩
    all_goals exact absurd h.1 (by omega)
  have hb : by1 A z = 0 := by unfold by1; rw [if_neg (by omega)]; exact hk.2
  refine ⟨?_, hb⟩
  unfold erL
  rw [if_neg (by omega), if_neg (by omega), if_neg (by omega)]
theorem StK.five {A : CR} {s : Nat} {code num : Int32} (h : StK A s code num) (hs : 5 ≤ s) : ((s < 10 ∧ s ≠ 8 ∧ s ≠ 9) ↔ (rK A = 3 ∨ rK A = 4)) ∧ (10 ≤ s ↔ rK A = 7) ∧ ((s = 5 ∨ s = 6) ↔ rK A = 3) ∧ ∀ z, lyN s z (bN A) = by1 A z := by
  unfold StK at h
  rcases h with h | h | h | h | h | h | h | h | h | h | h | h | h
  · omega
  · omega
  · omega
  · have := bN_n h.2.2.2.2 (by decide)
    refine ⟨by omega, by omega, by omega, fun z => ?_⟩
    rw [h.1, lyN, by1, if_neg (by decide), if_neg (by decide), if_neg (by decide), if_pos (by decide), if_neg (by omega)]; omega
  · have := bN_n h.2.2.2.2 (by decide)
    refine ⟨by omega, by omega, by omega, fun z => ?_⟩
    rw [h.1, lyN, by1, if_neg (by decide), if_neg (by decide), if_neg (by decide), if_pos (by decide), if_neg (by omega)]; omega
  · have := bN_n h.2.2.2 (by decide)
    refine ⟨by omega, by omega, by omega, fun z => ?_⟩
    rw [h.1, lyN, by1, if_neg (by decide), if_neg (by decide), if_pos rfl, if_neg (by omega)]; omega
  · refine ⟨by omega, by omega, by omega, fun z => ?_⟩
    rw [h.1, lyN, by1, if_neg (by decide), if_pos rfl, if_neg (by omega)]
  · refine ⟨by omega, by omega, by omega, fun z => ?_⟩
    rw [h.1, lyN, by1, if_pos rfl, if_pos (by omega)]
  all_goals
    have := bN_n h.2.2.2.2 (by decide)
    refine ⟨by omega, by omega, by omega, fun z => ?_⟩
    rw [h.1, show by1 A z = bN A from if_neg (by omega), this]
    rfl
theorem lay_er {A : CR} {s nw z sec : Nat} {vn vc : Int32} {M : Mem} (h : StK A s vc vn) (h5 : 5 ≤ s) : (lyF sec s nw z (bN A) vn vc M).1 = erL A nw z ∧ (erL A nw z = 0 → (lyF sec s nw z (bN A) vn vc M).2 = lyM sec s z (bN A) vn vc M) := by
  obtain ⟨k1, k2, k3, hn⟩ := h.five h5
  by_cases q : badK A nw
  · have q' : ((rK A = 3 ∨ rK A = 4) ∧ nw = 2) ∨ (rK A = 7 ∧ nw ≠ 0) := q
    rw [lyF_K (by omega) (by omega) (by omega), erL, if_pos q]
    exact ⟨rfl, fun e => absurd e (by decide)⟩
  have q' : ¬ (((rK A = 3 ∨ rK A = 4) ∧ nw = 2) ∨ (rK A = 7 ∧ nw ≠ 0)) := q
  by_cases q2 : badA A z
  · have q2' : (rK A = 7 ∧ z % 2 ≠ 0) ∨ (rK A = 3 ∧ z % 4 ≠ 0) := q2
    rw [lyF_A (by omega) (by omega) (by omega) (by omega), erL, if_neg q, if_pos q2]
    exact ⟨rfl, fun e => absurd e (by decide)⟩
  have q2' : ¬ ((rK A = 7 ∧ z % 2 ≠ 0) ∨ (rK A = 3 ∧ z % 4 ≠ 0)) := q2
  rw [lyF_O (by omega) (by omega) (by omega) (by omega), erL, if_neg q, if_neg q2, hn z]
  exact ⟨rfl, fun _ => rfl⟩
theorem lay_mem {A : CR} {s z sec : Nat} {vn vc : Int32} {M : Mem} (h : StK A s vc vn) (h5 : 5 ≤ s) (hz : mI M 31 0 sec = nI z) (hr : z + by1 A z ≤ 1024) : Fr (SB sec z (z + by1 A z)) M (lyM sec s z (bN A) vn vc M) ∧ mI (lyM sec s z (bN A) vn vc M) 31 0 sec = nI (z + by1 A z) ∧ (¬ nref A → ∀ j, j < by1 A z → mI (lyM sec s z (bN A) vn vc M) 34 0 (1024 * sec + z + j) = nI (lb A j)) := by
  obtain ⟨k1, k2, k3, hn⟩ := h.five h5
  rw [← hn z] at hr ⊢
  unfold StK at h
  rcases h with h | h | h | h | h | h | h | h | h | h | h | h | h
  · omega
  · omega
  · omega
  · obtain ⟨rfl, hk, hm, hv, hb⟩ := h
    exact ⟨pMF_fr 4 0 z M hr, pMF_z 4 0 z M hz, fun _ j hj => by rw [lb, if_pos (by omega), ← hv]; have := pMF_b (sec := sec) (v := vn) 4 0 z M hr (by decide) j hj; rw [Nat.zero_add] at this; exact this⟩
  · obtain ⟨rfl, hk, hm, hv, hb⟩ := h
    exact ⟨pMF_fr 4 0 z M hr, pMF_z 4 0 z M hz, fun q j hj => absurd (Or.inl ⟨hk, hm⟩) q⟩
  · obtain ⟨rfl, hk, hv, hb⟩ := h
    have hr1 : z < 1024 := hr
    refine ⟨pB_fr hr1, pB_z, fun q j hj => ?_⟩
    have hj1 : j < 1 := hj
    rw [lb, if_pos (by omega), show j = 0 by omega, Nat.add_zero, show lyM sec 7 z (bN A) vn vc M = pB M sec z vn from rfl, pB_b hr1, hv]
    have h9 := bt_shr (rNo A) 0 (by decide)
    rw [← h9]
    congr 1
    exact (Int32.shiftRight_zero (a := rNo A)).symm
  · obtain ⟨rfl, hk, b, hb, hv, hc⟩ := h
    exact ⟨zF_fr _ z M hr, zF_z _ z M hz, fun _ j hj => by rw [lb, if_neg (by omega)]; exact zF_b _ z M hr j hj⟩
  · obtain ⟨rfl, hk, hb⟩ := h
    exact ⟨zF_fr _ z M hr, zF_z _ z M hz, fun _ j hj => by rw [lb, if_neg (by omega)]; exact zF_b _ z M hr j hj⟩
  · obtain ⟨rfl, hk, hm, hv, hb⟩ := h
    exact ⟨pMF_fr 2 0 z M hr, pMF_z 2 0 z M hz, fun _ j hj => by rw [lb, if_pos (by omega), ← hv]; have := pMF_b (sec := sec) (v := vc) 2 0 z M hr (by decide) j hj; rw [Nat.zero_add] at this; exact this⟩
  · obtain ⟨rfl, hk, hm, hv, hb⟩ := h
    exact ⟨pMF_fr 2 0 z M hr, pMF_z 2 0 z M hz, fun q j hj => absurd (Or.inr ⟨hk, by omega⟩) q⟩
  · obtain ⟨rfl, hk, hm, hv, hb⟩ := h
    exact ⟨pMF_fr 2 0 z M hr, pMF_z 2 0 z M hz, fun q j hj => absurd (Or.inr ⟨hk, by omega⟩) q⟩
  · obtain ⟨rfl, hk, hm, hv, hb⟩ := h
    exact ⟨pMF_fr 4 0 z M hr, pMF_z 4 0 z M hz, fun q j hj => absurd (Or.inr ⟨hk, by omega⟩) q⟩
  · obtain ⟨rfl, hk, hm, hv, hb⟩ := h
    exact ⟨pMF_fr 2 0 z M hr, pMF_z 2 0 z M hz, fun q j hj => absurd (Or.inr ⟨hk, by omega⟩) q⟩
def SZ (k _j _s : Nat) : Prop := k = 31 ∨ k = 34
theorem pB_fz {M : Mem} {sec z : Nat} {v : Int32} : Fr SZ M (pB M sec z v) := by
  unfold pB
  split
  · exact ((Fr.refl M).sI (Or.inr rfl)).sI (Or.inl rfl)
  · exact (Fr.refl M).sI (Or.inl rfl)
theorem pMF_fz {sec : Nat} {v : Int32} : ∀ (d k z : Nat) (M : Mem), Fr SZ M (pMF sec v d k z M)
  | 0, _, _, M => Fr.refl M
  | d + 1, k, z, M => by rw [pMF]; exact pB_fz.trans (pMF_fz d _ _ _)
theorem zF_fz {sec : Nat} : ∀ (d z : Nat) (M : Mem), Fr SZ M (zF sec d z M)
  | 0, _, M => Fr.refl M
  | d + 1, z, M => by rw [zF]; exact pB_fz.trans (zF_fz d _ _)
theorem lyF_fr {sec s nw z num : Nat} {vn vc : Int32} {M : Mem} (h5 : 5 ≤ s) : Fr SZ M (lyF sec s nw z num vn vc M).2 := by
  unfold lyF
  rw [if_neg (by omega), if_neg (by omega)]
  split
  · exact Fr.refl M
  · split
    · exact Fr.refl M
    · show Fr SZ M (lyM sec s z num vn vc M)
      unfold lyM
      split
      · exact zF_fz _ _ _
      · split
        · exact zF_fz _ _ _
        · split
          · exact pB_fz
          · split
            · exact pMF_fz _ _ _ _
            · exact pMF_fz _ _ _ _
/-- lay, at a record -/
def SLy (sec a b k j s : Nat) : Prop := SB sec a b k j s ∨ (k = 11 ∧ s = 30)
theorem c_layL (G : GX) {M : Mem} (A : CR) (m nw z s : Nat) (hm : m < 4) (h15 : s < 15) (hst : mI M 11 0 13 = nI s) (hK : StK A s (mI M 11 0 15) (mI M 11 0 16)) (hA : rFa A = 0) (hnw : mI M 11 0 30 = nI nw) (hnw3 : nw < 3) (hz : mI M 31 0 (3 * m + nw) = nI z) (hz2 : z ≤ 1024) : MetM G yX12_lay iX12_lay [vR 11 0, vI (nI m)] M (fun r M' => r = some (vI (erL A nw z)) ∧ (erL A nw z ≠ 0 → Fr SLk M M' ∧ 5 ≤ s ∧ ∀ k q, k = 11 ∨ k = 38 → mI M' k 0 q = mI M k 0 q) ∧ (erL A nw z = 0 → Fr (SLy (3 * m + nw) z (z + by1 A z)) M M' ∧ mI M' 31 0 (3 * m + nw) = nI (z + by1 A z) ∧ mI M' 11 0 30 = nI (if rK A = 1 then sN A else nw) ∧ (¬ nref A → ∀ j, j < by1 A z → mI M' 34 0 (1024 * (3 * m + nw) + z + j) = nI (lb A j)))) := by
  have hrc := hK.rc hA
  refine MetM.post (c_lay G m nw z (bN A) s _ _ hm h15 hst hnw hnw3 hz hz2 rfl rfl (fun e => ?_) hrc.1) ?_
  · unfold StK at hK
    rcases hK with h | h | h | h | h | h | h | h | h | h | h | h | h
    all_goals first | omega | skip
    obtain ⟨b, hb, hv, hc⟩ := h.2.2
    rw [hv, bN_n hc (by omega)]
  · rintro r M' ⟨rfl, rfl⟩
    rcases Nat.lt_or_ge s 5 with h5 | h5
    · have hlo := hK.lo (nw := nw) h5 hz2
      have hb : by1 A z = 0 := hlo.2
      by_cases hs : 1 ≤ s ∧ s < 4
      · have e : lyF (3 * m + nw) s nw z (bN A) (mI M 11 0 16) (mI M 11 0 15) M = (nI 0, sI M 11 0 30 (nI (s - 1))) := if_pos hs
        have hk1 : rK A = 1 ∧ sN A = s - 1 := by
          unfold StK at hK
          rcases hK with h | h | h | h | h | h | h | h | h | h | h | h | h
          all_goals first | exact ⟨h.2.2.1, sN_n h.2.2.2.1 (by omega)⟩ | (exfalso; omega) | skip
        rw [e, hlo.1, hb]
        refine ⟨rfl, fun q => absurd rfl q, fun _ => ⟨(Fr.refl M).sI (Or.inr ⟨rfl, rfl⟩), hz, ?_, fun _ j hj => absurd hj (by omega)⟩⟩
        rw [if_pos hk1.1, hk1.2]; rfl
      · have e : lyF (3 * m + nw) s nw z (bN A) (mI M 11 0 16) (mI M 11 0 15) M = (nI 0, M) := by unfold lyF; rw [if_neg hs, if_pos (by omega)]
        have hk1 : rK A ≠ 1 := by
          unfold StK at hK
          rcases hK with h | h | h | h | h | h | h | h | h | h | h | h | h
          all_goals first | (exfalso; omega) | omega | skip
        rw [e, hlo.1, hb]
        refine ⟨rfl, fun q => absurd rfl q, fun _ => ⟨Fr.refl M, hz, ?_, fun _ j hj => absurd hj (by omega)⟩⟩
        rw [if_neg hk1]; exact hnw
    · have he := lay_er (sec := 3 * m + nw) (nw := nw) (z := z) (M := M) hK h5
      have hk1 : rK A ≠ 1 := by
        unfold StK at hK
        rcases hK with h | h | h | h | h | h | h | h | h | h | h | h | h
        all_goals omega
      rw [he.1]
      refine ⟨rfl, fun q => ?_, fun q => ?_⟩
      · have hf := lyF_fr (sec := 3 * m + nw) (s := s) (nw := nw) (z := z) (num := bN A) (vn := mI M 11 0 16) (vc := mI M 11 0 15) (M := M) h5
        exact ⟨hf.mono (fun k j s h => by unfold SZ at h; unfold SLk; omega), h5, fun k q hk => hf.I (by unfold SZ; omega)⟩
      · rw [he.2 q]
        have h9 := lay_mem (A := A) (sec := 3 * m + nw) hK h5 hz (erL_0 q).2.2
        exact ⟨h9.1.mono (fun k j s h => Or.inl h), h9.2.1, by rw [if_neg hk1]; exact (h9.1.I (by unfold SB; omega)).trans hnw, h9.2.2⟩
