def RcT (T : Nat → Nat → Nat × (Nat → Nat)) (m n : Nat) : CR := cP (T m n).2 (T m n).1
theorem Rx.src {q : Nat × (Nat → Nat)} {cnt : Nat → Nat} {T : Nat → Nat → Nat × (Nat → Nat)} {l : Nat} {M : Mem} (h : Rx q cnt T l M) : SrcM (RcT T) cnt M ∧ SrcC (RcT T) cnt M ∧ RcA (RcT T) cnt := by
  refine ⟨fun m hm => ?_, fun m hm => ?_, fun m n hm hn => cP_rb ((h.2.1 m hm).2.2.2 n hn).2.2.1⟩
  · obtain ⟨h1, h2, h3, h4⟩ := h.2.1 m hm
    exact ⟨h1, h3, fun n hn => ⟨T m n, (h4 n hn).1, (h4 n hn).2.1, (h4 n hn).2.2.1, rd_ok (h4 n hn).2.2.1⟩⟩
  · obtain ⟨h1, h2, h3, h4⟩ := h.2.1 m hm
    exact ⟨h2, h3, fun n hn => (h4 n hn).2.2.2⟩
theorem flE_pos {sz : Nat → Nat} : 8 ≤ flE sz := Nat.le_trans (pE_le (sec := 0) (frm := 8) (Nat.zero_le 4)) (pE_le (sec := 1) (frm := pE sz 0 8 4) (Nat.zero_le 4))
theorem SLC_k {j k i s : Nat} (h : SLC j k i s) : k ≠ 9 ∧ k ≠ 12 ∧ k ≠ 7 ∧ k ≠ 11 ∧ k < 22 := by
  rcases h with (h | h | h | h | h | h) | h | h | h | h <;> omega
theorem SLkG_k {k j s : Nat} (h : SLkG k j s) : 22 < k ∧ k ≠ 23 ∧ k ≠ 24 ∧ k ≠ 25 ∨ (k = 11 ∧ s ≠ 2) := by
  rcases h with (h | h) | h
  · rcases h with h | h | h | h | h | h | h | h | h <;> omega
  · omega
  · rcases h with h | h | h | h | h | h | h <;> omega
/-- the model's lines after the class's link -/
theorem SrcM.c {cnt : Nat → Nat} {M : Mem} {R : Nat → Nat → CR} {j : Nat} {N : Mem} (h : SrcM R cnt M) (f : Fr (SLC j) M N) : SrcM R cnt N := h.fr2 f (by intro k i s q z; have := SLC_k z; omega)
theorem RG.other {l : Nat} {M : Mem} {j : Nat} {N : Mem} (h : RG0 l M ∨ RG1 l M) (hj : j < 2) (hl : l < 2) (hne : j ≠ l) (f : Fr (SLC j) M N) : RG0 l N ∨ RG1 l N := by
  have n1 : ∀ k i s, ((k = 2 ∨ k = 3 ∨ k = 15) ∧ i = l) ∨ (k = 17 ∧ 3 * l ≤ i ∧ i < 3 * l + 3) ∨ (k = 19 ∧ 8 * l ≤ i ∧ i < 8 * l + 8) ∨ (k = 21 ∧ i = l) → ¬ SLC j k i s := by
    intro k i s q z
    rcases z with (z | z | z | z | z | z) | z | z | z | z <;> omega
  have n2 : ∀ k i s, k = 11 ∨ 22 ≤ k → ¬ SLC j k i s := by
    intro k i s q z; have := SLC_k z; omega
  rcases h with ⟨h1, h2, h3, h4, h5, h6, h7⟩ | ⟨sz, B, z, im, h1, h2, h3, h4, h5⟩
  · exact Or.inl ⟨(f.I (n2 _ _ _ (by omega))).trans h1, (f.I (n2 _ _ _ (by omega))).trans h2, (f.I (n2 _ _ _ (by omega))).trans h3, fun s hs => (f.I (n2 _ _ _ (by omega))).trans (h4 s hs), (f.I (n1 _ _ _ (by omega))).trans h5, (f.I (n1 _ _ _ (by omega))).trans h6, fun m s hm hs => (f.I (n1 _ _ _ (by omega))).trans (h7 m s hm hs)⟩
  · refine Or.inr ⟨sz, B, z, im, h1, h2, h3.fr f (fun k i s q => n2 _ _ _ (by omega)), h4.fr f (fun k i s q => n1 _ _ _ (by omega)), fun k hk => ?_⟩
    unfold imC; rw [f.I (n1 _ _ _ (by omega))]; exact h5 k hk
theorem RG.model {l : Nat} {M : Mem} {N : Mem} (h : RG0 l M ∨ RG1 l M) (f : Fr SLk0 M N) : RG0 l N ∨ RG1 l N := by
  have n1 : ∀ k i s, k < 11 ∨ (12 ≤ k ∧ k ≤ 22) → ¬ SLk0 k i s := by
    intro k i s q z
    rcases z with z | z
    · rcases z with z | z | z | z | z | z | z | z | z <;> omega
    · omega
  have n2 : ∀ k i s, (k = 26 ∧ 576 ≤ s) ∨ ((k = 27 ∨ k = 28 ∨ k = 29) ∧ 96 ≤ s) ∨ (k = 11 ∧ (s = 34 ∨ s = 20 ∨ s = 37)) ∨ k = 35 ∨ k = 36 ∨ k = 37 ∨ k = 39 → ¬ SLk0 k i s := by
    intro k i s q z
    rcases z with z | z
    · rcases z with z | z | z | z | z | z | z | z | z <;> omega
    · omega
  rcases h with ⟨h1, h2, h3, h4, h5, h6, h7⟩ | ⟨sz, B, z, im, h1, h2, h3, h4, h5⟩
  · exact Or.inl ⟨(f.I (n2 _ _ _ (by omega))).trans h1, (f.I (n2 _ _ _ (by omega))).trans h2, (f.I (n2 _ _ _ (by omega))).trans h3, fun s hs => (f.I (n2 _ _ _ (by omega))).trans (h4 s hs), (f.I (n1 _ _ _ (by omega))).trans h5, (f.I (n1 _ _ _ (by omega))).trans h6, fun m s hm hs => (f.I (n1 _ _ _ (by omega))).trans (h7 m s hm hs)⟩
  · refine Or.inr ⟨sz, B, z, im, h1, h2, h3.fr f n2, h4.fr f (fun k i s q => n1 _ _ _ (by omega)), fun k hk => ?_⟩
    unfold imC; rw [f.I (n1 _ _ _ (by omega))]; exact h5 k hk
/-- lines and typed signs stay -/
theorem Rx.stay {q : Nat × (Nat → Nat)} {cnt : Nat → Nat} {T : Nat → Nat → Nat × (Nat → Nat)} {l : Nat} {M : Mem} {j : Nat} {N M1 M2 : Mem} (h : Rx q cnt T l M) (f1 : Fr (SLC j) M N) (e1 : ∀ k i s, mI M1 k i s = mI N k i s) (hs : SrcC (RcT T) cnt M1) (f2 : Fr SLkG M1 M2) : RT q M2 ∧ RLn cnt T M2 := by
  have n1 : ∀ k i s, k = 9 ∨ k = 12 ∨ k = 7 ∨ k = 11 ∨ 22 ≤ k → ¬ SLC j k i s := by intro k i s z y; have := SLC_k y; omega
  have n2 : ∀ k i s, k < 11 ∨ k = 12 ∨ (22 ≤ k ∧ k ≤ 25) ∨ (k = 11 ∧ s = 2) → ¬ SLkG k i s := by intro k i s z y; have := SLkG_k y; omega
  have tr : ∀ k i s, (k = 9 ∨ k = 12 ∨ k = 7 ∨ (22 ≤ k ∧ k ≤ 25) ∨ (k = 11 ∧ s = 2)) → mI M2 k i s = mI M k i s := fun k i s z => (f2.I (n2 k i s (by omega))).trans ((e1 k i s).trans (f1.I (n1 k i s (by omega))))
  refine ⟨⟨⟨(tr _ _ _ (by omega)).trans h.1.1.1, fun i a b => (tr _ _ _ (by omega)).trans (h.1.1.2 i a b)⟩, ⟨(tr _ _ _ (by omega)).trans h.1.2.1.1, fun i a => (tr _ _ _ (by omega)).trans (h.1.2.1.2 i a)⟩, h.1.2.2⟩, fun m hm => ?_⟩
  obtain ⟨h1, h2, h3, h4⟩ := h.2.1 m hm
  refine ⟨(tr _ _ _ (by omega)).trans h1, (tr _ _ _ (by omega)).trans h2, h3, fun n hn => ?_⟩
  obtain ⟨g1, g2, g3, g4⟩ := h4 n hn
  exact ⟨⟨(tr _ _ _ (by omega)).trans g1.1, fun i hi => (tr _ _ _ (by omega)).trans (g1.2 i hi)⟩, g2, g3, ((hs m hm).2.2 n hn).fr f2 (fun s _ _ _ => n2 _ _ _ (by omega)) (fun _ => n2 _ _ _ (by omega))⟩
theorem Rx.link {q : Nat × (Nat → Nat)} {cnt : Nat → Nat} {T : Nat → Nat → Nat × (Nat → Nat)} {l : Nat} {M : Mem} {M1 M2 : Mem} {r1 r2 : Option AV} (h : Rx q cnt T l M) (h1 : PLC (RcT T) cnt (1 - l) l M r1 M1) (h2 : PLk (RcT T) cnt M1 r2 M2) : r1 = r2 ∧ mI M2 11 0 0 = nI 0 ∧ ∃ l', Rx q cnt T l' M2 := by
  obtain ⟨hl, hr4, hr5⟩ := h.2.2.1
  obtain ⟨k1, rfl, hs1, a | ⟨N, ma, fN, rfl, hg, him, e1, hf1, hgd⟩⟩ := h1
  · obtain ⟨f1, hb1⟩ := a
    obtain ⟨k2, rfl, hr2, ⟨hb2, f2⟩ | ⟨ma, im, hg, _⟩⟩ := h2
    · obtain ⟨u1, u2, u3, u4⟩ := hb1.uniq hb2
      have st := h.stay f1 (fun _ _ _ => rfl) hs1 (f2.mono (fun _ _ _ q => Or.inl q))
      have n1 : ∀ k i s, k = 1 → ¬ SLk0 k i s := by
        intro k i s q z
        rcases z with z | z
        · rcases z with z | z | z | z | z | z | z | z | z <;> omega
        · omega
      refine ⟨by rw [u1], hr2, l, st.1, st.2, (h.2.2.1.fr f1).fr f2, RG.model (RG.other h.2.2.2.1 (by omega) hl (by omega) f1) f2, fun s hs => ?_⟩
      rw [f2.I (n1 1 0 (s + 1) rfl)]
      rcases (show s = 0 ∨ s = 1 ∨ s = 2 by omega) with rfl | rfl | rfl
      · exact u2.symm
      · exact u3.symm
      · exact u4.symm
    · exact (hb1.no hg).elim
  · obtain ⟨k2, rfl, hr2, ⟨hb2, f2⟩ | ⟨ma2, im, hg2, him2, him8, e2, hf2, f2, hgm⟩⟩ := h2
    · exact (hb2.no hg).elim
    · have hma := hg.uniq hg2
      rw [← hma] at him2
      have st := h.stay (M1 := sR (sR N 10 0 5 l) 10 0 4 (1 - l)) fN (fun _ _ _ => rfl) hs1 f2
      have n1 : ∀ k i s, k < 11 ∨ (12 ≤ k ∧ k ≤ 22) → ¬ SLkG k i s := by intro k i s z y; have := SLkG_k y; omega
      refine ⟨by rw [e1, e2], hr2, 1 - l, st.1, st.2, ⟨by omega, f2.R.trans rfl, f2.R.trans (show l = 1 - (1 - l) by omega)⟩, Or.inr ⟨szE (RcT T) cnt, lbE (RcT T) cnt, flE (szE (RcT T) cnt), im, ⟨by have := flE_pos (sz := szE (RcT T) cnt); omega, hg.2.1.1⟩, him8, hgm, hgd.fr f2 (fun k i s q => n1 _ _ _ (by omega)), fun k hk => ?_⟩, fun s hs => ?_⟩
      · unfold imC
        rw [f2.I (n1 _ _ _ (by omega))]
        exact him.uniq him2 k hk
      · rw [hf2 s hs, f2.I (n1 _ _ _ (by omega))]; exact (hf1 s hs).symm
/-- the hexadecimal signs -/
theorem Rx.hex {q : Nat × (Nat → Nat)} {cnt : Nat → Nat} {T : Nat → Nat → Nat × (Nat → Nat)} {l : Nat} {M : Mem} (h : Rx q cnt T l M) : (mI M 2 l 1 = nI 0 ∧ mI M 11 0 37 = nI 0) ∨ ∃ z im, (0 < z ∧ z ≤ 2048) ∧ mI M 2 l 1 = nI z ∧ mI M 11 0 37 = nI (hxz z) ∧ (∀ k, k < 2048 → imC l M k = im k) ∧ (∀ k, im k < 256) ∧ ∀ k, k < hxz z → mI M 39 0 k = nI (hx z im k) := by
  rcases h.2.2.2.1 with g | ⟨sz, B, z, im, h1, h2, h3, h4, h5⟩
  · exact Or.inl ⟨g.2.2.2.2.1, g.2.1⟩
  · exact Or.inr ⟨z, im, h1, h4.2.2.2.2.2, h3.2.2.2.2.2.1, h5, h2, h3.2.2.2.2.2.2⟩
theorem hx_cg {z : Nat} {f g : Nat → Nat} (hz : z ≤ 2048) (h : ∀ k, k < 2048 → f k = g k) {k : Nat} (hk : k < hxz z) : hx z f k = hx z g k := by
  unfold hx
  unfold hxz at hk
  by_cases q : k < 16
  · rw [if_pos q, if_pos q]
    exact rch_cg (fun i _ => by unfold rb; simp) (by omega)
  rw [if_neg q, if_neg q]
  by_cases q2 : k - 16 < 12 * ((z + 15) / 16) + 2 * z
  · rw [if_pos q2, if_pos q2]
    refine rch_cg (fun i hi => ?_) (by omega)
    unfold rb
    by_cases h0 : i = 0; · rw [if_pos h0, if_pos h0]
    by_cases h1 : i = 1; · rw [if_neg h0, if_neg h0, if_pos h1, if_pos h1]
    by_cases h2 : i = 2; · rw [if_neg h0, if_neg h0, if_neg h1, if_neg h1, if_pos h2, if_pos h2]
    by_cases h3 : i = 3; · rw [if_neg h0, if_neg h0, if_neg h1, if_neg h1, if_neg h2, if_neg h2, if_pos h3, if_pos h3]
    rw [if_neg h0, if_neg h0, if_neg h1, if_neg h1, if_neg h2, if_neg h2, if_neg h3, if_neg h3, if_neg (by decide), if_neg (by decide)]
    exact h _ (by omega)
  · rw [if_neg q2, if_neg q2]
    refine rch_cg (fun i hi => ?_) (by omega)
    unfold rb
    by_cases h0 : i = 0; · rw [if_pos h0, if_pos h0]
    by_cases h1 : i = 1; · rw [if_neg h0, if_neg h0, if_pos h1, if_pos h1]
    by_cases h2 : i = 2; · rw [if_neg h0, if_neg h0, if_neg h1, if_neg h1, if_pos h2, if_pos h2]
    rw [if_neg h0, if_neg h0, if_neg h1, if_neg h1, if_neg h2, if_neg h2, if_pos (by omega), if_pos (by omega)]
