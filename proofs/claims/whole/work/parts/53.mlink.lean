/-! WHAT A LINK ANSWERS -/
def szE (R : Nat → Nat → CR) (cnt : Nat → Nat) : Nat → Nat := (at1 R cnt 4 0).2.1
def lbE (R : Nat → Nat → CR) (cnt : Nat → Nat) : LB := (at1 R cnt 4 0).1
def glE (R : Nat → Nat → CR) (cnt : Nat → Nat) : Nat → Bool := at2 R cnt (lbE R cnt) 4 0
def bsE (R : Nat → Nat → CR) (cnt : Nat → Nat) : Nat → Nat := bsA (szE R cnt)
abbrev rmE (R : Nat → Nat → CR) (cnt : Nat → Nat) : Prop := flE (szE R cnt) ≤ 2048 ∧ raE (szE R cnt) ≤ 536871936
def eE3 (R : Nat → Nat → CR) (cnt : Nat → Nat) : Nat → Nat → Int32 × Int32 := e3 R cnt (bsE R cnt) (lbE R cnt) (glE R cnt)
def eE2 (R : Nat → Nat → CR) (cnt : Nat → Nat) : Nat → Nat → Int32 × Int32 := e2 R cnt (lbE R cnt)
def Ok12 (R : Nat → Nat → CR) (cnt : Nat → Nat) : Prop := Ok cnt (e1 R cnt) 4 0 ∧ Ok cnt (eE2 R cnt) 4 0
def BadL (R : Nat → Nat → CR) (cnt : Nat → Nat) (k f0 f1 f2 : Int32) : Prop := FB cnt (e1 R cnt) k f0 f1 f2 ∨ (Ok cnt (e1 R cnt) 4 0 ∧ FB cnt (eE2 R cnt) k f0 f1 f2) ∨ (Ok12 R cnt ∧ ¬ rmE R cnt ∧ k = -7 ∧ f0 = -1 ∧ f1 = -1 ∧ f2 = -1) ∨ (Ok12 R cnt ∧ rmE R cnt ∧ FB cnt (eE3 R cnt) k f0 f1 f2) ∨ (Ok12 R cnt ∧ rmE R cnt ∧ Ok cnt (eE3 R cnt) 4 0 ∧ mnK (lbE R cnt) (glE R cnt) = none ∧ k = -8 ∧ f0 = -1 ∧ f1 = -1 ∧ f2 = -1)
def GoodL (R : Nat → Nat → CR) (cnt : Nat → Nat) (ma : Nat) : Prop := Ok12 R cnt ∧ rmE R cnt ∧ Ok cnt (eE3 R cnt) 4 0 ∧ ∃ k, mnK (lbE R cnt) (glE R cnt) = some k ∧ ma = ad (bsE R cnt) (lbE R cnt) k
theorem BadL.no {R : Nat → Nat → CR} {cnt : Nat → Nat} {ma : Nat} {k f0 f1 f2 : Int32} (h : BadL R cnt k f0 f1 f2) (g : GoodL R cnt ma) : False := by
  obtain ⟨⟨g1, g2⟩, g3, g4, i, g5, g6⟩ := g
  rcases h with h | ⟨_, h⟩ | h | ⟨_, _, h⟩ | h
  · exact h.no g1
  · exact h.no g2
  · exact h.2.1 g3
  · exact h.no g4
  · rw [h.2.2.2.1] at g5; cases g5
theorem BadL.uniq {R : Nat → Nat → CR} {cnt : Nat → Nat} {k f0 f1 f2 k' f0' f1' f2' : Int32} (h : BadL R cnt k f0 f1 f2) (h' : BadL R cnt k' f0' f1' f2') : k = k' ∧ f0 = f0' ∧ f1 = f1' ∧ f2 = f2' := by
  rcases h with h | ⟨h1, h⟩ | ⟨h1, h⟩ | ⟨h1, h2, h⟩ | ⟨h1, h2, h3, h⟩ <;> rcases h' with g | ⟨g1, g⟩ | ⟨g1, g⟩ | ⟨g1, g2, g⟩ | ⟨g1, g2, g3, g⟩
  · exact h.uniq g
  · exact absurd g1 (fun z => h.no z)
  · exact absurd g1.1 (fun z => h.no z)
  · exact absurd g1.1 (fun z => h.no z)
  · exact absurd g1.1 (fun z => h.no z)
  · exact absurd h1 (fun z => g.no z)
  · exact h.uniq g
  · exact absurd g1.2 (fun z => h.no z)
  · exact absurd g1.2 (fun z => h.no z)
  · exact absurd g1.2 (fun z => h.no z)
  · exact absurd h1.1 (fun z => g.no z)
  · exact absurd h1.2 (fun z => g.no z)
  · obtain ⟨_, rfl, rfl, rfl, rfl⟩ := h; obtain ⟨_, rfl, rfl, rfl, rfl⟩ := g; exact ⟨rfl, rfl, rfl, rfl⟩
  · exact absurd g2 h.1
  · exact absurd g2 h.1
  · exact absurd h1.1 (fun z => g.no z)
  · exact absurd h1.2 (fun z => g.no z)
  · exact absurd h2 g.1
  · exact h.uniq g
  · exact absurd g3 (fun z => h.no z)
  · exact absurd h1.1 (fun z => g.no z)
  · exact absurd h1.2 (fun z => g.no z)
  · exact absurd h2 g.1
  · exact absurd h3 (fun z => g.no z)
  · obtain ⟨_, rfl, rfl, rfl, rfl⟩ := h; obtain ⟨_, rfl, rfl, rfl, rfl⟩ := g; exact ⟨rfl, rfl, rfl, rfl⟩
theorem GoodL.uniq {R : Nat → Nat → CR} {cnt : Nat → Nat} {ma ma' : Nat} (g : GoodL R cnt ma) (g' : GoodL R cnt ma') : ma = ma' := by
  obtain ⟨_, _, _, i, h1, rfl⟩ := g
  obtain ⟨_, _, _, j, h2, rfl⟩ := g'
  rw [h1] at h2; cases h2; rfl
/-- where a line's bytes lie in flash -/
def ps (R : Nat → Nat → CR) (cnt : Nat → Nat) (m n : Nat) : Nat := fl (szE R cnt) (pS R cnt m n) + pO R cnt m n
def fbE (R : Nat → Nat → CR) (cnt : Nat → Nat) (m n j : Nat) : Nat := fb3 (bsE R cnt) (lbE R cnt) (glE R cnt) (R m n) m (pS R cnt m n) (pO R cnt m n) j
def ImOK (R : Nat → Nat → CR) (cnt : Nat → Nat) (ma : Nat) (f : Nat → Nat) : Prop := (∀ k, k < 8 → f k = vecs ma k) ∧ (∀ m n, m < 4 → n < cnt m → pS R cnt m n % 3 ≠ 2 → ∀ j, j < pB1 R cnt m n → f (ps R cnt m n + j) = fbE R cnt m n j) ∧ ∀ k, 8 ≤ k → k < 2048 → (∀ m n, m < 4 → n < cnt m → pS R cnt m n % 3 ≠ 2 → ¬ (ps R cnt m n ≤ k ∧ k < ps R cnt m n + pB1 R cnt m n)) → f k = 0
theorem ImOK.uniq {R : Nat → Nat → CR} {cnt : Nat → Nat} {ma : Nat} {f f' : Nat → Nat} (h : ImOK R cnt ma f) (h' : ImOK R cnt ma f') : ∀ k, k < 2048 → f k = f' k := by
  intro k hk
  by_cases q : k < 8
  · rw [h.1 k q, h'.1 k q]
  by_cases q2 : ∀ m n, m < 4 → n < cnt m → pS R cnt m n % 3 ≠ 2 → ¬ (ps R cnt m n ≤ k ∧ k < ps R cnt m n + pB1 R cnt m n)
  · rw [h.2.2 k (by omega) hk q2, h'.2.2 k (by omega) hk q2]
  · obtain ⟨m, n, h1, h2, h3, h4⟩ : ∃ m n, m < 4 ∧ n < cnt m ∧ pS R cnt m n % 3 ≠ 2 ∧ (ps R cnt m n ≤ k ∧ k < ps R cnt m n + pB1 R cnt m n) := by
      refine Classical.byContradiction (fun z => q2 (fun m n a b c d => z ⟨m, n, a, b, c, d⟩))
    have e1 := h.2.1 m n h1 h2 h3 (k - ps R cnt m n) (by omega)
    have e2 := h'.2.1 m n h1 h2 h3 (k - ps R cnt m n) (by omega)
    rw [show ps R cnt m n + (k - ps R cnt m n) = k by omega] at e1 e2
    rw [e1, e2]
theorem lb_lt {A : CR} {j : Nat} : lb A j < 256 := by unfold lb; split; exact bt_lt; decide
theorem fb3_lt {bs : Nat → Nat} {B : LB} {g : Nat → Bool} {A : CR} {m s p j : Nat} : fb3 bs B g A m s p j < 256 := by
  unfold fb3
  split
  · cases rs B g m (rNm A) with
    | none => exact (by decide : 0 < 256)
    | some k =>
      show fbK bs B A s p k j < 256
      unfold fbK hvB
      split
      · exact bt_lt
      · split <;> exact bt_lt
  · exact lb_lt
theorem at1_end {R : Nat → Nat → CR} {cnt : Nat → Nat} (hc : ∀ m, m < 4 → cnt m ≤ 24) (hR : ∀ m n, m < 4 → n < cnt m → RcOK (R m n)) (hok : Ok cnt (e1 R cnt) 4 0) : LbW (lbE R cnt) ∧ (lbE R cnt).1 ≤ 96 ∧ ∀ s, szE R cnt s ≤ 1024 := by
  have h9 := at1_inv hc hR 3 (cnt 3) (by decide) (Nat.le_refl _) (fun a b q hb => hok a b (by unfold lx at q ⊢; omega) hb)
  have hc3 := hc 3 (by decide)
  have e := at1_m (R := R) (cnt := cnt) (m := 3)
  unfold lbE szE
  rw [show (4 : Nat) = 3 + 1 from rfl, e]
  exact ⟨h9.1, by have := h9.2.1; dsimp only; omega, h9.2.2.1⟩
theorem p_in {R : Nat → Nat → CR} {cnt : Nat → Nat} {m n : Nat} (hm : m < 4) (hn : n < cnt m) : pO R cnt m n + pB1 R cnt m n ≤ szE R cnt (pS R cnt m n) := p_end (Or.inl hm) hn
theorem pS_lt {R : Nat → Nat → CR} {cnt : Nat → Nat} (hc : ∀ m, m < 4 → cnt m ≤ 24) (hR : ∀ m n, m < 4 → n < cnt m → RcOK (R m n)) (hok : Ok cnt (e1 R cnt) 4 0) {m n : Nat} (hm : m < 4) (hn : n < cnt m) : (at1 R cnt m n).2.2 < 3 ∧ pS R cnt m n < 12 := by
  have h9 := (at1_inv hc hR m n hm (by omega) (fun a b q hb => hok a b (by unfold lx at q ⊢; omega) hb)).2.2.2
  exact ⟨h9, by unfold pS; omega⟩
theorem fimT_no {sz : Nat → Nat} {by' : Nat → Nat → Nat} {ma x : Nat} : ∀ t, (∀ s, s < t → s % 3 ≠ 2 → ¬ (fl sz s ≤ x ∧ x < fl sz s + sz s)) → fimT sz by' ma t x = vecs ma x
  | 0, _ => rfl
  | t + 1, h => by
    show fimP sz by' t (sz t) (fimT sz by' ma t) x = vecs ma x
    unfold fimP
    rw [if_neg (fun q => h t (by omega) q.1 q.2)]
    exact fimT_no t (fun s hs => h s (by omega))
theorem fimT_at {sz : Nat → Nat} {by' : Nat → Nat → Nat} {ma s k : Nat} (h2 : s % 3 ≠ 2) (hk : k < sz s) (hs : s < 12) : ∀ t, t ≤ 12 → s < t → fimT sz by' ma t (fl sz s + k) = by' s k
  | 0, _, h => absurd h (by omega)
  | t + 1, ht, h => by
    show fimP sz by' t (sz t) (fimT sz by' ma t) (fl sz s + k) = by' s k
    unfold fimP
    by_cases e : t = s
    · rw [e, if_pos ⟨h2, by omega, by omega⟩, Nat.add_sub_cancel_left]
    · rw [if_neg ?_]
      · exact fimT_at h2 hk hs t (by omega) (by omega)
      · rintro ⟨q1, q2, q3⟩
        have := fl_dis (sz := sz) (s := s) (s' := t) hs (by omega) (fun z => e z.symm) h2 q1 (by omega) (by omega)
        omega
theorem im_ok {R : Nat → Nat → CR} {cnt : Nat → Nat} {by' : Nat → Nat → Nat} {ma : Nat} (hc : ∀ m, m < 4 → cnt m ≤ 24) (hR : ∀ m n, m < 4 → n < cnt m → RcOK (R m n)) (hok : Ok cnt (e1 R cnt) 4 0) (hb : ∀ m n, m < 4 → n < cnt m → ∀ j, j < pB1 R cnt m n → by' (pS R cnt m n) (pO R cnt m n + j) = fbE R cnt m n j) : ImOK R cnt ma (fimT (szE R cnt) by' ma 12) := by
  refine ⟨fun k hk => ?_, fun m n hm hn h2 j hj => ?_, fun k h8 hk hno => ?_⟩
  · refine fimT_no 12 (fun s hs h2 q => ?_)
    have := fl_b (sz := szE R cnt) hs h2 (by omega)
    omega
  · have h1 := p_in (R := R) hm hn
    rw [ps, Nat.add_assoc, fimT_at h2 (by omega) (pS_lt hc hR hok hm hn).2 12 (Nat.le_refl 12) (pS_lt hc hR hok hm hn).2]
    exact hb m n hm hn j hj
  · rw [fimT_no 12 (fun s hs h2 q => ?_)]
    · unfold vecs; rw [if_neg (by omega), if_neg (by omega)]
    · obtain ⟨m', n', a1, a2, a3, a4, a5⟩ := cov_m (R := R) (cnt := cnt) 4 s (k - fl (szE R cnt) s) (by show _ < szE R cnt s; omega)
      refine hno m' n' (by unfold lx at a1; omega) a2 (by rw [a3]; exact h2) ?_
      unfold ps; rw [a3]; omega
def SLk0 (k j s : Nat) : Prop := SLk k j s ∨ (k = 11 ∧ s = 0)
def SLkG (k j s : Nat) : Prop := SLk0 k j s ∨ SFi k j s
/-- what the last good link made -/
def GdM (sz : Nat → Nat) (B : LB) (z : Nat) (im : Nat → Nat) (M' : Mem) : Prop := mI M' 11 0 34 = nI z ∧ (∀ k, k < 2048 → mI M' 37 0 k = nI (im k)) ∧ (∀ s, s < 12 → mI M' 35 0 s = nI (sz s) ∧ mI M' 36 0 s = nI (bsA sz s)) ∧ mI M' 11 0 20 = nI B.1 ∧ LbM 96 B M' ∧ mI M' 11 0 37 = nI (hxz z) ∧ ∀ k, k < hxz z → mI M' 39 0 k = nI (hx z im k)
def PLk (R : Nat → Nat → CR) (cnt : Nat → Nat) (M : Mem) : Option AV → Mem → Prop := fun r M' => ∃ k : Int32, r = some (vI k) ∧ mI M' 11 0 0 = nI 0 ∧ ((BadL R cnt k (mI M' 38 0 0) (mI M' 38 0 1) (mI M' 38 0 2) ∧ Fr SLk0 M M') ∨ (∃ ma im, GoodL R cnt ma ∧ ImOK R cnt ma im ∧ (∀ k, im k < 256) ∧ k = nI (flE (szE R cnt)) ∧ (∀ s, s < 3 → mI M' 38 0 s = -1) ∧ Fr SLkG M M' ∧ GdM (szE R cnt) (lbE R cnt) (flE (szE R cnt)) im M'))
theorem SrcM.fr2 {R : Nat → Nat → CR} {cnt : Nat → Nat} {M N : Mem} {S : Nat → Nat → Nat → Prop} (h : SrcM R cnt M) (f : Fr S M N) (hS : ∀ k j s, k = 23 ∨ k = 24 ∨ k = 25 → ¬ S k j s) : SrcM R cnt N := by
  intro m hm
  obtain ⟨h1, h2, h3⟩ := h m hm
  refine ⟨(f.I (hS _ _ _ (by omega))).trans h1, h2, fun n hn => ?_⟩
  obtain ⟨q, hs, h4⟩ := h3 n hn
  exact ⟨q, ⟨(f.I (hS _ _ _ (by omega))).trans hs.1, fun i hi => (f.I (hS _ _ _ (by omega))).trans (hs.2 i hi)⟩, h4⟩
theorem fl_m {sz : Nat → Nat} {m : Nat} : bsA sz (3 * m) = up4 (pE sz 0 8 m) ∧ bsA sz (3 * m + 1) = up4 (pE sz 1 536870912 m) ∧ bsA sz (3 * m + 2) = up4 (pE sz 2 (pE sz 1 536870912 4) m) := by
  unfold bsA
  refine ⟨?_, ?_, ?_⟩
  · rw [if_pos (by omega), show 3 * m / 3 = m by omega]
  · rw [if_neg (by omega), if_pos (by omega), show (3 * m + 1) / 3 = m by omega]
  · rw [if_neg (by omega), if_neg (by omega), show (3 * m + 2) / 3 = m by omega]
set_option maxRecDepth 20000 in
set_option maxHeartbeats 4000000 in
theorem c_link (G : GX) {M : Mem} (R : Nat → Nat → CR) (cnt : Nat → Nat) (hsrc : SrcM R cnt M) : MetM G yX12_link iX12_link [vR 11 0] M (PLk R cnt M) := by
  refine MetM.of (ls := [some (vR 11 0), none, none, none, none]) (by decide) rfl (Nat.le_of_ble_eq_true rfl) rfl ?_
  intro hM0
  have hc : ∀ m, m < 4 → cnt m ≤ 24 := fun m hm => (hsrc m hm).2.1
  have hR : ∀ m n, m < 4 → n < cnt m → RcOK (R m n) := by
    intro m n hm hn
    obtain ⟨q, _, _, _, h⟩ := (hsrc m hm).2.2 n hn
    exact h.rc
  have hSL : ∀ k j s, SLk k j s → SLk0 k j s := fun k j s h => Or.inl h
  have hS2 : ∀ k j s, SP2 k j s → SLk0 k j s := by intro k j s h; unfold SP2 at h; unfold SLk0 SLk; omega
  have hS3 : ∀ k j s, SP3 k j s → SLk0 k j s := by intro k j s h; unfold SP3 at h; unfold SLk0 SLk; omega
  refine Rn.aload_n (pc := 0) dX12_link_0 rfl rfl ?_
  refine Rn.iconst (pc := 1) (v := nI 0) dX12_link_1 (by decide) ?_
  refine Rn.putI (pc := 2) (t := 0) flX12_72 rfl rfl dX12_link_2 ?_
  refine Rn.aload_n (pc := 5) dX12_link_5 rfl rfl ?_
  refine Rn.callV (pc := 6) (as := []) cvX12_69 ⟨by decide, rfl⟩ ⟨by decide, by decide⟩ dX12_link_6 (Nat.le_of_ble_eq_true rfl) rfl (c_forget G) ?_
  rintro _ _ ⟨rfl, rfl⟩
  have f01 : Fr SLk0 M (sI (sI (sI (sI M 11 0 0 (nI 0)) 38 0 0 (-1)) 38 0 1 (-1)) 38 0 2 (-1)) := (((((Fr.refl M).sI (by unfold SLk0; omega)).sI (by unfold SLk0 SLk; omega)).sI (by unfold SLk0 SLk; omega)).sI (by unfold SLk0 SLk; omega))
  have hr1 : mI (sI (sI (sI (sI M 11 0 0 (nI 0)) 38 0 0 (-1)) 38 0 1 (-1)) 38 0 2 (-1)) 11 0 0 = nI 0 := rfl
  have h381 : ∀ s, s < 3 → mI (sI (sI (sI (sI M 11 0 0 (nI 0)) 38 0 0 (-1)) 38 0 1 (-1)) 38 0 2 (-1)) 38 0 s = -1 := by
    intro s hs
    rcases (show s = 0 ∨ s = 1 ∨ s = 2 by omega) with rfl | rfl | rfl <;> rfl
  have hsrc1 : SrcM R cnt (sI (sI (sI (sI M 11 0 0 (nI 0)) 38 0 0 (-1)) 38 0 1 (-1)) 38 0 2 (-1)) := hsrc.fr2 f01 (by intro k j s h; unfold SLk0 SLk; omega)
  refine Rn.aload_n (pc := 9) dX12_link_9 rfl rfl ?_
  refine Rn.callV (pc := 10) (as := []) cvX12_372 ⟨by decide, rfl⟩ ⟨by decide, by decide⟩ dX12_link_10 (Nat.le_of_ble_eq_true rfl) rfl (c_firstPass G R cnt hsrc1) ?_
  rintro _ M2 ⟨k1, rfl, f1, hp1⟩
  rcases hp1 with ⟨rfl, ok1, hk2', hB2, hsz2, hld2, hg2, h38a⟩ | ⟨hk1, hb1⟩
  · obtain ⟨hW, h96, hsz8⟩ := at1_end hc hR ok1
    have f02 : Fr SLk0 M M2 := f01.trans (f1.mono hSL)
    have hr2 : mI M2 11 0 0 = nI 0 := (f1.I (by unfold SLk; omega)).trans hr1
    have h382 : ∀ s, s < 3 → mI M2 38 0 s = -1 := fun s hs => (h38a s).trans (h381 s hs)
    have hfa : ∀ m n, m < 4 → n < cnt m → rFa (R m n) = 0 := fun m n hm hn => (er1_0 (ok1 m n (Or.inl hm) hn)).2.1
    have hsrc2 : SrcM R cnt M2 := hsrc1.fr f1
    refine Rn.istore_n (pc := 13) dX12_link_13 rfl (by decide) rfl st5_1 ?_
    refine Rn.iload_n (pc := 14) dX12_link_14 rfl rfl ?_
    refine Rn.if_ne (pc := 15) (y := 0) (tgt := 25) dX12_link_15 (by decide) (fun c15 => ?_) (fun c15 => ?_)
    · exact absurd rfl c15
    · refine Rn.aload_n (pc := 18) dX12_link_18 rfl rfl ?_
      refine Rn.callV (pc := 19) (as := []) cvX12_375 ⟨by decide, rfl⟩ ⟨by decide, by decide⟩ dX12_link_19 (Nat.le_of_ble_eq_true rfl) rfl (c_secondPass G R cnt (lbE R cnt) hsrc2 hfa hW hB2 hk2' h96 hg2) ?_
      rintro _ M3 ⟨k2, rfl, f2, hp2⟩
      rcases hp2 with ⟨rfl, ok2, hG3, hGU, h38b⟩ | ⟨hk2, hb2⟩
      · have f03 : Fr SLk0 M M3 := f02.trans (f2.mono hS2)
        have hr3 : mI M3 11 0 0 = nI 0 := (f2.I (by unfold SP2; omega)).trans hr2
        have h383 : ∀ s, s < 3 → mI M3 38 0 s = -1 := fun s hs => (h38b s).trans (h382 s hs)
        have hB3 : LbM 0 (lbE R cnt) M3 := hB2.fr h96 f2 (by intro k j s h; unfold SP2; omega)
        have hk3 : mI M3 11 0 19 = nI (lbE R cnt).1 := (f2.I (by unfold SP2; omega)).trans hk2'
        have hsz3 : ∀ s, s < 12 → mI M3 31 0 s = nI (szE R cnt s) := fun s hs => (f2.I (by unfold SP2; omega)).trans (hsz2 s hs)
        have hld3 : Laid R cnt 4 0 M3 := fun a b p q r j hj => (f2.I (by unfold SP2; omega)).trans (hld2 a b p q r j hj)
        refine Rn.goto (pc := 22) (tgt := 26) dX12_link_22 (by decide) ?_
        refine Rn.istore_n (pc := 26) dX12_link_26 rfl (by decide) rfl st5_1 ?_
        refine Rn.iload_n (pc := 27) dX12_link_27 rfl rfl ?_
        refine Rn.if_eq (pc := 28) (y := 0) (tgt := 33) dX12_link_28 (by decide) (fun c28 => ?_) (fun c28 => ?_)
        · have bT := (pE_b (sec := 0) (frm := 8) hsz8 4).2
          have bD := (pE_b (sec := 1) (frm := 536870912) hsz8 4).2
          refine Rn.aload_n (pc := 33) dX12_link_33 rfl rfl ?_
          refine Rn.iconst (pc := 34) (v := nI 1) dX12_link_34 (by decide) ?_
          refine Rn.aload_n (pc := 35) dX12_link_35 rfl rfl ?_
          refine Rn.iconst (pc := 36) (v := nI 0) dX12_link_36 (by decide) ?_
          refine Rn.bipush (pc := 37) (v := nI 8) dX12_link_37 (by decide) ?_
          refine Rn.iconst (pc := 39) (v := nI 0) dX12_link_39 (by decide) ?_
          refine Rn.callV (pc := 40) (as := [_, _, _]) cvX12_378 ⟨by decide, rfl⟩ ⟨by decide, by decide⟩ dX12_link_40 (Nat.le_of_ble_eq_true rfl) rfl (c_place G (szE R cnt) 0 8 (by decide) (by decide) hsz8 hsz3) ?_
          rintro _ M5 ⟨rfl, f5, b5⟩
          refine Rn.iconst (pc := 43) (v := nI 1) dX12_link_43 (by decide) ?_
          refine Rn.callV (pc := 44) (as := [_, _, _]) cvX12_378 ⟨by decide, rfl⟩ ⟨by decide, by decide⟩ dX12_link_44 (Nat.le_of_ble_eq_true rfl) rfl (c_place_f G (szE R cnt) 1 (pE (szE R cnt) 0 8 4) (by decide) (by omega) hsz8 (fun s hs => (f5.I (by unfold SPl; omega)).trans (hsz3 s hs))) ?_
          rintro _ M6 ⟨rfl, f6, b6⟩
          refine Rn.istore_n (pc := 47) dX12_link_47 rfl (by decide) rfl st5_2 ?_
          refine Rn.aload_n (pc := 48) dX12_link_48 rfl rfl ?_
          refine Rn.iconst (pc := 49) (v := nI 2) dX12_link_49 (by decide) ?_
          refine Rn.aload_n (pc := 50) dX12_link_50 rfl rfl ?_
          refine Rn.iconst (pc := 51) (v := nI 1) dX12_link_51 (by decide) ?_
          refine Rn.ldc_w (pc := 52) dX12_link_52 wcX12_382 ?_
          refine Rn.iconst (pc := 55) (v := nI 0) dX12_link_55 (by decide) ?_
          refine Rn.callV (pc := 56) (as := [_, _, _]) cvX12_378 ⟨by decide, rfl⟩ ⟨by decide, by decide⟩ dX12_link_56 (Nat.le_of_ble_eq_true rfl) rfl (c_place G (szE R cnt) 1 536870912 (by decide) (by decide) hsz8 (fun s hs => (f6.I (by unfold SPl; omega)).trans ((f5.I (by unfold SPl; omega)).trans (hsz3 s hs)))) ?_
          rintro _ M7 ⟨rfl, f7, b7⟩
          refine Rn.iconst (pc := 59) (v := nI 0) dX12_link_59 (by decide) ?_
          refine Rn.callV (pc := 60) (as := [_, _, _]) cvX12_378 ⟨by decide, rfl⟩ ⟨by decide, by decide⟩ dX12_link_60 (Nat.le_of_ble_eq_true rfl) rfl (c_place G (szE R cnt) 2 (pE (szE R cnt) 1 536870912 4) (by decide) (by omega) hsz8 (fun s hs => (f7.I (by unfold SPl; omega)).trans ((f6.I (by unfold SPl; omega)).trans ((f5.I (by unfold SPl; omega)).trans (hsz3 s hs))))) ?_
          rintro _ M8 ⟨rfl, f8, b8⟩
          refine Rn.istore_n (pc := 63) dX12_link_63 rfl (by decide) rfl st5_3 ?_
          have bF := (pE_b (sec := 1) (frm := pE (szE R cnt) 0 8 4) hsz8 4).2
          have bR := (pE_b (sec := 2) (frm := pE (szE R cnt) 1 536870912 4) hsz8 4).2
          have fP : Fr (fun k _ _ => k = 32 ∨ k = 33) M3 M8 := ((f5.mono (fun k j s h => by unfold SPl at h; omega)).trans (f6.mono (fun k j s h => by unfold SPl at h; omega))).trans ((f7.mono (fun k j s h => by unfold SPl at h; omega)).trans (f8.mono (fun k j s h => by unfold SPl at h; omega)))
          have f08 : Fr SLk0 M M8 := f03.trans (fP.mono (fun k j s h => by unfold SLk0 SLk; omega))
          have hr8 : mI M8 11 0 0 = nI 0 := (fP.I (by omega)).trans hr3
          have h388 : ∀ s, s < 3 → mI M8 38 0 s = -1 := fun s hs => (fP.I (by omega)).trans (h383 s hs)
          have hB8 : LbM 0 (lbE R cnt) M8 := hB3.fr h96 fP (by intro k j s h; omega)
          have hk8 : mI M8 11 0 19 = nI (lbE R cnt).1 := (fP.I (by omega)).trans hk3
          have hG8 : GbM (lbE R cnt) (glE R cnt) M8 := fun i hi => (fP.I (by omega)).trans (hG3 i hi)
          have hsz8' : ∀ s, s < 12 → mI M8 31 0 s = nI (szE R cnt s) := fun s hs => (fP.I (by omega)).trans (hsz3 s hs)
          have hld8 : Laid R cnt 4 0 M8 := fun a b p q r j hj => (fP.I (by omega)).trans (hld3 a b p q r j hj)
          have hfb8 : ∀ m, m < 4 → mI M8 33 0 (3 * m + 1) = nI (fbA (szE R cnt) m) := fun m hm => (f8.I (by unfold SPl; omega)).trans ((f7.I (by unfold SPl; omega)).trans (b6 m hm))
          have hbs8 : ∀ s, s < 12 → mI M8 32 0 s = nI (bsE R cnt s) := by
            intro s hs
            obtain ⟨m, hm, h⟩ : ∃ m, m < 4 ∧ (s = 3 * m ∨ s = 3 * m + 1 ∨ s = 3 * m + 2) := ⟨s / 3, by omega, by omega⟩
            unfold bsE
            rcases h with rfl | rfl | rfl
            · rw [fl_m.1, f8.I (by unfold SPl; omega), f7.I (by unfold SPl; omega), f6.I (by unfold SPl; omega)]; exact b5 m hm
            · rw [fl_m.2.1, f8.I (by unfold SPl; omega)]; exact b7 m hm
            · rw [fl_m.2.2]; exact b8 m hm
          refine Rn.iload_n (pc := 64) dX12_link_64 rfl rfl ?_
          refine Rn.sipush (pc := 65) (v := nI 2048) dX12_link_65 (by decide) ?_
          refine Rn.icmp_gtN (pc := 68) (tgt := 78) dX12_link_68 (by decide) (by omega) (by omega) (fun c68 => ?_) (fun c68 => ?_)
          · refine Rn.bipush (pc := 78) (v := -7) dX12_link_78 (by decide) ?_
            refine Rn.iret (pc := 80) rfl dX12_link_80 ?_
            exact ⟨-7, rfl, hr8, Or.inl ⟨Or.inr (Or.inr (Or.inl ⟨⟨ok1, ok2⟩, fun z => absurd z.1 (Nat.not_le.mpr c68), rfl, h388 0 (by decide), h388 1 (by decide), h388 2 (by decide)⟩)), f08⟩⟩
          · refine Rn.iload_n (pc := 71) dX12_link_71 rfl rfl ?_
            refine Rn.ldc_w (pc := 72) dX12_link_72 wcX12_383 ?_
            refine Rn.icmp_leN (pc := 75) (tgt := 81) dX12_link_75 (by decide) (by omega) (by omega) (fun c75 => ?_) (fun c75 => ?_)
            · have hroom : rmE R cnt := ⟨c68, c75⟩
              have hsrc8 : SrcM R cnt M8 := hsrc.fr2 f08 (by intro k j s h; unfold SLk0 SLk; omega)
              refine Rn.aload_n (pc := 81) dX12_link_81 rfl rfl ?_
              refine Rn.callV (pc := 82) (as := []) cvX12_384 ⟨by decide, rfl⟩ ⟨by decide, by decide⟩ dX12_link_82 (Nat.le_of_ble_eq_true rfl) rfl (c_thirdPass G R cnt (bsE R cnt) (lbE R cnt) (glE R cnt) hsrc8 hfa ok1 hld8 hW hB8 hk8 h96 hG8 hGU hbs8 (fun s hs => bsA_b hsz8 hs)) ?_
              rintro _ M9 ⟨k3, rfl, f9, hp3⟩
              have hB9 : LbM 0 (lbE R cnt) M9 := hB8.fr h96 f9 (by intro k j s h; unfold SP3; omega)
              have hk9 : mI M9 11 0 19 = nI (lbE R cnt).1 := (f9.I (by unfold SP3; omega)).trans hk8
              have hG9 : GbM (lbE R cnt) (glE R cnt) M9 := fun i hi => (f9.I (by unfold SP3; omega)).trans (hG8 i hi)
              have hbs9 : ∀ s, s < 12 → mI M9 32 0 s = nI (bsE R cnt s) := fun s hs => (f9.I (by unfold SP3; omega)).trans (hbs8 s hs)
              have hsz9 : ∀ s, s < 12 → mI M9 31 0 s = nI (szE R cnt s) := fun s hs => (f9.I (by unfold SP3; omega)).trans (hsz8' s hs)
              have hfb9 : ∀ m, m < 4 → mI M9 33 0 (3 * m + 1) = nI (fbA (szE R cnt) m) := fun m hm => (f9.I (by unfold SP3; omega)).trans (hfb8 m hm)
              rcases hp3 with ⟨rfl, ok3, hl3, h389⟩ | ⟨hk3, hb3⟩
              · have hln : ∀ m n, m < 4 → n < cnt m → ∀ j, j < pB1 R cnt m n → mI M9 34 0 (1024 * pS R cnt m n + (pO R cnt m n + j)) = nI (fbE R cnt m n j) := by
                  intro m n hm hn j hj
                  rw [← Nat.add_assoc]; exact hl3 m n hm hn (Or.inl (Or.inl hm)) j hj
                obtain ⟨by3, hby⟩ : ∃ f : Nat → Nat → Nat, ∀ s k, f s k = (mI M9 34 0 (1024 * s + k)).toInt.toNat := ⟨fun s k => (mI M9 34 0 (1024 * s + k)).toInt.toNat, fun s k => rfl⟩
                have hbf : ∀ m n, m < 4 → n < cnt m → ∀ j, j < pB1 R cnt m n → by3 (pS R cnt m n) (pO R cnt m n + j) = fbE R cnt m n j := by
                  intro m n hm hn j hj
                  rw [hby, hln m n hm hn j hj, nI_toInt (by have : fbE R cnt m n j < 256 := fb3_lt; omega)]; rfl
                have hbx : ∀ s k, s < 12 → s % 3 ≠ 2 → k < szE R cnt s → mI M9 34 0 (1024 * s + k) = nI (by3 s k) ∧ by3 s k < 256 := by
                  intro s k hs h2 hk
                  obtain ⟨m', n', a1, a2, a3, a4, a5⟩ := cov_m (R := R) (cnt := cnt) 4 s k hk
                  have hm' : m' < 4 := by unfold lx at a1; omega
                  have e1 := hln m' n' hm' a2 (k - pO R cnt m' n') (by omega)
                  have e2 := hbf m' n' hm' a2 (k - pO R cnt m' n') (by omega)
                  rw [a3, show pO R cnt m' n' + (k - pO R cnt m' n') = k by omega] at e1 e2
                  rw [e1, e2]; exact ⟨rfl, fb3_lt⟩
                have hby9 : ∀ s k, s < 12 → s % 3 ≠ 2 → k < szE R cnt s → mI M9 34 0 (1024 * s + k) = nI (by3 s k) := fun s k a b c => (hbx s k a b c).1
                have hby8 : ∀ s k, s < 12 → s % 3 ≠ 2 → k < szE R cnt s → by3 s k < 256 := fun s k a b c => (hbx s k a b c).2
                refine Rn.istore_n (pc := 85) dX12_link_85 rfl (by decide) rfl st5_1 ?_
                refine Rn.aload_n (pc := 86) dX12_link_86 rfl rfl ?_
                refine Rn.callV (pc := 87) (as := []) cvX12_387 ⟨by decide, rfl⟩ ⟨by decide, by decide⟩ dX12_link_87 (Nat.le_of_ble_eq_true rfl) rfl (c_mainAddress G (bsE R cnt) (lbE R cnt) (glE R cnt) h96 hW hB9 hk9 hG9 hGU hbs9) ?_
                rintro _ M10 ⟨rfl, h10⟩
                rw [h10]
                cases hmn : mnK (lbE R cnt) (glE R cnt) with
                | none =>
                  rw [show adO (bsE R cnt) (lbE R cnt) none = (-1 : Int32) from rfl]
                  refine Rn.istore (pc := 90) dX12_link_90 (by decide) rfl st5_4 ?_
                  refine Rn.iload_n (pc := 92) dX12_link_92 rfl rfl ?_
                  refine Rn.if_ne (pc := 93) (y := 0) (tgt := 101) dX12_link_93 (by decide) (fun c93 => ?_) (fun c93 => ?_)
                  · exact absurd rfl c93
                  · refine Rn.iload (pc := 96) dX12_link_96 rfl ?_
                    refine Rn.if_ge (pc := 98) (y := 0) (tgt := 112) dX12_link_98 (by decide) (fun c98 => ?_) (fun c98 => ?_)
                    · exact absurd c98 (by decide)
                    · refine Rn.iload_n (pc := 101) dX12_link_101 rfl rfl ?_
                      refine Rn.if_eq (pc := 102) (y := 0) (tgt := 109) dX12_link_102 (by decide) (fun c102 => ?_) (fun c102 => ?_)
                      · refine Rn.bipush (pc := 109) (v := -8) dX12_link_109 (by decide) ?_
                        refine Rn.iret (pc := 111) rfl dX12_link_111 ?_
                        exact ⟨-8, rfl, (f9.I (by unfold SP3; omega)).trans hr8, Or.inl ⟨Or.inr (Or.inr (Or.inr (Or.inr ⟨⟨ok1, ok2⟩, hroom, ok3, hmn, rfl, (h389 0).trans (h388 0 (by decide)), (h389 1).trans (h388 1 (by decide)), (h389 2).trans (h388 2 (by decide))⟩))), f08.trans (f9.mono hS3)⟩⟩
                      · exact absurd rfl c102
                | some kk =>
                  rw [show adO (bsE R cnt) (lbE R cnt) (some kk) = nI (ad (bsE R cnt) (lbE R cnt) kk) from rfl]
                  have hkk : kk < (lbE R cnt).1 := by
                    unfold mnK at hmn
                    cases q : fg (lbE R cnt) (glE R cnt) mainV with
                    | none => rw [q] at hmn; cases hmn
                    | some i =>
                      rw [q] at hmn
                      dsimp only at hmn
                      split at hmn
                      · cases hmn; exact (fg_some q).1
                      · cases hmn
                  have had : ad (bsE R cnt) (lbE R cnt) kk < 2 ^ 30 := by
                    have hw9 := hW.1 kk hkk
                    have hb9 := bsA_b hsz8 (s := 3 * ((lbE R cnt).2 kk).1 + ((lbE R cnt).2 kk).2.1) (by omega)
                    show bsA (szE R cnt) _ + _ < _
                    omega
                  refine Rn.istore (pc := 90) dX12_link_90 (by decide) rfl st5_4 ?_
                  refine Rn.iload_n (pc := 92) dX12_link_92 rfl rfl ?_
                  refine Rn.if_ne (pc := 93) (y := 0) (tgt := 101) dX12_link_93 (by decide) (fun c93 => ?_) (fun c93 => ?_)
                  · exact absurd rfl c93
                  · refine Rn.iload (pc := 96) dX12_link_96 rfl ?_
                    refine Rn.if_ge (pc := 98) (y := 0) (tgt := 112) dX12_link_98 (by decide) (fun c98 => ?_) (fun c98 => ?_)
                    · refine Rn.aload_n (pc := 112) dX12_link_112 rfl rfl ?_
                      refine Rn.iload_n (pc := 113) dX12_link_113 rfl rfl ?_
                      refine Rn.iload (pc := 114) dX12_link_114 rfl ?_
                      refine Rn.callV (pc := 116) (as := [_, _]) cvX12_390 ⟨by decide, rfl⟩ ⟨by decide, by decide⟩ dX12_link_116 (Nat.le_of_ble_eq_true rfl) rfl (c_finish G (szE R cnt) by3 (flE (szE R cnt)) (ad (bsE R cnt) (lbE R cnt) kk) (lbE R cnt) hsz8 hroom.1 (fun s hs h2 hp => Nat.le_trans (fl_b hs h2 hp).2.1 hroom.1) hsz9 hbs9 hfb9 hby9 hby8 h96 hB9 hk9 had) ?_
                      rintro _ M11 ⟨rfl, f11, hpf⟩
                      refine Rn.aload_n (pc := 119) dX12_link_119 rfl rfl ?_
                      refine Rn.getI (pc := 120) (t := 0) flX12_393 hpf.1 dX12_link_120 ?_
                      refine Rn.iret (pc := 123) rfl dX12_link_123 ?_
                      refine ⟨_, rfl, (f11.I (by unfold SFi; omega)).trans ((f9.I (by unfold SP3; omega)).trans hr8), Or.inr ⟨ad (bsE R cnt) (lbE R cnt) kk, fimT (szE R cnt) by3 (ad (bsE R cnt) (lbE R cnt) kk) 12, ⟨⟨ok1, ok2⟩, hroom, ok3, kk, hmn, rfl⟩, im_ok hc hR ok1 hbf, fun k => fimT_lt hby8 12 (Nat.le_refl 12) k, rfl, fun s hs => (f11.I (by unfold SFi; omega)).trans ((h389 s).trans (h388 s hs)), ((f08.trans (f9.mono hS3)).mono (fun _ _ _ h => Or.inl h)).trans (f11.mono (fun _ _ _ h => Or.inr h)), hpf⟩⟩
                    · exact absurd (nI_pos' (by omega)) c98
              · refine Rn.istore_n (pc := 85) dX12_link_85 rfl (by decide) rfl st5_1 ?_
                refine Rn.aload_n (pc := 86) dX12_link_86 rfl rfl ?_
                refine Rn.callV (pc := 87) (as := []) cvX12_387 ⟨by decide, rfl⟩ ⟨by decide, by decide⟩ dX12_link_87 (Nat.le_of_ble_eq_true rfl) rfl (c_mainAddress G (bsE R cnt) (lbE R cnt) (glE R cnt) h96 hW hB9 hk9 hG9 hGU hbs9) ?_
                rintro _ M10 ⟨rfl, h10⟩
                rw [h10]
                refine Rn.istore (pc := 90) dX12_link_90 (by decide) rfl st5_4 ?_
                refine Rn.iload_n (pc := 92) dX12_link_92 rfl rfl ?_
                refine Rn.if_ne (pc := 93) (y := 0) (tgt := 101) dX12_link_93 (by decide) (fun c93 => ?_) (fun c93 => ?_)
                · refine Rn.iload_n (pc := 101) dX12_link_101 rfl rfl ?_
                  refine Rn.if_eq (pc := 102) (y := 0) (tgt := 109) dX12_link_102 (by decide) (fun c102 => ?_) (fun c102 => ?_)
                  · exact absurd c102 hk3
                  · refine Rn.iload_n (pc := 105) dX12_link_105 rfl rfl ?_
                    refine Rn.goto (pc := 106) (tgt := 111) dX12_link_106 (by decide) ?_
                    refine Rn.iret (pc := 111) rfl dX12_link_111 ?_
                    exact ⟨k3, rfl, (f9.I (by unfold SP3; omega)).trans hr8, Or.inl ⟨Or.inr (Or.inr (Or.inr (Or.inl ⟨⟨ok1, ok2⟩, hroom, hb3⟩))), f08.trans (f9.mono hS3)⟩⟩
                · exact absurd c93 hk3
            · refine Rn.bipush (pc := 78) (v := -7) dX12_link_78 (by decide) ?_
              refine Rn.iret (pc := 80) rfl dX12_link_80 ?_
              exact ⟨-7, rfl, hr8, Or.inl ⟨Or.inr (Or.inr (Or.inl ⟨⟨ok1, ok2⟩, fun z => absurd z.2 (Nat.not_le.mpr c75), rfl, h388 0 (by decide), h388 1 (by decide), h388 2 (by decide)⟩)), f08⟩⟩
        · exact absurd rfl c28
      · refine Rn.goto (pc := 22) (tgt := 26) dX12_link_22 (by decide) ?_
        refine Rn.istore_n (pc := 26) dX12_link_26 rfl (by decide) rfl st5_1 ?_
        refine Rn.iload_n (pc := 27) dX12_link_27 rfl rfl ?_
        refine Rn.if_eq (pc := 28) (y := 0) (tgt := 33) dX12_link_28 (by decide) (fun c28 => ?_) (fun c28 => ?_)
        · exact absurd c28 hk2
        · refine Rn.iload_n (pc := 31) dX12_link_31 rfl rfl ?_
          refine Rn.iret (pc := 32) rfl dX12_link_32 ?_
          exact ⟨k2, rfl, (f2.I (by unfold SP2; omega)).trans hr2, Or.inl ⟨Or.inr (Or.inl ⟨ok1, hb2⟩), f02.trans (f2.mono hS2)⟩⟩
  · refine Rn.istore_n (pc := 13) dX12_link_13 rfl (by decide) rfl st5_1 ?_
    refine Rn.iload_n (pc := 14) dX12_link_14 rfl rfl ?_
    refine Rn.if_ne (pc := 15) (y := 0) (tgt := 25) dX12_link_15 (by decide) (fun c15 => ?_) (fun c15 => ?_)
    · refine Rn.iload_n (pc := 25) dX12_link_25 rfl rfl ?_
      refine Rn.istore_n (pc := 26) dX12_link_26 rfl (by decide) rfl st5_1 ?_
      refine Rn.iload_n (pc := 27) dX12_link_27 rfl rfl ?_
      refine Rn.if_eq (pc := 28) (y := 0) (tgt := 33) dX12_link_28 (by decide) (fun c28 => ?_) (fun c28 => ?_)
      · exact absurd c28 hk1
      · refine Rn.iload_n (pc := 31) dX12_link_31 rfl rfl ?_
        refine Rn.iret (pc := 32) rfl dX12_link_32 ?_
        exact ⟨k1, rfl, (f1.I (by unfold SLk; omega)).trans hr1, Or.inl ⟨Or.inl hb1, f01.trans (f1.mono hSL)⟩⟩
    · exact absurd c15 hk1

