def fl (sz : Nat → Nat) (s : Nat) : Nat := if s % 3 = 0 then bsA sz s else fbA sz (s / 3)
def flE (sz : Nat → Nat) : Nat := pE sz 1 (pE sz 0 8 4) 4
def raE (sz : Nat → Nat) : Nat := pE sz 2 (pE sz 1 536870912 4) 4
theorem fl_0 {sz : Nat → Nat} {m : Nat} : fl sz (3 * m) = up4 (pE sz 0 8 m) := by unfold fl bsA; rw [if_pos (by omega), if_pos (by omega), show 3 * m / 3 = m by omega]
theorem fl_1 {sz : Nat → Nat} {m : Nat} : fl sz (3 * m + 1) = up4 (pE sz 1 (pE sz 0 8 4) m) := by unfold fl fbA; rw [if_neg (by omega), show (3 * m + 1) / 3 = m by omega]
theorem pE_le {sz : Nat → Nat} {sec frm m m' : Nat} (h : m ≤ m') : pE sz sec frm m ≤ pE sz sec frm m' := by
  have h9 := pE_mono (sz := sz) (sec := sec) (frm := frm) (m := m) (m' - m)
  rwa [show m + (m' - m) = m' by omega] at h9
theorem pE_in {sz : Nat → Nat} {sec frm m : Nat} (h : 0 < sz (3 * m + sec)) : up4 (pE sz sec frm m) + sz (3 * m + sec) = pE sz sec frm (m + 1) := by rw [pE, if_pos h]
theorem fl_b {sz : Nat → Nat} {s : Nat} (hs : s < 12) (h2 : s % 3 ≠ 2) (hz : 0 < sz s) : 8 ≤ fl sz s ∧ fl sz s + sz s ≤ flE sz ∧ (s % 3 = 0 → fl sz s + sz s ≤ pE sz 0 8 4) ∧ (s % 3 = 1 → pE sz 0 8 4 ≤ fl sz s) := by
  have a6 : pE sz 0 8 4 ≤ flE sz := pE_le (sec := 1) (frm := pE sz 0 8 4) (Nat.zero_le 4)
  obtain ⟨m, hm, h⟩ : ∃ m, m < 4 ∧ (s = 3 * m ∨ s = 3 * m + 1) := ⟨s / 3, by omega, by omega⟩
  rcases h with rfl | rfl
  · rw [fl_0]
    have a1 : 8 ≤ pE sz 0 8 m := pE_le (sec := 0) (frm := 8) (Nat.zero_le m)
    have a2 : pE sz 0 8 (m + 1) ≤ pE sz 0 8 4 := pE_le (by omega)
    have a4 := pE_in (sz := sz) (sec := 0) (frm := 8) (m := m) hz
    rw [Nat.add_zero] at a4
    have a5 := up4_b (v := pE sz 0 8 m)
    omega
  · rw [fl_1]
    have a0 : 8 ≤ pE sz 0 8 4 := pE_le (sec := 0) (frm := 8) (Nat.zero_le 4)
    have a1 : pE sz 0 8 4 ≤ pE sz 1 (pE sz 0 8 4) m := pE_le (sec := 1) (frm := pE sz 0 8 4) (Nat.zero_le m)
    have a2 : pE sz 1 (pE sz 0 8 4) (m + 1) ≤ flE sz := pE_le (by omega)
    have a4 := pE_in (sz := sz) (sec := 1) (frm := pE sz 0 8 4) (m := m) hz
    have a5 := up4_b (v := pE sz 1 (pE sz 0 8 4) m)
    omega
theorem fl_lt {sz : Nat → Nat} {s s' : Nat} (h : s < s') (hr : s % 3 = s' % 3) (h2 : s % 3 ≠ 2) (hz : 0 < sz s) : fl sz s + sz s ≤ fl sz s' := by
  obtain ⟨m, m', hm, h⟩ : ∃ m m', m < m' ∧ ((s = 3 * m ∧ s' = 3 * m') ∨ (s = 3 * m + 1 ∧ s' = 3 * m' + 1)) := ⟨s / 3, s' / 3, by omega, by omega⟩
  rcases h with ⟨rfl, rfl⟩ | ⟨rfl, rfl⟩
  · rw [fl_0, fl_0]
    have a2 : pE sz 0 8 (m + 1) ≤ pE sz 0 8 m' := pE_le (by omega)
    have a4 := pE_in (sz := sz) (sec := 0) (frm := 8) (m := m) hz
    rw [Nat.add_zero] at a4
    have a5 := up4_b (v := pE sz 0 8 m')
    omega
  · rw [fl_1, fl_1]
    have a2 : pE sz 1 (pE sz 0 8 4) (m + 1) ≤ pE sz 1 (pE sz 0 8 4) m' := pE_le (by omega)
    have a4 := pE_in (sz := sz) (sec := 1) (frm := pE sz 0 8 4) (m := m) hz
    have a5 := up4_b (v := pE sz 1 (pE sz 0 8 4) m')
    omega
theorem fl_dis {sz : Nat → Nat} {s s' : Nat} (hs : s < 12) (hs' : s' < 12) (hn : s ≠ s') (h2 : s % 3 ≠ 2) (h2' : s' % 3 ≠ 2) (hz : 0 < sz s) (hz' : 0 < sz s') : fl sz s + sz s ≤ fl sz s' ∨ fl sz s' + sz s' ≤ fl sz s := by
  have b := fl_b hs h2 hz
  have b' := fl_b hs' h2' hz'
  by_cases hr : s % 3 = s' % 3
  · rcases Nat.lt_or_gt_of_ne hn with q | q
    · exact Or.inl (fl_lt q hr h2 hz)
    · exact Or.inr (fl_lt q hr.symm h2' hz')
  · omega
/-- every byte of a section is some line's -/
def Cov (R : Nat → Nat → CR) (cnt : Nat → Nat) (m n : Nat) : Prop := ∀ s k, k < (at1 R cnt m n).2.1 s → ∃ m' n', lx m' n' m n ∧ n' < cnt m' ∧ pS R cnt m' n' = s ∧ pO R cnt m' n' ≤ k ∧ k < pO R cnt m' n' + pB1 R cnt m' n'
theorem cov_n {R : Nat → Nat → CR} {cnt : Nat → Nat} {m : Nat} (h0 : Cov R cnt m 0) : ∀ n, n ≤ cnt m → Cov R cnt m n
  | 0, _ => h0
  | n + 1, hn => by
    intro s k hk
    have ih := cov_n h0 n (by omega)
    rw [at1_s] at hk
    change k < (if s = 3 * m + (at1 R cnt m n).2.2 then zz m (at1 R cnt m n) + by1 (R m n) (zz m (at1 R cnt m n)) else (at1 R cnt m n).2.1 s) at hk
    by_cases q : s = 3 * m + (at1 R cnt m n).2.2
    · rw [if_pos q] at hk
      rcases Nat.lt_or_ge k (zz m (at1 R cnt m n)) with z | z
      · obtain ⟨m', n', h1, h2⟩ := ih s k (by rw [q]; exact z)
        exact ⟨m', n', by unfold lx at h1 ⊢; omega, h2⟩
      · exact ⟨m, n, by unfold lx; omega, by omega, q.symm, z, hk⟩
    · rw [if_neg q] at hk
      obtain ⟨m', n', h1, h2⟩ := ih s k hk
      exact ⟨m', n', by unfold lx at h1 ⊢; omega, h2⟩
theorem cov_m {R : Nat → Nat → CR} {cnt : Nat → Nat} : ∀ m, Cov R cnt m 0
  | 0 => fun s k hk => absurd hk (Nat.not_lt_zero k)
  | m + 1 => by
    intro s k hk
    rw [at1_m] at hk
    obtain ⟨m', n', h1, h2⟩ := cov_n (cov_m m) (cnt m) (Nat.le_refl _) s k hk
    exact ⟨m', n', by unfold lx at h1 ⊢; omega, h2⟩
/-! THE IMAGE as the model makes it -/
def vecs (ma k : Nat) : Nat := if k < 4 then bt (nI 536871936) k else if k < 8 then bt (nI (ma + 1)) (k - 4) else 0
def fimP (sz : Nat → Nat) (by' : Nat → Nat → Nat) (t c : Nat) (f : Nat → Nat) (x : Nat) : Nat := if t % 3 ≠ 2 ∧ fl sz t ≤ x ∧ x < fl sz t + c then by' t (x - fl sz t) else f x
def fimT (sz : Nat → Nat) (by' : Nat → Nat → Nat) (ma : Nat) : Nat → Nat → Nat
  | 0, x => vecs ma x
  | t + 1, x => fimP sz by' t (sz t) (fimT sz by' ma t) x
theorem vecs_lt {ma k : Nat} : vecs ma k < 256 := by unfold vecs; split; exact bt_lt; split; exact bt_lt; decide
theorem fimT_lt {sz : Nat → Nat} {by' : Nat → Nat → Nat} {ma : Nat} (h : ∀ s k, s < 12 → s % 3 ≠ 2 → k < sz s → by' s k < 256) : ∀ t, t ≤ 12 → ∀ x, fimT sz by' ma t x < 256
  | 0, _, x => vecs_lt
  | t + 1, ht, x => by
    show fimP sz by' t (sz t) (fimT sz by' ma t) x < 256
    unfold fimP
    split
    · rename_i q; exact h t _ (by omega) q.1 (by omega)
    · exact fimT_lt h t (by omega) x
set_option maxRecDepth 20000 in
set_option maxHeartbeats 4000000 in
theorem c_setWord (G : GX) {M : Mem} (p : Nat) (v : Int32) (hp : p + 4 ≤ 2048) : MetM G yX12_setWord iX12_setWord [vR 11 0, vI (nI p), vI v] M (fun r M' => r = none ∧ Fr (fun k _ s => k = 37 ∧ p ≤ s ∧ s < p + 4) M M' ∧ ∀ j, j < 4 → mI M' 37 0 (p + j) = nI (bt v j)) := by
  refine MetM.of (ls := [some (vR 11 0), some (vI (nI p)), some (vI v), none]) (by decide) rfl (Nat.le_of_ble_eq_true rfl) rfl ?_
  intro hM0
  have loop : ∀ (d t : Nat) (N : Mem), 4 - t = d → t ≤ 4 → Fr (fun k _ s => k = 37 ∧ p ≤ s ∧ s < p + 4) M N → (∀ j, j < t → mI N 37 0 (p + j) = nI (bt v j)) → Rn G iX12_setWord (fun r M' => r = none ∧ Fr (fun k _ s => k = 37 ∧ p ≤ s ∧ s < p + 4) M M' ∧ ∀ j, j < 4 → mI M' 37 0 (p + j) = nI (bt v j)) 2 [some (vR 11 0), some (vI (nI p)), some (vI v), some (vI (nI t))] [] N := by
    intro d
    induction d using Nat.strongRecOn with
    | ind d ih =>
      intro t N hd ht fN hb
      refine Rn.iload_n (pc := 2) dX12_setWord_2 rfl rfl ?_
      refine Rn.iconst (pc := 3) (v := nI 4) dX12_setWord_3 (by decide) ?_
      refine Rn.icmp_geN (pc := 4) (tgt := 31) dX12_setWord_4 (by decide) (by omega) (by omega) (fun c4 => ?_) (fun c4 => ?_)
      · refine Rn.vret (pc := 31) rfl dX12_setWord_31 ?_
        exact ⟨rfl, fN, fun j hj => hb j (by omega)⟩
      · refine Rn.aload_n (pc := 7) dX12_setWord_7 rfl rfl ?_
        refine Rn.getR (pc := 8) flX12_57 mu11_33 fx11_33 dX12_setWord_8 ?_
        refine Rn.iload_n (pc := 11) dX12_setWord_11 rfl rfl ?_
        refine Rn.iload_n (pc := 12) dX12_setWord_12 rfl rfl ?_
        refine Rn.iaddN (pc := 13) dX12_setWord_13 ?_
        refine Rn.iload_n (pc := 14) dX12_setWord_14 rfl rfl ?_
        refine Rn.bipush (pc := 15) (v := nI 8) dX12_setWord_15 (by decide) ?_
        refine Rn.iload_n (pc := 17) dX12_setWord_17 rfl rfl ?_
        refine Rn.imulN (pc := 18) dX12_setWord_18 ?_
        refine Rn.ishr (pc := 19) dX12_setWord_19 ?_
        refine Rn.sipush (pc := 20) (v := nI 255) dX12_setWord_20 (by decide) ?_
        refine Rn.iand (pc := 23) dX12_setWord_23 ?_
        rw [bt_shr v t (by omega)]
        refine Rn.iastN (pc := 24) ak37 (by omega) (by decide) dX12_setWord_24 ?_
        refine Rn.iincN (pc := 25) (n := 1) dX12_setWord_25 rfl (by decide) (by decide) rfl st4_3 ?_
        refine Rn.goto (pc := 28) (tgt := 2) dX12_setWord_28 (by decide) ?_
        refine ih (4 - (t + 1)) (by omega) (t + 1) _ rfl (by omega) (fN.sI ⟨rfl, by omega, by omega⟩) (fun j hj => ?_)
        rw [mI_sI]
        by_cases e : j = t
        · rw [e, if_pos ⟨rfl, rfl, rfl⟩]
        · rw [if_neg (fun z => e (by omega))]; exact hb j (by omega)
  refine Rn.iconst (pc := 0) (v := nI 0) dX12_setWord_0 (by decide) ?_
  refine Rn.istore_n (pc := 1) dX12_setWord_1 rfl (by decide) rfl st4_3 ?_
  exact loop 4 0 M rfl (by decide) (Fr.refl M) (fun j hj => absurd hj (Nat.not_lt_zero j))

def mainV : Nat := 1835100526
def mnL (i : Nat) : Nat := if i = 0 then 109 else if i = 1 then 97 else if i = 2 then 105 else if i = 3 then 110 else 0
theorem mn_nm : isNm mnL 0 4 = true := by decide
theorem mn_v : mainV = pkN mnL 0 (4 - 0) := by decide
theorem NmA.main {v : Nat} {f : Nat → Int32} (h : NmA v f) : (f 0 = nI 109 ∧ f 1 = nI 97 ∧ f 2 = nI 105 ∧ f 3 = nI 110 ∧ f 4 = 0) ↔ v = mainV := by
  rw [mn_v, ← h.cmp mn_nm]
  constructor
  · intro q j hj
    have h5 : f 5 = nI 0 := by
      obtain ⟨L, a, e, h1, h2, h3⟩ := h
      have e4 := h3 4 (by decide)
      rw [q.2.2.2.2] at e4
      have z4 : tch L a e 4 = 0 := ((nI_eq (by have := tch_lt (j := 4) h1; omega) (by decide)).mp (show nI (tch L a e 4) = nI 0 from e4.symm))
      rw [h3 5 (by decide)]
      congr 1
      unfold tch at z4 ⊢
      split at z4
      · have := (nm_b h1 4 (by omega)).1; omega
      · rw [if_neg (by omega)]
    rcases (show j = 0 ∨ j = 1 ∨ j = 2 ∨ j = 3 ∨ j = 4 ∨ j = 5 by omega) with rfl | rfl | rfl | rfl | rfl | rfl
    · exact q.1
    · exact q.2.1
    · exact q.2.2.1
    · exact q.2.2.2.1
    · exact q.2.2.2.2
    · exact h5
  · intro q
    exact ⟨q 0 (by decide), q 1 (by decide), q 2 (by decide), q 3 (by decide), q 4 (by decide)⟩
/-- the label main, if it is told global and lies in text -/
def mnK (B : LB) (g : Nat → Bool) : Option Nat := match fg B g mainV with | none => none | some k => if (B.2 k).2.1 = 0 then some k else none
theorem mnK_some {B : LB} {g : Nat → Bool} {k : Nat} (hG : GU B g) (hk : k < B.1) (h1 : g k = true) (h2 : (B.2 k).2.2.2 = mainV) (h3 : (B.2 k).2.1 = 0) : mnK B g = some k := by
  unfold mnK; rw [fg_eq hG hk h1 h2]; exact if_pos h3
theorem mnK_none {B : LB} {g : Nat → Bool} (h : ∀ k, k < B.1 → ¬ (g k = true ∧ (B.2 k).2.1 = 0 ∧ (B.2 k).2.2.2 = mainV)) : mnK B g = none := by
  unfold mnK
  cases q : fg B g mainV with
  | none => rfl
  | some k =>
    have h9 := fg_some q
    exact if_neg (fun z => h k h9.1 ⟨h9.2.1, z, h9.2.2⟩)
def adO (bs : Nat → Nat) (B : LB) : Option Nat → Int32
  | none => -1
  | some k => nI (ad bs B k)
set_option maxRecDepth 20000 in
set_option maxHeartbeats 4000000 in
theorem c_mainAddress (G : GX) {M : Mem} (bs : Nat → Nat) (B : LB) (g : Nat → Bool) (h96 : B.1 ≤ 96) (hW : LbW B) (hB : LbM 0 B M) (hk : mI M 11 0 19 = nI B.1) (hG : GbM B g M) (hGU : GU B g) (hbs : ∀ s, s < 12 → mI M 32 0 s = nI (bs s)) : MetM G yX12_mainAddress iX12_mainAddress [vR 11 0] M (fun r M' => r = some (vI (adO bs B (mnK B g))) ∧ M' = M) := by
  refine MetM.of (ls := [some (vR 11 0), none, none]) (by decide) rfl (Nat.le_of_ble_eq_true rfl) rfl ?_
  intro hM0
  have loop : ∀ (d t : Nat) (x2 : Option AV), B.1 - t = d → t ≤ B.1 → (∀ k, k < t → ¬ (g k = true ∧ (B.2 k).2.1 = 0 ∧ (B.2 k).2.2.2 = mainV)) → Rn G iX12_mainAddress (fun r M' => r = some (vI (adO bs B (mnK B g))) ∧ M' = M) 2 [some (vR 11 0), some (vI (nI t)), x2] [] M := by
    intro d
    induction d using Nat.strongRecOn with
    | ind d ih9 =>
      intro t x2 hd ht hno
      have ih : ∀ (t' : Nat) (x2 : Option AV), t < t' → t' ≤ B.1 → (∀ k, k < t' → ¬ (g k = true ∧ (B.2 k).2.1 = 0 ∧ (B.2 k).2.2.2 = mainV)) → Rn G iX12_mainAddress (fun r M' => r = some (vI (adO bs B (mnK B g))) ∧ M' = M) 2 [some (vR 11 0), some (vI (nI t')), x2] [] M := fun t' x2 h1 h2 h3 => ih9 (B.1 - t') (by omega) t' x2 rfl h2 h3
      refine Rn.iload_n (pc := 2) dX12_mainAddress_2 rfl rfl ?_
      refine Rn.aload_n (pc := 3) dX12_mainAddress_3 rfl rfl ?_
      refine Rn.getI (pc := 4) (t := 0) flX12_319 hk dX12_mainAddress_4 ?_
      refine Rn.icmp_geN (pc := 7) (tgt := 126) dX12_mainAddress_7 (by decide) (by omega) (by omega) (fun c7 => ?_) (fun c7 => ?_)
      · refine Rn.iconst (pc := 126) (v := -1) dX12_mainAddress_126 (by decide) ?_
        refine Rn.iret (pc := 127) rfl dX12_mainAddress_127 ?_
        rw [mnK_none (fun k hk => hno k (by omega))]; exact ⟨rfl, rfl⟩
      · have ht : t < B.1 := c7
        obtain ⟨hb1, hb2, hb3, hb4⟩ := hB t ht
        rw [Nat.zero_add] at hb1 hb2 hb3
        have hmn := hb4.main
        simp only [Nat.zero_add, Nat.add_zero] at hmn
        have hw := hW.1 t ht
        refine Rn.aload_n (pc := 10) dX12_mainAddress_10 rfl rfl ?_
        refine Rn.getR (pc := 11) flX12_35 mu11_25 fx11_25 dX12_mainAddress_11 ?_
        refine Rn.iload_n (pc := 14) dX12_mainAddress_14 rfl rfl ?_
        refine Rn.zaldN (pc := 15) ak30 (by omega) (by decide) (hG t (by omega)) dX12_mainAddress_15 ?_
        refine Rn.if_eqB (pc := 16) (tgt := 108) dX12_mainAddress_16 (by decide) (fun c16 => ?_) (fun c16 => ?_)
        · refine Rn.iconst (pc := 108) (v := nI 0) dX12_mainAddress_108 (by decide) ?_
          refine Rn.istore_n (pc := 109) dX12_mainAddress_109 rfl (by decide) rfl st3_2 ?_
          refine Rn.iload_n (pc := 110) dX12_mainAddress_110 rfl rfl ?_
          refine Rn.if_eq (pc := 111) (y := 0) (tgt := 120) dX12_mainAddress_111 (by decide) (fun c111 => ?_) (fun c111 => ?_)
          · refine Rn.iincN (pc := 120) (n := 1) dX12_mainAddress_120 rfl (by decide) (by decide) rfl st3_1 ?_
            refine Rn.goto (pc := 123) (tgt := 2) dX12_mainAddress_123 (by decide) ?_
            refine ih (t + 1) _ (by omega) (by omega) (fun k hk => ?_)
            rcases Nat.eq_or_lt_of_le (Nat.le_of_lt_succ hk) with z | z
            · rw [z]; exact (fun q => by rw [q.1] at c16; cases c16)
            · exact hno k z
          · exact absurd (show nI 0 = 0 by decide) c111
        · refine Rn.aload_n (pc := 19) dX12_mainAddress_19 rfl rfl ?_
          refine Rn.getR (pc := 20) flX12_29 mu11_23 fx11_23 dX12_mainAddress_20 ?_
          refine Rn.iload_n (pc := 23) dX12_mainAddress_23 rfl rfl ?_
          refine Rn.ialdN (pc := 24) ak28 (by omega) (by decide) hb2 dX12_mainAddress_24 ?_
          refine Rn.if_ne (pc := 25) (y := 0) (tgt := 108) dX12_mainAddress_25 (by decide) (fun c25 => ?_) (fun c25 => ?_)
          · refine Rn.iconst (pc := 108) (v := nI 0) dX12_mainAddress_108 (by decide) ?_
            refine Rn.istore_n (pc := 109) dX12_mainAddress_109 rfl (by decide) rfl st3_2 ?_
            refine Rn.iload_n (pc := 110) dX12_mainAddress_110 rfl rfl ?_
            refine Rn.if_eq (pc := 111) (y := 0) (tgt := 120) dX12_mainAddress_111 (by decide) (fun c111 => ?_) (fun c111 => ?_)
            · refine Rn.iincN (pc := 120) (n := 1) dX12_mainAddress_120 rfl (by decide) (by decide) rfl st3_1 ?_
              refine Rn.goto (pc := 123) (tgt := 2) dX12_mainAddress_123 (by decide) ?_
              refine ih (t + 1) _ (by omega) (by omega) (fun k hk => ?_)
              rcases Nat.eq_or_lt_of_le (Nat.le_of_lt_succ hk) with z | z
              · rw [z]; exact (fun q => c25 (by rw [q.2.1]; rfl))
              · exact hno k z
            · exact absurd (show nI 0 = 0 by decide) c111
          · refine Rn.aload_n (pc := 28) dX12_mainAddress_28 rfl rfl ?_
            refine Rn.getR (pc := 29) flX12_23 mu11_21 fx11_21 dX12_mainAddress_29 ?_
            refine Rn.bipush (pc := 32) (v := nI 6) dX12_mainAddress_32 (by decide) ?_
            refine Rn.iload_n (pc := 34) dX12_mainAddress_34 rfl rfl ?_
            refine Rn.imulN (pc := 35) dX12_mainAddress_35 ?_
            refine Rn.caldN (pc := 36) ak26 (by omega) (by decide) rfl dX12_mainAddress_36 ?_
            refine Rn.bipush (pc := 37) (v := nI 109) dX12_mainAddress_37 (by decide) ?_
            refine Rn.icmp_ne (pc := 39) (tgt := 108) dX12_mainAddress_39 (by decide) (fun c39 => ?_) (fun c39 => ?_)
            · refine Rn.iconst (pc := 108) (v := nI 0) dX12_mainAddress_108 (by decide) ?_
              refine Rn.istore_n (pc := 109) dX12_mainAddress_109 rfl (by decide) rfl st3_2 ?_
              refine Rn.iload_n (pc := 110) dX12_mainAddress_110 rfl rfl ?_
              refine Rn.if_eq (pc := 111) (y := 0) (tgt := 120) dX12_mainAddress_111 (by decide) (fun c111 => ?_) (fun c111 => ?_)
              · refine Rn.iincN (pc := 120) (n := 1) dX12_mainAddress_120 rfl (by decide) (by decide) rfl st3_1 ?_
                refine Rn.goto (pc := 123) (tgt := 2) dX12_mainAddress_123 (by decide) ?_
                refine ih (t + 1) _ (by omega) (by omega) (fun k hk => ?_)
                rcases Nat.eq_or_lt_of_le (Nat.le_of_lt_succ hk) with z | z
                · rw [z]; exact (fun q => c39 (hmn.mpr q.2.2).1)
                · exact hno k z
              · exact absurd (show nI 0 = 0 by decide) c111
            · refine Rn.aload_n (pc := 42) dX12_mainAddress_42 rfl rfl ?_
              refine Rn.getR (pc := 43) flX12_23 mu11_21 fx11_21 dX12_mainAddress_43 ?_
              refine Rn.bipush (pc := 46) (v := nI 6) dX12_mainAddress_46 (by decide) ?_
              refine Rn.iload_n (pc := 48) dX12_mainAddress_48 rfl rfl ?_
              refine Rn.imulN (pc := 49) dX12_mainAddress_49 ?_
              refine Rn.iconst (pc := 50) (v := nI 1) dX12_mainAddress_50 (by decide) ?_
              refine Rn.iaddN (pc := 51) dX12_mainAddress_51 ?_
              refine Rn.caldN (pc := 52) ak26 (by omega) (by decide) rfl dX12_mainAddress_52 ?_
              refine Rn.bipush (pc := 53) (v := nI 97) dX12_mainAddress_53 (by decide) ?_
              refine Rn.icmp_ne (pc := 55) (tgt := 108) dX12_mainAddress_55 (by decide) (fun c55 => ?_) (fun c55 => ?_)
              · refine Rn.iconst (pc := 108) (v := nI 0) dX12_mainAddress_108 (by decide) ?_
                refine Rn.istore_n (pc := 109) dX12_mainAddress_109 rfl (by decide) rfl st3_2 ?_
                refine Rn.iload_n (pc := 110) dX12_mainAddress_110 rfl rfl ?_
                refine Rn.if_eq (pc := 111) (y := 0) (tgt := 120) dX12_mainAddress_111 (by decide) (fun c111 => ?_) (fun c111 => ?_)
                · refine Rn.iincN (pc := 120) (n := 1) dX12_mainAddress_120 rfl (by decide) (by decide) rfl st3_1 ?_
                  refine Rn.goto (pc := 123) (tgt := 2) dX12_mainAddress_123 (by decide) ?_
                  refine ih (t + 1) _ (by omega) (by omega) (fun k hk => ?_)
                  rcases Nat.eq_or_lt_of_le (Nat.le_of_lt_succ hk) with z | z
                  · rw [z]; exact (fun q => c55 (hmn.mpr q.2.2).2.1)
                  · exact hno k z
                · exact absurd (show nI 0 = 0 by decide) c111
              · refine Rn.aload_n (pc := 58) dX12_mainAddress_58 rfl rfl ?_
                refine Rn.getR (pc := 59) flX12_23 mu11_21 fx11_21 dX12_mainAddress_59 ?_
                refine Rn.bipush (pc := 62) (v := nI 6) dX12_mainAddress_62 (by decide) ?_
                refine Rn.iload_n (pc := 64) dX12_mainAddress_64 rfl rfl ?_
                refine Rn.imulN (pc := 65) dX12_mainAddress_65 ?_
                refine Rn.iconst (pc := 66) (v := nI 2) dX12_mainAddress_66 (by decide) ?_
                refine Rn.iaddN (pc := 67) dX12_mainAddress_67 ?_
                refine Rn.caldN (pc := 68) ak26 (by omega) (by decide) rfl dX12_mainAddress_68 ?_
                refine Rn.bipush (pc := 69) (v := nI 105) dX12_mainAddress_69 (by decide) ?_
                refine Rn.icmp_ne (pc := 71) (tgt := 108) dX12_mainAddress_71 (by decide) (fun c71 => ?_) (fun c71 => ?_)
                · refine Rn.iconst (pc := 108) (v := nI 0) dX12_mainAddress_108 (by decide) ?_
                  refine Rn.istore_n (pc := 109) dX12_mainAddress_109 rfl (by decide) rfl st3_2 ?_
                  refine Rn.iload_n (pc := 110) dX12_mainAddress_110 rfl rfl ?_
                  refine Rn.if_eq (pc := 111) (y := 0) (tgt := 120) dX12_mainAddress_111 (by decide) (fun c111 => ?_) (fun c111 => ?_)
                  · refine Rn.iincN (pc := 120) (n := 1) dX12_mainAddress_120 rfl (by decide) (by decide) rfl st3_1 ?_
                    refine Rn.goto (pc := 123) (tgt := 2) dX12_mainAddress_123 (by decide) ?_
                    refine ih (t + 1) _ (by omega) (by omega) (fun k hk => ?_)
                    rcases Nat.eq_or_lt_of_le (Nat.le_of_lt_succ hk) with z | z
                    · rw [z]; exact (fun q => c71 (hmn.mpr q.2.2).2.2.1)
                    · exact hno k z
                  · exact absurd (show nI 0 = 0 by decide) c111
                · refine Rn.aload_n (pc := 74) dX12_mainAddress_74 rfl rfl ?_
                  refine Rn.getR (pc := 75) flX12_23 mu11_21 fx11_21 dX12_mainAddress_75 ?_
                  refine Rn.bipush (pc := 78) (v := nI 6) dX12_mainAddress_78 (by decide) ?_
                  refine Rn.iload_n (pc := 80) dX12_mainAddress_80 rfl rfl ?_
                  refine Rn.imulN (pc := 81) dX12_mainAddress_81 ?_
                  refine Rn.iconst (pc := 82) (v := nI 3) dX12_mainAddress_82 (by decide) ?_
                  refine Rn.iaddN (pc := 83) dX12_mainAddress_83 ?_
                  refine Rn.caldN (pc := 84) ak26 (by omega) (by decide) rfl dX12_mainAddress_84 ?_
                  refine Rn.bipush (pc := 85) (v := nI 110) dX12_mainAddress_85 (by decide) ?_
                  refine Rn.icmp_ne (pc := 87) (tgt := 108) dX12_mainAddress_87 (by decide) (fun c87 => ?_) (fun c87 => ?_)
                  · refine Rn.iconst (pc := 108) (v := nI 0) dX12_mainAddress_108 (by decide) ?_
                    refine Rn.istore_n (pc := 109) dX12_mainAddress_109 rfl (by decide) rfl st3_2 ?_
                    refine Rn.iload_n (pc := 110) dX12_mainAddress_110 rfl rfl ?_
                    refine Rn.if_eq (pc := 111) (y := 0) (tgt := 120) dX12_mainAddress_111 (by decide) (fun c111 => ?_) (fun c111 => ?_)
                    · refine Rn.iincN (pc := 120) (n := 1) dX12_mainAddress_120 rfl (by decide) (by decide) rfl st3_1 ?_
                      refine Rn.goto (pc := 123) (tgt := 2) dX12_mainAddress_123 (by decide) ?_
                      refine ih (t + 1) _ (by omega) (by omega) (fun k hk => ?_)
                      rcases Nat.eq_or_lt_of_le (Nat.le_of_lt_succ hk) with z | z
                      · rw [z]; exact (fun q => c87 (hmn.mpr q.2.2).2.2.2.1)
                      · exact hno k z
                    · exact absurd (show nI 0 = 0 by decide) c111
                  · refine Rn.aload_n (pc := 90) dX12_mainAddress_90 rfl rfl ?_
                    refine Rn.getR (pc := 91) flX12_23 mu11_21 fx11_21 dX12_mainAddress_91 ?_
                    refine Rn.bipush (pc := 94) (v := nI 6) dX12_mainAddress_94 (by decide) ?_
                    refine Rn.iload_n (pc := 96) dX12_mainAddress_96 rfl rfl ?_
                    refine Rn.imulN (pc := 97) dX12_mainAddress_97 ?_
                    refine Rn.iconst (pc := 98) (v := nI 4) dX12_mainAddress_98 (by decide) ?_
                    refine Rn.iaddN (pc := 99) dX12_mainAddress_99 ?_
                    refine Rn.caldN (pc := 100) ak26 (by omega) (by decide) rfl dX12_mainAddress_100 ?_
                    refine Rn.if_ne (pc := 101) (y := 0) (tgt := 108) dX12_mainAddress_101 (by decide) (fun c101 => ?_) (fun c101 => ?_)
                    · refine Rn.iconst (pc := 108) (v := nI 0) dX12_mainAddress_108 (by decide) ?_
                      refine Rn.istore_n (pc := 109) dX12_mainAddress_109 rfl (by decide) rfl st3_2 ?_
                      refine Rn.iload_n (pc := 110) dX12_mainAddress_110 rfl rfl ?_
                      refine Rn.if_eq (pc := 111) (y := 0) (tgt := 120) dX12_mainAddress_111 (by decide) (fun c111 => ?_) (fun c111 => ?_)
                      · refine Rn.iincN (pc := 120) (n := 1) dX12_mainAddress_120 rfl (by decide) (by decide) rfl st3_1 ?_
                        refine Rn.goto (pc := 123) (tgt := 2) dX12_mainAddress_123 (by decide) ?_
                        refine ih (t + 1) _ (by omega) (by omega) (fun k hk => ?_)
                        rcases Nat.eq_or_lt_of_le (Nat.le_of_lt_succ hk) with z | z
                        · rw [z]; exact (fun q => c101 (hmn.mpr q.2.2).2.2.2.2)
                        · exact hno k z
                      · exact absurd (show nI 0 = 0 by decide) c111
                    · refine Rn.iconst (pc := 104) (v := nI 1) dX12_mainAddress_104 (by decide) ?_
                      refine Rn.goto (pc := 105) (tgt := 109) dX12_mainAddress_105 (by decide) ?_
                      refine Rn.istore_n (pc := 109) dX12_mainAddress_109 rfl (by decide) rfl st3_2 ?_
                      refine Rn.iload_n (pc := 110) dX12_mainAddress_110 rfl rfl ?_
                      refine Rn.if_eq (pc := 111) (y := 0) (tgt := 120) dX12_mainAddress_111 (by decide) (fun c111 => ?_) (fun c111 => ?_)
                      · exact absurd c111 (by decide)
                      · refine Rn.aload_n (pc := 114) dX12_mainAddress_114 rfl rfl ?_
                        refine Rn.iload_n (pc := 115) dX12_mainAddress_115 rfl rfl ?_
                        refine Rn.callV (pc := 116) (as := [_]) cvX12_356 ⟨by decide, rfl⟩ ⟨by decide, by decide⟩ dX12_mainAddress_116 (Nat.le_of_ble_eq_true rfl) rfl (c_addressOf G bs B t (by omega) h96 hW hB hbs) ?_
                        rintro _ _ ⟨rfl, rfl⟩
                        refine Rn.iret (pc := 119) rfl dX12_mainAddress_119 ?_
                        rw [mnK_some hGU (by omega) c16 (hmn.mp ⟨c39, c55, c71, c87, c101⟩) ((nI_eq (by omega) (by decide)).mp (show nI _ = nI 0 from c25))]; exact ⟨rfl, rfl⟩
  refine Rn.iconst (pc := 0) (v := nI 0) dX12_mainAddress_0 (by decide) ?_
  refine Rn.istore_n (pc := 1) dX12_mainAddress_1 rfl (by decide) rfl st3_1 ?_
  exact loop B.1 0 _ rfl (by omega) (fun k hk => absurd hk (Nat.not_lt_zero k))

def SFi (k _j s : Nat) : Prop := (k = 11 ∧ (s = 20 ∨ s = 34 ∨ s = 37 ∨ s = 39)) ∨ k = 35 ∨ k = 36 ∨ k = 37 ∨ k = 39 ∨ (k = 26 ∧ 576 ≤ s) ∨ ((k = 27 ∨ k = 28 ∨ k = 29) ∧ 96 ≤ s)
def PFi (sz : Nat → Nat) (by' : Nat → Nat → Nat) (z ma : Nat) (B : LB) (M' : Mem) : Prop := mI M' 11 0 34 = nI z ∧ (∀ k, k < 2048 → mI M' 37 0 k = nI (fimT sz by' ma 12 k)) ∧ (∀ s, s < 12 → mI M' 35 0 s = nI (sz s) ∧ mI M' 36 0 s = nI (bsA sz s)) ∧ mI M' 11 0 20 = nI B.1 ∧ LbM 96 B M' ∧ mI M' 11 0 37 = nI (hxz z) ∧ ∀ k, k < hxz z → mI M' 39 0 k = nI (hx z (fimT sz by' ma 12) k)
def F1 (sz : Nat → Nat) (by' : Nat → Nat → Nat) (z ma : Nat) (M : Mem) (t : Nat) (f : Nat → Nat) (N : Mem) : Prop := Fr SFi M N ∧ mI N 11 0 34 = nI z ∧ (∀ k, k < 2048 → mI N 37 0 k = nI (f k)) ∧ ∀ s, s < t → mI N 35 0 s = nI (sz s) ∧ mI N 36 0 s = nI (bsA sz s)
def F2 (sz : Nat → Nat) (by' : Nat → Nat → Nat) (z ma : Nat) (B : LB) (M : Mem) (t : Nat) (N : Mem) : Prop := F1 sz by' z ma M 12 (fimT sz by' ma 12) N ∧ mI N 11 0 20 = nI B.1 ∧ ∀ i, i < t → LbR 96 B N i
def SFn (t k _j s : Nat) : Prop := k = 26 ∧ 6 * (96 + t) ≤ s
set_option maxRecDepth 20000 in
set_option maxHeartbeats 4000000 in
theorem fi_220 (G : GX) {Post : Option AV → Mem → Prop} {M : Mem} (z ma t : Nat) (x5 : Option AV) (L : Nat → Nat) (a e : Nat) (hnm : isNm L a e = true) (ht : t < 96) (hT : ∀ j, j < 6 → mI M 26 0 (6 * t + j) = nI (tch L a e j)) (K : ∀ N, Fr (SFn t) M N → (∀ j, j < 6 → mI N 26 0 (6 * (96 + t) + j) = nI (tch L a e j)) → Rn G iX12_finish Post 164 [some (vR 11 0), some (vI (nI z)), some (vI (nI ma)), some (vI (nI (t + 1))), some (vI (nI 6)), x5] [] N) : Rn G iX12_finish Post 220 [some (vR 11 0), some (vI (nI z)), some (vI (nI ma)), some (vI (nI t)), some (vI (nI 0)), x5] [] M := by
  have loop : ∀ (d c : Nat) (N : Mem), 6 - c = d → c ≤ 6 → Fr (SFn t) M N → (∀ j, j < c → mI N 26 0 (6 * (96 + t) + j) = nI (tch L a e j)) → Rn G iX12_finish Post 220 [some (vR 11 0), some (vI (nI z)), some (vI (nI ma)), some (vI (nI t)), some (vI (nI c)), x5] [] N := by
    intro d
    induction d using Nat.strongRecOn with
    | ind d ih9 =>
      intro c N hd hc kN hx9
      have ih : ∀ (t' : Nat) (N : Mem), c < t' → t' ≤ 6 → Fr (SFn t) M N → (∀ j, j < t' → mI N 26 0 (6 * (96 + t) + j) = nI (tch L a e j)) → Rn G iX12_finish Post 220 [some (vR 11 0), some (vI (nI z)), some (vI (nI ma)), some (vI (nI t)), some (vI (nI t')), x5] [] N := fun t' N h1 h2 h3 h4 => ih9 (6 - t') (by omega) t' N rfl h2 h3 h4
      refine Rn.iload (pc := 220) dX12_finish_220 rfl ?_
      refine Rn.bipush (pc := 222) (v := nI 6) dX12_finish_222 (by decide) ?_
      refine Rn.icmp_geN (pc := 224) (tgt := 260) dX12_finish_224 (by decide) (by omega) (by omega) (fun c224 => ?_) (fun c224 => ?_)
      · refine Rn.iincN (pc := 260) (n := 1) dX12_finish_260 rfl (by decide) (by decide) rfl st6_3 ?_
        refine Rn.goto (pc := 263) (tgt := 164) dX12_finish_263 (by decide) ?_
        have h6 : c = 6 := by omega
        subst h6
        exact K N kN hx9
      · refine Rn.aload_n (pc := 227) dX12_finish_227 rfl rfl ?_
        refine Rn.getR (pc := 228) flX12_23 mu11_21 fx11_21 dX12_finish_228 ?_
        refine Rn.bipush (pc := 231) (v := nI 6) dX12_finish_231 (by decide) ?_
        refine Rn.bipush (pc := 233) (v := nI 96) dX12_finish_233 (by decide) ?_
        refine Rn.iload_n (pc := 235) dX12_finish_235 rfl rfl ?_
        refine Rn.iaddN (pc := 236) dX12_finish_236 ?_
        refine Rn.imulN (pc := 237) dX12_finish_237 ?_
        refine Rn.iload (pc := 238) dX12_finish_238 rfl ?_
        refine Rn.iaddN (pc := 240) dX12_finish_240 ?_
        refine Rn.aload_n (pc := 241) dX12_finish_241 rfl rfl ?_
        refine Rn.getR (pc := 242) flX12_23 mu11_21 fx11_21 dX12_finish_242 ?_
        refine Rn.bipush (pc := 245) (v := nI 6) dX12_finish_245 (by decide) ?_
        refine Rn.iload_n (pc := 247) dX12_finish_247 rfl rfl ?_
        refine Rn.imulN (pc := 248) dX12_finish_248 ?_
        refine Rn.iload (pc := 249) dX12_finish_249 rfl ?_
        refine Rn.iaddN (pc := 251) dX12_finish_251 ?_
        refine Rn.caldN (pc := 252) ak26 (by omega) (by decide) (show mI N 26 0 (6 * t + c) = nI (tch L a e c) from (kN.I (by unfold SFn; omega)).trans (hT c (by omega))) dX12_finish_252 ?_
        refine Rn.castN (pc := 253) ak26 (by omega) (by decide) (vnc (by have := tch_lt (j := c) hnm; omega)) dX12_finish_253 ?_
        refine Rn.iincN (pc := 254) (n := 1) dX12_finish_254 rfl (by decide) (by decide) rfl st6_4 ?_
        refine Rn.goto (pc := 257) (tgt := 220) dX12_finish_257 (by decide) ?_
        refine ih (c + 1) _ (by omega) (by omega) (kN.sI ⟨rfl, by omega⟩) (fun j hj => ?_)
        rw [mI_sI]
        by_cases z9 : j = c
        · rw [z9, if_pos ⟨rfl, rfl, rfl⟩]
        · rw [if_neg (fun y => z9 (by omega))]; exact hx9 j (by omega)
  exact loop 6 0 M rfl (by decide) (Fr.refl M) (fun j hj => absurd hj (Nat.not_lt_zero j))
set_option maxRecDepth 20000 in
set_option maxHeartbeats 4000000 in
theorem c_finish (G : GX) {M : Mem} (sz : Nat → Nat) (by' : Nat → Nat → Nat) (z ma : Nat) (B : LB) (hsz8 : ∀ s, sz s ≤ 1024) (hz : z ≤ 2048) (hfl : ∀ s, s < 12 → s % 3 ≠ 2 → 0 < sz s → fl sz s + sz s ≤ 2048) (hszM : ∀ s, s < 12 → mI M 31 0 s = nI (sz s)) (hbsM : ∀ s, s < 12 → mI M 32 0 s = nI (bsA sz s)) (hfbM : ∀ m, m < 4 → mI M 33 0 (3 * m + 1) = nI (fbA sz m)) (hbyM : ∀ s k, s < 12 → s % 3 ≠ 2 → k < sz s → mI M 34 0 (1024 * s + k) = nI (by' s k)) (hby8 : ∀ s k, s < 12 → s % 3 ≠ 2 → k < sz s → by' s k < 256) (h96 : B.1 ≤ 96) (hB : LbM 0 B M) (hk : mI M 11 0 19 = nI B.1) (hma : ma < 2 ^ 30) : MetM G yX12_finish iX12_finish [vR 11 0, vI (nI z), vI (nI ma)] M (fun r M' => r = none ∧ Fr SFi M M' ∧ PFi sz by' z ma B M') := by
  refine MetM.of (ls := [some (vR 11 0), some (vI (nI z)), some (vI (nI ma)), none, none, none]) (by decide) rfl (Nat.le_of_ble_eq_true rfl) rfl ?_
  intro hM0
  have lab : ∀ (d t : Nat) (N : Mem) (x4 x5 : Option AV), B.1 - t = d → t ≤ B.1 → F2 sz by' z ma B M t N → Rn G iX12_finish (fun r M' => r = none ∧ Fr SFi M M' ∧ PFi sz by' z ma B M') 164 [some (vR 11 0), some (vI (nI z)), some (vI (nI ma)), some (vI (nI t)), x4, x5] [] N := by
    intro d
    induction d using Nat.strongRecOn with
    | ind d ih9 =>
      intro t N x4 x5 hd ht hN
      have ih : ∀ (t' : Nat) (N : Mem) (x4 x5 : Option AV), t < t' → t' ≤ B.1 → F2 sz by' z ma B M t' N → Rn G iX12_finish (fun r M' => r = none ∧ Fr SFi M M' ∧ PFi sz by' z ma B M') 164 [some (vR 11 0), some (vI (nI z)), some (vI (nI ma)), some (vI (nI t')), x4, x5] [] N := fun t' N x4 x5 h1 h2 h3 => ih9 (B.1 - t') (by omega) t' N x4 x5 rfl h2 h3
      have hkN : mI N 11 0 19 = nI B.1 := (hN.1.1.I (by unfold SFi; omega)).trans hk
      have hLN : LbM 0 B N := by
        intro i hi
        obtain ⟨l1, l2, l3, L', a', e', l4, l5, l6⟩ := hB i hi
        exact ⟨(hN.1.1.I (by unfold SFi; omega)).trans l1, (hN.1.1.I (by unfold SFi; omega)).trans l2, (hN.1.1.I (by unfold SFi; omega)).trans l3, L', a', e', l4, l5, fun j hj => (hN.1.1.I (by unfold SFi; omega)).trans (l6 j hj)⟩
      refine Rn.iload_n (pc := 164) dX12_finish_164 rfl rfl ?_
      refine Rn.aload_n (pc := 165) dX12_finish_165 rfl rfl ?_
      refine Rn.getI (pc := 166) (t := 0) flX12_319 hkN dX12_finish_166 ?_
      refine Rn.icmp_geN (pc := 169) (tgt := 266) dX12_finish_169 (by decide) (by omega) (by omega) (fun c169 => ?_) (fun c169 => ?_)
      · refine Rn.aload_n (pc := 266) dX12_finish_266 rfl rfl ?_
        refine Rn.callV (pc := 267) (as := []) cvX12_399 ⟨by decide, rfl⟩ ⟨by decide, by decide⟩ dX12_finish_267 (Nat.le_of_ble_eq_true rfl) rfl (c_write G z (fimT sz by' ma 12) hz hN.1.2.1 hN.1.2.2.1 (fun k _ => fimT_lt hby8 12 (Nat.le_refl 12) k)) ?_
        rintro _ M9 ⟨rfl, p1, p2, p3⟩
        refine Rn.vret (pc := 270) rfl dX12_finish_270 ?_
        have ht9 : t = B.1 := by omega
        refine ⟨rfl, hN.1.1.trans (p1.mono ?_), (p1.I (by unfold SHx; omega)).trans hN.1.2.1, fun k hk => (p1.I (by unfold SHx; omega)).trans (hN.1.2.2.1 k hk), fun s hs => ⟨(p1.I (by unfold SHx; omega)).trans (hN.1.2.2.2 s hs).1, (p1.I (by unfold SHx; omega)).trans (hN.1.2.2.2 s hs).2⟩, (p1.I (by unfold SHx; omega)).trans hN.2.1, fun i hi => ?_, p2, p3⟩
        · intro k j s h; unfold SHx at h; unfold SFi; omega
        · obtain ⟨l1, l2, l3, L', a', e', l4, l5, l6⟩ := hN.2.2 i (by omega)
          exact ⟨(p1.I (by unfold SHx; omega)).trans l1, (p1.I (by unfold SHx; omega)).trans l2, (p1.I (by unfold SHx; omega)).trans l3, L', a', e', l4, l5, fun j hj => (p1.I (by unfold SHx; omega)).trans (l6 j hj)⟩
      · have ht : t < B.1 := c169
        obtain ⟨hb1, hb2, hb3, L, a, e, hnm, hnv, hT⟩ := hLN t ht
        rw [Nat.zero_add] at hb1 hb2 hb3
        simp only [Nat.zero_add] at hT
        refine Rn.aload_n (pc := 172) dX12_finish_172 rfl rfl ?_
        refine Rn.getR (pc := 173) flX12_26 mu11_22 fx11_22 dX12_finish_173 ?_
        refine Rn.bipush (pc := 176) (v := nI 96) dX12_finish_176 (by decide) ?_
        refine Rn.iload_n (pc := 178) dX12_finish_178 rfl rfl ?_
        refine Rn.iaddN (pc := 179) dX12_finish_179 ?_
        refine Rn.aload_n (pc := 180) dX12_finish_180 rfl rfl ?_
        refine Rn.getR (pc := 181) flX12_26 mu11_22 fx11_22 dX12_finish_181 ?_
        refine Rn.iload_n (pc := 184) dX12_finish_184 rfl rfl ?_
        refine Rn.ialdN (pc := 185) ak27 (by omega) (by decide) hb1 dX12_finish_185 ?_
        refine Rn.iastN (pc := 186) ak27 (by omega) (by decide) dX12_finish_186 ?_
        refine Rn.aload_n (pc := 187) dX12_finish_187 rfl rfl ?_
        refine Rn.getR (pc := 188) flX12_29 mu11_23 fx11_23 dX12_finish_188 ?_
        refine Rn.bipush (pc := 191) (v := nI 96) dX12_finish_191 (by decide) ?_
        refine Rn.iload_n (pc := 193) dX12_finish_193 rfl rfl ?_
        refine Rn.iaddN (pc := 194) dX12_finish_194 ?_
        refine Rn.aload_n (pc := 195) dX12_finish_195 rfl rfl ?_
        refine Rn.getR (pc := 196) flX12_29 mu11_23 fx11_23 dX12_finish_196 ?_
        refine Rn.iload_n (pc := 199) dX12_finish_199 rfl rfl ?_
        refine Rn.ialdN (pc := 200) ak28 (by omega) (by decide) (show mI _ 28 0 t = _ from hb2) dX12_finish_200 ?_
        refine Rn.iastN (pc := 201) ak28 (by omega) (by decide) dX12_finish_201 ?_
        refine Rn.aload_n (pc := 202) dX12_finish_202 rfl rfl ?_
        refine Rn.getR (pc := 203) flX12_32 mu11_24 fx11_24 dX12_finish_203 ?_
        refine Rn.bipush (pc := 206) (v := nI 96) dX12_finish_206 (by decide) ?_
        refine Rn.iload_n (pc := 208) dX12_finish_208 rfl rfl ?_
        refine Rn.iaddN (pc := 209) dX12_finish_209 ?_
        refine Rn.aload_n (pc := 210) dX12_finish_210 rfl rfl ?_
        refine Rn.getR (pc := 211) flX12_32 mu11_24 fx11_24 dX12_finish_211 ?_
        refine Rn.iload_n (pc := 214) dX12_finish_214 rfl rfl ?_
        refine Rn.ialdN (pc := 215) ak29 (by omega) (by decide) (show mI _ 29 0 t = _ from hb3) dX12_finish_215 ?_
        refine Rn.iastN (pc := 216) ak29 (by omega) (by decide) dX12_finish_216 ?_
        refine Rn.iconst (pc := 217) (v := nI 0) dX12_finish_217 (by decide) ?_
        refine Rn.istore (pc := 218) dX12_finish_218 (by decide) rfl st6_4 ?_
        refine fi_220 G z ma t x5 L a e hnm (by omega) (fun j hj => ?_) (fun N9 k9 h9 => ?_)
        · show mI N 26 0 (6 * t + j) = _; exact hT j hj
        · have f9 : Fr (fun k j s => SFn t k j s ∨ ((k = 27 ∨ k = 28 ∨ k = 29) ∧ s = 96 + t)) N N9 := (((Fr.refl N).sI (Or.inr ⟨by decide, rfl⟩)).sI (Or.inr ⟨by decide, rfl⟩)).sI (Or.inr ⟨by decide, rfl⟩) |>.trans (k9.mono (fun _ _ _ h => Or.inl h))
          refine ih (t + 1) N9 _ _ (by omega) (by omega) ⟨⟨hN.1.1.trans (f9.mono ?_), ?_, ?_, ?_⟩, ?_, fun i hi => ?_⟩
          · intro k j s h; unfold SFn at h; unfold SFi; omega
          · exact (f9.I (by unfold SFn; omega)).trans hN.1.2.1
          · exact fun k hk => (f9.I (by unfold SFn; omega)).trans (hN.1.2.2.1 k hk)
          · exact fun s hs => ⟨(f9.I (by unfold SFn; omega)).trans (hN.1.2.2.2 s hs).1, (f9.I (by unfold SFn; omega)).trans (hN.1.2.2.2 s hs).2⟩
          · exact (f9.I (by unfold SFn; omega)).trans hN.2.1
          · rcases Nat.eq_or_lt_of_le (Nat.le_of_lt_succ hi) with q | q
            · rw [q]
              refine ⟨(k9.I (by unfold SFn; omega)).trans ?_, (k9.I (by unfold SFn; omega)).trans ?_, (k9.I (by unfold SFn; omega)).trans ?_, L, a, e, hnm, hnv, fun j hj => h9 j hj⟩
              · rw [mI_sI, if_neg (by omega), mI_sI, if_neg (by omega), mI_sI, if_pos ⟨rfl, rfl, rfl⟩]
              · rw [mI_sI, if_neg (by omega), mI_sI, if_pos ⟨rfl, rfl, rfl⟩]
              · rw [mI_sI, if_pos ⟨rfl, rfl, rfl⟩]
            · obtain ⟨l1, l2, l3, L', a', e', l4, l5, l6⟩ := hN.2.2 i q
              exact ⟨(f9.I (by unfold SFn; omega)).trans l1, (f9.I (by unfold SFn; omega)).trans l2, (f9.I (by unfold SFn; omega)).trans l3, L', a', e', l4, l5, fun j hj => (f9.I (by unfold SFn; omega)).trans (l6 j hj)⟩
  have inn : ∀ (t : Nat), t < 12 → t % 3 ≠ 2 → (∀ (N : Mem) (x4 x5 : Option AV), F1 sz by' z ma M (t + 1) (fimT sz by' ma (t + 1)) N → Rn G iX12_finish (fun r M' => r = none ∧ Fr SFi M M' ∧ PFi sz by' z ma B M') 148 [some (vR 11 0), some (vI (nI z)), some (vI (nI ma)), some (vI (nI t)), x4, x5] [] N) → ∀ (d c : Nat) (N : Mem), sz t - c = d → c ≤ sz t → F1 sz by' z ma M (t + 1) (fimP sz by' t c (fimT sz by' ma t)) N → Rn G iX12_finish (fun r M' => r = none ∧ Fr SFi M M' ∧ PFi sz by' z ma B M') 101 [some (vR 11 0), some (vI (nI z)), some (vI (nI ma)), some (vI (nI t)), some (vI (nI (fl sz t))), some (vI (nI c))] [] N := by
    intro t ht h2 hK148 d
    induction d using Nat.strongRecOn with
    | ind d ih9 =>
      intro c N hd hc hN
      have ihc : ∀ (c' : Nat) (N : Mem), c < c' → c' ≤ sz t → F1 sz by' z ma M (t + 1) (fimP sz by' t c' (fimT sz by' ma t)) N → Rn G iX12_finish (fun r M' => r = none ∧ Fr SFi M M' ∧ PFi sz by' z ma B M') 101 [some (vR 11 0), some (vI (nI z)), some (vI (nI ma)), some (vI (nI t)), some (vI (nI (fl sz t))), some (vI (nI c'))] [] N := fun c' N h1 h2 h3 => ih9 (sz t - c') (by omega) c' N rfl h2 h3
      have hsN : mI N 31 0 t = nI (sz t) := (hN.1.I (by unfold SFi; omega)).trans (hszM t ht)
      have hs8 := hsz8 t
      refine Rn.iload (pc := 101) dX12_finish_101 rfl ?_
      refine Rn.aload_n (pc := 103) dX12_finish_103 rfl rfl ?_
      refine Rn.getR (pc := 104) flX12_39 mu11_26 fx11_26 dX12_finish_104 ?_
      refine Rn.iload_n (pc := 107) dX12_finish_107 rfl rfl ?_
      refine Rn.ialdN (pc := 108) ak31 (by omega) (by decide) hsN dX12_finish_108 ?_
      refine Rn.icmp_geN (pc := 109) (tgt := 148) dX12_finish_109 (by decide) (by omega) (by omega) (fun c109 => ?_) (fun c109 => ?_)
      · have hc9 : c = sz t := by omega
        exact hK148 N _ _ ⟨hN.1, hN.2.1, fun k hk9 => by rw [hN.2.2.1 k hk9, hc9]; rfl, hN.2.2.2⟩
      · refine Rn.iload_n (pc := 112) dX12_finish_112 rfl rfl ?_
        refine Rn.iconst (pc := 113) (v := nI 3) dX12_finish_113 (by decide) ?_
        refine Rn.irem (pc := 114) dX12_finish_114 (by decide) ?_
        rw [rem_N (by omega) (by decide) (by decide)]
        refine Rn.iconst (pc := 115) (v := nI 2) dX12_finish_115 (by decide) ?_
        refine Rn.icmp_eqN (pc := 116) (tgt := 148) dX12_finish_116 (by decide) (by omega) (by omega) (fun c116 => ?_) (fun c116 => ?_)
        · exact absurd c116 h2
        · refine Rn.aload_n (pc := 119) dX12_finish_119 rfl rfl ?_
          refine Rn.getR (pc := 120) flX12_57 mu11_33 fx11_33 dX12_finish_120 ?_
          refine Rn.iload (pc := 123) dX12_finish_123 rfl ?_
          refine Rn.iload (pc := 125) dX12_finish_125 rfl ?_
          refine Rn.iaddN (pc := 127) dX12_finish_127 ?_
          refine Rn.aload_n (pc := 128) dX12_finish_128 rfl rfl ?_
          refine Rn.getR (pc := 129) flX12_48 mu11_29 fx11_29 dX12_finish_129 ?_
          refine Rn.sipush (pc := 132) (v := nI 1024) dX12_finish_132 (by decide) ?_
          refine Rn.iload_n (pc := 135) dX12_finish_135 rfl rfl ?_
          refine Rn.imulN (pc := 136) dX12_finish_136 ?_
          refine Rn.iload (pc := 137) dX12_finish_137 rfl ?_
          refine Rn.iaddN (pc := 139) dX12_finish_139 ?_
          refine Rn.ialdN (pc := 140) ak34 (by omega) (by decide) (show mI N 34 0 (1024 * t + c) = nI (by' t c) from (hN.1.I (by unfold SFi; omega)).trans (hbyM t c ht h2 (by omega))) dX12_finish_140 ?_
          refine Rn.iastN (pc := 141) ak37 (by have := hfl t ht h2 (by omega); omega) (by decide) dX12_finish_141 ?_
          refine Rn.iincN (pc := 142) (n := 1) dX12_finish_142 rfl (by decide) (by decide) rfl st6_5 ?_
          refine Rn.goto (pc := 145) (tgt := 101) dX12_finish_145 (by decide) ?_
          refine ihc (c + 1) _ (by omega) (by omega) ⟨hN.1.sI (by unfold SFi; omega), hN.2.1, fun k hk9 => ?_, hN.2.2.2⟩
          rw [mI_sI]
          unfold fimP
          by_cases q : k = fl sz t + c
          · rw [q, if_pos ⟨rfl, rfl, rfl⟩, if_pos ⟨h2, by omega, by omega⟩, Nat.add_sub_cancel_left]
          · have h9 := hN.2.2.1 k hk9
            unfold fimP at h9
            rw [if_neg (fun y => q y.2.2), h9]
            by_cases q2 : t % 3 ≠ 2 ∧ fl sz t ≤ k ∧ k < fl sz t + c
            · rw [if_pos q2, if_pos ⟨q2.1, q2.2.1, by omega⟩]
            · rw [if_neg q2, if_neg (fun y => q2 ⟨y.1, y.2.1, by omega⟩)]
  have secs : ∀ (d t : Nat) (N : Mem) (x4 x5 : Option AV), 12 - t = d → t ≤ 12 → F1 sz by' z ma M t (fimT sz by' ma t) N → Rn G iX12_finish (fun r M' => r = none ∧ Fr SFi M M' ∧ PFi sz by' z ma B M') 45 [some (vR 11 0), some (vI (nI z)), some (vI (nI ma)), some (vI (nI t)), x4, x5] [] N := by
    intro d
    induction d using Nat.strongRecOn with
    | ind d ih9 =>
      intro t N x4 x5 hd ht hN
      have ihs : ∀ (t' : Nat) (N : Mem) (x4 x5 : Option AV), t < t' → t' ≤ 12 → F1 sz by' z ma M t' (fimT sz by' ma t') N → Rn G iX12_finish (fun r M' => r = none ∧ Fr SFi M M' ∧ PFi sz by' z ma B M') 45 [some (vR 11 0), some (vI (nI z)), some (vI (nI ma)), some (vI (nI t')), x4, x5] [] N := fun t' N x4 x5 h1 h2 h3 => ih9 (12 - t') (by omega) t' N x4 x5 rfl h2 h3
      refine Rn.iload_n (pc := 45) dX12_finish_45 rfl rfl ?_
      refine Rn.bipush (pc := 46) (v := nI 12) dX12_finish_46 (by decide) ?_
      refine Rn.icmp_geN (pc := 48) (tgt := 154) dX12_finish_48 (by decide) (by omega) (by omega) (fun c48 => ?_) (fun c48 => ?_)
      · refine Rn.aload_n (pc := 154) dX12_finish_154 rfl rfl ?_
        refine Rn.aload_n (pc := 155) dX12_finish_155 rfl rfl ?_
        refine Rn.getI (pc := 156) (t := 0) flX12_319 (show mI N 11 0 19 = nI B.1 from (hN.1.I (by unfold SFi; omega)).trans hk) dX12_finish_156 ?_
        refine Rn.putI (pc := 159) (t := 0) flX12_322 rfl rfl dX12_finish_159 ?_
        refine Rn.iconst (pc := 162) (v := nI 0) dX12_finish_162 (by decide) ?_
        refine Rn.istore_n (pc := 163) dX12_finish_163 rfl (by decide) rfl st6_3 ?_
        have h12 : t = 12 := by omega
        subst h12
        exact lab B.1 0 _ _ _ rfl (Nat.zero_le _) ⟨⟨hN.1.sI (by unfold SFi; omega), hN.2.1, hN.2.2.1, hN.2.2.2⟩, rfl, fun i hi => absurd hi (Nat.not_lt_zero i)⟩
      · have ht : t < 12 := c48
        have hsN : mI N 31 0 t = nI (sz t) := (hN.1.I (by unfold SFi; omega)).trans (hszM t ht)
        have hbN : mI N 32 0 t = nI (bsA sz t) := (hN.1.I (by unfold SFi; omega)).trans (hbsM t ht)
        have hs8 := hsz8 t
        have hK148 : ∀ (N : Mem) (x4 x5 : Option AV), F1 sz by' z ma M (t + 1) (fimT sz by' ma (t + 1)) N → Rn G iX12_finish (fun r M' => r = none ∧ Fr SFi M M' ∧ PFi sz by' z ma B M') 148 [some (vR 11 0), some (vI (nI z)), some (vI (nI ma)), some (vI (nI t)), x4, x5] [] N := by
          intro N x4 x5 h9
          refine Rn.iincN (pc := 148) (n := 1) dX12_finish_148 rfl (by decide) (by decide) rfl st6_3 ?_
          refine Rn.goto (pc := 151) (tgt := 45) dX12_finish_151 (by decide) ?_
          exact ihs (t + 1) N _ _ (by omega) (by omega) h9
        rcases (show t % 3 = 0 ∨ t % 3 = 1 ∨ t % 3 = 2 by omega) with hr | hr | hr
        · refine Rn.aload_n (pc := 51) dX12_finish_51 rfl rfl ?_
          refine Rn.getR (pc := 52) flX12_51 mu11_31 fx11_31 dX12_finish_52 ?_
          refine Rn.iload_n (pc := 55) dX12_finish_55 rfl rfl ?_
          refine Rn.aload_n (pc := 56) dX12_finish_56 rfl rfl ?_
          refine Rn.getR (pc := 57) flX12_39 mu11_26 fx11_26 dX12_finish_57 ?_
          refine Rn.iload_n (pc := 60) dX12_finish_60 rfl rfl ?_
          refine Rn.ialdN (pc := 61) ak31 (by omega) (by decide) hsN dX12_finish_61 ?_
          refine Rn.iastN (pc := 62) ak35 (by omega) (by decide) dX12_finish_62 ?_
          refine Rn.aload_n (pc := 63) dX12_finish_63 rfl rfl ?_
          refine Rn.getR (pc := 64) flX12_54 mu11_32 fx11_32 dX12_finish_64 ?_
          refine Rn.iload_n (pc := 67) dX12_finish_67 rfl rfl ?_
          refine Rn.aload_n (pc := 68) dX12_finish_68 rfl rfl ?_
          refine Rn.getR (pc := 69) flX12_42 mu11_27 fx11_27 dX12_finish_69 ?_
          refine Rn.iload_n (pc := 72) dX12_finish_72 rfl rfl ?_
          refine Rn.ialdN (pc := 73) ak32 (by omega) (by decide) (show mI (sI N 35 0 t (nI (sz t))) 32 0 t = nI (bsA sz t) from hbN) dX12_finish_73 ?_
          refine Rn.iastN (pc := 74) ak36 (by omega) (by decide) dX12_finish_74 ?_
          have hF : F1 sz by' z ma M (t + 1) (fimT sz by' ma t) (sI (sI N 35 0 t (nI (sz t))) 36 0 t (nI (bsA sz t))) := by
            refine ⟨(hN.1.sI (by unfold SFi; omega)).sI (by unfold SFi; omega), hN.2.1, hN.2.2.1, fun s hs => ?_⟩
            rw [mI_sI, if_neg (by omega), mI_sI, mI_sI]
            by_cases q : s = t
            · rw [if_pos ⟨rfl, rfl, q⟩, if_pos ⟨rfl, rfl, q⟩, q]; exact ⟨rfl, rfl⟩
            · rw [if_neg (fun y => q y.2.2), if_neg (fun y => q y.2.2), mI_sI, if_neg (by omega)]; exact hN.2.2.2 s (by omega)
          have h0 : ∀ k, fimP sz by' t 0 (fimT sz by' ma t) k = fimT sz by' ma t k := fun k => by unfold fimP; rw [if_neg (by omega)]
          refine Rn.iload_n (pc := 75) dX12_finish_75 rfl rfl ?_
          refine Rn.iconst (pc := 76) (v := nI 3) dX12_finish_76 (by decide) ?_
          refine Rn.irem (pc := 77) dX12_finish_77 (by decide) ?_
          rw [rem_N (by omega) (by decide) (by decide)]
          refine Rn.if_ne (pc := 78) (y := 0) (tgt := 90) dX12_finish_78 (by decide) (fun c78 => ?_) (fun c78 => ?_)
          · exact absurd (show nI (t % 3) = 0 by rw [hr]; rfl) c78
          · refine Rn.aload_n (pc := 81) dX12_finish_81 rfl rfl ?_
            refine Rn.getR (pc := 82) flX12_42 mu11_27 fx11_27 dX12_finish_82 ?_
            refine Rn.iload_n (pc := 85) dX12_finish_85 rfl rfl ?_
            refine Rn.ialdN (pc := 86) ak32 (by omega) (by decide) (show mI (sI (sI N 35 0 t (nI (sz t))) 36 0 t (nI (bsA sz t))) 32 0 t = nI (bsA sz t) from hbN) dX12_finish_86 ?_
            refine Rn.goto (pc := 87) (tgt := 96) dX12_finish_87 (by decide) ?_
            refine Rn.istore (pc := 96) dX12_finish_96 (by decide) rfl st6_4 ?_
            refine Rn.iconst (pc := 98) (v := nI 0) dX12_finish_98 (by decide) ?_
            refine Rn.istore (pc := 99) dX12_finish_99 (by decide) rfl st6_5 ?_
            refine Rn.lsEq (ls := [some (vR 11 0), some (vI (nI z)), some (vI (nI ma)), some (vI (nI t)), some (vI (nI (fl sz t))), some (vI (nI 0))]) (by rw [show fl sz t = bsA sz t by unfold fl; rw [if_pos hr]]) ?_
            exact inn t ht (by omega) hK148 (sz t) 0 _ rfl (Nat.zero_le _) ⟨hF.1, hF.2.1, fun k hk9 => (hF.2.2.1 k hk9).trans (by rw [h0]), hF.2.2.2⟩
        · have hfN : mI (sI (sI N 35 0 t (nI (sz t))) 36 0 t (nI (bsA sz t))) 33 0 t = nI (fl sz t) := by
            have h9 := hfbM (t / 3) (by omega)
            rw [show 3 * (t / 3) + 1 = t by omega] at h9
            rw [mI_sI, if_neg (by omega), mI_sI, if_neg (by omega), hN.1.I (by unfold SFi; omega), h9]
            unfold fl; rw [if_neg (by omega)]
          refine Rn.aload_n (pc := 51) dX12_finish_51 rfl rfl ?_
          refine Rn.getR (pc := 52) flX12_51 mu11_31 fx11_31 dX12_finish_52 ?_
          refine Rn.iload_n (pc := 55) dX12_finish_55 rfl rfl ?_
          refine Rn.aload_n (pc := 56) dX12_finish_56 rfl rfl ?_
          refine Rn.getR (pc := 57) flX12_39 mu11_26 fx11_26 dX12_finish_57 ?_
          refine Rn.iload_n (pc := 60) dX12_finish_60 rfl rfl ?_
          refine Rn.ialdN (pc := 61) ak31 (by omega) (by decide) hsN dX12_finish_61 ?_
          refine Rn.iastN (pc := 62) ak35 (by omega) (by decide) dX12_finish_62 ?_
          refine Rn.aload_n (pc := 63) dX12_finish_63 rfl rfl ?_
          refine Rn.getR (pc := 64) flX12_54 mu11_32 fx11_32 dX12_finish_64 ?_
          refine Rn.iload_n (pc := 67) dX12_finish_67 rfl rfl ?_
          refine Rn.aload_n (pc := 68) dX12_finish_68 rfl rfl ?_
          refine Rn.getR (pc := 69) flX12_42 mu11_27 fx11_27 dX12_finish_69 ?_
          refine Rn.iload_n (pc := 72) dX12_finish_72 rfl rfl ?_
          refine Rn.ialdN (pc := 73) ak32 (by omega) (by decide) (show mI (sI N 35 0 t (nI (sz t))) 32 0 t = nI (bsA sz t) from hbN) dX12_finish_73 ?_
          refine Rn.iastN (pc := 74) ak36 (by omega) (by decide) dX12_finish_74 ?_
          have hF : F1 sz by' z ma M (t + 1) (fimT sz by' ma t) (sI (sI N 35 0 t (nI (sz t))) 36 0 t (nI (bsA sz t))) := by
            refine ⟨(hN.1.sI (by unfold SFi; omega)).sI (by unfold SFi; omega), hN.2.1, hN.2.2.1, fun s hs => ?_⟩
            rw [mI_sI, if_neg (by omega), mI_sI, mI_sI]
            by_cases q : s = t
            · rw [if_pos ⟨rfl, rfl, q⟩, if_pos ⟨rfl, rfl, q⟩, q]; exact ⟨rfl, rfl⟩
            · rw [if_neg (fun y => q y.2.2), if_neg (fun y => q y.2.2), mI_sI, if_neg (by omega)]; exact hN.2.2.2 s (by omega)
          have h0 : ∀ k, fimP sz by' t 0 (fimT sz by' ma t) k = fimT sz by' ma t k := fun k => by unfold fimP; rw [if_neg (by omega)]
          refine Rn.iload_n (pc := 75) dX12_finish_75 rfl rfl ?_
          refine Rn.iconst (pc := 76) (v := nI 3) dX12_finish_76 (by decide) ?_
          refine Rn.irem (pc := 77) dX12_finish_77 (by decide) ?_
          rw [rem_N (by omega) (by decide) (by decide)]
          refine Rn.if_ne (pc := 78) (y := 0) (tgt := 90) dX12_finish_78 (by decide) (fun c78 => ?_) (fun c78 => ?_)
          · refine Rn.aload_n (pc := 90) dX12_finish_90 rfl rfl ?_
            refine Rn.getR (pc := 91) flX12_45 mu11_28 fx11_28 dX12_finish_91 ?_
            refine Rn.iload_n (pc := 94) dX12_finish_94 rfl rfl ?_
            refine Rn.ialdN (pc := 95) ak33 (by omega) (by decide) hfN dX12_finish_95 ?_
            refine Rn.istore (pc := 96) dX12_finish_96 (by decide) rfl st6_4 ?_
            refine Rn.iconst (pc := 98) (v := nI 0) dX12_finish_98 (by decide) ?_
            refine Rn.istore (pc := 99) dX12_finish_99 (by decide) rfl st6_5 ?_
            exact inn t ht (by omega) hK148 (sz t) 0 _ rfl (Nat.zero_le _) ⟨hF.1, hF.2.1, fun k hk9 => (hF.2.2.1 k hk9).trans (by rw [h0]), hF.2.2.2⟩
          · exact absurd (rem_z (by omega) c78) (by omega)
        · refine Rn.aload_n (pc := 51) dX12_finish_51 rfl rfl ?_
          refine Rn.getR (pc := 52) flX12_51 mu11_31 fx11_31 dX12_finish_52 ?_
          refine Rn.iload_n (pc := 55) dX12_finish_55 rfl rfl ?_
          refine Rn.aload_n (pc := 56) dX12_finish_56 rfl rfl ?_
          refine Rn.getR (pc := 57) flX12_39 mu11_26 fx11_26 dX12_finish_57 ?_
          refine Rn.iload_n (pc := 60) dX12_finish_60 rfl rfl ?_
          refine Rn.ialdN (pc := 61) ak31 (by omega) (by decide) hsN dX12_finish_61 ?_
          refine Rn.iastN (pc := 62) ak35 (by omega) (by decide) dX12_finish_62 ?_
          refine Rn.aload_n (pc := 63) dX12_finish_63 rfl rfl ?_
          refine Rn.getR (pc := 64) flX12_54 mu11_32 fx11_32 dX12_finish_64 ?_
          refine Rn.iload_n (pc := 67) dX12_finish_67 rfl rfl ?_
          refine Rn.aload_n (pc := 68) dX12_finish_68 rfl rfl ?_
          refine Rn.getR (pc := 69) flX12_42 mu11_27 fx11_27 dX12_finish_69 ?_
          refine Rn.iload_n (pc := 72) dX12_finish_72 rfl rfl ?_
          refine Rn.ialdN (pc := 73) ak32 (by omega) (by decide) (show mI (sI N 35 0 t (nI (sz t))) 32 0 t = nI (bsA sz t) from hbN) dX12_finish_73 ?_
          refine Rn.iastN (pc := 74) ak36 (by omega) (by decide) dX12_finish_74 ?_
          have hF : F1 sz by' z ma M (t + 1) (fimT sz by' ma t) (sI (sI N 35 0 t (nI (sz t))) 36 0 t (nI (bsA sz t))) := by
            refine ⟨(hN.1.sI (by unfold SFi; omega)).sI (by unfold SFi; omega), hN.2.1, hN.2.2.1, fun s hs => ?_⟩
            rw [mI_sI, if_neg (by omega), mI_sI, mI_sI]
            by_cases q : s = t
            · rw [if_pos ⟨rfl, rfl, q⟩, if_pos ⟨rfl, rfl, q⟩, q]; exact ⟨rfl, rfl⟩
            · rw [if_neg (fun y => q y.2.2), if_neg (fun y => q y.2.2), mI_sI, if_neg (by omega)]; exact hN.2.2.2 s (by omega)
          have h0 : ∀ k, fimP sz by' t 0 (fimT sz by' ma t) k = fimT sz by' ma t k := fun k => by unfold fimP; rw [if_neg (by omega)]
          refine Rn.iload_n (pc := 75) dX12_finish_75 rfl rfl ?_
          refine Rn.iconst (pc := 76) (v := nI 3) dX12_finish_76 (by decide) ?_
          refine Rn.irem (pc := 77) dX12_finish_77 (by decide) ?_
          rw [rem_N (by omega) (by decide) (by decide)]
          refine Rn.if_ne (pc := 78) (y := 0) (tgt := 90) dX12_finish_78 (by decide) (fun c78 => ?_) (fun c78 => ?_)
          · refine Rn.aload_n (pc := 90) dX12_finish_90 rfl rfl ?_
            refine Rn.getR (pc := 91) flX12_45 mu11_28 fx11_28 dX12_finish_91 ?_
            refine Rn.iload_n (pc := 94) dX12_finish_94 rfl rfl ?_
            refine Rn.ialdN (pc := 95) ak33 (by omega) (by decide) rfl dX12_finish_95 ?_
            refine Rn.istore (pc := 96) dX12_finish_96 (by decide) rfl st6_4 ?_
            refine Rn.iconst (pc := 98) (v := nI 0) dX12_finish_98 (by decide) ?_
            refine Rn.istore (pc := 99) dX12_finish_99 (by decide) rfl st6_5 ?_
            refine Rn.iload (pc := 101) dX12_finish_101 rfl ?_
            refine Rn.aload_n (pc := 103) dX12_finish_103 rfl rfl ?_
            refine Rn.getR (pc := 104) flX12_39 mu11_26 fx11_26 dX12_finish_104 ?_
            refine Rn.iload_n (pc := 107) dX12_finish_107 rfl rfl ?_
            refine Rn.ialdN (pc := 108) ak31 (by omega) (by decide) (show mI (sI (sI N 35 0 t (nI (sz t))) 36 0 t (nI (bsA sz t))) 31 0 t = nI (sz t) from hsN) dX12_finish_108 ?_
            refine Rn.icmp_geN (pc := 109) (tgt := 148) dX12_finish_109 (by decide) (by omega) (by omega) (fun c109 => ?_) (fun c109 => ?_)
            · exact hK148 _ _ _ ⟨hF.1, hF.2.1, fun k hk9 => (hF.2.2.1 k hk9).trans (by rw [show fimT sz by' ma (t + 1) k = fimP sz by' t (sz t) (fimT sz by' ma t) k from rfl]; unfold fimP; rw [if_neg (fun y => y.1 hr)]), hF.2.2.2⟩
            · refine Rn.iload_n (pc := 112) dX12_finish_112 rfl rfl ?_
              refine Rn.iconst (pc := 113) (v := nI 3) dX12_finish_113 (by decide) ?_
              refine Rn.irem (pc := 114) dX12_finish_114 (by decide) ?_
              rw [rem_N (by omega) (by decide) (by decide)]
              refine Rn.iconst (pc := 115) (v := nI 2) dX12_finish_115 (by decide) ?_
              refine Rn.icmp_eqN (pc := 116) (tgt := 148) dX12_finish_116 (by decide) (by omega) (by omega) (fun c116 => ?_) (fun c116 => ?_)
              · exact hK148 _ _ _ ⟨hF.1, hF.2.1, fun k hk9 => (hF.2.2.1 k hk9).trans (by rw [show fimT sz by' ma (t + 1) k = fimP sz by' t (sz t) (fimT sz by' ma t) k from rfl]; unfold fimP; rw [if_neg (fun y => y.1 hr)]), hF.2.2.2⟩
              · exact absurd hr c116
          · exact absurd (rem_z (by omega) c78) (by omega)
  have zl : ∀ (d t : Nat) (N : Mem), 2048 - t = d → t ≤ 2048 → Fr SFi M N → mI N 11 0 34 = nI z → (∀ k, k < t → mI N 37 0 k = nI 0) → Rn G iX12_finish (fun r M' => r = none ∧ Fr SFi M M' ∧ PFi sz by' z ma B M') 7 [some (vR 11 0), some (vI (nI z)), some (vI (nI ma)), some (vI (nI t)), none, none] [] N := by
    intro d
    induction d using Nat.strongRecOn with
    | ind d ih9 =>
      intro t N hd ht fZ hz34 hz0
      have ihz : ∀ (t' : Nat) (N : Mem), t < t' → t' ≤ 2048 → Fr SFi M N → mI N 11 0 34 = nI z → (∀ k, k < t' → mI N 37 0 k = nI 0) → Rn G iX12_finish (fun r M' => r = none ∧ Fr SFi M M' ∧ PFi sz by' z ma B M') 7 [some (vR 11 0), some (vI (nI z)), some (vI (nI ma)), some (vI (nI t')), none, none] [] N := fun t' N h1 h2 h3 h4 h5 => ih9 (2048 - t') (by omega) t' N rfl h2 h3 h4 h5
      refine Rn.iload_n (pc := 7) dX12_finish_7 rfl rfl ?_
      refine Rn.sipush (pc := 8) (v := nI 2048) dX12_finish_8 (by decide) ?_
      refine Rn.icmp_geN (pc := 11) (tgt := 27) dX12_finish_11 (by decide) (by omega) (by omega) (fun c11 => ?_) (fun c11 => ?_)
      · refine Rn.aload_n (pc := 27) dX12_finish_27 rfl rfl ?_
        refine Rn.iconst (pc := 28) (v := nI 0) dX12_finish_28 (by decide) ?_
        refine Rn.ldc_w (pc := 29) dX12_finish_29 wcX12_383 ?_
        refine Rn.callV (pc := 32) (as := [_, _]) cvX12_396 ⟨by decide, rfl⟩ ⟨by decide, by decide⟩ dX12_finish_32 (Nat.le_of_ble_eq_true rfl) rfl (c_setWord G 0 (nI 536871936) (by decide)) ?_
        rintro _ M8 ⟨rfl, q1, q2⟩
        refine Rn.aload_n (pc := 35) dX12_finish_35 rfl rfl ?_
        refine Rn.iconst (pc := 36) (v := nI 4) dX12_finish_36 (by decide) ?_
        refine Rn.iload_n (pc := 37) dX12_finish_37 rfl rfl ?_
        refine Rn.iconst (pc := 38) (v := nI 1) dX12_finish_38 (by decide) ?_
        refine Rn.iaddN (pc := 39) dX12_finish_39 ?_
        refine Rn.callV (pc := 40) (as := [_, _]) cvX12_396 ⟨by decide, rfl⟩ ⟨by decide, by decide⟩ dX12_finish_40 (Nat.le_of_ble_eq_true rfl) rfl (c_setWord G 4 (nI (ma + 1)) (by decide)) ?_
        rintro _ M9 ⟨rfl, r1, r2⟩
        refine Rn.iconst (pc := 43) (v := nI 0) dX12_finish_43 (by decide) ?_
        refine Rn.istore_n (pc := 44) dX12_finish_44 rfl (by decide) rfl st6_3 ?_
        refine secs 12 0 _ _ _ rfl (by decide) ⟨fZ.trans ((q1.mono ?_).trans (r1.mono ?_)), ?_, fun k hk9 => ?_, fun s hs => absurd hs (Nat.not_lt_zero s)⟩
        · intro k j s h; unfold SFi; omega
        · intro k j s h; unfold SFi; omega
        · exact (r1.I (by omega)).trans ((q1.I (by omega)).trans hz34)
        · show _ = nI (vecs ma k)
          unfold vecs
          rcases Nat.lt_or_ge k 4 with y | y
          · rw [if_pos y, r1.I (by omega)]
            have h9 := q2 k y
            rwa [Nat.zero_add] at h9
          · rw [if_neg (by omega)]
            rcases Nat.lt_or_ge k 8 with y2 | y2
            · rw [if_pos y2]
              have h9 := r2 (k - 4) (by omega)
              rwa [show 4 + (k - 4) = k by omega] at h9
            · rw [if_neg (by omega), r1.I (by omega), q1.I (by omega)]; exact hz0 k (by omega)
      · refine Rn.aload_n (pc := 14) dX12_finish_14 rfl rfl ?_
        refine Rn.getR (pc := 15) flX12_57 mu11_33 fx11_33 dX12_finish_15 ?_
        refine Rn.iload_n (pc := 18) dX12_finish_18 rfl rfl ?_
        refine Rn.iconst (pc := 19) (v := nI 0) dX12_finish_19 (by decide) ?_
        refine Rn.iastN (pc := 20) ak37 (by omega) (by decide) dX12_finish_20 ?_
        refine Rn.iincN (pc := 21) (n := 1) dX12_finish_21 rfl (by decide) (by decide) rfl st6_3 ?_
        refine Rn.goto (pc := 24) (tgt := 7) dX12_finish_24 (by decide) ?_
        refine ihz (t + 1) _ (by omega) (by omega) (fZ.sI (by unfold SFi; omega)) hz34 (fun k hk9 => ?_)
        rw [mI_sI]
        by_cases e : k = t
        · rw [e, if_pos ⟨rfl, rfl, rfl⟩]
        · rw [if_neg (fun y => e y.2.2)]; exact hz0 k (by omega)
  refine Rn.aload_n (pc := 0) dX12_finish_0 rfl rfl ?_
  refine Rn.iload_n (pc := 1) dX12_finish_1 rfl rfl ?_
  refine Rn.putI (pc := 2) (t := 0) flX12_393 rfl rfl dX12_finish_2 ?_
  refine Rn.iconst (pc := 5) (v := nI 0) dX12_finish_5 (by decide) ?_
  refine Rn.istore_n (pc := 6) dX12_finish_6 rfl (by decide) rfl st6_3 ?_
  exact zl 2048 0 _ rfl (by decide) ((Fr.refl M).sI (by unfold SFi; omega)) rfl (fun k hk9 => absurd hk9 (Nat.not_lt_zero k))

