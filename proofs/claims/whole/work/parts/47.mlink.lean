/-! GLOBALS -/
def fgF (B : LB) (g : Nat → Bool) (v : Nat) : Nat → Nat → Option Nat
  | 0, _ => none
  | d + 1, i => if g i = true ∧ (B.2 i).2.2.2 = v then some i else fgF B g v d (i + 1)
def fg (B : LB) (g : Nat → Bool) (v : Nat) : Option Nat := fgF B g v B.1 0
theorem fgF_some {B : LB} {g : Nat → Bool} {v : Nat} : ∀ (d i k : Nat), fgF B g v d i = some k → i ≤ k ∧ k < i + d ∧ g k = true ∧ (B.2 k).2.2.2 = v
  | 0, i, k, h => by cases h
  | d + 1, i, k, h => by
    rw [fgF] at h
    by_cases q : g i = true ∧ (B.2 i).2.2.2 = v
    · rw [if_pos q] at h; cases h; exact ⟨Nat.le_refl i, by omega, q.1, q.2⟩
    · rw [if_neg q] at h
      have h9 := fgF_some d (i + 1) k h
      exact ⟨by omega, by omega, h9.2.2⟩
theorem fgF_none {B : LB} {g : Nat → Bool} {v : Nat} : ∀ (d i : Nat), fgF B g v d i = none → ∀ k, i ≤ k → k < i + d → ¬ (g k = true ∧ (B.2 k).2.2.2 = v)
  | 0, i, h, k, h1, h2 => absurd h2 (by omega)
  | d + 1, i, h, k, h1, h2 => by
    rw [fgF] at h
    by_cases q : g i = true ∧ (B.2 i).2.2.2 = v
    · rw [if_pos q] at h; cases h
    · rw [if_neg q] at h
      rcases Nat.eq_or_lt_of_le h1 with z | z
      · rw [← z]; exact q
      · exact fgF_none d (i + 1) h k z (by omega)
theorem fg_some {B : LB} {g : Nat → Bool} {v k : Nat} (h : fg B g v = some k) : k < B.1 ∧ g k = true ∧ (B.2 k).2.2.2 = v := by
  have h9 := fgF_some _ _ _ h
  exact ⟨by omega, h9.2.2⟩
theorem fg_none {B : LB} {g : Nat → Bool} {v : Nat} (h : fg B g v = none) : ∀ k, k < B.1 → ¬ (g k = true ∧ (B.2 k).2.2.2 = v) := fun k hk => fgF_none _ _ h k (Nat.zero_le k) (by omega)
/-- no name is told global twice -/
def GU (B : LB) (g : Nat → Bool) : Prop := ∀ i j, i < B.1 → j < B.1 → g i = true → g j = true → (B.2 i).2.2.2 = (B.2 j).2.2.2 → i = j
theorem fg_eq {B : LB} {g : Nat → Bool} {v k : Nat} (hw : GU B g) (hk : k < B.1) (h1 : g k = true) (h2 : (B.2 k).2.2.2 = v) : fg B g v = some k := by
  cases h : fg B g v with
  | none => exact absurd ⟨h1, h2⟩ (fg_none h k hk)
  | some i =>
    have h9 := fg_some h
    rw [hw i k h9.1 hk h9.2.1 h1 (by rw [h9.2.2, h2])]
theorem fg_no {B : LB} {g : Nat → Bool} {v : Nat} (h : ∀ k, k < B.1 → g k = true → (B.2 k).2.2.2 ≠ v) : fg B g v = none := by
  cases q : fg B g v with
  | none => rfl
  | some i => have h9 := fg_some q; exact absurd h9.2.2 (h i h9.1 h9.2.1)
def GbM (B : LB) (g : Nat → Bool) (M : Mem) : Prop := ∀ i, i < B.1 → mI M 30 0 i = bI (g i)
set_option maxRecDepth 20000 in
set_option maxHeartbeats 4000000 in
theorem c_globalOf (G : GX) {o : Nat} {L : Nat → Nat} {M : Mem} (B : LB) (g : Nat → Bool) (a e : Nat) (ha : a ≤ e) (hoe : o + e ≤ 4608) (htx : ∀ i, a ≤ i → i < e → mI M 25 0 (o + i) = nI (L i)) (hnm : isNm L a e = true) (hk : mI M 11 0 19 = nI B.1) (h96 : B.1 ≤ 96) (hW : LbW B) (hB : LbM 0 B M) (hg9 : GbM B g M) (hGU : GU B g) : MetM G yX12_globalOf iX12_globalOf [vR 11 0, vI (nI (o + a)), vI (nI (o + e))] M (fun r M' => r = some (vI (prV (fg B g (pkN L a (e - a))))) ∧ M' = M) := by
  refine MetM.of (ls := [some (vR 11 0), some (vI (nI (o + a))), some (vI (nI (o + e))), none, none]) (by decide) rfl (Nat.le_of_ble_eq_true rfl) rfl ?_
  intro hM0
  have loop : ∀ (d m : Nat) (x4 : Option AV), 4 - m = d → m ≤ 4 → (∀ k, k < B.1 → g k = true → (B.2 k).1 < m → (B.2 k).2.2.2 ≠ (pkN L a (e - a))) → Rn G iX12_globalOf (fun r M' => r = some (vI (prV (fg B g (pkN L a (e - a))))) ∧ M' = M) 2 [some (vR 11 0), some (vI (nI (o + a))), some (vI (nI (o + e))), some (vI (nI m)), x4] [] M := by
    intro d
    induction d using Nat.strongRecOn with
    | ind d ih =>
      intro m x4 hd hm4 hno
      refine Rn.iload_n (pc := 2) dX12_globalOf_2 rfl rfl ?_
      refine Rn.iconst (pc := 3) (v := nI 4) dX12_globalOf_3 (by decide) ?_
      refine Rn.icmp_geN (pc := 4) (tgt := 41) dX12_globalOf_4 (by decide) (by omega) (by omega) (fun c4 => ?_) (fun c4 => ?_)
      · refine Rn.iconst (pc := 41) (v := -1) dX12_globalOf_41 (by decide) ?_
        refine Rn.iret (pc := 42) rfl dX12_globalOf_42 ?_
        rw [fg_no (fun k hk hg => fun hv => hno k hk hg (by have := (hW.1 k hk).1; omega) hv)]
        exact ⟨rfl, rfl⟩
      · have hm : m < 4 := c4
        refine Rn.aload_n (pc := 7) dX12_globalOf_7 rfl rfl ?_
        refine Rn.iload_n (pc := 8) dX12_globalOf_8 rfl rfl ?_
        refine Rn.iload_n (pc := 9) dX12_globalOf_9 rfl rfl ?_
        refine Rn.iload_n (pc := 10) dX12_globalOf_10 rfl rfl ?_
        refine Rn.iconst (pc := 11) (v := nI 0) dX12_globalOf_11 (by decide) ?_
        refine Rn.callV (pc := 12) (as := [_, _, _, _]) cvX12_300 ⟨by decide, rfl⟩ ⟨by decide, by decide⟩ dX12_globalOf_12 (Nat.le_of_ble_eq_true rfl) rfl (c_labelOf G (L := L) (nI m) a e 0 B.1 ha hoe htx (Or.inl ⟨rfl, hk⟩) h96) ?_
        rintro _ M9 ⟨rfl, h9⟩
        rw [h9, lf_fnd hm hW hB hnm]
        cases hf : fnd B m (pkN L a (e - a)) with
        | none =>
          refine Rn.istore (pc := 15) dX12_globalOf_15 (by decide) rfl st5_4 ?_
          refine Rn.iload (pc := 17) dX12_globalOf_17 rfl ?_
          refine Rn.if_lt (pc := 19) (y := 0) (tgt := 35) dX12_globalOf_19 (by decide) (fun c19 => ?_) (fun c19 => ?_)
          · refine Rn.iincN (pc := 35) (n := 1) dX12_globalOf_35 rfl (by decide) (by decide) rfl st5_3 ?_
            refine Rn.goto (pc := 38) (tgt := 2) dX12_globalOf_38 (by decide) ?_
            refine ih (4 - (m + 1)) (by omega) (m + 1) _ rfl (by omega) (fun k hk hg hmm hv => ?_)
            rcases Nat.eq_or_lt_of_le (Nat.le_of_lt_succ hmm) with z | z
            · exact fnd_none hf k hk ⟨z, hv⟩
            · exact hno k hk hg z hv
          · exact absurd (show prV none < 0 by decide) c19
        | some k =>
          have hf9 := fnd_some hf
          rw [prV_s]
          refine Rn.istore (pc := 15) dX12_globalOf_15 (by decide) rfl st5_4 ?_
          refine Rn.iload (pc := 17) dX12_globalOf_17 rfl ?_
          refine Rn.if_lt (pc := 19) (y := 0) (tgt := 35) dX12_globalOf_19 (by decide) (fun c19 => ?_) (fun c19 => ?_)
          · exact absurd c19 (nI_pos (by omega))
          · refine Rn.aload_n (pc := 22) dX12_globalOf_22 rfl rfl ?_
            refine Rn.getR (pc := 23) flX12_35 mu11_25 fx11_25 dX12_globalOf_23 ?_
            refine Rn.iload (pc := 26) dX12_globalOf_26 rfl ?_
            refine Rn.zaldN (pc := 28) ak30 (by omega) (by decide) (hg9 k hf9.1) dX12_globalOf_28 ?_
            refine Rn.if_eqB (pc := 29) (tgt := 35) dX12_globalOf_29 (by decide) (fun c29 => ?_) (fun c29 => ?_)
            · refine Rn.iincN (pc := 35) (n := 1) dX12_globalOf_35 rfl (by decide) (by decide) rfl st5_3 ?_
              refine Rn.goto (pc := 38) (tgt := 2) dX12_globalOf_38 (by decide) ?_
              refine ih (4 - (m + 1)) (by omega) (m + 1) _ rfl (by omega) (fun i hi hg hmm hv => ?_)
              rcases Nat.eq_or_lt_of_le (Nat.le_of_lt_succ hmm) with z | z
              · have h8 := hW.2 i k hi hf9.1 (by rw [z, hf9.2.1]) (by rw [hv, hf9.2.2])
                rw [h8, c29] at hg
                cases hg
              · exact hno i hi hg z hv
            · refine Rn.iload (pc := 32) dX12_globalOf_32 rfl ?_
              refine Rn.iret (pc := 34) rfl dX12_globalOf_34 ?_
              rw [fg_eq hGU hf9.1 c29 hf9.2.2, prV_s]
              exact ⟨rfl, rfl⟩
  refine Rn.iconst (pc := 0) (v := nI 0) dX12_globalOf_0 (by decide) ?_
  refine Rn.istore_n (pc := 1) dX12_globalOf_1 rfl (by decide) rfl st5_3 ?_
  exact loop 4 0 _ rfl (by decide) (fun k hk hg hmm => absurd hmm (Nat.not_lt_zero _))

theorem prV_some {q : Option Nat} (h : ∀ k, q = some k → k < 2 ^ 31) : ¬ prV q < 0 ↔ q.isSome = true := by
  cases q with
  | none => exact ⟨fun z => absurd (show prV none < 0 by decide) z, fun z => by cases z⟩
  | some k => exact ⟨fun _ => rfl, fun _ => nI_pos (h k rfl)⟩
set_option maxRecDepth 20000 in
set_option maxHeartbeats 4000000 in
theorem c_isGlobalName (G : GX) {o : Nat} {L : Nat → Nat} {M : Mem} (B : LB) (g : Nat → Bool) (a e : Nat) (ha : a ≤ e) (hoe : o + e ≤ 4608) (htx : ∀ i, a ≤ i → i < e → mI M 25 0 (o + i) = nI (L i)) (hnm : isNm L a e = true) (hk : mI M 11 0 19 = nI B.1) (h96 : B.1 ≤ 96) (hW : LbW B) (hB : LbM 0 B M) (hg9 : GbM B g M) (hGU : GU B g) : MetM G yX12_isGlobalName iX12_isGlobalName [vR 11 0, vI (nI (o + a)), vI (nI (o + e))] M (fun r M' => r = some (vI (bI (fg B g (pkN L a (e - a))).isSome)) ∧ M' = M) := by
  refine MetM.of (ls := [some (vR 11 0), some (vI (nI (o + a))), some (vI (nI (o + e)))]) (by decide) rfl (Nat.le_of_ble_eq_true rfl) rfl ?_
  intro hM0
  refine Rn.aload_n (pc := 0) dX12_isGlobalName_0 rfl rfl ?_
  refine Rn.iload_n (pc := 1) dX12_isGlobalName_1 rfl rfl ?_
  refine Rn.iload_n (pc := 2) dX12_isGlobalName_2 rfl rfl ?_
  refine Rn.callV (pc := 3) (as := [_, _]) cvX12_347 ⟨by decide, rfl⟩ ⟨by decide, by decide⟩ dX12_isGlobalName_3 (Nat.le_of_ble_eq_true rfl) rfl (c_globalOf G B g a e ha hoe htx hnm hk h96 hW hB hg9 hGU) ?_
  rintro _ M9 ⟨rfl, h9⟩
  rw [h9]
  have hps := prV_some (q := fg B g (pkN L a (e - a))) (fun k h => by have := (fg_some h).1; omega)
  refine Rn.if_lt (pc := 6) (y := 0) (tgt := 13) dX12_isGlobalName_6 (by decide) (fun c6 => ?_) (fun c6 => ?_)
  · refine Rn.iconst (pc := 13) (v := nI 0) dX12_isGlobalName_13 (by decide) ?_
    refine Rn.zret (pc := 14) rfl rfl dX12_isGlobalName_14 ?_
    refine ⟨?_, rfl⟩
    rw [show (fg B g (pkN L a (e - a))).isSome = false from Bool.eq_false_iff.mpr (fun z => hps.mpr z c6)]; rfl
  · refine Rn.iconst (pc := 9) (v := nI 1) dX12_isGlobalName_9 (by decide) ?_
    refine Rn.goto (pc := 10) (tgt := 14) dX12_isGlobalName_10 (by decide) ?_
    refine Rn.zret (pc := 14) rfl rfl dX12_isGlobalName_14 ?_
    refine ⟨?_, rfl⟩
    rw [hps.mp c6]; rfl

def er2 (B : LB) (A : CR) (m : Nat) (g : Nat → Bool) : Int32 × Int32 :=
  if rK A = 2 then (if (fnd B m (rNm A)).isSome = true then (if (fg B g (rNm A)).isSome = true then (-2, nI (rNP A)) else (0, 0)) else (-8, nI (rNP A))) else (0, 0)
def nx2 (B : LB) (A : CR) (m : Nat) (g : Nat → Bool) : Nat → Bool := fun i => if rK A = 2 ∧ fnd B m (rNm A) = some i then true else g i
def st2 (R : Nat → Nat → CR) (B : LB) (m : Nat) (g : Nat → Bool) : Nat → Nat → Bool
  | 0 => g
  | n + 1 => nx2 B (R m n) m (st2 R B m g n)
def sm2 (R : Nat → Nat → CR) (cnt : Nat → Nat) (B : LB) : Nat → Nat → Bool
  | 0 => fun _ => false
  | m + 1 => st2 R B m (sm2 R cnt B m) (cnt m)
def at2 (R : Nat → Nat → CR) (cnt : Nat → Nat) (B : LB) (m n : Nat) : Nat → Bool := st2 R B m (sm2 R cnt B m) n
theorem at2_s {R : Nat → Nat → CR} {cnt : Nat → Nat} {B : LB} {m n : Nat} : at2 R cnt B m (n + 1) = nx2 B (R m n) m (at2 R cnt B m n) := rfl
theorem at2_m {R : Nat → Nat → CR} {cnt : Nat → Nat} {B : LB} {m : Nat} : at2 R cnt B (m + 1) 0 = at2 R cnt B m (cnt m) := rfl
def e2 (R : Nat → Nat → CR) (cnt : Nat → Nat) (B : LB) (m n : Nat) : Int32 × Int32 := er2 B (R m n) m (at2 R cnt B m n)
theorem nx2_GU {B : LB} {A : CR} {m : Nat} {g : Nat → Bool} (hG : GU B g) (h : (er2 B A m g).1 = 0) : GU B (nx2 B A m g) := by
  by_cases hk : rK A = 2
  · unfold er2 at h
    rw [if_pos hk] at h
    by_cases hf : (fnd B m (rNm A)).isSome = true
    · rw [if_pos hf] at h
      by_cases hh : (fg B g (rNm A)).isSome = true
      · rw [if_pos hh] at h; exact absurd (show (-2 : Int32) = 0 from h) (by decide)
      · have hn : fg B g (rNm A) = none := by
          cases q : fg B g (rNm A) with
          | none => rfl
          | some k => rw [q] at hh; exact absurd rfl hh
        intro i j hi hj g1 g2 hv
        unfold nx2 at g1 g2
        by_cases z : rK A = 2 ∧ fnd B m (rNm A) = some i <;> by_cases y : rK A = 2 ∧ fnd B m (rNm A) = some j
        · have := z.2.symm.trans y.2; exact Option.some.inj this
        · rw [if_neg y] at g2
          exact absurd ⟨g2, by rw [← hv, (fnd_some z.2).2.2]⟩ (fg_none hn j hj)
        · rw [if_neg z] at g1
          exact absurd ⟨g1, by rw [hv, (fnd_some y.2).2.2]⟩ (fg_none hn i hi)
        · rw [if_neg z] at g1; rw [if_neg y] at g2
          exact hG i j hi hj g1 g2 hv
    · rw [if_neg hf] at h; exact absurd (show (-8 : Int32) = 0 from h) (by decide)
  · intro i j hi hj g1 g2 hv
    unfold nx2 at g1 g2
    rw [if_neg (fun z => hk z.1)] at g1 g2
    exact hG i j hi hj g1 g2 hv
theorem StK.k2 {A : CR} {s : Nat} {code num : Int32} (h : StK A s code num) : s = 4 ↔ rK A = 2 := by
  unfold StK at h
  rcases h with h | h | h | h | h | h | h | h | h | h | h | h | h
  all_goals omega
def SP2 (k _j s : Nat) : Prop := (k = 11 ∧ 6 ≤ s ∧ s ≤ 18) ∨ (k = 30 ∧ s < 96) ∨ k = 38
def P2 (R : Nat → Nat → CR) (cnt : Nat → Nat) (B : LB) (M : Mem) : Option AV → Mem → Prop := fun r M' => ∃ k : Int32, r = some (vI k) ∧ Fr SP2 M M' ∧ ((k = 0 ∧ Ok cnt (e2 R cnt B) 4 0 ∧ GbM B (at2 R cnt B 4 0) M' ∧ GU B (at2 R cnt B 4 0) ∧ ∀ s, mI M' 38 0 s = mI M 38 0 s) ∨ (k ≠ 0 ∧ FB cnt (e2 R cnt B) k (mI M' 38 0 0) (mI M' 38 0 1) (mI M' 38 0 2)))
def I2 (R : Nat → Nat → CR) (cnt : Nat → Nat) (B : LB) (M : Mem) (m n : Nat) (N : Mem) : Prop := Fr SP2 M N ∧ Ok cnt (e2 R cnt B) m n ∧ GbM B (at2 R cnt B m n) N ∧ GU B (at2 R cnt B m n) ∧ ∀ s, mI N 38 0 s = mI M 38 0 s
theorem zn_b : vp_nar .boolean (nI 1) = bI true := by decide
set_option maxRecDepth 20000 in
set_option maxHeartbeats 4000000 in
theorem c_secondPass (G : GX) {M : Mem} (R : Nat → Nat → CR) (cnt : Nat → Nat) (B : LB) (hsrc : SrcM R cnt M) (hfa : ∀ m n, m < 4 → n < cnt m → rFa (R m n) = 0) (hW : LbW B) (hB : LbM 0 B M) (hkM : mI M 11 0 19 = nI B.1) (h96 : B.1 ≤ 96) (h0 : ∀ i, i < B.1 → mI M 30 0 i = nI 0) : MetM G yX12_secondPass iX12_secondPass [vR 11 0] M (P2 R cnt B M) := by
  refine MetM.of (ls := [some (vR 11 0), none, none, none]) (by decide) rfl (Nat.le_of_ble_eq_true rfl) rfl ?_
  intro hM0
  have hc : ∀ m, m < 4 → cnt m ≤ 24 := fun m hm => (hsrc m hm).2.1
  have hS2 : ∀ k j s, SP2 k j s → SLk k j s := by intro k j s h; unfold SP2 at h; unfold SLk; omega
  have inner : ∀ (m : Nat), m < 4 → (∀ (N : Mem) (x3 : Option AV), I2 R cnt B M m (cnt m) N → Rn G iX12_secondPass (P2 R cnt B M) 114 [some (vR 11 0), some (vI (nI m)), some (vI (nI (cnt m))), x3] [] N) → ∀ (d n : Nat) (N : Mem) (x3 : Option AV), cnt m - n = d → n ≤ cnt m → I2 R cnt B M m n N → Rn G iX12_secondPass (P2 R cnt B M) 9 [some (vR 11 0), some (vI (nI m)), some (vI (nI n)), x3] [] N := by
    intro m hm KM d
    induction d using Nat.strongRecOn with
    | ind d ih9 =>
      intro n N x3 hd hnc hI
      have ih : ∀ (n' : Nat) (N : Mem) (x3 : Option AV), n < n' → n' ≤ cnt m → I2 R cnt B M m n' N → Rn G iX12_secondPass (P2 R cnt B M) 9 [some (vR 11 0), some (vI (nI m)), some (vI (nI n')), x3] [] N := fun n' N x3 h1 h2 h3 => ih9 (cnt m - n') (by omega) n' N x3 rfl h2 h3
      have fN := hI.1
      have hsN := hsrc.fr (fN.mono hS2)
      have hcm := hc m hm
      have hLb : LbM 0 B N := hB.fr h96 fN (by intro k j s h; unfold SP2; omega)
      have hkB : mI N 11 0 19 = nI B.1 := (fN.I (by unfold SP2; omega)).trans hkM
      have hRd2 : ∀ k j s, SRd k j s → SP2 k j s := by intro k j s h; unfold SRd at h; unfold SP2; omega
      have hs38 : ∀ {s : Nat}, SP2 38 0 s := by intro s; unfold SP2; omega
      refine Rn.iload_n (pc := 9) dX12_secondPass_9 rfl rfl ?_
      refine Rn.aload_n (pc := 10) dX12_secondPass_10 rfl rfl ?_
      refine Rn.getR (pc := 11) flX12_13 mu11_3 fx11_3 dX12_secondPass_11 ?_
      refine Rn.iload_n (pc := 14) dX12_secondPass_14 rfl rfl ?_
      refine Rn.ialdN (pc := 15) ak23 (by omega) (by decide) (hsN m hm).1 dX12_secondPass_15 ?_
      refine Rn.icmp_geN (pc := 16) (tgt := 114) dX12_secondPass_16 (by decide) (by omega) (by omega) (fun c16 => ?_) (fun c16 => ?_)
      · have hn : n = cnt m := by omega
        subst hn
        exact KM N x3 hI
      · have hn : n < cnt m := c16
        obtain ⟨q, hst, hq48, hq9, hA⟩ := (hsN m hm).2.2 n hn
        refine Rn.aload_n (pc := 19) dX12_secondPass_19 rfl rfl ?_
        refine Rn.iload_n (pc := 20) dX12_secondPass_20 rfl rfl ?_
        refine Rn.iload_n (pc := 21) dX12_secondPass_21 rfl rfl ?_
        refine Rn.iconst (pc := 22) (v := nI 0) dX12_secondPass_22 (by decide) ?_
        refine Rn.callV (pc := 23) (as := [_, _, _]) cvX12_334 ⟨by decide, rfl⟩ ⟨by decide, by decide⟩ dX12_secondPass_23 (Nat.le_of_ble_eq_true rfl) rfl (c_readL G (R m n) m n q B false hm (by omega) hst hq48 hq9 hA hW hLb hkB h96) ?_
        rintro _ M2 ⟨rfl, fr2, hrd⟩
        have hLb2 : LbM 0 B M2 := hLb.fr h96 fr2 (by intro k j s h; unfold SRd; omega)
        have hk2 : mI M2 11 0 19 = nI B.1 := (fr2.I (by unfold SRd; omega)).trans hkB
        have hG2 : GbM B (at2 R cnt B m n) M2 := fun i hi => (fr2.I (by unfold SRd; omega)).trans (hI.2.2.1 i hi)
        have hst2 : ∀ i, i < q.1 → mI M2 25 0 (48 * (24 * m + n) + i) = nI (q.2 i) := fun i hi => (fr2.I (by unfold SRd; omega)).trans (hst.2 i hi)
        obtain ⟨hq1, hq2, hlab, hrf⟩ := hrd.2.2 rfl
        obtain ⟨s, hs15, hs, hsa2, hK, hnmO⟩ := hrf (hfa m n hm hn)
        refine Rn.aload_n (pc := 26) dX12_secondPass_26 rfl rfl ?_
        refine Rn.getI (pc := 27) (t := 0) flX12_156 hs dX12_secondPass_27 ?_
        refine Rn.iconst (pc := 30) (v := nI 4) dX12_secondPass_30 (by decide) ?_
        refine Rn.icmp_eqN (pc := 31) (tgt := 37) dX12_secondPass_31 (by decide) (by omega) (by decide) (fun c31 => ?_) (fun c31 => ?_)
        · have hk : rK (R m n) = 2 := hK.k2.mp c31
          obtain ⟨a, e, hnf, hnt, hae, hen, hnm, hnv, hnp⟩ := hnmO (Or.inl c31)
          refine Rn.aload_n (pc := 37) dX12_secondPass_37 rfl rfl ?_
          refine Rn.iload_n (pc := 38) dX12_secondPass_38 rfl rfl ?_
          refine Rn.aload_n (pc := 39) dX12_secondPass_39 rfl rfl ?_
          refine Rn.getI (pc := 40) (t := 0) flX12_142 hnf dX12_secondPass_40 ?_
          refine Rn.aload_n (pc := 43) dX12_secondPass_43 rfl rfl ?_
          refine Rn.getI (pc := 44) (t := 0) flX12_145 hnt dX12_secondPass_44 ?_
          refine Rn.iconst (pc := 47) (v := nI 0) dX12_secondPass_47 (by decide) ?_
          refine Rn.callV (pc := 48) (as := [_, _, _, _]) cvX12_300 ⟨by decide, rfl⟩ ⟨by decide, by decide⟩ dX12_secondPass_48 (Nat.le_of_ble_eq_true rfl) rfl (c_labelOf G (L := q.2) (nI m) a e 0 B.1 hae (by omega) (fun i _ h2 => hst2 i (by omega)) (Or.inl ⟨rfl, hk2⟩) h96) ?_
          rintro _ M9 ⟨rfl, h9⟩
          rw [h9, lf_fnd hm hW hLb2 hnm, ← hnv]
          cases hf : fnd B m (rNm (R m n)) with
          | none =>
            refine Rn.istore_n (pc := 51) dX12_secondPass_51 rfl (by decide) rfl st4_3 ?_
            refine Rn.iload_n (pc := 52) dX12_secondPass_52 rfl rfl ?_
            refine Rn.if_lt (pc := 53) (y := 0) (tgt := 71) dX12_secondPass_53 (by decide) (fun c53 => ?_) (fun c53 => ?_)
            · refine Rn.aload_n (pc := 71) dX12_secondPass_71 rfl rfl ?_
              refine Rn.iload_n (pc := 72) dX12_secondPass_72 rfl rfl ?_
              refine Rn.if_ge (pc := 73) (y := 0) (tgt := 81) dX12_secondPass_73 (by decide) (fun c73 => ?_) (fun c73 => ?_)
              · exact absurd c73 (by decide)
              · refine Rn.bipush (pc := 76) (v := -8) dX12_secondPass_76 (by decide) ?_
                refine Rn.goto (pc := 78) (tgt := 83) dX12_secondPass_78 (by decide) ?_
                refine Rn.iload_n (pc := 83) dX12_secondPass_83 rfl rfl ?_
                refine Rn.iload_n (pc := 84) dX12_secondPass_84 rfl rfl ?_
                refine Rn.aload_n (pc := 85) dX12_secondPass_85 rfl rfl ?_
                refine Rn.getI (pc := 86) (t := 0) flX12_142 hnf dX12_secondPass_86 ?_
                refine Rn.bipush (pc := 89) (v := nI 48) dX12_secondPass_89 (by decide) ?_
                refine Rn.aload_n (pc := 91) dX12_secondPass_91 rfl rfl ?_
                refine Rn.getI (pc := 92) (t := 0) flX12_103 (show mI M2 11 0 6 = nI (24 * m + n) from hrd.1) dX12_secondPass_92 ?_
                refine Rn.imulN (pc := 95) dX12_secondPass_95 ?_
                refine Rn.isub (pc := 96) dX12_secondPass_96 ?_
                rw [pk_sub (by omega), Nat.add_sub_cancel_left, ← hnp]
                refine Rn.callV (pc := 97) (as := [_, _, _, _]) cvX12_337 ⟨by decide, rfl⟩ ⟨by decide, by decide⟩ dX12_secondPass_97 (Nat.le_of_ble_eq_true rfl) rfl (c_report G (-8) (nI m) (nI n) (nI (rNP (R m n)))) ?_
                rintro _ _ ⟨rfl, rfl⟩
                refine Rn.iret (pc := 100) rfl dX12_secondPass_100 ?_
                have he : er2 B (R m n) m (at2 R cnt B m n) = (-8, nI (rNP (R m n))) := by
                  unfold er2; rw [if_pos hk, if_neg (by rw [hf]; decide)]
                refine ⟨_, rfl, fN.trans ((fr2.mono hRd2).trans ((((Fr.refl M2).sI hs38).sI hs38).sI hs38)), Or.inr ⟨by decide, m, n, hm, hn, hI.2.1, ?_, ?_, rfl, rfl, ?_⟩⟩
                · show (er2 B (R m n) m (at2 R cnt B m n)).1 ≠ 0; rw [he]; show (-8 : Int32) ≠ 0; decide
                · show _ = (er2 B (R m n) m (at2 R cnt B m n)).1; rw [he]
                · show _ = (er2 B (R m n) m (at2 R cnt B m n)).2; rw [he]; rfl
            · exact absurd (show prV none < 0 by decide) c53
          | some k =>
            have hf9 := fnd_some hf
            rw [prV_s]
            refine Rn.istore_n (pc := 51) dX12_secondPass_51 rfl (by decide) rfl st4_3 ?_
            refine Rn.iload_n (pc := 52) dX12_secondPass_52 rfl rfl ?_
            refine Rn.if_lt (pc := 53) (y := 0) (tgt := 71) dX12_secondPass_53 (by decide) (fun c53 => ?_) (fun c53 => ?_)
            · exact absurd c53 (nI_pos (by omega))
            · refine Rn.aload_n (pc := 56) dX12_secondPass_56 rfl rfl ?_
              refine Rn.aload_n (pc := 57) dX12_secondPass_57 rfl rfl ?_
              refine Rn.getI (pc := 58) (t := 0) flX12_142 hnf dX12_secondPass_58 ?_
              refine Rn.aload_n (pc := 61) dX12_secondPass_61 rfl rfl ?_
              refine Rn.getI (pc := 62) (t := 0) flX12_145 hnt dX12_secondPass_62 ?_
              refine Rn.callV (pc := 65) (as := [_, _]) cvX12_350 ⟨by decide, rfl⟩ ⟨by decide, by decide⟩ dX12_secondPass_65 (Nat.le_of_ble_eq_true rfl) rfl (c_isGlobalName G B (at2 R cnt B m n) a e hae (by omega) (fun i _ h2 => hst2 i (by omega)) hnm hk2 h96 hW hLb2 hG2 hI.2.2.2.1) ?_
              rintro _ M9 ⟨rfl, h9⟩
              rw [h9, ← hnv]
              refine Rn.if_eqB (pc := 68) (tgt := 101) dX12_secondPass_68 (by decide) (fun c68 => ?_) (fun c68 => ?_)
              · refine Rn.aload_n (pc := 101) dX12_secondPass_101 rfl rfl ?_
                refine Rn.getR (pc := 102) flX12_35 mu11_25 fx11_25 dX12_secondPass_102 ?_
                refine Rn.iload_n (pc := 105) dX12_secondPass_105 rfl rfl ?_
                refine Rn.iconst (pc := 106) (v := nI 1) dX12_secondPass_106 (by decide) ?_
                refine Rn.zastN (pc := 107) ak30 (by omega) (by decide) zn_b dX12_secondPass_107 ?_
                refine Rn.iincN (pc := 108) (n := 1) dX12_secondPass_108 rfl (by decide) (by decide) rfl st4_2 ?_
                refine Rn.goto (pc := 111) (tgt := 9) dX12_secondPass_111 (by decide) ?_
                have he : er2 B (R m n) m (at2 R cnt B m n) = (0, 0) := by
                  unfold er2; rw [if_pos hk, if_pos (by rw [hf]; rfl), if_neg (by rw [c68]; decide)]
                have he0 : (er2 B (R m n) m (at2 R cnt B m n)).1 = 0 := by rw [he]
                refine ih (n + 1) _ _ (by omega) (by omega) ⟨(fN.trans (fr2.mono hRd2)).sI (Or.inr (Or.inl ⟨rfl, by omega⟩)), hI.2.1.s (fun _ => he0), fun i hi => ?_, nx2_GU hI.2.2.2.1 he0, fun s => (fr2.I (by unfold SRd; omega)).trans (hI.2.2.2.2 s)⟩
                rw [at2_s, mI_sI]
                unfold nx2
                by_cases z : i = k
                · rw [if_pos ⟨rfl, rfl, z⟩, z, if_pos ⟨hk, hf⟩]
                · rw [if_neg (fun y => z y.2.2), if_neg (fun y => z (Option.some.inj (y.2.symm.trans hf)))]
                  exact hG2 i hi
              · refine Rn.aload_n (pc := 71) dX12_secondPass_71 rfl rfl ?_
                refine Rn.iload_n (pc := 72) dX12_secondPass_72 rfl rfl ?_
                refine Rn.if_ge (pc := 73) (y := 0) (tgt := 81) dX12_secondPass_73 (by decide) (fun c73 => ?_) (fun c73 => ?_)
                · refine Rn.bipush (pc := 81) (v := -2) dX12_secondPass_81 (by decide) ?_
                  refine Rn.iload_n (pc := 83) dX12_secondPass_83 rfl rfl ?_
                  refine Rn.iload_n (pc := 84) dX12_secondPass_84 rfl rfl ?_
                  refine Rn.aload_n (pc := 85) dX12_secondPass_85 rfl rfl ?_
                  refine Rn.getI (pc := 86) (t := 0) flX12_142 hnf dX12_secondPass_86 ?_
                  refine Rn.bipush (pc := 89) (v := nI 48) dX12_secondPass_89 (by decide) ?_
                  refine Rn.aload_n (pc := 91) dX12_secondPass_91 rfl rfl ?_
                  refine Rn.getI (pc := 92) (t := 0) flX12_103 (show mI M2 11 0 6 = nI (24 * m + n) from hrd.1) dX12_secondPass_92 ?_
                  refine Rn.imulN (pc := 95) dX12_secondPass_95 ?_
                  refine Rn.isub (pc := 96) dX12_secondPass_96 ?_
                  rw [pk_sub (by omega), Nat.add_sub_cancel_left, ← hnp]
                  refine Rn.callV (pc := 97) (as := [_, _, _, _]) cvX12_337 ⟨by decide, rfl⟩ ⟨by decide, by decide⟩ dX12_secondPass_97 (Nat.le_of_ble_eq_true rfl) rfl (c_report G (-2) (nI m) (nI n) (nI (rNP (R m n)))) ?_
                  rintro _ _ ⟨rfl, rfl⟩
                  refine Rn.iret (pc := 100) rfl dX12_secondPass_100 ?_
                  have he : er2 B (R m n) m (at2 R cnt B m n) = (-2, nI (rNP (R m n))) := by
                    unfold er2; rw [if_pos hk, if_pos (by rw [hf]; rfl), if_pos c68]
                  refine ⟨_, rfl, fN.trans ((fr2.mono hRd2).trans ((((Fr.refl M2).sI hs38).sI hs38).sI hs38)), Or.inr ⟨by decide, m, n, hm, hn, hI.2.1, ?_, ?_, rfl, rfl, ?_⟩⟩
                  · show (er2 B (R m n) m (at2 R cnt B m n)).1 ≠ 0; rw [he]; show (-2 : Int32) ≠ 0; decide
                  · show _ = (er2 B (R m n) m (at2 R cnt B m n)).1; rw [he]
                  · show _ = (er2 B (R m n) m (at2 R cnt B m n)).2; rw [he]; rfl
                · exact absurd (nI_pos' (by omega)) c73
        · refine Rn.goto (pc := 34) (tgt := 108) dX12_secondPass_34 (by decide) ?_
          refine Rn.iincN (pc := 108) (n := 1) dX12_secondPass_108 rfl (by decide) (by decide) rfl st4_2 ?_
          refine Rn.goto (pc := 111) (tgt := 9) dX12_secondPass_111 (by decide) ?_
          have hk : rK (R m n) ≠ 2 := fun z => c31 (hK.k2.mpr z)
          have hx : at2 R cnt B m (n + 1) = at2 R cnt B m n := by rw [at2_s]; funext i; unfold nx2; rw [if_neg (fun z => hk z.1)]
          refine ih (n + 1) M2 x3 (by omega) (by omega) ⟨fN.trans (fr2.mono hRd2), hI.2.1.s (fun _ => ?_), ?_, ?_, ?_⟩
          · show (er2 B (R m n) m (at2 R cnt B m n)).1 = 0; unfold er2; rw [if_neg hk]
          · rw [hx]; exact hG2
          · rw [hx]; exact hI.2.2.2.1
          · exact fun s => (fr2.I (by unfold SRd; omega)).trans (hI.2.2.2.2 s)
  have outer : ∀ (d m : Nat) (N : Mem) (x2 x3 : Option AV), 4 - m = d → m ≤ 4 → I2 R cnt B M m 0 N → Rn G iX12_secondPass (P2 R cnt B M) 2 [some (vR 11 0), some (vI (nI m)), x2, x3] [] N := by
    intro d
    induction d using Nat.strongRecOn with
    | ind d ih9 =>
      intro m N x2 x3 hd hm4 hI
      have ihm : ∀ (m' : Nat) (N : Mem) (x2 x3 : Option AV), m < m' → m' ≤ 4 → I2 R cnt B M m' 0 N → Rn G iX12_secondPass (P2 R cnt B M) 2 [some (vR 11 0), some (vI (nI m')), x2, x3] [] N := fun m' N x2 x3 h1 h2 h3 => ih9 (4 - m') (by omega) m' N x2 x3 rfl h2 h3
      refine Rn.iload_n (pc := 2) dX12_secondPass_2 rfl rfl ?_
      refine Rn.iconst (pc := 3) (v := nI 4) dX12_secondPass_3 (by decide) ?_
      refine Rn.icmp_geN (pc := 4) (tgt := 120) dX12_secondPass_4 (by decide) (by omega) (by omega) (fun c4 => ?_) (fun c4 => ?_)
      · refine Rn.iconst (pc := 120) (v := nI 0) dX12_secondPass_120 (by decide) ?_
        refine Rn.iret (pc := 121) rfl dX12_secondPass_121 ?_
        have h4 : m = 4 := by omega
        subst h4
        exact ⟨0, rfl, hI.1, Or.inl ⟨rfl, hI.2⟩⟩
      · have hm : m < 4 := c4
        refine Rn.iconst (pc := 7) (v := nI 0) dX12_secondPass_7 (by decide) ?_
        refine Rn.istore_n (pc := 8) dX12_secondPass_8 rfl (by decide) rfl st4_2 ?_
        refine inner m hm ?_ (cnt m) 0 _ x3 rfl (Nat.zero_le _) hI
        intro N' y3 h'
        refine Rn.iincN (pc := 114) (n := 1) dX12_secondPass_114 rfl (by decide) (by decide) rfl st4_1 ?_
        refine Rn.goto (pc := 117) (tgt := 2) dX12_secondPass_117 (by decide) ?_
        exact ihm (m + 1) N' _ _ (by omega) (by omega) ⟨h'.1, h'.2.1.m, h'.2.2⟩
  refine Rn.iconst (pc := 0) (v := nI 0) dX12_secondPass_0 (by decide) ?_
  refine Rn.istore_n (pc := 1) dX12_secondPass_1 rfl (by decide) rfl st4_1 ?_
  exact outer 4 0 M _ _ rfl (by decide) ⟨Fr.refl M, fun a b p _ => absurd p (by unfold lx; omega), h0, (fun i j _ _ z => by cases z), fun s => rfl⟩

