def rsk (B : LB) (g : Nat → Bool) (v : Nat) : Option Nat → Option Nat
  | some k => some k
  | none => fg B g v
/-- the label that a name of a module means -/
def rs (B : LB) (g : Nat → Bool) (m v : Nat) : Option Nat := rsk B g v (fnd B m v)
theorem rs_own {B : LB} {g : Nat → Bool} {m v k : Nat} (h : fnd B m v = some k) : rs B g m v = some k := by unfold rs; rw [h]; rfl
theorem rs_glo {B : LB} {g : Nat → Bool} {m v : Nat} (h : fnd B m v = none) : rs B g m v = fg B g v := by unfold rs; rw [h]; rfl
theorem rs_lt {B : LB} {g : Nat → Bool} {m v k : Nat} (h : rs B g m v = some k) : k < B.1 := by
  cases hf : fnd B m v with
  | some i => rw [rs_own hf] at h; cases h; exact (fnd_some hf).1
  | none => rw [rs_glo hf] at h; exact (fg_some h).1
def d3 (bs : Nat → Nat) (B : LB) (A : CR) (s p k : Nat) : Int32 := dI (ad bs B k) (bs s + p) (rRe A)
def gd3 (bs : Nat → Nat) (B : LB) (A : CR) (m s p k : Nat) : Bool := decide (rK A = 3) || rcO (rRe A) (d3 bs B A s p k) (nrB B k m)
def er3k (bs : Nat → Nat) (B : LB) (A : CR) (m s p : Nat) : Option Nat → Int32 × Int32
  | none => (-8, nI (rNP A))
  | some k => if gd3 bs B A m s p k = true then (0, 0) else (-9, nI (rNP A))
def er3 (bs : Nat → Nat) (B : LB) (g : Nat → Bool) (A : CR) (m s p : Nat) : Int32 × Int32 := if nref A then er3k bs B A m s p (rs B g m (rNm A)) else (0, 0)
def fbK (bs : Nat → Nat) (B : LB) (A : CR) (s p k j : Nat) : Nat := if rK A = 3 then bt (nI (ad bs B k) + rNo A) j else hvB (rNo A) (d3 bs B A s p k) (rRe A) j
def fb3k (bs : Nat → Nat) (B : LB) (A : CR) (s p j : Nat) : Option Nat → Nat
  | none => 0
  | some k => fbK bs B A s p k j
/-- the bytes of a line, at the end -/
def fb3 (bs : Nat → Nat) (B : LB) (g : Nat → Bool) (A : CR) (m s p j : Nat) : Nat := if nref A then fb3k bs B A s p j (rs B g m (rNm A)) else lb A j
theorem StK.nr {A : CR} {s : Nat} {code num : Int32} (h : StK A s code num) : (s = 6 ∨ 11 ≤ s) ↔ nref A := by
  unfold StK at h
  unfold nref
  rcases h with h | h | h | h | h | h | h | h | h | h | h | h | h
  all_goals omega
theorem StK.k1 {A : CR} {s : Nat} {code num : Int32} (h : StK A s code num) : ((1 ≤ s ∧ s < 4) ↔ rK A = 1) ∧ (rK A = 1 → sN A = s - 1 ∧ bN A = 0) := by
  unfold StK at h
  rcases h with h | h | h | h | h | h | h | h | h | h | h | h | h
  · exact ⟨by omega, fun z => by omega⟩
  · exact ⟨by omega, fun z => ⟨sN_n h.2.2.2.1 (by omega), bN_n h.2.2.2.2 (by decide)⟩⟩
  all_goals exact ⟨by omega, fun z => by omega⟩
theorem StK.n8 {A : CR} {s : Nat} {code num : Int32} (h : StK A s code num) (h8 : s = 8) : num = nI (bN A) := by
  unfold StK at h
  rcases h with h | h | h | h | h | h | h | h | h | h | h | h | h
  · omega
  · omega
  · omega
  · omega
  · omega
  · omega
  · obtain ⟨b, hb, h1, h2⟩ := h.2.2; rw [h1, bN_n h2 (by omega)]
  all_goals omega
theorem StK.sz {A : CR} {s z : Nat} {code num : Int32} (h : StK A s code num) (hz : z ≤ 1024) : (if s < 5 then 0 else lyN s z (bN A)) = by1 A z := by
  by_cases q : s < 5
  · rw [if_pos q]; exact (h.lo (nw := 0) q hz).2.symm
  · rw [if_neg q]; exact (h.five (by omega)).2.2.2 z
set_option maxHeartbeats 1000000 in
theorem c_resolve (G : GX) {M : Mem} (bs : Nat → Nat) (B : LB) (A : CR) (m s p k st : Nat) (hm : m < 4) (hs : s < 12) (hp : p + by1 A p ≤ 1024) (hk : k < B.1) (h96 : B.1 ≤ 96) (hW : LbW B) (hB : LbM 0 B M) (hbs : ∀ s, s < 12 → mI M 32 0 s = nI (bs s)) (hbb : ∀ s, s < 12 → bs s ≤ 536880000) (hst : mI M 11 0 13 = nI st) (hK : StK A st (mI M 11 0 15) (mI M 11 0 16)) (h6 : st = 6 ∨ 11 ≤ st) : MetM G yX12_resolve iX12_resolve [vR 11 0, vI (nI m), vI (nI s), vI (nI p), vI (nI k)] M (fun r M' => r = some (vI (bI (gd3 bs B A m s p k))) ∧ Fr (S34 (1024 * s + p) (1024 * s + p + by1 A p)) M M' ∧ (gd3 bs B A m s p k = true → ∀ j, j < by1 A p → mI M' 34 0 (1024 * s + p + j) = nI (fbK bs B A s p k j))) := by
  unfold StK at hK
  rcases hK with hK | hK | hK | hK | hK | hK | hK | hK | hK | hK | hK | hK | hK
  · omega
  · omega
  · omega
  · omega
  · obtain ⟨rfl, hk3, hnm, hv, hb⟩ := hK
    have hb1 : by1 A p = 4 := by unfold by1; rw [if_neg (by omega)]; exact bN_n hb (by decide)
    rw [hb1] at hp ⊢
    refine MetM.post (c_resolve_6 G bs B m s p k hm hs hp hk h96 hW hB hbs hbb hst (rNo A) hv) ?_
    rintro r M' ⟨rfl, f, hh⟩
    have hg : gd3 bs B A m s p k = true := by unfold gd3; rw [decide_eq_true hk3]; rfl
    rw [hg]
    refine ⟨rfl, f, fun _ j hj => ?_⟩
    rw [hh j hj, fbK, if_pos hk3]
  · omega
  · omega
  · omega
  · omega
  · obtain ⟨rfl, hk7, hre, hv, hb⟩ := hK
    have hb1 : by1 A p = 2 := by unfold by1; rw [if_neg (by omega)]; exact bN_n hb (by decide)
    rw [hb1] at hp ⊢
    refine MetM.post (c_resolve_11 G bs B m s p k hm hs hp hk h96 hW hB hbs hbb hst (rNo A) hv) ?_
    rintro r M' ⟨rfl, f, hh⟩
    have hd : d3 bs B A s p k = dI (ad bs B k) (bs s + p) 1 := by unfold d3; rw [hre]
    have hg : gd3 bs B A m s p k = rcO 1 (dI (ad bs B k) (bs s + p) 1) (nrB B k m) := by unfold gd3; rw [decide_eq_false (p := rK A = 3) (by omega), hd, hre]; rfl
    rw [hg]
    refine ⟨rfl, f, fun q j hj => ?_⟩
    rw [hh q j hj, fbK, if_neg (by omega), hd, hre]
  · obtain ⟨rfl, hk7, hre, hv, hb⟩ := hK
    have hb1 : by1 A p = 2 := by unfold by1; rw [if_neg (by omega)]; exact bN_n hb (by decide)
    rw [hb1] at hp ⊢
    refine MetM.post (c_resolve_12 G bs B m s p k hm hs hp hk h96 hW hB hbs hbb hst (rNo A) hv) ?_
    rintro r M' ⟨rfl, f, hh⟩
    have hd : d3 bs B A s p k = dI (ad bs B k) (bs s + p) 2 := by unfold d3; rw [hre]
    have hg : gd3 bs B A m s p k = rcO 2 (dI (ad bs B k) (bs s + p) 2) (nrB B k m) := by unfold gd3; rw [decide_eq_false (p := rK A = 3) (by omega), hd, hre]; rfl
    rw [hg]
    refine ⟨rfl, f, fun q j hj => ?_⟩
    rw [hh q j hj, fbK, if_neg (by omega), hd, hre]
  · obtain ⟨rfl, hk7, hre, hv, hb⟩ := hK
    have hb1 : by1 A p = 4 := by unfold by1; rw [if_neg (by omega)]; exact bN_n hb (by decide)
    rw [hb1] at hp ⊢
    refine MetM.post (c_resolve_13 G bs B m s p k hm hs hp hk h96 hW hB hbs hbb hst (rNo A) hv) ?_
    rintro r M' ⟨rfl, f, hh⟩
    have hd : d3 bs B A s p k = dI (ad bs B k) (bs s + p) 3 := by unfold d3; rw [hre]
    have hg : gd3 bs B A m s p k = rcO 3 (dI (ad bs B k) (bs s + p) 3) (nrB B k m) := by unfold gd3; rw [decide_eq_false (p := rK A = 3) (by omega), hd, hre]; rfl
    rw [hg]
    refine ⟨rfl, f, fun q j hj => ?_⟩
    rw [hh q j hj, fbK, if_neg (by omega), hd, hre]
  · obtain ⟨rfl, hk7, hre, hv, hb⟩ := hK
    have hb1 : by1 A p = 2 := by unfold by1; rw [if_neg (by omega)]; exact bN_n hb (by decide)
    rw [hb1] at hp ⊢
    refine MetM.post (c_resolve_14 G bs B m s p k hm hs hp hk h96 hW hB hbs hbb hst (rNo A) hv) ?_
    rintro r M' ⟨rfl, f, hh⟩
    have hd : d3 bs B A s p k = dI (ad bs B k) (bs s + p) 4 := by unfold d3; rw [hre]
    have hg : gd3 bs B A m s p k = rcO 4 (dI (ad bs B k) (bs s + p) 4) (nrB B k m) := by unfold gd3; rw [decide_eq_false (p := rK A = 3) (by omega), hd, hre]; rfl
    rw [hg]
    refine ⟨rfl, f, fun q j hj => ?_⟩
    rw [hh q j hj, fbK, if_neg (by omega), hd, hre]
def SP3 (k _j s : Nat) : Prop := (k = 11 ∧ ((6 ≤ s ∧ s ≤ 18) ∨ s = 30)) ∨ k = 34 ∨ k = 38 ∨ k = 40
def Ld3 (R : Nat → Nat → CR) (cnt : Nat → Nat) (bs : Nat → Nat) (B : LB) (g : Nat → Bool) (m n : Nat) (M : Mem) : Prop := ∀ m' n', m' < 4 → n' < cnt m' → (lx m' n' m n ∨ ¬ nref (R m' n')) → ∀ j, j < pB1 R cnt m' n' → mI M 34 0 (1024 * pS R cnt m' n' + pO R cnt m' n' + j) = nI (fb3 bs B g (R m' n') m' (pS R cnt m' n') (pO R cnt m' n') j)
def e3 (R : Nat → Nat → CR) (cnt : Nat → Nat) (bs : Nat → Nat) (B : LB) (g : Nat → Bool) (m n : Nat) : Int32 × Int32 := er3 bs B g (R m n) m (pS R cnt m n) (pO R cnt m n)
def I3 (R : Nat → Nat → CR) (cnt : Nat → Nat) (bs : Nat → Nat) (B : LB) (g : Nat → Bool) (M : Mem) (m n : Nat) (N : Mem) : Prop := Fr SP3 M N ∧ Ok cnt (e3 R cnt bs B g) m n ∧ (∀ s, s < 12 → mI N 40 0 s = nI ((at1 R cnt m n).2.1 s)) ∧ Ld3 R cnt bs B g m n N ∧ ∀ s, mI N 38 0 s = mI M 38 0 s
def P3 (R : Nat → Nat → CR) (cnt : Nat → Nat) (bs : Nat → Nat) (B : LB) (g : Nat → Bool) (M : Mem) : Option AV → Mem → Prop := fun r M' => ∃ k : Int32, r = some (vI k) ∧ Fr SP3 M M' ∧ ((k = 0 ∧ Ok cnt (e3 R cnt bs B g) 4 0 ∧ Ld3 R cnt bs B g 4 0 M' ∧ ∀ s, mI M' 38 0 s = mI M 38 0 s) ∨ (k ≠ 0 ∧ FB cnt (e3 R cnt bs B g) k (mI M' 38 0 0) (mI M' 38 0 1) (mI M' 38 0 2)))
def S3n (R : Nat → Nat → CR) (cnt : Nat → Nat) (m n k j s : Nat) : Prop := nref (R m n) ∧ S34 (1024 * pS R cnt m n + pO R cnt m n) ((1024 * pS R cnt m n + pO R cnt m n) + pB1 R cnt m n) k j s
def S3g (R : Nat → Nat → CR) (cnt : Nat → Nat) (m n k _j s : Nat) : Prop := (k = 40 ∧ s = pS R cnt m n) ∨ (k = 11 ∧ s = 30)
theorem p_rm {R : Nat → Nat → CR} {cnt : Nat → Nat} (hok : Ok cnt (e1 R cnt) 4 0) {m n : Nat} (hm : m < 4) (hn : n < cnt m) : pO R cnt m n + pB1 R cnt m n ≤ 1024 := (erL_0 (er1_0 (hok m n (Or.inl hm) hn)).2.2).2.2
theorem I3.step {R : Nat → Nat → CR} {cnt : Nat → Nat} {bs : Nat → Nat} {B : LB} {g : Nat → Bool} {M N N3 N' : Mem} {m n : Nat} (h : I3 R cnt bs B g M m n N) (hm : m < 4) (hn : n < cnt m) (hok : Ok cnt (e1 R cnt) 4 0) (he : (e3 R cnt bs B g m n).1 = 0)
    (f3 : Fr (fun k j s => SRd k j s ∨ S3n R cnt m n k j s) N N3) (hb : nref (R m n) → ∀ j, j < pB1 R cnt m n → mI N3 34 0 ((1024 * pS R cnt m n + pO R cnt m n) + j) = nI (fb3 bs B g (R m n) m (pS R cnt m n) (pO R cnt m n) j))
    (f4 : Fr (S3g R cnt m n) N3 N') (hz : mI N' 40 0 (pS R cnt m n) = nI (pO R cnt m n + pB1 R cnt m n)) : I3 R cnt bs B g M m (n + 1) N' := by
  obtain ⟨gf, gk, gg, gl, g38⟩ := h
  refine ⟨gf.trans ((f3.mono ?_).trans (f4.mono ?_)), gk.s (fun _ => he), ?_, ?_, ?_⟩
  · intro k j s h; unfold SRd S3n S34 at h; unfold SP3; omega
  · intro k j s h; unfold S3g at h; unfold SP3; omega
  · intro s hs
    rw [at1_s]
    show _ = nI (if s = 3 * m + (at1 R cnt m n).2.2 then zz m (at1 R cnt m n) + by1 (R m n) (zz m (at1 R cnt m n)) else (at1 R cnt m n).2.1 s)
    by_cases q : s = 3 * m + (at1 R cnt m n).2.2
    · rw [if_pos q, q]; exact hz
    · rw [if_neg q, f4.I (by unfold S3g pS; omega), f3.I (by unfold SRd S3n S34; omega)]; exact gg s hs
  · intro m' n' hm' hc' hl j hj
    by_cases q : m' = m ∧ n' = n
    · obtain ⟨rfl, rfl⟩ := q
      rw [f4.I (by unfold S3g; omega)]
      by_cases hr : nref (R m' n')
      · exact hb hr j hj
      · rw [f3.I (by unfold SRd S3n S34; intro z; rcases z with z | z; omega; exact hr z.1)]
        exact gl m' n' hm' hc' (Or.inr hr) j hj
    · have b1 := p_rm hok hm hn
      have b2 := p_rm hok hm' hc'
      have b3 : lx m' n' m n → pS R cnt m' n' = pS R cnt m n → pO R cnt m' n' + pB1 R cnt m' n' ≤ pO R cnt m n := fun z => p_dis z hc'
      have b4 : lx m n m' n' → pS R cnt m n = pS R cnt m' n' → pO R cnt m n + pB1 R cnt m n ≤ pO R cnt m' n' := fun z => p_dis z hn
      have b5 : lx m' n' m n ∨ lx m n m' n' := by unfold lx; omega
      rw [f4.I (by unfold S3g; omega), f3.I (by
        unfold SRd S3n S34; intro z
        rcases z with z | ⟨_, _, z1, z2⟩
        · omega
        · rcases b5 with y | y
          · have := b3 y; omega
          · have := b4 y; omega)]
      refine gl m' n' hm' hc' ?_ j hj
      rcases hl with z | z
      · left; unfold lx at z ⊢; omega
      · exact Or.inr z
  · intro s
    rw [f4.I (by unfold S3g; omega), f3.I (by unfold SRd S3n S34; omega)]; exact g38 s
set_option maxRecDepth 20000 in
set_option maxHeartbeats 4000000 in
theorem c_thirdPass (G : GX) {M : Mem} (R : Nat → Nat → CR) (cnt : Nat → Nat) (bs : Nat → Nat) (B : LB) (g : Nat → Bool) (hsrc : SrcM R cnt M) (hfa : ∀ m n, m < 4 → n < cnt m → rFa (R m n) = 0) (hok : Ok cnt (e1 R cnt) 4 0) (hld : Laid R cnt 4 0 M) (hW : LbW B) (hB : LbM 0 B M) (hkM : mI M 11 0 19 = nI B.1) (h96 : B.1 ≤ 96) (hG : GbM B g M) (hGU : GU B g) (hbs : ∀ s, s < 12 → mI M 32 0 s = nI (bs s)) (hbb : ∀ s, s < 12 → bs s ≤ 536880000) : MetM G yX12_thirdPass iX12_thirdPass [vR 11 0] M (P3 R cnt bs B g M) := by
  refine MetM.of (ls := [some (vR 11 0), none, none, none, none, none]) (by decide) rfl (Nat.le_of_ble_eq_true rfl) rfl ?_
  intro hM0
  have hc : ∀ m, m < 4 → cnt m ≤ 24 := fun m hm => (hsrc m hm).2.1
  have hR : ∀ m n, m < 4 → n < cnt m → RcOK (R m n) := by
    intro m n hm hn
    obtain ⟨q, _, _, _, h⟩ := (hsrc m hm).2.2 n hn
    exact h.rc
  have hS3 : ∀ k j s, SP3 k j s → SLk k j s := by intro k j s h; unfold SP3 at h; unfold SLk; omega
  have inner : ∀ (m : Nat), m < 4 → (∀ (N : Mem) (x3 x4 x5 : Option AV), I3 R cnt bs B g M m (cnt m) N → Rn G iX12_thirdPass (P3 R cnt bs B g M) 226 [some (vR 11 0), some (vI (nI m)), some (vI (nI (cnt m))), x3, x4, x5] [] N) → ∀ (d n : Nat) (N : Mem) (x3 x4 x5 : Option AV), cnt m - n = d → n ≤ cnt m → I3 R cnt bs B g M m n N → mI N 11 0 30 = nI (at1 R cnt m n).2.2 → Rn G iX12_thirdPass (P3 R cnt bs B g M) 35 [some (vR 11 0), some (vI (nI m)), some (vI (nI n)), x3, x4, x5] [] N := by
    intro m hm KM d
    induction d using Nat.strongRecOn with
    | ind d ih9 =>
      intro n N x3 x4 x5 hd hnc hI hNw
      have ih : ∀ (n' : Nat) (N : Mem) (x3 x4 x5 : Option AV), n < n' → n' ≤ cnt m → I3 R cnt bs B g M m n' N → mI N 11 0 30 = nI (at1 R cnt m n').2.2 → Rn G iX12_thirdPass (P3 R cnt bs B g M) 35 [some (vR 11 0), some (vI (nI m)), some (vI (nI n')), x3, x4, x5] [] N := fun n' N x3 x4 x5 h1 h2 h3 h4 => ih9 (cnt m - n') (by omega) n' N x3 x4 x5 rfl h2 h3 h4
      have fN := hI.1
      have hsN := hsrc.fr (fN.mono hS3)
      have hcm := hc m hm
      have hnw := (at1_inv hc hR m n hm hnc (fun a b p q => hok a b (by unfold lx at p ⊢; omega) q)).2.2.2
      have hLb : LbM 0 B N := hB.fr h96 fN (by intro k j s h; unfold SP3; omega)
      have hkB : mI N 11 0 19 = nI B.1 := (fN.I (by unfold SP3; omega)).trans hkM
      have hGN : GbM B g N := fun i hi => (fN.I (by unfold SP3; omega)).trans (hG i hi)
      have hbsN : ∀ s, s < 12 → mI N 32 0 s = nI (bs s) := fun s hs => (fN.I (by unfold SP3; omega)).trans (hbs s hs)
      have hRd3 : ∀ k j s, SRd k j s → SP3 k j s := by intro k j s h; unfold SRd at h; unfold SP3; omega
      have hs38 : ∀ {s : Nat}, SP3 38 0 s := by intro s; unfold SP3; omega
      refine Rn.iload_n (pc := 35) dX12_thirdPass_35 rfl rfl ?_
      refine Rn.aload_n (pc := 36) dX12_thirdPass_36 rfl rfl ?_
      refine Rn.getR (pc := 37) flX12_13 mu11_3 fx11_3 dX12_thirdPass_37 ?_
      refine Rn.iload_n (pc := 40) dX12_thirdPass_40 rfl rfl ?_
      refine Rn.ialdN (pc := 41) ak23 (by omega) (by decide) (hsN m hm).1 dX12_thirdPass_41 ?_
      refine Rn.icmp_geN (pc := 42) (tgt := 226) dX12_thirdPass_42 (by decide) (by omega) (by omega) (fun c42 => ?_) (fun c42 => ?_)
      · have hn : n = cnt m := by omega
        subst hn
        exact KM N x3 x4 x5 hI
      · have hn : n < cnt m := c42
        obtain ⟨q, hst, hq48, hq9, hA⟩ := (hsN m hm).2.2 n hn
        refine Rn.aload_n (pc := 45) dX12_thirdPass_45 rfl rfl ?_
        refine Rn.iload_n (pc := 46) dX12_thirdPass_46 rfl rfl ?_
        refine Rn.iload_n (pc := 47) dX12_thirdPass_47 rfl rfl ?_
        refine Rn.iconst (pc := 48) (v := nI 0) dX12_thirdPass_48 (by decide) ?_
        refine Rn.callV (pc := 49) (as := [_, _, _]) cvX12_334 ⟨by decide, rfl⟩ ⟨by decide, by decide⟩ dX12_thirdPass_49 (Nat.le_of_ble_eq_true rfl) rfl (c_readL G (R m n) m n q B false hm (by omega) hst hq48 hq9 hA hW hLb hkB h96) ?_
        rintro _ M2 ⟨rfl, fr2, hrd⟩
        have hLb2 : LbM 0 B M2 := hLb.fr h96 fr2 (by intro k j s h; unfold SRd; omega)
        have hk2 : mI M2 11 0 19 = nI B.1 := (fr2.I (by unfold SRd; omega)).trans hkB
        have hG2 : GbM B g M2 := fun i hi => (fr2.I (by unfold SRd; omega)).trans (hGN i hi)
        have hbs2 : ∀ s, s < 12 → mI M2 32 0 s = nI (bs s) := fun s hs => (fr2.I (by unfold SRd; omega)).trans (hbsN s hs)
        have hnw2 : mI M2 11 0 30 = nI (at1 R cnt m n).2.2 := (fr2.I (by unfold SRd; omega)).trans hNw
        have hgo2 : mI M2 40 0 (3 * m + (at1 R cnt m n).2.2) = nI (pO R cnt m n) := (fr2.I (by unfold SRd; omega)).trans (hI.2.2.1 _ (by omega))
        have hst2 : ∀ i, i < q.1 → mI M2 25 0 (48 * (24 * m + n) + i) = nI (q.2 i) := fun i hi => (fr2.I (by unfold SRd; omega)).trans (hst.2 i hi)
        obtain ⟨hq1, hq2, hlab, hrf⟩ := hrd.2.2 rfl
        obtain ⟨s, hs15, hs, hsa2, hK, hnmO⟩ := hrf (hfa m n hm hn)
        have hpr : pO R cnt m n + by1 (R m n) (pO R cnt m n) ≤ 1024 := p_rm hok hm hn
        have hpo : pO R cnt m n ≤ 1024 := by omega
        have hS9 : ∀ k j s, S34 (1024 * pS R cnt m n + pO R cnt m n) ((1024 * pS R cnt m n + pO R cnt m n) + by1 (R m n) (pO R cnt m n)) k j s → SP3 k j s := by intro k j s h; unfold S34 at h; unfold SP3; omega
        have K176 : ∀ (N3 : Mem) (x5 : Option AV), Fr (S3n R cnt m n) M2 N3 → (nref (R m n) → ∀ j, j < pB1 R cnt m n → mI N3 34 0 ((1024 * pS R cnt m n + pO R cnt m n) + j) = nI (fb3 bs B g (R m n) m (pS R cnt m n) (pO R cnt m n) j)) → (e3 R cnt bs B g m n).1 = 0 → Rn G iX12_thirdPass (P3 R cnt bs B g M) 176 [some (vR 11 0), some (vI (nI m)), some (vI (nI n)), some (vI (nI (pS R cnt m n))), some (vI (nI (pO R cnt m n))), x5] [] N3 := by
          intro N3 x5 f3 hb3 he0
          have hs3 : mI N3 11 0 13 = nI s := (f3.I (by unfold S3n S34; omega)).trans hs
          refine Rn.aload_n (pc := 176) dX12_thirdPass_176 rfl rfl ?_
          refine Rn.getI (pc := 177) (t := 0) flX12_156 hs3 dX12_thirdPass_177 ?_
          refine Rn.iconst (pc := 180) (v := nI 1) dX12_thirdPass_180 (by decide) ?_
          refine Rn.icmp_ltN (pc := 181) (tgt := 205) dX12_thirdPass_181 (by decide) (by omega) (by omega) (fun c181 => ?_) (fun c181 => ?_)
          · refine Rn.aload_n (pc := 205) dX12_thirdPass_205 rfl rfl ?_
            refine Rn.getR (pc := 206) flX12_66 mu11_38 fx11_38 dX12_thirdPass_206 ?_
            refine Rn.iload_n (pc := 209) dX12_thirdPass_209 rfl rfl ?_
            refine Rn.iload (pc := 210) dX12_thirdPass_210 rfl ?_
            refine Rn.aload_n (pc := 212) dX12_thirdPass_212 rfl rfl ?_
            refine Rn.iload (pc := 213) dX12_thirdPass_213 rfl ?_
            refine Rn.callV (pc := 215) (as := [_]) cvX12_369 ⟨by decide, rfl⟩ ⟨by decide, by decide⟩ dX12_thirdPass_215 (Nat.le_of_ble_eq_true rfl) rfl (c_sizeOf G (pO R cnt m n) (bN (R m n)) s hs15 hs3 hpo (fun h8 => (f3.I (by unfold S3n S34; omega)).trans (hK.n8 h8))) ?_
            rintro _ M9 ⟨rfl, h9⟩
            rw [h9]
            refine Rn.iaddN (pc := 218) dX12_thirdPass_218 ?_
            refine Rn.iastN (pc := 219) ak40 (by show 3 * m + (at1 R cnt m n).2.2 < 12; omega) (by decide) dX12_thirdPass_219 ?_
            refine Rn.iincN (pc := 220) (n := 1) dX12_thirdPass_220 rfl (by decide) (by decide) rfl st6_2 ?_
            refine Rn.goto (pc := 223) (tgt := 35) dX12_thirdPass_223 (by decide) ?_
            refine ih (n + 1) _ _ _ _ (by omega) (by omega) (hI.step hm hn hok he0 ((fr2.mono (fun _ _ _ h => Or.inl h)).trans (f3.mono (fun _ _ _ h => Or.inr h))) hb3 ((Fr.refl N3).sI (Or.inl ⟨rfl, rfl⟩)) ?_) ?_
            · rw [mI_sI, if_pos ⟨rfl, rfl, rfl⟩, hK.sz hpo]; rfl
            · rw [mI_sI, if_neg (by omega), f3.I (by unfold S3n S34; omega), at1_s]
              show mI M2 11 0 30 = nI (if rK (R m n) = 1 then sN (R m n) else (at1 R cnt m n).2.2)
              rw [if_neg (fun z => by have := hK.k1.1.mpr z; omega)]; exact hnw2
          · refine Rn.aload_n (pc := 184) dX12_thirdPass_184 rfl rfl ?_
            refine Rn.getI (pc := 185) (t := 0) flX12_156 hs3 dX12_thirdPass_185 ?_
            refine Rn.iconst (pc := 188) (v := nI 4) dX12_thirdPass_188 (by decide) ?_
            refine Rn.icmp_geN (pc := 189) (tgt := 205) dX12_thirdPass_189 (by decide) (by omega) (by omega) (fun c189 => ?_) (fun c189 => ?_)
            · refine Rn.aload_n (pc := 205) dX12_thirdPass_205 rfl rfl ?_
              refine Rn.getR (pc := 206) flX12_66 mu11_38 fx11_38 dX12_thirdPass_206 ?_
              refine Rn.iload_n (pc := 209) dX12_thirdPass_209 rfl rfl ?_
              refine Rn.iload (pc := 210) dX12_thirdPass_210 rfl ?_
              refine Rn.aload_n (pc := 212) dX12_thirdPass_212 rfl rfl ?_
              refine Rn.iload (pc := 213) dX12_thirdPass_213 rfl ?_
              refine Rn.callV (pc := 215) (as := [_]) cvX12_369 ⟨by decide, rfl⟩ ⟨by decide, by decide⟩ dX12_thirdPass_215 (Nat.le_of_ble_eq_true rfl) rfl (c_sizeOf G (pO R cnt m n) (bN (R m n)) s hs15 hs3 hpo (fun h8 => (f3.I (by unfold S3n S34; omega)).trans (hK.n8 h8))) ?_
              rintro _ M9 ⟨rfl, h9⟩
              rw [h9]
              refine Rn.iaddN (pc := 218) dX12_thirdPass_218 ?_
              refine Rn.iastN (pc := 219) ak40 (by show 3 * m + (at1 R cnt m n).2.2 < 12; omega) (by decide) dX12_thirdPass_219 ?_
              refine Rn.iincN (pc := 220) (n := 1) dX12_thirdPass_220 rfl (by decide) (by decide) rfl st6_2 ?_
              refine Rn.goto (pc := 223) (tgt := 35) dX12_thirdPass_223 (by decide) ?_
              refine ih (n + 1) _ _ _ _ (by omega) (by omega) (hI.step hm hn hok he0 ((fr2.mono (fun _ _ _ h => Or.inl h)).trans (f3.mono (fun _ _ _ h => Or.inr h))) hb3 ((Fr.refl N3).sI (Or.inl ⟨rfl, rfl⟩)) ?_) ?_
              · rw [mI_sI, if_pos ⟨rfl, rfl, rfl⟩, hK.sz hpo]; rfl
              · rw [mI_sI, if_neg (by omega), f3.I (by unfold S3n S34; omega), at1_s]
                show mI M2 11 0 30 = nI (if rK (R m n) = 1 then sN (R m n) else (at1 R cnt m n).2.2)
                rw [if_neg (fun z => by have := hK.k1.1.mpr z; omega)]; exact hnw2
            · have hk1 : rK (R m n) = 1 := hK.k1.1.mp ⟨by omega, by omega⟩
              have hb0 : pB1 R cnt m n = 0 := by show by1 (R m n) (pO R cnt m n) = 0; unfold by1; rw [if_neg (by omega)]; exact (hK.k1.2 hk1).2
              refine Rn.aload_n (pc := 192) dX12_thirdPass_192 rfl rfl ?_
              refine Rn.aload_n (pc := 193) dX12_thirdPass_193 rfl rfl ?_
              refine Rn.getI (pc := 194) (t := 0) flX12_156 hs3 dX12_thirdPass_194 ?_
              refine Rn.iconst (pc := 197) (v := nI 1) dX12_thirdPass_197 (by decide) ?_
              refine Rn.isub (pc := 198) dX12_thirdPass_198 ?_
              rw [pk_sub (by omega)]
              refine Rn.putI (pc := 199) (t := 0) flX12_325 rfl rfl dX12_thirdPass_199 ?_
              refine Rn.goto (pc := 202) (tgt := 220) dX12_thirdPass_202 (by decide) ?_
              refine Rn.iincN (pc := 220) (n := 1) dX12_thirdPass_220 rfl (by decide) (by decide) rfl st6_2 ?_
              refine Rn.goto (pc := 223) (tgt := 35) dX12_thirdPass_223 (by decide) ?_
              refine ih (n + 1) _ _ _ _ (by omega) (by omega) (hI.step hm hn hok he0 ((fr2.mono (fun _ _ _ h => Or.inl h)).trans (f3.mono (fun _ _ _ h => Or.inr h))) hb3 ((Fr.refl N3).sI (Or.inr ⟨rfl, rfl⟩)) ?_) ?_
              · rw [mI_sI, if_neg (by omega), f3.I (by unfold S3n S34; omega), hb0, Nat.add_zero]; exact hgo2
              · rw [mI_sI, if_pos ⟨rfl, rfl, rfl⟩, at1_s]
                show nI (s - 1) = nI (if rK (R m n) = 1 then sN (R m n) else (at1 R cnt m n).2.2)
                rw [if_pos hk1, (hK.k1.2 hk1).1]
        have K87 : (s = 6 ∨ 11 ≤ s) → Rn G iX12_thirdPass (P3 R cnt bs B g M) 87 [some (vR 11 0), some (vI (nI m)), some (vI (nI n)), some (vI (nI (pS R cnt m n))), some (vI (nI (pO R cnt m n))), x5] [] M2 := by
          intro hsr
          have hnr : nref (R m n) := hK.nr.mp hsr
          obtain ⟨a, e, hnf, hnt, hae, hen, hnm, hnv, hnp⟩ := hnmO (by omega)
          have K127 : ∀ k : Nat, rs B g m (rNm (R m n)) = some k → Rn G iX12_thirdPass (P3 R cnt bs B g M) 127 [some (vR 11 0), some (vI (nI m)), some (vI (nI n)), some (vI (nI (pS R cnt m n))), some (vI (nI (pO R cnt m n))), some (vI (nI k))] [] M2 := by
            intro k hrs
            have hkl := rs_lt hrs
            refine Rn.iload (pc := 127) dX12_thirdPass_127 rfl ?_
            refine Rn.if_lt (pc := 129) (y := 0) (tgt := 145) dX12_thirdPass_129 (by decide) (fun c129 => ?_) (fun c129 => ?_)
            · exact absurd c129 (nI_pos (by omega))
            · refine Rn.aload_n (pc := 132) dX12_thirdPass_132 rfl rfl ?_
              refine Rn.iload_n (pc := 133) dX12_thirdPass_133 rfl rfl ?_
              refine Rn.iload_n (pc := 134) dX12_thirdPass_134 rfl rfl ?_
              refine Rn.iload (pc := 135) dX12_thirdPass_135 rfl ?_
              refine Rn.iload (pc := 137) dX12_thirdPass_137 rfl ?_
              refine Rn.callV (pc := 139) (as := [_, _, _, _]) cvX12_365 ⟨by decide, rfl⟩ ⟨by decide, by decide⟩ dX12_thirdPass_139 (Nat.le_of_ble_eq_true rfl) rfl (c_resolve G bs B (R m n) m (pS R cnt m n) (pO R cnt m n) k s hm (by show 3 * m + (at1 R cnt m n).2.2 < 12; omega) hpr hkl h96 hW hLb2 hbs2 hbb hs hK hsr) ?_
              rintro _ N3 ⟨rfl, f9, hb9⟩
              refine Rn.if_neB (pc := 142) (tgt := 176) dX12_thirdPass_142 (by decide) (fun c142 => ?_) (fun c142 => ?_)
              · refine K176 N3 _ (f9.mono (fun k j s h => ⟨hnr, h⟩)) (fun _ j hj => ?_) ?_
                · rw [fb3, if_pos hnr, hrs]; exact hb9 c142 j hj
                · show (er3 bs B g (R m n) m (pS R cnt m n) (pO R cnt m n)).1 = 0
                  unfold er3; rw [if_pos hnr, hrs, er3k, if_pos c142]
              · refine Rn.aload_n (pc := 145) dX12_thirdPass_145 rfl rfl ?_
                refine Rn.iload (pc := 146) dX12_thirdPass_146 rfl ?_
                refine Rn.if_ge (pc := 148) (y := 0) (tgt := 156) dX12_thirdPass_148 (by decide) (fun c148 => ?_) (fun c148 => ?_)
                · refine Rn.bipush (pc := 156) (v := -9) dX12_thirdPass_156 (by decide) ?_
                  refine Rn.iload_n (pc := 158) dX12_thirdPass_158 rfl rfl ?_
                  refine Rn.iload_n (pc := 159) dX12_thirdPass_159 rfl rfl ?_
                  refine Rn.aload_n (pc := 160) dX12_thirdPass_160 rfl rfl ?_
                  refine Rn.getI (pc := 161) (t := 0) flX12_142 (show mI N3 11 0 17 = nI (48 * (24 * m + n) + a) from (f9.I (by unfold S34; omega)).trans hnf) dX12_thirdPass_161 ?_
                  refine Rn.bipush (pc := 164) (v := nI 48) dX12_thirdPass_164 (by decide) ?_
                  refine Rn.aload_n (pc := 166) dX12_thirdPass_166 rfl rfl ?_
                  refine Rn.getI (pc := 167) (t := 0) flX12_103 (show mI N3 11 0 6 = nI (24 * m + n) from (f9.I (by unfold S34; omega)).trans hrd.1) dX12_thirdPass_167 ?_
                  refine Rn.imulN (pc := 170) dX12_thirdPass_170 ?_
                  refine Rn.isub (pc := 171) dX12_thirdPass_171 ?_
                  rw [pk_sub (by omega), Nat.add_sub_cancel_left, ← hnp]
                  refine Rn.callV (pc := 172) (as := [_, _, _, _]) cvX12_337 ⟨by decide, rfl⟩ ⟨by decide, by decide⟩ dX12_thirdPass_172 (Nat.le_of_ble_eq_true rfl) rfl (c_report G (-9) (nI m) (nI n) (nI (rNP (R m n)))) ?_
                  rintro _ _ ⟨rfl, rfl⟩
                  refine Rn.iret (pc := 175) rfl dX12_thirdPass_175 ?_
                  have he : er3 bs B g (R m n) m (pS R cnt m n) (pO R cnt m n) = (-9, nI (rNP (R m n))) := by
                    unfold er3; rw [if_pos hnr, hrs, er3k, if_neg (by rw [c142]; decide)]
                  refine ⟨_, rfl, fN.trans ((fr2.mono hRd3).trans ((f9.mono hS9).trans ((((Fr.refl _).sI hs38).sI hs38).sI hs38))), Or.inr ⟨by decide, m, n, hm, hn, hI.2.1, ?_, ?_, rfl, rfl, ?_⟩⟩
                  · show (er3 bs B g (R m n) m (pS R cnt m n) (pO R cnt m n)).1 ≠ 0; rw [he]; show (-9 : Int32) ≠ 0; decide
                  · show _ = (er3 bs B g (R m n) m (pS R cnt m n) (pO R cnt m n)).1; rw [he]
                  · show _ = (er3 bs B g (R m n) m (pS R cnt m n) (pO R cnt m n)).2; rw [he]; rfl
                · exact absurd (nI_pos' (by omega)) c148
          refine Rn.aload_n (pc := 87) dX12_thirdPass_87 rfl rfl ?_
          refine Rn.iload_n (pc := 88) dX12_thirdPass_88 rfl rfl ?_
          refine Rn.aload_n (pc := 89) dX12_thirdPass_89 rfl rfl ?_
          refine Rn.getI (pc := 90) (t := 0) flX12_142 hnf dX12_thirdPass_90 ?_
          refine Rn.aload_n (pc := 93) dX12_thirdPass_93 rfl rfl ?_
          refine Rn.getI (pc := 94) (t := 0) flX12_145 hnt dX12_thirdPass_94 ?_
          refine Rn.iconst (pc := 97) (v := nI 0) dX12_thirdPass_97 (by decide) ?_
          refine Rn.callV (pc := 98) (as := [_, _, _, _]) cvX12_300 ⟨by decide, rfl⟩ ⟨by decide, by decide⟩ dX12_thirdPass_98 (Nat.le_of_ble_eq_true rfl) rfl (c_labelOf G (L := q.2) (nI m) a e 0 B.1 hae (by omega) (fun i _ h2 => hst2 i (by omega)) (Or.inl ⟨rfl, hk2⟩) h96) ?_
          rintro _ M9 ⟨rfl, h9⟩
          rw [h9, lf_fnd hm hW hLb2 hnm, ← hnv]
          cases hf : fnd B m (rNm (R m n)) with
          | none =>
            refine Rn.istore (pc := 101) dX12_thirdPass_101 (by decide) rfl st6_5 ?_
            refine Rn.iload (pc := 103) dX12_thirdPass_103 rfl ?_
            refine Rn.if_ge (pc := 105) (y := 0) (tgt := 123) dX12_thirdPass_105 (by decide) (fun c105 => ?_) (fun c105 => ?_)
            · exact absurd c105 (by decide)
            · refine Rn.aload_n (pc := 108) dX12_thirdPass_108 rfl rfl ?_
              refine Rn.aload_n (pc := 109) dX12_thirdPass_109 rfl rfl ?_
              refine Rn.getI (pc := 110) (t := 0) flX12_142 hnf dX12_thirdPass_110 ?_
              refine Rn.aload_n (pc := 113) dX12_thirdPass_113 rfl rfl ?_
              refine Rn.getI (pc := 114) (t := 0) flX12_145 hnt dX12_thirdPass_114 ?_
              refine Rn.callV (pc := 117) (as := [_, _]) cvX12_347 ⟨by decide, rfl⟩ ⟨by decide, by decide⟩ dX12_thirdPass_117 (Nat.le_of_ble_eq_true rfl) rfl (c_globalOf G B g a e hae (by omega) (fun i _ h2 => hst2 i (by omega)) hnm hk2 h96 hW hLb2 hG2 hGU) ?_
              rintro _ M9 ⟨rfl, h9⟩
              rw [h9, ← hnv]
              cases hf2 : fg B g (rNm (R m n)) with
              | none =>
                have hrs : rs B g m (rNm (R m n)) = none := (rs_glo hf).trans hf2
                refine Rn.goto (pc := 120) (tgt := 125) dX12_thirdPass_120 (by decide) ?_
                refine Rn.istore (pc := 125) dX12_thirdPass_125 (by decide) rfl st6_5 ?_
                refine Rn.iload (pc := 127) dX12_thirdPass_127 rfl ?_
                refine Rn.if_lt (pc := 129) (y := 0) (tgt := 145) dX12_thirdPass_129 (by decide) (fun c129 => ?_) (fun c129 => ?_)
                · refine Rn.aload_n (pc := 145) dX12_thirdPass_145 rfl rfl ?_
                  refine Rn.iload (pc := 146) dX12_thirdPass_146 rfl ?_
                  refine Rn.if_ge (pc := 148) (y := 0) (tgt := 156) dX12_thirdPass_148 (by decide) (fun c148 => ?_) (fun c148 => ?_)
                  · exact absurd c148 (by decide)
                  · refine Rn.bipush (pc := 151) (v := -8) dX12_thirdPass_151 (by decide) ?_
                    refine Rn.goto (pc := 153) (tgt := 158) dX12_thirdPass_153 (by decide) ?_
                    refine Rn.iload_n (pc := 158) dX12_thirdPass_158 rfl rfl ?_
                    refine Rn.iload_n (pc := 159) dX12_thirdPass_159 rfl rfl ?_
                    refine Rn.aload_n (pc := 160) dX12_thirdPass_160 rfl rfl ?_
                    refine Rn.getI (pc := 161) (t := 0) flX12_142 hnf dX12_thirdPass_161 ?_
                    refine Rn.bipush (pc := 164) (v := nI 48) dX12_thirdPass_164 (by decide) ?_
                    refine Rn.aload_n (pc := 166) dX12_thirdPass_166 rfl rfl ?_
                    refine Rn.getI (pc := 167) (t := 0) flX12_103 (show mI M2 11 0 6 = nI (24 * m + n) from hrd.1) dX12_thirdPass_167 ?_
                    refine Rn.imulN (pc := 170) dX12_thirdPass_170 ?_
                    refine Rn.isub (pc := 171) dX12_thirdPass_171 ?_
                    rw [pk_sub (by omega), Nat.add_sub_cancel_left, ← hnp]
                    refine Rn.callV (pc := 172) (as := [_, _, _, _]) cvX12_337 ⟨by decide, rfl⟩ ⟨by decide, by decide⟩ dX12_thirdPass_172 (Nat.le_of_ble_eq_true rfl) rfl (c_report G (-8) (nI m) (nI n) (nI (rNP (R m n)))) ?_
                    rintro _ _ ⟨rfl, rfl⟩
                    refine Rn.iret (pc := 175) rfl dX12_thirdPass_175 ?_
                    have he : er3 bs B g (R m n) m (pS R cnt m n) (pO R cnt m n) = (-8, nI (rNP (R m n))) := by
                      unfold er3; rw [if_pos hnr, hrs, er3k]
                    refine ⟨_, rfl, fN.trans ((fr2.mono hRd3).trans (((((Fr.refl _).sI hs38).sI hs38).sI hs38))), Or.inr ⟨by decide, m, n, hm, hn, hI.2.1, ?_, ?_, rfl, rfl, ?_⟩⟩
                    · show (er3 bs B g (R m n) m (pS R cnt m n) (pO R cnt m n)).1 ≠ 0; rw [he]; show (-8 : Int32) ≠ 0; decide
                    · show _ = (er3 bs B g (R m n) m (pS R cnt m n) (pO R cnt m n)).1; rw [he]
                    · show _ = (er3 bs B g (R m n) m (pS R cnt m n) (pO R cnt m n)).2; rw [he]; rfl
                · exact absurd (show prV none < 0 by decide) c129
              | some k =>
                have hf9 := fg_some hf2
                rw [prV_s]
                refine Rn.goto (pc := 120) (tgt := 125) dX12_thirdPass_120 (by decide) ?_
                refine Rn.istore (pc := 125) dX12_thirdPass_125 (by decide) rfl st6_5 ?_
                exact K127 k ((rs_glo hf).trans hf2)
          | some k =>
            have hf9 := fnd_some hf
            rw [prV_s]
            refine Rn.istore (pc := 101) dX12_thirdPass_101 (by decide) rfl st6_5 ?_
            refine Rn.iload (pc := 103) dX12_thirdPass_103 rfl ?_
            refine Rn.if_ge (pc := 105) (y := 0) (tgt := 123) dX12_thirdPass_105 (by decide) (fun c105 => ?_) (fun c105 => ?_)
            · refine Rn.iload (pc := 123) dX12_thirdPass_123 rfl ?_
              refine Rn.istore (pc := 125) dX12_thirdPass_125 (by decide) rfl st6_5 ?_
              exact K127 k (rs_own hf)
            · exact absurd (nI_pos' (by omega)) c105
        refine Rn.iconst (pc := 52) (v := nI 3) dX12_thirdPass_52 (by decide) ?_
        refine Rn.iload_n (pc := 53) dX12_thirdPass_53 rfl rfl ?_
        refine Rn.imulN (pc := 54) dX12_thirdPass_54 ?_
        refine Rn.aload_n (pc := 55) dX12_thirdPass_55 rfl rfl ?_
        refine Rn.getI (pc := 56) (t := 0) flX12_325 hnw2 dX12_thirdPass_56 ?_
        refine Rn.iaddN (pc := 59) dX12_thirdPass_59 ?_
        refine Rn.istore_n (pc := 60) dX12_thirdPass_60 rfl (by decide) rfl st6_3 ?_
        refine Rn.aload_n (pc := 61) dX12_thirdPass_61 rfl rfl ?_
        refine Rn.getR (pc := 62) flX12_66 mu11_38 fx11_38 dX12_thirdPass_62 ?_
        refine Rn.iload_n (pc := 65) dX12_thirdPass_65 rfl rfl ?_
        refine Rn.ialdN (pc := 66) ak40 (by omega) (by decide) hgo2 dX12_thirdPass_66 ?_
        refine Rn.istore (pc := 67) dX12_thirdPass_67 (by decide) rfl st6_4 ?_
        refine Rn.aload_n (pc := 69) dX12_thirdPass_69 rfl rfl ?_
        refine Rn.getI (pc := 70) (t := 0) flX12_156 hs dX12_thirdPass_70 ?_
        refine Rn.bipush (pc := 73) (v := nI 6) dX12_thirdPass_73 (by decide) ?_
        refine Rn.icmp_eqN (pc := 75) (tgt := 87) dX12_thirdPass_75 (by decide) (by omega) (by omega) (fun c75 => ?_) (fun c75 => ?_)
        · exact K87 (Or.inl c75)
        · refine Rn.aload_n (pc := 78) dX12_thirdPass_78 rfl rfl ?_
          refine Rn.getI (pc := 79) (t := 0) flX12_156 hs dX12_thirdPass_79 ?_
          refine Rn.bipush (pc := 82) (v := nI 11) dX12_thirdPass_82 (by decide) ?_
          refine Rn.icmp_ltN (pc := 84) (tgt := 176) dX12_thirdPass_84 (by decide) (by omega) (by omega) (fun c84 => ?_) (fun c84 => ?_)
          · have hnr : ¬ nref (R m n) := fun z => by have := hK.nr.mpr z; omega
            refine K176 M2 _ (Fr.refl M2) (fun z => absurd z hnr) ?_
            show (er3 bs B g (R m n) m (pS R cnt m n) (pO R cnt m n)).1 = 0
            unfold er3; rw [if_neg hnr]
          · exact K87 (Or.inr c84)
  have outer : ∀ (d m : Nat) (N : Mem) (x2 x3 x4 x5 : Option AV), 4 - m = d → m ≤ 4 → I3 R cnt bs B g M m 0 N → Rn G iX12_thirdPass (P3 R cnt bs B g M) 23 [some (vR 11 0), some (vI (nI m)), x2, x3, x4, x5] [] N := by
    intro d
    induction d using Nat.strongRecOn with
    | ind d ih9 =>
      intro m N x2 x3 x4 x5 hd hm4 hI
      have ihm : ∀ (m' : Nat) (N : Mem) (x2 x3 x4 x5 : Option AV), m < m' → m' ≤ 4 → I3 R cnt bs B g M m' 0 N → Rn G iX12_thirdPass (P3 R cnt bs B g M) 23 [some (vR 11 0), some (vI (nI m')), x2, x3, x4, x5] [] N := fun m' N x2 x3 x4 x5 h1 h2 h3 => ih9 (4 - m') (by omega) m' N x2 x3 x4 x5 rfl h2 h3
      refine Rn.iload_n (pc := 23) dX12_thirdPass_23 rfl rfl ?_
      refine Rn.iconst (pc := 24) (v := nI 4) dX12_thirdPass_24 (by decide) ?_
      refine Rn.icmp_geN (pc := 25) (tgt := 232) dX12_thirdPass_25 (by decide) (by omega) (by omega) (fun c25 => ?_) (fun c25 => ?_)
      · refine Rn.iconst (pc := 232) (v := nI 0) dX12_thirdPass_232 (by decide) ?_
        refine Rn.iret (pc := 233) rfl dX12_thirdPass_233 ?_
        have h4 : m = 4 := by omega
        subst h4
        exact ⟨0, rfl, hI.1, Or.inl ⟨rfl, hI.2.1, hI.2.2.2⟩⟩
      · have hm : m < 4 := c25
        refine Rn.aload_n (pc := 28) dX12_thirdPass_28 rfl rfl ?_
        refine Rn.iconst (pc := 29) (v := nI 0) dX12_thirdPass_29 (by decide) ?_
        refine Rn.putI (pc := 30) (t := 0) flX12_325 rfl rfl dX12_thirdPass_30 ?_
        refine Rn.iconst (pc := 33) (v := nI 0) dX12_thirdPass_33 (by decide) ?_
        refine Rn.istore_n (pc := 34) dX12_thirdPass_34 rfl (by decide) rfl st6_2 ?_
        refine inner m hm ?_ (cnt m) 0 _ _ _ _ rfl (Nat.zero_le _) ⟨hI.1.sI (by unfold SP3; omega), hI.2⟩ (by rw [at1_n0]; rfl)
        intro N' y3 y4 y5 h'
        refine Rn.iincN (pc := 226) (n := 1) dX12_thirdPass_226 rfl (by decide) (by decide) rfl st6_1 ?_
        refine Rn.goto (pc := 229) (tgt := 23) dX12_thirdPass_229 (by decide) ?_
        refine ihm (m + 1) N' _ _ _ _ (by omega) (by omega) ⟨h'.1, h'.2.1.m, h'.2.2.1, ?_, h'.2.2.2.2⟩
        intro a b ha hb q j hj
        refine h'.2.2.2.1 a b ha hb ?_ j hj
        rcases q with q | q
        · left; unfold lx at q ⊢
          rcases q with q | q
          · rcases Nat.eq_or_lt_of_le (Nat.le_of_lt_succ q) with z | z
            · subst z; exact Or.inr ⟨rfl, hb⟩
            · exact Or.inl z
          · omega
        · exact Or.inr q
  have zl : ∀ (d t : Nat) (N : Mem), 12 - t = d → t ≤ 12 → (∀ k, k < t → mI N 40 0 k = nI 0) → Fr (fun k _ _ => k = 40 ∨ k = 40) M N → Rn G iX12_thirdPass (P3 R cnt bs B g M) 2 [some (vR 11 0), some (vI (nI t)), none, none, none, none] [] N := by
    intro d
    induction d using Nat.strongRecOn with
    | ind d ih9 =>
      intro t N hd ht hz fZ
      have ihz : ∀ (t' : Nat) (N : Mem), t < t' → t' ≤ 12 → (∀ k, k < t' → mI N 40 0 k = nI 0) → Fr (fun k _ _ => k = 40 ∨ k = 40) M N → Rn G iX12_thirdPass (P3 R cnt bs B g M) 2 [some (vR 11 0), some (vI (nI t')), none, none, none, none] [] N := fun t' N h1 h2 h3 h4 => ih9 (12 - t') (by omega) t' N rfl h2 h3 h4
      refine Rn.iload_n (pc := 2) dX12_thirdPass_2 rfl rfl ?_
      refine Rn.bipush (pc := 3) (v := nI 12) dX12_thirdPass_3 (by decide) ?_
      refine Rn.icmp_geN (pc := 5) (tgt := 21) dX12_thirdPass_5 (by decide) (by omega) (by omega) (fun c5 => ?_) (fun c5 => ?_)
      · refine Rn.iconst (pc := 21) (v := nI 0) dX12_thirdPass_21 (by decide) ?_
        refine Rn.istore_n (pc := 22) dX12_thirdPass_22 rfl (by decide) rfl st6_1 ?_
        refine outer 4 0 N _ _ _ _ rfl (by decide) ⟨fZ.mono (by intro k j s h; unfold SP3; omega), fun a b p _ => absurd p (by unfold lx; omega), fun s hs => hz s (by omega), ?_, fun s => fZ.I (by omega)⟩
        intro a b ha hb q j hj
        have hr : ¬ nref (R a b) := by
          rcases q with q | q
          · exact absurd q (by unfold lx; omega)
          · exact q
        rw [fZ.I (by omega), fb3, if_neg hr]
        exact hld a b (Or.inl ha) hb hr j hj
      · refine Rn.aload_n (pc := 8) dX12_thirdPass_8 rfl rfl ?_
        refine Rn.getR (pc := 9) flX12_66 mu11_38 fx11_38 dX12_thirdPass_9 ?_
        refine Rn.iload_n (pc := 12) dX12_thirdPass_12 rfl rfl ?_
        refine Rn.iconst (pc := 13) (v := nI 0) dX12_thirdPass_13 (by decide) ?_
        refine Rn.iastN (pc := 14) ak40 (by omega) (by decide) dX12_thirdPass_14 ?_
        refine Rn.iincN (pc := 15) (n := 1) dX12_thirdPass_15 rfl (by decide) (by decide) rfl st6_1 ?_
        refine Rn.goto (pc := 18) (tgt := 2) dX12_thirdPass_18 (by decide) ?_
        refine ihz (t + 1) _ (by omega) (by omega) (fun k hk => ?_) (fZ.sI (Or.inl rfl))
        rw [mI_sI]
        by_cases e : k = t
        · rw [e, if_pos ⟨rfl, rfl, rfl⟩]
        · rw [if_neg (fun z => e z.2.2)]; exact hz k (by omega)
  refine Rn.iconst (pc := 0) (v := nI 0) dX12_thirdPass_0 (by decide) ?_
  refine Rn.istore_n (pc := 1) dX12_thirdPass_1 rfl (by decide) rfl st6_1 ?_
  exact zl 12 0 _ rfl (by decide) (fun k hk => absurd hk (Nat.not_lt_zero k)) (Fr.refl M)

