theorem LbC.fr {j : Nat} {B : LB} {M N : Mem} {S : Nat → Nat → Nat → Prop} (h : LbC j B M) (f : Fr S M N) (hS : ∀ k i s, k = 3 ∨ k = 15 ∨ k = 17 → ¬ S k i s) : LbC j B N :=
  ⟨(f.I (hS _ _ _ (by decide))).trans h.1, fun i hi => ⟨(f.J (hS _ _ _ (by decide))).trans (h.2 i hi).1, (f.I (hS _ _ _ (by decide))).trans (h.2 i hi).2.1, (f.I (hS _ _ _ (by decide))).trans (h.2 i hi).2.2.1, (f.I (hS _ _ _ (by decide))).trans (h.2 i hi).2.2.2⟩⟩
theorem mg_er {B : LB} {A : CR} {m : Nat} {g : Nat → Bool} (h : rK A = 2) : er2 B A m g = (mgR B g m (rNm A), if mgR B g m (rNm A) = 0 then 0 else nI (rNP A)) := by
  unfold er2 mgR
  rw [if_pos h]
  by_cases h1 : (fnd B m (rNm A)).isSome = true
  · rw [if_pos h1, if_pos h1]
    by_cases h2 : (fg B g (rNm A)).isSome = true
    · rw [if_pos h2, if_pos h2, if_neg (by decide)]
    · rw [if_neg h2, if_neg h2, if_pos rfl]
  · rw [if_neg h1, if_neg h1, if_neg (by decide)]
theorem mg_fr {B : LB} {g : Nat → Bool} {m v j : Nat} {M : Mem} : Fr (fun k i _ => k = 16 ∧ i = j) M (mgM B g m v j M) := by
  unfold mgM
  cases fnd B m v with
  | none => exact Fr.refl M
  | some k =>
    dsimp only
    split
    · exact Fr.refl M
    · exact (Fr.refl M).sI ⟨rfl, rfl⟩
theorem mg_gb {B : LB} {A : CR} {g : Nat → Bool} {m j : Nat} {M : Mem} (h : rK A = 2) (h0 : mgR B g m (rNm A) = 0) (hG : GbC j B g M) : GbC j B (nx2 B A m g) (mgM B g m (rNm A) j M) := by
  intro i hi
  unfold mgM nx2
  unfold mgR at h0
  cases hf : fnd B m (rNm A) with
  | none => rw [hf, if_neg (by decide : ¬ (none : Option Nat).isSome = true)] at h0; exact absurd h0 (by decide)
  | some k =>
    rw [hf] at h0
    by_cases h2 : (fg B g (rNm A)).isSome = true
    · rw [if_pos (show (some k).isSome = true from rfl), if_pos h2] at h0; exact absurd h0 (by decide)
    · dsimp only
      rw [if_neg h2, mI_sI]
      by_cases q : i = k
      · rw [if_pos ⟨rfl, rfl, q⟩, if_pos ⟨h, by rw [q]⟩]; rfl
      · rw [if_neg (fun y => q y.2.2), if_neg (fun y => q (Option.some.inj y.2).symm)]; exact hG i hi
def SJ2 (j k i _s : Nat) : Prop := (k = 16 ∧ i = j) ∨ k = 1
def J2 (R : Nat → Nat → CR) (cnt : Nat → Nat) (j : Nat) (M : Mem) (m n : Nat) (N : Mem) : Prop := Fr (SJ2 j) M N ∧ Ok cnt (eE2 R cnt) m n ∧ GbC j (lbE R cnt) (at2 R cnt (lbE R cnt) m n) N ∧ GU (lbE R cnt) (at2 R cnt (lbE R cnt) m n) ∧ ∀ s, mI N 1 0 s = mI M 1 0 s
def PJ2 (R : Nat → Nat → CR) (cnt : Nat → Nat) (j : Nat) (M : Mem) : Option AV → Mem → Prop := fun r M' => ∃ b : Bool, r = some (vI (bI b)) ∧ Fr (SJ2 j) M M' ∧ ((b = true ∧ J2 R cnt j M 4 0 M') ∨ (b = false ∧ FB cnt (eE2 R cnt) (mI M' 1 0 0) (mI M' 1 0 1) (mI M' 1 0 2) (mI M' 1 0 3)))
set_option maxRecDepth 20000 in
set_option maxHeartbeats 4000000 in
theorem k_tellGlobals (G : GX) {M : Mem} (R : Nat → Nat → CR) (cnt : Nat → Nat) (j : Nat) (hsrc : SrcC R cnt M) (hR : RcA R cnt) (hfa : ∀ m n, m < 4 → n < cnt m → rFa (R m n) = 0) (hd5 : mR M 10 0 5 = j) (hL : LbC j (lbE R cnt) M) (hN9 : LbN (lbE R cnt)) (hG0 : GbC j (lbE R cnt) (fun _ => false) M) : MetM G yX11_tellGlobals iX11_tellGlobals [vR 10 0] M (PJ2 R cnt j M) := by
  refine MetM.of (ls := [some (vR 10 0), none, none, none, none, none]) (by decide) rfl (Nat.le_of_ble_eq_true rfl) rfl ?_
  intro hM0
  have hc : ∀ m, m < 4 → cnt m ≤ 24 := fun m hm => (hsrc m hm).2.1
  have inner : ∀ (m : Nat), m < 4 → (∀ (N : Mem) (x4 x5 : Option AV), J2 R cnt j M m (cnt m) N → Rn G iX11_tellGlobals (PJ2 R cnt j M) 91 [some (vR 10 0), some (vI (nI m)), some (vR 7 m), some (vI (nI (cnt m))), x4, x5] [] N) → ∀ (d n : Nat) (N : Mem) (x4 x5 : Option AV), cnt m - n = d → n ≤ cnt m → J2 R cnt j M m n N → Rn G iX11_tellGlobals (PJ2 R cnt j M) 16 [some (vR 10 0), some (vI (nI m)), some (vR 7 m), some (vI (nI n)), x4, x5] [] N := by
    intro m hm KM d
    induction d using Nat.strongRecOn with
    | ind d ih9 =>
      intro n N x4 x5 hd hnc hI
      have ih : ∀ (n' : Nat) (N : Mem) (x4 x5 : Option AV), n < n' → n' ≤ cnt m → J2 R cnt j M m n' N → Rn G iX11_tellGlobals (PJ2 R cnt j M) 16 [some (vR 10 0), some (vI (nI m)), some (vR 7 m), some (vI (nI n')), x4, x5] [] N := fun n' N x4 x5 h1 h2 h3 => ih9 (cnt m - n') (by omega) n' N x4 x5 rfl h2 h3
      have fN := hI.1
      have hsN := hsrc.fr fN (by intro k i s h; unfold SJ2; omega)
      have hLN := hL.fr fN (by intro k i s h; unfold SJ2; omega)
      have hcm := hc m hm
      have hdN : mR N 10 0 5 = j := (fN.R).trans hd5
      have hs1 : ∀ {s : Nat}, SJ2 j 1 0 s := by intro s; unfold SJ2; omega
      refine Rn.iload_n (pc := 16) dX11_tellGlobals_16 rfl rfl ?_
      refine Rn.aload_n (pc := 17) dX11_tellGlobals_17 rfl rfl ?_
      refine Rn.getI (pc := 18) (t := 0) flX11_75 (hsN m hm).1 dX11_tellGlobals_18 ?_
      refine Rn.icmp_geN (pc := 21) (tgt := 91) dX11_tellGlobals_21 (by decide) (by omega) (by omega) (fun c21 => ?_) (fun c21 => ?_)
      · have hn : n = cnt m := by omega
        subst hn
        exact KM N x4 x5 hI
      · have hn : n < cnt m := c21
        have hrec := (hsN m hm).2.2 n hn
        have hRb := hR m n hm hn
        have hnb := hRb.2.2.2.1
        have hfa9 := hfa m n hm hn
        refine Rn.aload_n (pc := 24) dX11_tellGlobals_24 rfl rfl ?_
        refine Rn.getR (pc := 25) flX11_80 mu7_0 fx7_0 dX11_tellGlobals_25 ?_
        refine Rn.iload_n (pc := 28) dX11_tellGlobals_28 rfl rfl ?_
        refine Rn.aaldN (pc := 29) ak14 (by decide) rfl (by omega) (by decide) fx14 dX11_tellGlobals_29 ?_
        refine Rn.astore (pc := 30) dX11_tellGlobals_30 (by decide) rfl st6_4 ?_
        refine Rn.aload (pc := 32) dX11_tellGlobals_32 rfl ?_
        refine Rn.getI (pc := 34) (t := 0) flX11_193 hrec.1.2.2.2.1 dX11_tellGlobals_34 ?_
        refine Rn.iconst (pc := 37) (v := nI 2) dX11_tellGlobals_37 (by decide) ?_
        refine Rn.icmp_neN (pc := 38) (tgt := 60) dX11_tellGlobals_38 (by decide) (by have := (hRb.1 hfa9).2.1; omega) (by decide) (fun c38 => ?_) (fun c38 => ?_)
        · refine Rn.iconst (pc := 60) (v := nI 0) dX11_tellGlobals_60 (by decide) ?_
          refine Rn.istore (pc := 61) dX11_tellGlobals_61 (by decide) rfl st6_5 ?_
          refine Rn.iload (pc := 63) dX11_tellGlobals_63 rfl ?_
          refine Rn.if_eq (pc := 65) (y := 0) (tgt := 85) dX11_tellGlobals_65 (by decide) (fun c65 => ?_) (fun c65 => ?_)
          · refine Rn.iincN (pc := 85) (n := 1) dX11_tellGlobals_85 rfl (by decide) (by decide) rfl st6_3 ?_
            refine Rn.goto (pc := 88) (tgt := 16) dX11_tellGlobals_88 (by decide) ?_
            have hx : at2 R cnt (lbE R cnt) m (n + 1) = at2 R cnt (lbE R cnt) m n := by rw [at2_s]; funext i; unfold nx2; rw [if_neg (fun z => c38 z.1)]
            refine ih (n + 1) N _ _ (by omega) (by omega) ⟨fN, hI.2.1.s (fun _ => ?_), by rw [hx]; exact hI.2.2.1, by rw [hx]; exact hI.2.2.2.1, hI.2.2.2.2⟩
            show (er2 (lbE R cnt) (R m n) m (at2 R cnt (lbE R cnt) m n)).1 = 0; unfold er2; rw [if_neg c38]
          · exact absurd (show nI 0 = 0 by decide) c65
        · refine Rn.aload_n (pc := 41) dX11_tellGlobals_41 rfl rfl ?_
          refine Rn.getRm (pc := 42) flX11_44 hdN dX11_tellGlobals_42 ?_
          refine Rn.getR (pc := 45) flX11_140 mu0_0 fx0_0 dX11_tellGlobals_45 ?_
          refine Rn.iload_n (pc := 48) dX11_tellGlobals_48 rfl rfl ?_
          refine Rn.aload (pc := 49) dX11_tellGlobals_49 rfl ?_
          refine Rn.getJ (pc := 51) (t := 0) flX11_197 hrec.1.2.2.2.2.2.2.1 dX11_tellGlobals_51 ?_
          refine Rn.callV (pc := 54) (as := [_, _]) cvX11_200 ⟨by decide, rfl⟩ ⟨by decide, by decide⟩ dX11_tellGlobals_54 (Nat.le_of_ble_eq_true rfl) rfl (k_makeGlobal G j (lbE R cnt) (at2 R cnt (lbE R cnt) m n) m (rNm (R m n)) hLN hI.2.2.1 hN9 (by omega) (by omega)) ?_
          rintro _ _ ⟨rfl, rfl⟩
          have hrec9 : mI (mgM (lbE R cnt) (at2 R cnt (lbE R cnt) m n) m (rNm (R m n)) j N) 8 (24 * m + n) 8 = nI (rNP (R m n)) := (mg_fr.I (by omega)).trans hrec.1.2.2.2.2.2.2.2.1
          refine Rn.goto (pc := 57) (tgt := 61) dX11_tellGlobals_57 (by decide) ?_
          refine Rn.istore (pc := 61) dX11_tellGlobals_61 (by decide) rfl st6_5 ?_
          refine Rn.iload (pc := 63) dX11_tellGlobals_63 rfl ?_
          refine Rn.if_eq (pc := 65) (y := 0) (tgt := 85) dX11_tellGlobals_65 (by decide) (fun c65 => ?_) (fun c65 => ?_)
          · refine Rn.iincN (pc := 85) (n := 1) dX11_tellGlobals_85 rfl (by decide) (by decide) rfl st6_3 ?_
            refine Rn.goto (pc := 88) (tgt := 16) dX11_tellGlobals_88 (by decide) ?_
            have he : (er2 (lbE R cnt) (R m n) m (at2 R cnt (lbE R cnt) m n)).1 = 0 := by rw [mg_er c38]; exact c65
            refine ih (n + 1) _ _ _ (by omega) (by omega) ⟨fN.trans (mg_fr.mono (fun k i s h => Or.inl h)), hI.2.1.s (fun _ => he), by rw [at2_s]; exact mg_gb c38 c65 hI.2.2.1, by rw [at2_s]; exact nx2_GU hI.2.2.2.1 he, fun s => ?_⟩
            rw [mg_fr.I (by omega)]; exact hI.2.2.2.2 s
          · refine Rn.aload_n (pc := 68) dX11_tellGlobals_68 rfl rfl ?_
            refine Rn.getR (pc := 69) flX11_33 mu10_3 fx10_3 dX11_tellGlobals_69 ?_
            refine Rn.iload (pc := 72) dX11_tellGlobals_72 rfl ?_
            refine Rn.iload_n (pc := 74) dX11_tellGlobals_74 rfl rfl ?_
            refine Rn.iload_n (pc := 75) dX11_tellGlobals_75 rfl rfl ?_
            refine Rn.aload (pc := 76) dX11_tellGlobals_76 rfl ?_
            refine Rn.getI (pc := 78) (t := 0) flX11_203 hrec9 dX11_tellGlobals_78 ?_
            refine Rn.callV (pc := 81) (as := [_, _, _, _]) cvX11_178 ⟨by decide, rfl⟩ ⟨by decide, by decide⟩ dX11_tellGlobals_81 (Nat.le_of_ble_eq_true rfl) rfl (k_tell G 0 (mgR (lbE R cnt) (at2 R cnt (lbE R cnt) m n) m (rNm (R m n))) (nI m) (nI n) (nI (rNP (R m n)))) ?_
            rintro _ _ ⟨rfl, rfl⟩
            refine Rn.zret (pc := 84) rfl rfl dX11_tellGlobals_84 ?_
            have hne : mgR (lbE R cnt) (at2 R cnt (lbE R cnt) m n) m (rNm (R m n)) ≠ 0 := c65
            have he : er2 (lbE R cnt) (R m n) m (at2 R cnt (lbE R cnt) m n) = (mgR (lbE R cnt) (at2 R cnt (lbE R cnt) m n) m (rNm (R m n)), nI (rNP (R m n))) := by rw [mg_er c38, if_neg hne]
            refine ⟨false, rfl, (fN.trans (mg_fr.mono (fun k i s h => Or.inl h))).trans ((((((Fr.refl _).sI hs1).sI hs1).sI hs1).sI hs1)), Or.inr ⟨rfl, m, n, hm, hn, hI.2.1, ?_, ?_, rfl, rfl, ?_⟩⟩
            · show (er2 (lbE R cnt) (R m n) m (at2 R cnt (lbE R cnt) m n)).1 ≠ 0; rw [he]; exact hne
            · show _ = (er2 (lbE R cnt) (R m n) m (at2 R cnt (lbE R cnt) m n)).1; rw [he]; rfl
            · show _ = (er2 (lbE R cnt) (R m n) m (at2 R cnt (lbE R cnt) m n)).2; rw [he]; rfl
  have outer : ∀ (d m : Nat) (N : Mem) (x2 x3 x4 x5 : Option AV), 4 - m = d → m ≤ 4 → J2 R cnt j M m 0 N → Rn G iX11_tellGlobals (PJ2 R cnt j M) 2 [some (vR 10 0), some (vI (nI m)), x2, x3, x4, x5] [] N := by
    intro d
    induction d using Nat.strongRecOn with
    | ind d ih9 =>
      intro m N x2 x3 x4 x5 hd hm4 hI
      have ihm : ∀ (m' : Nat) (N : Mem) (x2 x3 x4 x5 : Option AV), m < m' → m' ≤ 4 → J2 R cnt j M m' 0 N → Rn G iX11_tellGlobals (PJ2 R cnt j M) 2 [some (vR 10 0), some (vI (nI m')), x2, x3, x4, x5] [] N := fun m' N x2 x3 x4 x5 h1 h2 h3 => ih9 (4 - m') (by omega) m' N x2 x3 x4 x5 rfl h2 h3
      refine Rn.iload_n (pc := 2) dX11_tellGlobals_2 rfl rfl ?_
      refine Rn.iconst (pc := 3) (v := nI 4) dX11_tellGlobals_3 (by decide) ?_
      refine Rn.icmp_geN (pc := 4) (tgt := 97) dX11_tellGlobals_4 (by decide) (by omega) (by omega) (fun c4 => ?_) (fun c4 => ?_)
      · refine Rn.iconst (pc := 97) (v := nI 1) dX11_tellGlobals_97 (by decide) ?_
        refine Rn.zret (pc := 98) rfl rfl dX11_tellGlobals_98 ?_
        have h4 : m = 4 := by omega
        subst h4
        exact ⟨true, rfl, hI.1, Or.inl ⟨rfl, hI⟩⟩
      · have hm : m < 4 := c4
        refine Rn.aload_n (pc := 7) dX11_tellGlobals_7 rfl rfl ?_
        refine Rn.getR (pc := 8) flX11_18 mu10_1 fx10_1 dX11_tellGlobals_8 ?_
        refine Rn.iload_n (pc := 11) dX11_tellGlobals_11 rfl rfl ?_
        refine Rn.aaldN (pc := 12) ak13 (by decide) rfl (by omega) (by decide) fx13 dX11_tellGlobals_12 ?_
        refine Rn.astore_n (pc := 13) dX11_tellGlobals_13 rfl (by decide) rfl st6_2 ?_
        refine Rn.iconst (pc := 14) (v := nI 0) dX11_tellGlobals_14 (by decide) ?_
        refine Rn.istore_n (pc := 15) dX11_tellGlobals_15 rfl (by decide) rfl st6_3 ?_
        refine inner m hm ?_ (cnt m) 0 _ _ _ rfl (Nat.zero_le _) hI
        intro N' y4 y5 h'
        refine Rn.iincN (pc := 91) (n := 1) dX11_tellGlobals_91 rfl (by decide) (by decide) rfl st6_1 ?_
        refine Rn.goto (pc := 94) (tgt := 2) dX11_tellGlobals_94 (by decide) ?_
        exact ihm (m + 1) N' _ _ _ _ (by omega) (by omega) ⟨h'.1, h'.2.1.m, h'.2.2⟩
  refine Rn.iconst (pc := 0) (v := nI 0) dX11_tellGlobals_0 (by decide) ?_
  refine Rn.istore_n (pc := 1) dX11_tellGlobals_1 rfl (by decide) rfl st6_1 ?_
  exact outer 4 0 M _ _ _ _ rfl (by decide) ⟨Fr.refl M, fun a b p _ => absurd p (by unfold lx; omega), hG0, (fun i j _ _ z => by cases z), fun s => rfl⟩

def SFr (j k i s : Nat) : Prop := SAr j k i s ∨ k = 1
def TlM (M : Mem) (a b c d : Int32) : Prop := mI M 1 0 0 = a ∧ mI M 1 0 1 = b ∧ mI M 1 0 2 = c ∧ mI M 1 0 3 = d
set_option maxRecDepth 20000 in
set_option maxHeartbeats 4000000 in
theorem k_findRoom (G : GX) {M : Mem} (j : Nat) (sz : Nat → Nat) (hz : ∀ s, sz s ≤ 1024) (hd5 : mR M 10 0 5 = j) (hS : SzC j sz M) : MetM G yX11_findRoom iX11_findRoom [vR 10 0] M (fun r M' => r = some (vI (bI (decide (rmA sz)))) ∧ Fr (SFr j) M M' ∧ AdC j (bsA sz) M' ∧ FdC j sz M' ∧ mI M' 4 j 3 = nI (flE sz) ∧ (rmA sz → ∀ s, mI M' 1 0 s = mI M 1 0 s) ∧ (¬ rmA sz → TlM M' (-7) (-1) (-1) (-1))) := by
  refine MetM.of (ls := [some (vR 10 0)]) (by decide) rfl (Nat.le_of_ble_eq_true rfl) rfl ?_
  intro hM0
  refine Rn.aload_n (pc := 0) dX11_findRoom_0 rfl rfl ?_
  refine Rn.getRm (pc := 1) flX11_44 hd5 dX11_findRoom_1 ?_
  refine Rn.getR (pc := 4) flX11_159 mu0_1 fx0_1 dX11_findRoom_4 ?_
  refine Rn.callV (pc := 7) (as := []) cvX11_206 ⟨by decide, rfl⟩ ⟨by decide, by decide⟩ dX11_findRoom_7 (Nat.le_of_ble_eq_true rfl) rfl (k_arrange G j sz hz hS) ?_
  rintro _ M5 ⟨rfl, f5, a5, d5, e5⟩
  refine Rn.if_neB (pc := 10) (tgt := 28) dX11_findRoom_10 (by decide) (fun c10 => ?_) (fun c10 => ?_)
  · refine Rn.iconst (pc := 28) (v := nI 1) dX11_findRoom_28 (by decide) ?_
    refine Rn.goto (pc := 29) (tgt := 33) dX11_findRoom_29 (by decide) ?_
    refine Rn.zret (pc := 33) rfl rfl dX11_findRoom_33 ?_
    have hr : rmA sz := of_decide_eq_true c10
    exact ⟨by rw [c10]; rfl, f5.mono (fun k i s h => Or.inl h), a5, d5, e5, fun _ s => f5.I (by unfold SAr; omega), fun z => absurd hr z⟩
  · refine Rn.aload_n (pc := 13) dX11_findRoom_13 rfl rfl ?_
    refine Rn.getR (pc := 14) flX11_33 mu10_3 fx10_3 dX11_findRoom_14 ?_
    refine Rn.bipush (pc := 17) (v := -7) dX11_findRoom_17 (by decide) ?_
    refine Rn.iconst (pc := 19) (v := -1) dX11_findRoom_19 (by decide) ?_
    refine Rn.iconst (pc := 20) (v := -1) dX11_findRoom_20 (by decide) ?_
    refine Rn.iconst (pc := 21) (v := -1) dX11_findRoom_21 (by decide) ?_
    refine Rn.callV (pc := 22) (as := [_, _, _, _]) cvX11_178 ⟨by decide, rfl⟩ ⟨by decide, by decide⟩ dX11_findRoom_22 (Nat.le_of_ble_eq_true rfl) rfl (k_tell G 0 (-7) (-1) (-1) (-1)) ?_
    rintro _ _ ⟨rfl, rfl⟩
    refine Rn.if_eqB (pc := 25) (tgt := 32) dX11_findRoom_25 (by decide) (fun c25 => ?_) (fun c25 => ?_)
    · refine Rn.iconst (pc := 32) (v := nI 0) dX11_findRoom_32 (by decide) ?_
      refine Rn.zret (pc := 33) rfl rfl dX11_findRoom_33 ?_
      have hr : ¬ rmA sz := of_decide_eq_false c10
      have fS : Fr (SFr j) M M5 := f5.mono (fun k i s h => Or.inl h)
      have h1 : ∀ {s : Nat}, SFr j 1 0 s := Or.inr rfl
      exact ⟨by rw [c10]; rfl, (((fS.sI h1).sI h1).sI h1).sI h1, fun m s hm hs => a5 m s hm hs, fun m hm => d5 m hm, e5, fun z => absurd z hr, fun _ => ⟨rfl, rfl, rfl, rfl⟩⟩
    · cases c25

