def RT (q : Nat × (Nat → Nat)) (M : Mem) : Prop := TyM q M ∧ TyC q M ∧ q.1 ≤ 48 ∧ ChO q.2 q.1
def RLn (cnt : Nat → Nat) (T : Nat → Nat → Nat × (Nat → Nat)) (M : Mem) : Prop := ∀ m, m < 4 → mI M 23 0 m = nI (cnt m) ∧ mI M 7 m 1 = nI (cnt m) ∧ cnt m ≤ 24 ∧ ∀ n, n < cnt m → StoM (24 * m + n) (T m n) M ∧ (T m n).1 ≤ 48 ∧ ChO (T m n).2 (T m n).1 ∧ RecC (24 * m + n) (cP (T m n).2 (T m n).1) M
def RB (l : Nat) (M : Mem) : Prop := l < 2 ∧ mR M 10 0 4 = l ∧ mR M 10 0 5 = 1 - l
def RG0 (l : Nat) (M : Mem) : Prop := mI M 11 0 34 = nI 0 ∧ mI M 11 0 37 = nI 0 ∧ mI M 11 0 20 = nI 0 ∧ (∀ s, s < 12 → mI M 35 0 s = nI 0) ∧ mI M 2 l 1 = nI 0 ∧ mI M 3 l 5 = nI 0 ∧ SzC l (fun _ => 0) M
def RG1 (l : Nat) (M : Mem) : Prop := ∃ (sz : Nat → Nat) (B : LB) (z : Nat) (im : Nat → Nat), (0 < z ∧ z ≤ 2048) ∧ (∀ k, im k < 256) ∧ GdM sz B z im M ∧ GdC sz B z l M ∧ ∀ k, k < 2048 → imC l M k = im k
def RF (M : Mem) : Prop := ∀ s, s < 3 → mI M 38 0 s = mI M 1 0 (s + 1)
def Rx (q : Nat × (Nat → Nat)) (cnt : Nat → Nat) (T : Nat → Nat → Nat × (Nat → Nat)) (l : Nat) (M : Mem) : Prop := RT q M ∧ RLn cnt T M ∧ RB l M ∧ (RG0 l M ∨ RG1 l M) ∧ RF M
/-- what calls other than link may change -/
def SA (k _j s : Nat) : Prop := (6 ≤ k ∧ k ≤ 9) ∨ k = 12 ∨ (22 ≤ k ∧ k ≤ 25) ∨ (k = 11 ∧ (s = 0 ∨ s = 2))
theorem LbM96.fr {B : LB} {M N : Mem} {S : Nat → Nat → Nat → Prop} (h : LbM 96 B M) (f : Fr S M N) (hS : ∀ k j s, (k = 26 ∧ 576 ≤ s) ∨ ((k = 27 ∨ k = 28 ∨ k = 29) ∧ 96 ≤ s) → ¬ S k j s) : LbM 96 B N := by
  intro i hi
  obtain ⟨h1, h2, h3, L, a, e, h4, h5, h6⟩ := h i hi
  exact ⟨(f.I (hS _ _ _ (by omega))).trans h1, (f.I (hS _ _ _ (by omega))).trans h2, (f.I (hS _ _ _ (by omega))).trans h3, L, a, e, h4, h5, fun j hj => (f.I (hS _ _ _ (by omega))).trans (h6 j hj)⟩
theorem GdM.fr {sz : Nat → Nat} {B : LB} {z : Nat} {im : Nat → Nat} {M N : Mem} {S : Nat → Nat → Nat → Prop} (h : GdM sz B z im M) (f : Fr S M N) (hS : ∀ k j s, (k = 26 ∧ 576 ≤ s) ∨ ((k = 27 ∨ k = 28 ∨ k = 29) ∧ 96 ≤ s) ∨ (k = 11 ∧ (s = 34 ∨ s = 20 ∨ s = 37)) ∨ k = 35 ∨ k = 36 ∨ k = 37 ∨ k = 39 → ¬ S k j s) : GdM sz B z im N := by
  obtain ⟨h1, h2, h3, h4, h5, h6, h7⟩ := h
  refine ⟨(f.I (hS _ _ _ (by omega))).trans h1, fun k hk => (f.I (hS _ _ _ (by omega))).trans (h2 k hk), fun s hs => ⟨(f.I (hS _ _ _ (by omega))).trans (h3 s hs).1, (f.I (hS _ _ _ (by omega))).trans (h3 s hs).2⟩, (f.I (hS _ _ _ (by omega))).trans h4, LbM96.fr h5 f (fun k j s q => hS k j s (by omega)), (f.I (hS _ _ _ (by omega))).trans h6, fun k hk => (f.I (hS _ _ _ (by omega))).trans (h7 k hk)⟩
theorem GdC.fr {sz : Nat → Nat} {B : LB} {z l : Nat} {M N : Mem} {S : Nat → Nat → Nat → Prop} (h : GdC sz B z l M) (f : Fr S M N) (hS : ∀ k j s, ((k = 2 ∨ k = 3 ∨ k = 15) ∧ j = l) ∨ (k = 17 ∧ 3 * l ≤ j ∧ j < 3 * l + 3) ∨ (k = 19 ∧ 8 * l ≤ j ∧ j < 8 * l + 8) → ¬ S k j s) : GdC sz B z l N := by
  obtain ⟨h1, h2, h3, h4, h5, h6⟩ := h
  refine ⟨⟨(f.I (hS _ _ _ (by omega))).trans h1.1, fun i hi => ⟨(f.J (hS _ _ _ (by omega))).trans (h1.2 i hi).1, (f.I (hS _ _ _ (by omega))).trans (h1.2 i hi).2.1, (f.I (hS _ _ _ (by omega))).trans (h1.2 i hi).2.2.1, (f.I (hS _ _ _ (by omega))).trans (h1.2 i hi).2.2.2⟩⟩, h2, h3, fun m s hm hs => (f.I (hS _ _ _ (by omega))).trans (h4 m s hm hs), fun m s hm hs => (f.I (hS _ _ _ (by omega))).trans (h5 m s hm hs), (f.I (hS _ _ _ (by omega))).trans h6⟩
theorem RG.fr {l : Nat} {M N : Mem} (h : RG0 l M ∨ RG1 l M) (f : Fr SA M N) : RG0 l N ∨ RG1 l N := by
  rcases h with ⟨h1, h2, h3, h4, h5, h6, h7⟩ | ⟨sz, B, z, im, h1, h2, h3, h4, h5⟩
  · exact Or.inl ⟨(f.I (by unfold SA; omega)).trans h1, (f.I (by unfold SA; omega)).trans h2, (f.I (by unfold SA; omega)).trans h3, fun s hs => (f.I (by unfold SA; omega)).trans (h4 s hs), (f.I (by unfold SA; omega)).trans h5, (f.I (by unfold SA; omega)).trans h6, fun m s hm hs => (f.I (by unfold SA; omega)).trans (h7 m s hm hs)⟩
  · refine Or.inr ⟨sz, B, z, im, h1, h2, h3.fr f (by intro k j s h; unfold SA; omega), h4.fr f (by intro k j s h; unfold SA; omega), fun k hk => ?_⟩
    unfold imC; rw [f.I (by unfold SA; omega)]; exact h5 k hk
theorem RF.fr {M N : Mem} (h : RF M) (f : Fr SA M N) : RF N := fun s hs => by rw [f.I (by unfold SA; omega), f.I (by unfold SA; omega)]; exact h s hs
theorem RB.fr {l : Nat} {M N : Mem} {S : Nat → Nat → Nat → Prop} (h : RB l M) (f : Fr S M N) : RB l N := ⟨h.1, f.R.trans h.2.1, f.R.trans h.2.2⟩
theorem RT.fr {q : Nat × (Nat → Nat)} {M N : Mem} {S : Nat → Nat → Nat → Prop} (h : RT q M) (f : Fr S M N) (hS : ∀ k j s, k = 22 ∨ k = 12 ∨ (k = 9 ∧ s = 1) ∨ (k = 11 ∧ s = 2) → ¬ S k j s) : RT q N :=
  ⟨⟨(f.I (hS _ _ _ (by omega))).trans h.1.1, fun i h1 h2 => (f.I (hS _ _ _ (by omega))).trans (h.1.2 i h1 h2)⟩, ⟨(f.I (hS _ _ _ (by omega))).trans h.2.1.1, fun i h1 => (f.I (hS _ _ _ (by omega))).trans (h.2.1.2 i h1)⟩, h.2.2⟩
theorem RLn.fr {cnt : Nat → Nat} {T : Nat → Nat → Nat × (Nat → Nat)} {M N : Mem} {S : Nat → Nat → Nat → Prop} (h : RLn cnt T M) (f : Fr S M N) (hS : ∀ k j s, (k = 7 ∧ s = 1) ∨ k = 8 ∨ (23 ≤ k ∧ k ≤ 25) → ¬ S k j s) : RLn cnt T N := by
  intro m hm
  obtain ⟨h1, h2, h3, h4⟩ := h m hm
  refine ⟨(f.I (hS _ _ _ (by omega))).trans h1, (f.I (hS _ _ _ (by omega))).trans h2, h3, fun n hn => ?_⟩
  obtain ⟨g1, g2, g3, g4⟩ := h4 n hn
  exact ⟨⟨(f.I (hS _ _ _ (by omega))).trans g1.1, fun i hi => (f.I (hS _ _ _ (by omega))).trans (g1.2 i hi)⟩, g2, g3, g4.fr f (fun s _ _ _ => hS _ _ _ (by omega)) (fun _ => hS _ _ _ (by omega))⟩
/-- only the model's answer about refusing changes -/
theorem Rx.ref {q : Nat × (Nat → Nat)} {cnt : Nat → Nat} {T : Nat → Nat → Nat × (Nat → Nat)} {l : Nat} {M : Mem} {v : Int32} (h : Rx q cnt T l M) : Rx q cnt T l (sI M 11 0 0 v) := by
  obtain ⟨h1, h2, h3, h4, h5⟩ := h
  have f : Fr (fun k _ s => k = 11 ∧ s = 0) M (sI M 11 0 0 v) := (Fr.refl M).sI ⟨rfl, rfl⟩
  have f2 : Fr SA M (sI M 11 0 0 v) := f.mono (fun k j s h => Or.inr (Or.inr (Or.inr ⟨h.1, Or.inl h.2⟩)))
  exact ⟨h1.fr f (by intro k j s h; omega), h2.fr f (by intro k j s h; omega), h3.fr f, RG.fr h4 f2, h5.fr f2⟩
/-! TYPE -/
theorem apv_ch {v : Nat} {q : Nat × (Nat → Nat)} (hv : v < 256) (h : ChO q.2 q.1) : ChO (apv v q).2 (apv v q).1 := by
  unfold apv
  split
  · exact h
  · intro i hi
    dsimp only at hi ⊢
    by_cases e : i = q.1
    · rw [if_pos e]; omega
    · rw [if_neg e]; exact h i (by omega)
theorem ap4_ch {x : Int32} : ∀ (j : Nat) (q : Nat × (Nat → Nat)), ChO q.2 q.1 → ChO (ap4 x j q).2 (ap4 x j q).1
  | 0, _, h => h
  | j + 1, q, h => ap4_ch j _ (apv_ch bt_lt h)
theorem tyQ_ch {a b c d : Int32} {q : Nat × (Nat → Nat)} (h : ChO q.2 q.1) : ChO (tyQ a b c d q).2 (tyQ a b c d q).1 := ap4_ch 4 _ (ap4_ch 4 _ (ap4_ch 4 _ (ap4_ch 4 _ h)))
theorem STc_SA {k j s : Nat} (h : STc k j s) : SA k j s := h.elim (fun q => Or.inr (Or.inl q)) (fun q => Or.inl (by omega))
theorem STy0_SA {k j s : Nat} (h : STy0 k j s) : SA k j s := h.elim (fun q => Or.inr (Or.inr (Or.inl (by omega)))) (fun q => Or.inr (Or.inr (Or.inr ⟨q.1, q.2.elim Or.inr Or.inl⟩)))
theorem Rx.typed {q q' : Nat × (Nat → Nat)} {cnt : Nat → Nat} {T : Nat → Nat → Nat × (Nat → Nat)} {l : Nat} {M M1 M2 : Mem} (h : Rx q cnt T l M) (f1 : Fr STc M M1) (f2 : Fr STy0 M1 M2) (h1 : TyC q' M1) (h2 : TyM q' M2) (h3 : q'.1 ≤ 48) (h4 : ChO q'.2 q'.1) : Rx q' cnt T l M2 := by
  have f : Fr SA M M2 := (f1.mono (fun _ _ _ h => STc_SA h)).trans (f2.mono (fun _ _ _ h => STy0_SA h))
  refine ⟨⟨h2, ⟨(f2.I (by unfold STy0; omega)).trans h1.1, fun i hi => (f2.I (by unfold STy0; omega)).trans (h1.2 i hi)⟩, h3, h4⟩, (h.2.1.fr f1 (by intro k j s h; unfold STc; omega)).fr f2 (by intro k j s h; unfold STy0; omega), h.2.2.1.fr f, RG.fr h.2.2.2.1 f, h.2.2.2.2.fr f⟩
theorem Rx.tyM {q : Nat × (Nat → Nat)} {cnt : Nat → Nat} {T : Nat → Nat → Nat × (Nat → Nat)} {l : Nat} {M M1 : Mem} (h : Rx q cnt T l M) (f1 : Fr STc M M1) : TyM q M1 := ⟨(f1.I (by unfold STc; omega)).trans h.1.1.1, fun i h1 h2 => (f1.I (by unfold STc; omega)).trans (h.1.1.2 i h1 h2)⟩
/-! ERASE, DROP -/
theorem Rx.erase {q : Nat × (Nat → Nat)} {cnt : Nat → Nat} {T : Nat → Nat → Nat × (Nat → Nat)} {l : Nat} {M : Mem} (h : Rx q cnt T l M) : mI M 9 0 1 = mI (sI M 9 0 1 (nI 0)) 11 0 2 ∧ Rx (0, q.2) cnt T l (sI (sI (sI M 9 0 1 (nI 0)) 11 0 0 (nI 0)) 11 0 2 (nI 0)) := by
  refine ⟨h.1.2.1.1.trans (show nI q.1 = mI M 11 0 2 from h.1.1.1.symm), ?_⟩
  have f1 : Fr STc M (sI M 9 0 1 (nI 0)) := (Fr.refl M).sI (Or.inr ⟨rfl, rfl⟩)
  have f2 : Fr STy0 (sI M 9 0 1 (nI 0)) (sI (sI (sI M 9 0 1 (nI 0)) 11 0 0 (nI 0)) 11 0 2 (nI 0)) := ((Fr.refl _).sI (Or.inr ⟨rfl, Or.inr rfl⟩)).sI (Or.inr ⟨rfl, Or.inl rfl⟩)
  exact h.typed f1 f2 ⟨rfl, fun i hi => absurd hi (Nat.not_lt_zero i)⟩ ⟨rfl, fun i hi => absurd hi (Nat.not_lt_zero i)⟩ (Nat.zero_le _) (fun i hi => absurd hi (Nat.not_lt_zero i))
theorem Rx.drop {q : Nat × (Nat → Nat)} {cnt : Nat → Nat} {T : Nat → Nat → Nat × (Nat → Nat)} {l m : Nat} {M : Mem} (h : Rx q cnt T l M) (hm : m < 4) : mI M 7 m 1 = mI (sI M 7 m 1 (nI 0)) 23 0 m ∧ Rx q (fun i => if i = m then 0 else cnt i) T l (sI (sI (sI M 7 m 1 (nI 0)) 11 0 0 (nI 0)) 23 0 m (nI 0)) := by
  have hl := h.2.1 m hm
  refine ⟨hl.2.1.trans (show nI (cnt m) = mI M 23 0 m from hl.1.symm), ?_⟩
  have f : Fr SA M (sI (sI (sI M 7 m 1 (nI 0)) 11 0 0 (nI 0)) 23 0 m (nI 0)) := (((Fr.refl M).sI (Or.inl (by omega))).sI (Or.inr (Or.inr (Or.inr ⟨rfl, Or.inl rfl⟩)))).sI (Or.inr (Or.inr (Or.inl (by omega))))
  have f3 : Fr (fun k _ s => (k = 7 ∧ s = 1) ∨ (k = 11 ∧ s = 0) ∨ k = 23) M (sI (sI (sI M 7 m 1 (nI 0)) 11 0 0 (nI 0)) 23 0 m (nI 0)) := (((Fr.refl M).sI (Or.inl ⟨rfl, rfl⟩)).sI (Or.inr (Or.inl ⟨rfl, rfl⟩))).sI (Or.inr (Or.inr rfl))
  refine ⟨h.1.fr f3 (by intro k j s h; omega), ?_, h.2.2.1.fr f, RG.fr h.2.2.2.1 f, h.2.2.2.2.fr f⟩
  intro i hi
  obtain ⟨h1, h2, h3, h4⟩ := h.2.1 i hi
  by_cases e : i = m
  · dsimp only
    rw [if_pos e, e]
    exact ⟨by rw [mI_sI, if_pos ⟨rfl, rfl, rfl⟩], by rw [mI_sI, if_neg (by omega), mI_sI, if_neg (by omega), mI_sI, if_pos ⟨rfl, rfl, rfl⟩], by omega, fun n hn => absurd hn (Nat.not_lt_zero n)⟩
  · dsimp only
    rw [if_neg e]
    refine ⟨by rw [mI_sI, if_neg (fun y => e y.2.2)]; exact h1, by rw [mI_sI, if_neg (by omega), mI_sI, if_neg (by omega), mI_sI, if_neg (fun y => e y.2.1)]; exact h2, h3, fun n hn => ?_⟩
    obtain ⟨g1, g2, g3, g4⟩ := h4 n hn
    exact ⟨⟨(f3.I (by omega)).trans g1.1, fun x hx => (f3.I (by omega)).trans (g1.2 x hx)⟩, g2, g3, g4.fr f3 (fun s _ _ _ => by omega) (fun _ => by omega)⟩
/-! ADD, CHANGE: the line n of module m is now q -/
theorem Rx.put {q : Nat × (Nat → Nat)} {cnt cnt' : Nat → Nat} {T : Nat → Nat → Nat × (Nat → Nat)} {l m n : Nat} {M M1 M2 : Mem} (h : Rx q cnt T l M) (hm : m < 4) (hn : n < 24) (f1 : Fr (SPs (24 * m + n)) (sR M 6 0 0 0) M1) (hR : RecC (24 * m + n) (cP q.2 q.1) M1) (h9 : mI M1 9 0 1 = nI 0) (f2 : Fr (SAd (24 * m + n) m) M1 M2) (hS : StoM (24 * m + n) q M2) (h2 : mI M2 11 0 2 = nI 0)
    (hcn : ∀ i, i < 4 → cnt' i ≤ 24 ∧ mI M1 7 i 1 = nI (cnt' i) ∧ mI M2 23 0 i = nI (cnt' i) ∧ ∀ x, x < cnt' i → ¬ (i = m ∧ x = n) → x < cnt i) : Rx (0, q.2) cnt' (fun i x => if i = m ∧ x = n then q else T i x) l M2 := by
  have f : Fr SA (sR M 6 0 0 0) M2 := (f1.mono (fun k j s h => by unfold SPs at h; unfold SA; omega)).trans (f2.mono (fun k j s h => by unfold SAd SSt at h; unfold SA; omega))
  have h' : Rx q cnt T l (sR M 6 0 0 0) := h
  refine ⟨⟨⟨h2, fun i hi => absurd hi (Nat.not_lt_zero i)⟩, ⟨(f2.I (by unfold SAd SSt; omega)).trans h9, fun i hi => absurd hi (Nat.not_lt_zero i)⟩, Nat.zero_le _, fun i hi => absurd hi (Nat.not_lt_zero i)⟩, ?_, h'.2.2.1.fr f, RG.fr h'.2.2.2.1 f, h'.2.2.2.2.fr f⟩
  intro i hi
  obtain ⟨c1, c2, c3, c4⟩ := hcn i hi
  refine ⟨c3, (f2.I (by unfold SAd SSt; omega)).trans c2, c1, fun x hx => ?_⟩
  by_cases e : i = m ∧ x = n
  · dsimp only
    rw [if_pos e, e.1, e.2]
    exact ⟨hS, h.1.2.2.1, h.1.2.2.2, hR.fr f2 (fun s _ _ _ => by unfold SAd SSt; omega) (fun _ => by unfold SAd SSt; omega)⟩
  · dsimp only
    rw [if_neg e]
    obtain ⟨g1, g2, g3, g4⟩ := (h'.2.1 i hi).2.2.2 x (c4 x hx e)
    refine ⟨⟨?_, fun y hy => ?_⟩, g2, g3, (g4.fr f1 (fun s _ _ _ => by unfold SPs; omega) (fun _ => by unfold SPs; omega)).fr f2 (fun s _ _ _ => by unfold SAd SSt; omega) (fun _ => by unfold SAd SSt; omega)⟩
    · rw [f2.I (by unfold SAd SSt; omega), f1.I (by unfold SPs; omega)]; exact g1.1
    · rw [f2.I (by unfold SAd SSt; omega), f1.I (by unfold SPs; omega)]; exact g1.2 y hy
/-! ANSWERS -/
theorem Rx.octet {q : Nat × (Nat → Nat)} {cnt : Nat → Nat} {T : Nat → Nat → Nat × (Nat → Nat)} {l : Nat} {M : Mem} (h : Rx q cnt T l M) : ∃ z : Nat, z ≤ 2048 ∧ mI M 2 l 1 = nI z ∧ mI M 11 0 34 = nI z ∧ ∀ k, k < z → bC l M k = mI M 37 0 k := by
  rcases h.2.2.2.1 with g | ⟨sz, B, z, im, h1, h2, h3, h4, h5⟩
  · exact ⟨0, by decide, g.2.2.2.2.1, g.1, fun k hk => absurd hk (Nat.not_lt_zero k)⟩
  · exact ⟨z, h1.2, h4.2.2.2.2.2, h3.1, fun k hk => by rw [imC_b, h5 k (by omega), h3.2.1 k (by omega)]⟩
theorem Rx.size {q : Nat × (Nat → Nat)} {cnt : Nat → Nat} {T : Nat → Nat → Nat × (Nat → Nat)} {l m s : Nat} {M : Mem} (h : Rx q cnt T l M) (hm : m < 4) (hs : s < 3) : mI M 19 (4 * (2 * l) + m) s = mI M 35 0 (3 * m + s) := by
  rcases h.2.2.2.1 with g | ⟨sz, B, z, im, h1, h2, h3, h4, h5⟩
  · rw [g.2.2.2.2.2.2 m s hm hs, g.2.2.2.1 _ (by omega)]
  · rw [h4.2.2.2.1 m s hm hs, (h3.2.2.1 _ (by omega)).1]
