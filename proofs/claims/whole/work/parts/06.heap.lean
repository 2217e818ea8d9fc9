theorem mI_sI {M : Mem} {k j s k' j' s' : Nat} {v : Int32} : mI (sI M k j s v) k' j' s' = if k' = k ∧ j' = j ∧ s' = s then v else mI M k' j' s' := rfl
theorem mJ_sI {M : Mem} {k j s k' j' s' : Nat} {v : Int32} : mJ (sI M k j s v) k' j' s' = mJ M k' j' s' := rfl
theorem mR_sI {M : Mem} {k j s k' j' s' : Nat} {v : Int32} : mR (sI M k j s v) k' j' s' = mR M k' j' s' := rfl
theorem mI_sJ {M : Mem} {k j s k' j' s' : Nat} {v : Int64} : mI (sJ M k j s v) k' j' s' = mI M k' j' s' := rfl
theorem mJ_sJ {M : Mem} {k j s k' j' s' : Nat} {v : Int64} : mJ (sJ M k j s v) k' j' s' = if k' = k ∧ j' = j ∧ s' = s then v else mJ M k' j' s' := rfl
theorem mR_sJ {M : Mem} {k j s k' j' s' : Nat} {v : Int64} : mR (sJ M k j s v) k' j' s' = mR M k' j' s' := rfl
theorem mI_sR {M : Mem} {k j s k' j' s' : Nat} {v : Nat} : mI (sR M k j s v) k' j' s' = mI M k' j' s' := rfl
theorem mJ_sR {M : Mem} {k j s k' j' s' : Nat} {v : Nat} : mJ (sR M k j s v) k' j' s' = mJ M k' j' s' := rfl
theorem mR_sR {M : Mem} {k j s k' j' s' : Nat} {v : Nat} : mR (sR M k j s v) k' j' s' = if k' = k ∧ j' = j ∧ s' = s then v else mR M k' j' s' := rfl
theorem okM.I {M : Mem} (h : okM M) (k j s : Nat) (v : Int32) : okM (sI M k j s v) := h
theorem okM.J {M : Mem} (h : okM M) (k j s : Nat) (v : Int64) : okM (sJ M k j s v) := h
theorem okM.R {M : Mem} (h : okM M) {k j s v t : Nat} (hc : slotC k s = t + 2) (hm : mutR k s = true) (hv : v < kCnt t) : okM (sR M k j s v) := by
  intro k' j' s' t' h1 h0 h2
  rw [mR_sR]
  split
  · rename_i h3
    obtain ⟨rfl, rfl, rfl⟩ := h3
    rw [hc] at h2
    have : t = t' := by omega
    subst this
    exact ⟨hv, fun e => by rw [hm] at e; cases e⟩
  · exact h k' j' s' t' h1 h0 h2
theorem nd_inj {α : Type} {l : List α} (h : l.Nodup) {i j : Nat} {a : α} (hi : l[i]? = some a) (hj : l[j]? = some a) : i = j := by
  obtain ⟨h1, e1⟩ := List.getElem?_eq_some_iff.mp hi
  obtain ⟨h2, e2⟩ := List.getElem?_eq_some_iff.mp hj
  rcases Nat.lt_trichotomy i j with q | q | q
  · exact absurd (e1.trans e2.symm) (List.pairwise_iff_getElem.mp h i j h1 h2 q)
  · exact q
  · exact absurd (e2.trans e1.symm) (List.pairwise_iff_getElem.mp h j i h2 h1 q)
theorem wsM_at {G : GX} {M : Mem} {k j : Nat} (h : (k, j) ∈ PL) : ∃ i : Nat, PL[i]? = some (k, j) ∧ (wsM G M)[i]? = some (gA G k j, cellE G M k j) := by
  obtain ⟨i, hi⟩ := List.getElem?_of_mem h
  exact ⟨i, hi, by unfold wsM; rw [List.getElem?_map, hi]; rfl⟩
theorem wsM_set {G : GX} {M M' : Mem} {i k j : Nat} (hi : PL[i]? = some (k, j)) (he : ∀ k' j', ¬ (k' = k ∧ j' = j) → cellE G M' k' j' = cellE G M k' j') : (wsM G M).set i (gA G k j, cellE G M' k j) = wsM G M' := by
  apply List.ext_getElem?
  intro n
  rw [List.getElem?_set]
  by_cases h : i = n
  · subst h
    have hl : i < (wsM G M).length := by
      unfold wsM; rw [List.length_map]; exact (List.getElem?_eq_some_iff.mp hi).1
    rw [if_pos rfl, if_pos hl]
    unfold wsM
    rw [List.getElem?_map, hi]; rfl
  · rw [if_neg h]
    unfold wsM
    rw [List.getElem?_map, List.getElem?_map]
    cases hn : PL[n]? with
    | none => rfl
    | some q =>
      obtain ⟨a, b⟩ := q
      refine congrArg some (Prod.ext rfl ?_)
      refine (he a b fun e => h ?_).symm
      obtain ⟨rfl, rfl⟩ := e
      exact nd_inj PL_nodup hi hn
theorem valC_I {ad : Nat → Nat → Nat} {M : Mem} {k j s k' j' s' t : Nat} {v : Int32} (h : ¬ (k' = k ∧ j' = j ∧ s' = s)) : valC ad (sI M k j s v) k' j' s' t = valC ad M k' j' s' t := by
  rcases t with _ | _ | t
  · show Value.int (mI _ _ _ _) = Value.int _; rw [mI_sI, if_neg h]
  · rfl
  · rfl
theorem valC_J {ad : Nat → Nat → Nat} {M : Mem} {k j s k' j' s' t : Nat} {v : Int64} (h : ¬ (k' = k ∧ j' = j ∧ s' = s)) : valC ad (sJ M k j s v) k' j' s' t = valC ad M k' j' s' t := by
  rcases t with _ | _ | t
  · rfl
  · show Value.long (mJ _ _ _ _) = Value.long _; rw [mJ_sJ, if_neg h]
  · rfl
theorem valC_R {ad : Nat → Nat → Nat} {M : Mem} {k j s k' j' s' t : Nat} {v : Nat} (h : ¬ (k' = k ∧ j' = j ∧ s' = s)) : valC ad (sR M k j s v) k' j' s' t = valC ad M k' j' s' t := by
  rcases t with _ | _ | t
  · rfl
  · rfl
  · show Value.ref (ad t (mR _ _ _ _)) = Value.ref _; rw [mR_sR, if_neg h]
theorem contC_I {ad : Nat → Nat → Nat} {M : Mem} {k j s k' j' t : Nat} {v : Int32} (h : ¬ (k' = k ∧ j' = j)) : contC ad (sI M k j s v) k' j' t = contC ad M k' j' t := by
  rcases t with _ | _ | t
  · show Sum.inl (fun i => mI _ _ _ i) = Sum.inl _
    congr 1; funext i; rw [mI_sI, if_neg (fun q => h ⟨q.1, q.2.1⟩)]
  · rfl
  · rfl
theorem contC_J {ad : Nat → Nat → Nat} {M : Mem} {k j s k' j' t : Nat} {v : Int64} (h : ¬ (k' = k ∧ j' = j)) : contC ad (sJ M k j s v) k' j' t = contC ad M k' j' t := by
  rcases t with _ | _ | t
  · rfl
  · show Sum.inr (Sum.inl (fun i => mJ _ _ _ i)) = Sum.inr (Sum.inl _)
    congr 2; funext i; rw [mJ_sJ, if_neg (fun q => h ⟨q.1, q.2.1⟩)]
  · rfl
theorem contC_R {ad : Nat → Nat → Nat} {M : Mem} {k j s k' j' t : Nat} {v : Nat} (h : ¬ (k' = k ∧ j' = j)) : contC ad (sR M k j s v) k' j' t = contC ad M k' j' t := by
  rcases t with _ | _ | t
  · rfl
  · rfl
  · show Sum.inr (Sum.inr (Sum.inr (Sum.inr (fun i => some (ad t (mR _ _ _ i)))))) = Sum.inr (Sum.inr (Sum.inr (Sum.inr _)))
    congr 5; funext i; rw [mR_sR, if_neg (fun q => h ⟨q.1, q.2.1⟩)]
theorem flds_sI {G : GX} {M : Mem} {k j s k' j' : Nat} {v : Int32} (h : ¬ (k' = k ∧ j' = j)) : flds G (sI M k j s v) k' j' = flds G M k' j' := by
  unfold flds
  apply List.map_congr_left
  intro a _
  exact valC_I (fun q => h ⟨q.1, q.2.1⟩)
theorem cellE_sI {G : GX} {M : Mem} {k j s : Nat} {v : Int32} : ∀ k' j', ¬ (k' = k ∧ j' = j) → cellE G (sI M k j s v) k' j' = cellE G M k' j' := by
  intro k' j' h
  unfold cellE
  rw [flds_sI h, contC_I h]
theorem flds_setI {G : GX} {M : Mem} {k j s : Nat} {v : Int32} (w : Value) (hw : valC (gA G) (sI M k j s v) k j s ((kF k).getD s 0) = w) : (flds G M k j).set s w = flds G (sI M k j s v) k j := by
  apply List.ext_getElem?
  intro n
  rw [List.getElem?_set]
  unfold flds
  by_cases h : s = n
  · subst h
    rw [if_pos rfl, List.length_map, List.length_range, List.getElem?_map]
    by_cases h2 : s < (kF k).length
    · rw [if_pos h2, List.getElem?_range h2]; exact congrArg some hw.symm
    · rw [if_neg h2, List.getElem?_eq_none (by rw [List.length_range]; omega)]; rfl
  · rw [if_neg h, List.getElem?_map, List.getElem?_map]
    cases hn : (List.range (kF k).length)[n]? with
    | none => rfl
    | some a =>
      have ha : a = n := by
        have := (List.getElem?_eq_some_iff.mp hn).2
        rw [List.getElem_range] at this; exact this.symm
      exact congrArg some (valC_I (fun q => h (by omega))).symm
theorem flds_sJ {G : GX} {M : Mem} {k j s k' j' : Nat} {v : Int64} (h : ¬ (k' = k ∧ j' = j)) : flds G (sJ M k j s v) k' j' = flds G M k' j' := by
  unfold flds
  apply List.map_congr_left
  intro a _
  exact valC_J (fun q => h ⟨q.1, q.2.1⟩)
theorem cellE_sJ {G : GX} {M : Mem} {k j s : Nat} {v : Int64} : ∀ k' j', ¬ (k' = k ∧ j' = j) → cellE G (sJ M k j s v) k' j' = cellE G M k' j' := by
  intro k' j' h
  unfold cellE
  rw [flds_sJ h, contC_J h]
theorem flds_setJ {G : GX} {M : Mem} {k j s : Nat} {v : Int64} (w : Value) (hw : valC (gA G) (sJ M k j s v) k j s ((kF k).getD s 0) = w) : (flds G M k j).set s w = flds G (sJ M k j s v) k j := by
  apply List.ext_getElem?
  intro n
  rw [List.getElem?_set]
  unfold flds
  by_cases h : s = n
  · subst h
    rw [if_pos rfl, List.length_map, List.length_range, List.getElem?_map]
    by_cases h2 : s < (kF k).length
    · rw [if_pos h2, List.getElem?_range h2]; exact congrArg some hw.symm
    · rw [if_neg h2, List.getElem?_eq_none (by rw [List.length_range]; omega)]; rfl
  · rw [if_neg h, List.getElem?_map, List.getElem?_map]
    cases hn : (List.range (kF k).length)[n]? with
    | none => rfl
    | some a =>
      have ha : a = n := by
        have := (List.getElem?_eq_some_iff.mp hn).2
        rw [List.getElem_range] at this; exact this.symm
      exact congrArg some (valC_J (fun q => h (by omega))).symm
theorem flds_sR {G : GX} {M : Mem} {k j s k' j' : Nat} {v : Nat} (h : ¬ (k' = k ∧ j' = j)) : flds G (sR M k j s v) k' j' = flds G M k' j' := by
  unfold flds
  apply List.map_congr_left
  intro a _
  exact valC_R (fun q => h ⟨q.1, q.2.1⟩)
theorem cellE_sR {G : GX} {M : Mem} {k j s : Nat} {v : Nat} : ∀ k' j', ¬ (k' = k ∧ j' = j) → cellE G (sR M k j s v) k' j' = cellE G M k' j' := by
  intro k' j' h
  unfold cellE
  rw [flds_sR h, contC_R h]
theorem flds_setR {G : GX} {M : Mem} {k j s : Nat} {v : Nat} (w : Value) (hw : valC (gA G) (sR M k j s v) k j s ((kF k).getD s 0) = w) : (flds G M k j).set s w = flds G (sR M k j s v) k j := by
  apply List.ext_getElem?
  intro n
  rw [List.getElem?_set]
  unfold flds
  by_cases h : s = n
  · subst h
    rw [if_pos rfl, List.length_map, List.length_range, List.getElem?_map]
    by_cases h2 : s < (kF k).length
    · rw [if_pos h2, List.getElem?_range h2]; exact congrArg some hw.symm
    · rw [if_neg h2, List.getElem?_eq_none (by rw [List.length_range]; omega)]; rfl
  · rw [if_neg h, List.getElem?_map, List.getElem?_map]
    cases hn : (List.range (kF k).length)[n]? with
    | none => rfl
    | some a =>
      have ha : a = n := by
        have := (List.getElem?_eq_some_iff.mp hn).2
        rw [List.getElem_range] at this; exact this.symm
      exact congrArg some (valC_R (fun q => h (by omega))).symm
/-! FIELDS: FL own index k s t: the class own's entry 'index' names field s of the objects of kind k, which holds t -/
def FL (own : String) (index k s t : Nat) (C : String) (T : u_T) (ty : Nat → FieldType) (N : Nat) : Prop :=
  (k < 12 ∧ s < N ∧ N = (kF k).length ∧ (kF k).getD s 0 = t) ∧ vwCl[k]? = some (C, T, N) ∧ (∀ w ∈ u_ws C T N, w ∈ gw_tbl) ∧ Cond.fieldLink own index (T s).1 (T s).2.1 (T s).2.2.1 ∈ gw_tbl ∧
  (∀ a, a < N → parseFieldDescriptor (T a).2.2.1 = some (ty a)) ∧ (∀ a, a < N → ∀ b, b < N → a ≠ b → (T a).2.1 ≠ (T b).2.1)
theorem flds_at {G : GX} {M : Mem} {k j s t N : Nat} (h : k < 12 ∧ s < N ∧ N = (kF k).length ∧ (kF k).getD s 0 = t) : (flds G M k j)[s]? = some (valC (gA G) M k j s t) := by
  obtain ⟨-, h2, h3, h4⟩ := h
  unfold flds
  rw [List.getElem?_map, List.getElem?_range (by omega), ← h4]; rfl
theorem cellE_o {G : GX} {M : Mem} {k j : Nat} (h : k < 12) : cellE G M k j = .inr (k, flds G M k j) := if_pos h
theorem cellE_a {G : GX} {M : Mem} {k j t n cd : Nat} (h : (12 ≤ k ∧ k < 42) ∧ kA k = (t, n, cd)) : cellE G M k j = .inl (gC G t, n, contC (gA G) M k j cd) := by
  unfold cellE
  rw [if_neg (by omega), h.2]
theorem gDis {G : GX} (hI : InjG G) (M : Mem) (sz : Nat) : va_D (gPool G sz) (wsM G M) := by
  refine ⟨fun i j p q hi hj e => ?_, fun k q hk => ?_⟩
  · unfold wsM at hi hj
    rw [List.getElem?_map] at hi hj
    cases h1 : PL[i]? with
    | none => rw [h1] at hi; cases hi
    | some a =>
      cases h2 : PL[j]? with
      | none => rw [h2] at hj; cases hj
      | some b =>
        rw [h1] at hi; rw [h2] at hj
        cases hi; cases hj
        obtain ⟨e1, e2⟩ := hI a.1 a.2 b.1 b.2 (List.mem_of_getElem? h1) (List.mem_of_getElem? h2) e
        have hab : a = b := Prod.ext e1 e2
        subst hab
        exact nd_inj PL_nodup h1 h2
  · unfold wsM at hk
    rw [List.getElem?_map] at hk
    cases h1 : PL[k]? with
    | none => rw [h1] at hk; cases hk
    | some a =>
      rw [h1] at hk; cases hk
      exact Or.inl ⟨a.1, a.2, List.mem_of_getElem? h1, rfl⟩
theorem gSub {G : GX} {a b : Nat} (h : a ≤ b) : ∀ q, gPool G b q → gPool G a q := fun q hq => hq.elim Or.inl (fun h2 => Or.inr (Nat.le_trans h h2))
section HEAP
variable {G : GX} {I : MIx} {Post : Option AV → Mem → Prop} {pc : Nat} {ls : List (Option AV)} {st : List AV} {M : Mem} {C : String} {T : u_T} {ty : Nat → FieldType} {N : Nat}
theorem Rn.getI {k j s t index : Nat} (hf : FL I.2.1 index k s (0) C T ty N) {x : Int32} (hv : mI M k j s = x) (hd : decode I.1 pc = .ok (.getfield index, 3)) (k9 : Rn G I Post (pc + 3) ls (vI x :: st) M) : Rn G I Post pc ls (vR k j :: st) M := by
  subst hv
  intro p e s0 m args below meth c hc H locs lsA hP hS hL hM hLs hSt
  have hpl : (k, j) ∈ PL := mem_PL.mpr ⟨by have := hf.1.1; omega, hSt.hd⟩
  obtain ⟨i, -, hi⟩ := wsM_at (G := G) (M := M) hpl
  rw [cellE_o hf.1.1] at hi
  exact va_get (D := gD G) (ci := k) (C := C) (T := T) (N := N) hc.1 hc.2.1 hc.2.2.2.2.2.1 hf.2.2.1 hc.2.2.2.2.1 hc.2.2.2.2.2.2.1 hP i hi hf.2.1 s hf.1.2.1 (hc.2.2.2.2.2.1 _ hf.2.2.2.1) (fun _ h9 => h9) (flds_at hf.1) hd (k9 p e s0 m args below meth c hc H locs lsA hP hS hL hM hLs (hSt.d.I _))
theorem Rn.getJ {k j s t index : Nat} (hf : FL I.2.1 index k s (1) C T ty N) {x : Int64} (hv : mJ M k j s = x) (hd : decode I.1 pc = .ok (.getfield index, 3)) (k9 : Rn G I Post (pc + 3) ls (vJ x :: st) M) : Rn G I Post pc ls (vR k j :: st) M := by
  subst hv
  intro p e s0 m args below meth c hc H locs lsA hP hS hL hM hLs hSt
  have hpl : (k, j) ∈ PL := mem_PL.mpr ⟨by have := hf.1.1; omega, hSt.hd⟩
  obtain ⟨i, -, hi⟩ := wsM_at (G := G) (M := M) hpl
  rw [cellE_o hf.1.1] at hi
  exact va_get (D := gD G) (ci := k) (C := C) (T := T) (N := N) hc.1 hc.2.1 hc.2.2.2.2.2.1 hf.2.2.1 hc.2.2.2.2.1 hc.2.2.2.2.2.2.1 hP i hi hf.2.1 s hf.1.2.1 (hc.2.2.2.2.2.1 _ hf.2.2.2.1) (fun _ h9 => h9) (flds_at hf.1) hd (k9 p e s0 m args below meth c hc H locs lsA hP hS hL hM hLs (hSt.d.J _))
theorem Rn.getRm {k j s t index : Nat} (hf : FL I.2.1 index k s (t + 2) C T ty N) {x : Nat} (hv : mR M k j s = x) (hd : decode I.1 pc = .ok (.getfield index, 3)) (k9 : Rn G I Post (pc + 3) ls (vR t x :: st) M) : Rn G I Post pc ls (vR k j :: st) M := by
  subst hv
  intro p e s0 m args below meth c hc H locs lsA hP hS hL hM hLs hSt
  have hpl : (k, j) ∈ PL := mem_PL.mpr ⟨by have := hf.1.1; omega, hSt.hd⟩
  obtain ⟨i, -, hi⟩ := wsM_at (G := G) (M := M) hpl
  rw [cellE_o hf.1.1] at hi
  exact va_get (D := gD G) (ci := k) (C := C) (T := T) (N := N) hc.1 hc.2.1 hc.2.2.2.2.2.1 hf.2.2.1 hc.2.2.2.2.1 hc.2.2.2.2.2.2.1 hP i hi hf.2.1 s hf.1.2.1 (hc.2.2.2.2.2.1 _ hf.2.2.2.1) (fun _ h9 => h9) (flds_at hf.1) hd (k9 p e s0 m args below meth c hc H locs lsA hP hS hL hM hLs (okVs.c (hM k j s t hpl (by unfold kLen; rw [if_pos hf.1.1, ← hf.1.2.2.1]; exact hf.1.2.1) (by unfold slotC; rw [if_pos hf.1.1]; exact hf.1.2.2.2)).1 hSt.d))
theorem Rn.getR {k j s t index r : Nat} (hf : FL I.2.1 index k s (t + 2) C T ty N) (hm : mutR k s = false) (hr : fixR k j s = r) (hd : decode I.1 pc = .ok (.getfield index, 3)) (k9 : Rn G I Post (pc + 3) ls (vR t r :: st) M) : Rn G I Post pc ls (vR k j :: st) M := by
  intro p e s0 m args below meth c hc H locs lsA hP hS hL hM hLs hSt
  have hpl : (k, j) ∈ PL := mem_PL.mpr ⟨by have := hf.1.1; omega, hSt.hd⟩
  have hx := (hM k j s t hpl (by unfold kLen; rw [if_pos hf.1.1, ← hf.1.2.2.1]; exact hf.1.2.1) (by unfold slotC; rw [if_pos hf.1.1]; exact hf.1.2.2.2)).2 hm
  exact Rn.getRm hf (hx.trans hr) hd k9 p e s0 m args below meth c hc H locs lsA hP hS hL hM hLs hSt
theorem Rn.putI {k j s t index : Nat} {x : Int32} (hf : FL I.2.1 index k s (0) C T ty N) (hfin : (T s).2.2.2 = false) (hty : ty s = .int) (hd : decode I.1 pc = .ok (.putfield index, 3)) (k9 : Rn G I Post (pc + 3) ls st (sI M k j s x)) : Rn G I Post pc ls (vI x :: vR k j :: st) M := by
  intro p e s0 m args below meth c hc H locs lsA hP hS hL hM hLs hSt
  have hpl : (k, j) ∈ PL := mem_PL.mpr ⟨by have := hf.1.1; omega, hSt.d.hd⟩
  obtain ⟨i, hpi, hi⟩ := wsM_at (G := G) (M := M) hpl
  rw [cellE_o hf.1.1] at hi
  refine va_put (D := gD G) (ci := k) (C := C) (T := T) (N := N) (ty := .int) hc.1 hc.2.1 hc.2.2.2.2.2.1 hf.2.2.1 ty hf.2.2.2.2.1 hf.2.2.2.2.2 hc.2.2.2.2.1 hc.2.2.2.2.2.2.1 hP (gDis hc.2.2.2.2.2.2.2.2.1 M _) hS i hi hf.2.1 s hf.1.2.1 (hc.2.2.2.2.2.1 _ hf.2.2.2.1) (fun _ h9 => h9) hfin (by rw [hf.2.2.2.2.1 s hf.1.2.1, hty]) rfl rfl (by unfold flds; rw [List.length_map, List.length_range, ← hf.1.2.2.1]; exact hf.1.2.1) hd (fun H1 locs1 hP1 _ hS1 => ?_)
  have hset := flds_setI (G := G) (M := M) (k := k) (j := j) (s := s) (v := x) (cv (gA G) (vI x)) (by rw [hf.1.2.2.2]; show Value.int (mI _ _ _ _) = _; rw [mI_sI, if_pos ⟨rfl, rfl, rfl⟩]; rfl)
  have hw := wsM_set (G := G) (M := M) (M' := sI M k j s x) hpi cellE_sI
  rw [cellE_o hf.1.1, ← hset] at hw
  have hP2 : Pw G (sI M k j s x) H1 := by unfold Pw; rw [← hw]; exact hP1
  exact k9 p e s0 m args below meth c hc H1 locs1 lsA hP2 hS1 hL hM hLs hSt.d.d
theorem Rn.putJ {k j s t index : Nat} {x : Int64} (hf : FL I.2.1 index k s (1) C T ty N) (hfin : (T s).2.2.2 = false) (hty : ty s = .long) (hd : decode I.1 pc = .ok (.putfield index, 3)) (k9 : Rn G I Post (pc + 3) ls st (sJ M k j s x)) : Rn G I Post pc ls (vJ x :: vR k j :: st) M := by
  intro p e s0 m args below meth c hc H locs lsA hP hS hL hM hLs hSt
  have hpl : (k, j) ∈ PL := mem_PL.mpr ⟨by have := hf.1.1; omega, hSt.d.hd⟩
  obtain ⟨i, hpi, hi⟩ := wsM_at (G := G) (M := M) hpl
  rw [cellE_o hf.1.1] at hi
  refine va_put (D := gD G) (ci := k) (C := C) (T := T) (N := N) (ty := .long) hc.1 hc.2.1 hc.2.2.2.2.2.1 hf.2.2.1 ty hf.2.2.2.2.1 hf.2.2.2.2.2 hc.2.2.2.2.1 hc.2.2.2.2.2.2.1 hP (gDis hc.2.2.2.2.2.2.2.2.1 M _) hS i hi hf.2.1 s hf.1.2.1 (hc.2.2.2.2.2.1 _ hf.2.2.2.1) (fun _ h9 => h9) hfin (by rw [hf.2.2.2.2.1 s hf.1.2.1, hty]) rfl rfl (by unfold flds; rw [List.length_map, List.length_range, ← hf.1.2.2.1]; exact hf.1.2.1) hd (fun H1 locs1 hP1 _ hS1 => ?_)
  have hset := flds_setJ (G := G) (M := M) (k := k) (j := j) (s := s) (v := x) (cv (gA G) (vJ x)) (by rw [hf.1.2.2.2]; show Value.long (mJ _ _ _ _) = _; rw [mJ_sJ, if_pos ⟨rfl, rfl, rfl⟩]; rfl)
  have hw := wsM_set (G := G) (M := M) (M' := sJ M k j s x) hpi cellE_sJ
  rw [cellE_o hf.1.1, ← hset] at hw
  have hP2 : Pw G (sJ M k j s x) H1 := by unfold Pw; rw [← hw]; exact hP1
  exact k9 p e s0 m args below meth c hc H1 locs1 lsA hP2 hS1 hL hM hLs hSt.d.d
theorem Rn.putR {k j s t index : Nat} {x : Nat} {C9 : String} (hmu : mutR k s = true) (hf : FL I.2.1 index k s (t + 2) C T ty N) (hfin : (T s).2.2.2 = false) (hty : ty s = .object C9) (hd : decode I.1 pc = .ok (.putfield index, 3)) (k9 : Rn G I Post (pc + 3) ls st (sR M k j s x)) : Rn G I Post pc ls (vR t x :: vR k j :: st) M := by
  intro p e s0 m args below meth c hc H locs lsA hP hS hL hM hLs hSt
  have hpl : (k, j) ∈ PL := mem_PL.mpr ⟨by have := hf.1.1; omega, hSt.d.hd⟩
  obtain ⟨i, hpi, hi⟩ := wsM_at (G := G) (M := M) hpl
  rw [cellE_o hf.1.1] at hi
  refine va_put (D := gD G) (ci := k) (C := C) (T := T) (N := N) (ty := .object C9) hc.1 hc.2.1 hc.2.2.2.2.2.1 hf.2.2.1 ty hf.2.2.2.2.1 hf.2.2.2.2.2 hc.2.2.2.2.1 hc.2.2.2.2.2.2.1 hP (gDis hc.2.2.2.2.2.2.2.2.1 M _) hS i hi hf.2.1 s hf.1.2.1 (hc.2.2.2.2.2.1 _ hf.2.2.2.1) (fun _ h9 => h9) hfin (by rw [hf.2.2.2.2.1 s hf.1.2.1, hty]) rfl rfl (by unfold flds; rw [List.length_map, List.length_range, ← hf.1.2.2.1]; exact hf.1.2.1) hd (fun H1 locs1 hP1 _ hS1 => ?_)
  have hset := flds_setR (G := G) (M := M) (k := k) (j := j) (s := s) (v := x) (cv (gA G) (vR t x)) (by rw [hf.1.2.2.2]; show Value.ref (gA G t (mR _ _ _ _)) = _; rw [mR_sR, if_pos ⟨rfl, rfl, rfl⟩]; rfl)
  have hw := wsM_set (G := G) (M := M) (M' := sR M k j s x) hpi cellE_sR
  rw [cellE_o hf.1.1, ← hset] at hw
  have hP2 : Pw G (sR M k j s x) H1 := by unfold Pw; rw [← hw]; exact hP1
  exact k9 p e s0 m args below meth c hc H1 locs1 lsA hP2 hS1 hL (hM.R (by unfold slotC; rw [if_pos hf.1.1]; exact hf.1.2.2.2) hmu hSt.hd) hLs hSt.d.d
theorem Rn.iald {k j n : Nat} {i : Int32} (hk : (12 ≤ k ∧ k < 42) ∧ kA k = (2, n, 0)) (hin : vp_in i n) (hd : decode I.1 pc = .ok (.iaload, 1)) (k9 : Rn G I Post (pc + 1) ls (vI (mI M k j i.toNatClampNeg) :: st) M) : Rn G I Post pc ls (vI i :: vR k j :: st) M := by
  intro p e s0 m args below meth c hc H locs lsA hP hS hL hM hLs hSt
  obtain ⟨q, -, hq⟩ := wsM_at (G := G) (M := M) (mem_PL.mpr ⟨hk.1.2, hSt.d.hd⟩ : (k, j) ∈ PL)
  rw [cellE_a hk] at hq
  exact va_iald (f := fun i => mI M k j i) hc.1 hc.2.1 hc.2.2.2.2.2.2.1 hP q 2 hq (tysG_at G (by decide)) hin hd (k9 p e s0 m args below meth c hc H locs lsA hP hS hL hM hLs (hSt.d.d.I _))
theorem Rn.bald {k j n : Nat} {i : Int32} (hk : (12 ≤ k ∧ k < 42) ∧ kA k = (0, n, 0)) (hin : vp_in i n) (hd : decode I.1 pc = .ok (.baload, 1)) (k9 : Rn G I Post (pc + 1) ls (vI (mI M k j i.toNatClampNeg) :: st) M) : Rn G I Post pc ls (vI i :: vR k j :: st) M := by
  intro p e s0 m args below meth c hc H locs lsA hP hS hL hM hLs hSt
  obtain ⟨q, -, hq⟩ := wsM_at (G := G) (M := M) (mem_PL.mpr ⟨hk.1.2, hSt.d.hd⟩ : (k, j) ∈ PL)
  rw [cellE_a hk] at hq
  exact va_bald (f := fun i => mI M k j i) hc.1 hc.2.1 hc.2.2.2.2.2.2.1 hP q 0 hq (tysG_at G (by decide)) hin hd (k9 p e s0 m args below meth c hc H locs lsA hP hS hL hM hLs (hSt.d.d.I _))
theorem Rn.zald {k j n : Nat} {i : Int32} (hk : (12 ≤ k ∧ k < 42) ∧ kA k = (4, n, 0)) (hin : vp_in i n) (hd : decode I.1 pc = .ok (.baload, 1)) (k9 : Rn G I Post (pc + 1) ls (vI (mI M k j i.toNatClampNeg) :: st) M) : Rn G I Post pc ls (vI i :: vR k j :: st) M := by
  intro p e s0 m args below meth c hc H locs lsA hP hS hL hM hLs hSt
  obtain ⟨q, -, hq⟩ := wsM_at (G := G) (M := M) (mem_PL.mpr ⟨hk.1.2, hSt.d.hd⟩ : (k, j) ∈ PL)
  rw [cellE_a hk] at hq
  exact va_zald (f := fun i => mI M k j i) hc.1 hc.2.1 hc.2.2.2.2.2.2.1 hP q 4 hq (tysG_at G (by decide)) hin hd (k9 p e s0 m args below meth c hc H locs lsA hP hS hL hM hLs (hSt.d.d.I _))
theorem Rn.cald {k j n : Nat} {i : Int32} (hk : (12 ≤ k ∧ k < 42) ∧ kA k = (1, n, 0)) (hin : vp_in i n) (hd : decode I.1 pc = .ok (.caload, 1)) (k9 : Rn G I Post (pc + 1) ls (vI (mI M k j i.toNatClampNeg) :: st) M) : Rn G I Post pc ls (vI i :: vR k j :: st) M := by
  intro p e s0 m args below meth c hc H locs lsA hP hS hL hM hLs hSt
  obtain ⟨q, -, hq⟩ := wsM_at (G := G) (M := M) (mem_PL.mpr ⟨hk.1.2, hSt.d.hd⟩ : (k, j) ∈ PL)
  rw [cellE_a hk] at hq
  exact va_cald (f := fun i => mI M k j i) hc.1 hc.2.1 hc.2.2.2.2.2.2.1 hP q 1 hq (tysG_at G (by decide)) hin hd (k9 p e s0 m args below meth c hc H locs lsA hP hS hL hM hLs (hSt.d.d.I _))
theorem Rn.lald {k j n : Nat} {i : Int32} (hk : (12 ≤ k ∧ k < 42) ∧ kA k = (3, n, 1)) (hin : vp_in i n) (hd : decode I.1 pc = .ok (.laload, 1)) (k9 : Rn G I Post (pc + 1) ls (vJ (mJ M k j i.toNatClampNeg) :: st) M) : Rn G I Post pc ls (vI i :: vR k j :: st) M := by
  intro p e s0 m args below meth c hc H locs lsA hP hS hL hM hLs hSt
  obtain ⟨q, -, hq⟩ := wsM_at (G := G) (M := M) (mem_PL.mpr ⟨hk.1.2, hSt.d.hd⟩ : (k, j) ∈ PL)
  rw [cellE_a hk] at hq
  exact va_lald (f := fun i => mJ M k j i) hc.1 hc.2.1 hc.2.2.2.2.2.2.1 hP q 3 hq (tysG_at G (by decide)) hin hd (k9 p e s0 m args below meth c hc H locs lsA hP hS hL hM hLs (hSt.d.d.J _))
theorem Rn.aald {k j n t t0 : Nat} {i : Int32} (hk : (12 ≤ k ∧ k < 42) ∧ kA k = (t0, n, t + 2)) (ht0 : t0 < 8) (hrf : (tyT t0).isReference = true) (hin : vp_in i n) (hd : decode I.1 pc = .ok (.aaload, 1)) (k9 : Rn G I Post (pc + 1) ls (vR t (mR M k j i.toNatClampNeg) :: st) M) : Rn G I Post pc ls (vI i :: vR k j :: st) M := by
  intro p e s0 m args below meth c hc H locs lsA hP hS hL hM hLs hSt
  have hpl : (k, j) ∈ PL := mem_PL.mpr ⟨hk.1.2, hSt.d.hd⟩
  obtain ⟨q, -, hq⟩ := wsM_at (G := G) (M := M) hpl
  rw [cellE_a hk] at hq
  have hlt : i.toNatClampNeg < n := Nat.not_le.mp fun q => hin (Or.inr q)
  have hcell := hP q _ hq
  exact W.aald (v := .ref (gA G t (mR M k j i.toNatClampNeg))) (ty := tyT t0) hc.1 hc.2.1 hcell ((hc.2.2.2.2.2.2.1.2 t0 _ (tysG_at G ht0)).1 n (fun j9 => va_rf (some (gA G t (mR M k j j9))))) hrf (fun q => by cases q) (by show ¬ (i < 0 ∨ (arrV _ _ _).slots.size ≤ _); rw [arrV_size]; exact hin) (by show (arrV _ _ _).slots[_]? = _; rw [arrV_read _ _ hlt]; rfl) rfl rfl hd (k9 p e s0 m args below meth c hc H locs lsA hP hS hL hM hLs (okVs.c (hM k j _ t hpl (by unfold kLen; rw [if_neg (by omega), hk.2]; exact hlt) (by unfold slotC; rw [if_neg (by omega), hk.2])).1 hSt.d.d))
theorem Rn.alen {k j n t cd : Nat} (hk : (12 ≤ k ∧ k < 42) ∧ kA k = (t, n, cd)) (ht : t < 8) (hd : decode I.1 pc = .ok (.arraylength, 1)) (k9 : Rn G I Post (pc + 1) ls (vI (Int32.ofNat n) :: st) M) : Rn G I Post pc ls (vR k j :: st) M := by
  intro p e s0 m args below meth c hc H locs lsA hP hS hL hM hLs hSt
  obtain ⟨q, -, hq⟩ := wsM_at (G := G) (M := M) (mem_PL.mpr ⟨hk.1.2, hSt.hd⟩ : (k, j) ∈ PL)
  rw [cellE_a hk] at hq
  exact va_alen (v := Int32.ofNat n) hc.1 hc.2.1 hc.2.2.2.2.2.2.1 hP q t hq (tysG_at G ht) rfl hd (k9 p e s0 m args below meth c hc H locs lsA hP hS hL hM hLs (hSt.d.I _))
theorem Rn.iast {k j n : Nat} {i x : Int32} (hk : (12 ≤ k ∧ k < 42) ∧ kA k = (2, n, 0)) (hin : vp_in i n) (hd : decode I.1 pc = .ok (.iastore, 1)) (k9 : Rn G I Post (pc + 1) ls st (sI M k j i.toNatClampNeg x)) : Rn G I Post pc ls (vI x :: vI i :: vR k j :: st) M := by
  intro p e s0 m args below meth c hc H locs lsA hP hS hL hM hLs hSt
  obtain ⟨q, hpi, hq⟩ := wsM_at (G := G) (M := M) (mem_PL.mpr ⟨hk.1.2, hSt.d.d.hd⟩ : (k, j) ∈ PL)
  rw [cellE_a hk] at hq
  refine va_iast (f := fun i => mI M k j i) hc.1 hc.2.1 hc.2.2.2.2.2.2.1 hP (gDis hc.2.2.2.2.2.2.2.2.1 M _) hS q 2 hq (tysG_at G (by decide)) hin hd (fun H1 locs1 hP1 _ hS1 => ?_)
  have hw := wsM_set (G := G) (M := M) (M' := sI M k j i.toNatClampNeg x) hpi cellE_sI
  rw [cellE_a hk] at hw
  have hf : contC (gA G) (sI M k j i.toNatClampNeg x) k j 0 = .inl (upd (fun i => mI M k j i) i.toNatClampNeg x) := by
    show Sum.inl _ = Sum.inl _
    congr 1; funext a
    rw [mI_sI]
    unfold upd
    by_cases h : a = i.toNatClampNeg
    · rw [if_pos ⟨rfl, rfl, h⟩, if_pos h]
    · rw [if_neg (fun q => h q.2.2), if_neg h]
  rw [hf] at hw
  have hP2 : Pw G (sI M k j i.toNatClampNeg x) H1 := by unfold Pw; rw [← hw]; exact hP1
  exact k9 p e s0 m args below meth c hc H1 locs1 lsA hP2 hS1 hL hM hLs hSt.d.d.d
theorem Rn.bast {k j n : Nat} {i x : Int32} (hk : (12 ≤ k ∧ k < 42) ∧ kA k = (0, n, 0)) (hin : vp_in i n) (hd : decode I.1 pc = .ok (.bastore, 1)) (k9 : Rn G I Post (pc + 1) ls st (sI M k j i.toNatClampNeg (vp_nar .byte x))) : Rn G I Post pc ls (vI x :: vI i :: vR k j :: st) M := by
  intro p e s0 m args below meth c hc H locs lsA hP hS hL hM hLs hSt
  obtain ⟨q, hpi, hq⟩ := wsM_at (G := G) (M := M) (mem_PL.mpr ⟨hk.1.2, hSt.d.d.hd⟩ : (k, j) ∈ PL)
  rw [cellE_a hk] at hq
  refine va_bast (f := fun i => mI M k j i) hc.1 hc.2.1 hc.2.2.2.2.2.2.1 hP (gDis hc.2.2.2.2.2.2.2.2.1 M _) hS q 0 hq (tysG_at G (by decide)) hin hd (fun H1 locs1 hP1 _ hS1 => ?_)
  have hw := wsM_set (G := G) (M := M) (M' := sI M k j i.toNatClampNeg (vp_nar .byte x)) hpi cellE_sI
  rw [cellE_a hk] at hw
  have hf : contC (gA G) (sI M k j i.toNatClampNeg (vp_nar .byte x)) k j 0 = .inl (upd (fun i => mI M k j i) i.toNatClampNeg (vp_nar .byte x)) := by
    show Sum.inl _ = Sum.inl _
    congr 1; funext a
    rw [mI_sI]
    unfold upd
    by_cases h : a = i.toNatClampNeg
    · rw [if_pos ⟨rfl, rfl, h⟩, if_pos h]
    · rw [if_neg (fun q => h q.2.2), if_neg h]
  rw [hf] at hw
  have hP2 : Pw G (sI M k j i.toNatClampNeg (vp_nar .byte x)) H1 := by unfold Pw; rw [← hw]; exact hP1
  exact k9 p e s0 m args below meth c hc H1 locs1 lsA hP2 hS1 hL hM hLs hSt.d.d.d
theorem Rn.zast {k j n : Nat} {i x : Int32} (hk : (12 ≤ k ∧ k < 42) ∧ kA k = (4, n, 0)) (hin : vp_in i n) (hd : decode I.1 pc = .ok (.bastore, 1)) (k9 : Rn G I Post (pc + 1) ls st (sI M k j i.toNatClampNeg (vp_nar .boolean x))) : Rn G I Post pc ls (vI x :: vI i :: vR k j :: st) M := by
  intro p e s0 m args below meth c hc H locs lsA hP hS hL hM hLs hSt
  obtain ⟨q, hpi, hq⟩ := wsM_at (G := G) (M := M) (mem_PL.mpr ⟨hk.1.2, hSt.d.d.hd⟩ : (k, j) ∈ PL)
  rw [cellE_a hk] at hq
  refine va_zast (f := fun i => mI M k j i) hc.1 hc.2.1 hc.2.2.2.2.2.2.1 hP (gDis hc.2.2.2.2.2.2.2.2.1 M _) hS q 4 hq (tysG_at G (by decide)) hin hd (fun H1 locs1 hP1 _ hS1 => ?_)
  have hw := wsM_set (G := G) (M := M) (M' := sI M k j i.toNatClampNeg (vp_nar .boolean x)) hpi cellE_sI
  rw [cellE_a hk] at hw
  have hf : contC (gA G) (sI M k j i.toNatClampNeg (vp_nar .boolean x)) k j 0 = .inl (upd (fun i => mI M k j i) i.toNatClampNeg (vp_nar .boolean x)) := by
    show Sum.inl _ = Sum.inl _
    congr 1; funext a
    rw [mI_sI]
    unfold upd
    by_cases h : a = i.toNatClampNeg
    · rw [if_pos ⟨rfl, rfl, h⟩, if_pos h]
    · rw [if_neg (fun q => h q.2.2), if_neg h]
  rw [hf] at hw
  have hP2 : Pw G (sI M k j i.toNatClampNeg (vp_nar .boolean x)) H1 := by unfold Pw; rw [← hw]; exact hP1
  exact k9 p e s0 m args below meth c hc H1 locs1 lsA hP2 hS1 hL hM hLs hSt.d.d.d
theorem Rn.cast {k j n : Nat} {i x : Int32} (hk : (12 ≤ k ∧ k < 42) ∧ kA k = (1, n, 0)) (hin : vp_in i n) (hd : decode I.1 pc = .ok (.castore, 1)) (k9 : Rn G I Post (pc + 1) ls st (sI M k j i.toNatClampNeg (vp_nar .char x))) : Rn G I Post pc ls (vI x :: vI i :: vR k j :: st) M := by
  intro p e s0 m args below meth c hc H locs lsA hP hS hL hM hLs hSt
  obtain ⟨q, hpi, hq⟩ := wsM_at (G := G) (M := M) (mem_PL.mpr ⟨hk.1.2, hSt.d.d.hd⟩ : (k, j) ∈ PL)
  rw [cellE_a hk] at hq
  refine va_cast (f := fun i => mI M k j i) hc.1 hc.2.1 hc.2.2.2.2.2.2.1 hP (gDis hc.2.2.2.2.2.2.2.2.1 M _) hS q 1 hq (tysG_at G (by decide)) hin hd (fun H1 locs1 hP1 _ hS1 => ?_)
  have hw := wsM_set (G := G) (M := M) (M' := sI M k j i.toNatClampNeg (vp_nar .char x)) hpi cellE_sI
  rw [cellE_a hk] at hw
  have hf : contC (gA G) (sI M k j i.toNatClampNeg (vp_nar .char x)) k j 0 = .inl (upd (fun i => mI M k j i) i.toNatClampNeg (vp_nar .char x)) := by
    show Sum.inl _ = Sum.inl _
    congr 1; funext a
    rw [mI_sI]
    unfold upd
    by_cases h : a = i.toNatClampNeg
    · rw [if_pos ⟨rfl, rfl, h⟩, if_pos h]
    · rw [if_neg (fun q => h q.2.2), if_neg h]
  rw [hf] at hw
  have hP2 : Pw G (sI M k j i.toNatClampNeg (vp_nar .char x)) H1 := by unfold Pw; rw [← hw]; exact hP1
  exact k9 p e s0 m args below meth c hc H1 locs1 lsA hP2 hS1 hL hM hLs hSt.d.d.d
theorem Rn.last {k j n : Nat} {i : Int32} {x : Int64} (hk : (12 ≤ k ∧ k < 42) ∧ kA k = (3, n, 1)) (hin : vp_in i n) (hd : decode I.1 pc = .ok (.lastore, 1)) (k9 : Rn G I Post (pc + 1) ls st (sJ M k j i.toNatClampNeg x)) : Rn G I Post pc ls (vJ x :: vI i :: vR k j :: st) M := by
  intro p e s0 m args below meth c hc H locs lsA hP hS hL hM hLs hSt
  obtain ⟨q, hpi, hq⟩ := wsM_at (G := G) (M := M) (mem_PL.mpr ⟨hk.1.2, hSt.d.d.hd⟩ : (k, j) ∈ PL)
  rw [cellE_a hk] at hq
  refine va_last (f := fun i => mJ M k j i) hc.1 hc.2.1 hc.2.2.2.2.2.2.1 hP (gDis hc.2.2.2.2.2.2.2.2.1 M _) hS q 3 hq (tysG_at G (by decide)) hin hd (fun H1 locs1 hP1 _ hS1 => ?_)
  have hw := wsM_set (G := G) (M := M) (M' := sJ M k j i.toNatClampNeg x) hpi cellE_sJ
  rw [cellE_a hk] at hw
  have hf : contC (gA G) (sJ M k j i.toNatClampNeg x) k j 1 = .inr (.inl (vp_updL (fun i => mJ M k j i) i.toNatClampNeg x)) := by
    show Sum.inr (Sum.inl _) = Sum.inr (Sum.inl _)
    congr 2; funext a
    rw [mJ_sJ]
    unfold vp_updL
    by_cases h : a = i.toNatClampNeg
    · rw [if_pos ⟨rfl, rfl, h⟩, if_pos h]
    · rw [if_neg (fun q => h q.2.2), if_neg h]
  rw [hf] at hw
  have hP2 : Pw G (sJ M k j i.toNatClampNeg x) H1 := by unfold Pw; rw [← hw]; exact hP1
  exact k9 p e s0 m args below meth c hc H1 locs1 lsA hP2 hS1 hL hM hLs hSt.d.d.d
/-! RETURNS -/
theorem Rn.iret {x : Int32} (hr : I.2.2.2.1 = some .int) (hd : decode I.1 pc = .ok (.ireturn, 1)) (hp : Post (some (vI x)) M) : Rn G I Post pc ls [vI x] M := by
  intro p e s0 m args below meth c hc H locs lsA hP hS hL hM hLs hSt
  exact W.iret (v := x) hc.1 hc.2.1 (hc.2.2.2.1.trans hr) (fun t ht hW => ⟨⟨some (vI x), M, rfl, hp, fun v h => by cases h; exact trivial, hM, by rw [ht]; exact hP⟩, hS.F ht⟩) hS.2.2 hd hc.2.2.2.2.2.2.2.1
theorem Rn.zret {x : Int32} {ty0 : FieldType} (hr : I.2.2.2.1 = some ty0) (hn : narrow ty0 (.int x) = .int x) (hd : decode I.1 pc = .ok (.ireturn, 1)) (hp : Post (some (vI x)) M) : Rn G I Post pc ls [vI x] M := by
  intro p e s0 m args below meth c hc H locs lsA hP hS hL hM hLs hSt
  exact W.zret (v := x) hc.1 hc.2.1 (hc.2.2.2.1.trans hr) hn (fun t ht hW => ⟨⟨some (vI x), M, rfl, hp, fun v h => by cases h; exact trivial, hM, by rw [ht]; exact hP⟩, hS.F ht⟩) hS.2.2 hd hc.2.2.2.2.2.2.2.1
theorem Rn.vret (hr : I.2.2.2.1 = none) (hd : decode I.1 pc = .ok (.return_, 1)) (hp : Post none M) : Rn G I Post pc ls [] M := by
  intro p e s0 m args below meth c hc H locs lsA hP hS hL hM hLs hSt
  exact W.vret hc.1 hc.2.1 (hc.2.2.2.1.trans hr) (fun t ht hW => ⟨⟨none, M, rfl, hp, (fun v h => nomatch h), hM, by rw [ht]; exact hP⟩, hS.F ht⟩) hS.2.2 hd hc.2.2.2.2.2.2.2.1
theorem Rn.lret {x : Int64} (hr : I.2.2.2.1 = some .long) (hd : decode I.1 pc = .ok (.lreturn, 1)) (hp : Post (some (vJ x)) M) : Rn G I Post pc ls [vJ x] M := by
  intro p e s0 m args below meth c hc H locs lsA hP hS hL hM hLs hSt
  exact W.lret (v := x) hc.1 hc.2.1 (hc.2.2.2.1.trans hr) (fun t ht hW => ⟨⟨some (vJ x), M, rfl, hp, fun v h => by cases h; exact trivial, hM, by rw [ht]; exact hP⟩, hS.F ht⟩) hS.2.2 hd hc.2.2.2.2.2.2.2.1
theorem Rn.aret {v : AV} {Cn : String} (hv : v = vN ∨ ∃ k j, v = vR k j) (hr : I.2.2.2.1 = some (.object Cn)) (hd : decode I.1 pc = .ok (.areturn, 1)) (hp : Post (some v) M) : Rn G I Post pc ls [v] M := by
  intro p e s0 m args below meth c hc H locs lsA hP hS hL hM hLs hSt
  exact W.aret (v := cv (gA G) v) hc.1 hc.2.1 (hc.2.2.2.1.trans hr) (Or.inl ⟨Cn, rfl⟩) (by rcases hv with rfl | ⟨k, j, rfl⟩; exact Or.inl rfl; exact Or.inr ⟨_, rfl⟩) (fun t ht hW => ⟨⟨some v, M, rfl, hp, fun v' h => by cases h; exact hSt.hd, hM, by rw [ht]; exact hP⟩, hS.F ht⟩) hS.2.2 hd hc.2.2.2.2.2.2.2.1

theorem Rn.ialdN {k j n e9 : Nat} {x : Int32} (hk : (12 ≤ k ∧ k < 42) ∧ kA k = (2, n, 0)) (he : e9 < n) (hn : n < 2 ^ 31) (hv : mI M k j e9 = x) (hd : decode I.1 pc = .ok (.iaload, 1)) (k9 : Rn G I Post (pc + 1) ls (vI x :: st) M) : Rn G I Post pc ls (vI (nI e9) :: vR k j :: st) M := Rn.iald hk (vp_in_nI he hn) hd (by rw [nI_clamp (by omega), hv]; exact k9)
theorem Rn.baldN {k j n e9 : Nat} {x : Int32} (hk : (12 ≤ k ∧ k < 42) ∧ kA k = (0, n, 0)) (he : e9 < n) (hn : n < 2 ^ 31) (hv : mI M k j e9 = x) (hd : decode I.1 pc = .ok (.baload, 1)) (k9 : Rn G I Post (pc + 1) ls (vI x :: st) M) : Rn G I Post pc ls (vI (nI e9) :: vR k j :: st) M := Rn.bald hk (vp_in_nI he hn) hd (by rw [nI_clamp (by omega), hv]; exact k9)
theorem Rn.zaldN {k j n e9 : Nat} {x : Int32} (hk : (12 ≤ k ∧ k < 42) ∧ kA k = (4, n, 0)) (he : e9 < n) (hn : n < 2 ^ 31) (hv : mI M k j e9 = x) (hd : decode I.1 pc = .ok (.baload, 1)) (k9 : Rn G I Post (pc + 1) ls (vI x :: st) M) : Rn G I Post pc ls (vI (nI e9) :: vR k j :: st) M := Rn.zald hk (vp_in_nI he hn) hd (by rw [nI_clamp (by omega), hv]; exact k9)
theorem Rn.caldN {k j n e9 : Nat} {x : Int32} (hk : (12 ≤ k ∧ k < 42) ∧ kA k = (1, n, 0)) (he : e9 < n) (hn : n < 2 ^ 31) (hv : mI M k j e9 = x) (hd : decode I.1 pc = .ok (.caload, 1)) (k9 : Rn G I Post (pc + 1) ls (vI x :: st) M) : Rn G I Post pc ls (vI (nI e9) :: vR k j :: st) M := Rn.cald hk (vp_in_nI he hn) hd (by rw [nI_clamp (by omega), hv]; exact k9)
theorem Rn.laldN {k j n e9 : Nat} {x : Int64} (hk : (12 ≤ k ∧ k < 42) ∧ kA k = (3, n, 1)) (he : e9 < n) (hn : n < 2 ^ 31) (hv : mJ M k j e9 = x) (hd : decode I.1 pc = .ok (.laload, 1)) (k9 : Rn G I Post (pc + 1) ls (vJ x :: st) M) : Rn G I Post pc ls (vI (nI e9) :: vR k j :: st) M := Rn.lald hk (vp_in_nI he hn) hd (by rw [nI_clamp (by omega), hv]; exact k9)
theorem Rn.aaldN {k j n t t0 e9 r : Nat} (hk : (12 ≤ k ∧ k < 42) ∧ kA k = (t0, n, t + 2)) (ht0 : t0 < 8) (hrf : (tyT t0).isReference = true) (he : e9 < n) (hn : n < 2 ^ 31) (hr : fixR k j e9 = r) (hd : decode I.1 pc = .ok (.aaload, 1)) (k9 : Rn G I Post (pc + 1) ls (vR t r :: st) M) : Rn G I Post pc ls (vI (nI e9) :: vR k j :: st) M := by
  intro p e s0 m args below meth c hc H locs lsA hP hS hL hM hLs hSt
  have hpl : (k, j) ∈ PL := mem_PL.mpr ⟨hk.1.2, hSt.d.hd⟩
  have hmu : mutR k e9 = false := by
    have h1 : (k == 10) = false := by rw [beq_eq_false_iff_ne]; omega
    have h2 : (k == 6) = false := by rw [beq_eq_false_iff_ne]; omega
    unfold mutR; rw [h1, h2]; rfl
  have hx := (hM k j e9 t hpl (by unfold kLen; rw [if_neg (by omega), hk.2]; exact he) (by unfold slotC; rw [if_neg (by omega), hk.2])).2 hmu
  refine Rn.aald hk ht0 hrf (vp_in_nI he hn) hd ?_ p e s0 m args below meth c hc H locs lsA hP hS hL hM hLs hSt
  rw [nI_clamp (by omega), hx, hr]
  exact k9
theorem Rn.iastN {k j n e9 : Nat} {x : Int32} (hk : (12 ≤ k ∧ k < 42) ∧ kA k = (2, n, 0)) (he : e9 < n) (hn : n < 2 ^ 31) (hd : decode I.1 pc = .ok (.iastore, 1)) (k9 : Rn G I Post (pc + 1) ls st (sI M k j e9 x)) : Rn G I Post pc ls (vI x :: vI (nI e9) :: vR k j :: st) M := Rn.iast hk (vp_in_nI he hn) hd (by rw [nI_clamp (by omega)]; exact k9)
theorem Rn.bastN {k j n e9 : Nat} {x z : Int32} (hk : (12 ≤ k ∧ k < 42) ∧ kA k = (0, n, 0)) (he : e9 < n) (hn : n < 2 ^ 31) (hz : vp_nar .byte x = z) (hd : decode I.1 pc = .ok (.bastore, 1)) (k9 : Rn G I Post (pc + 1) ls st (sI M k j e9 z)) : Rn G I Post pc ls (vI x :: vI (nI e9) :: vR k j :: st) M := Rn.bast hk (vp_in_nI he hn) hd (by rw [nI_clamp (by omega), hz]; exact k9)
theorem Rn.zastN {k j n e9 : Nat} {x z : Int32} (hk : (12 ≤ k ∧ k < 42) ∧ kA k = (4, n, 0)) (he : e9 < n) (hn : n < 2 ^ 31) (hz : vp_nar .boolean x = z) (hd : decode I.1 pc = .ok (.bastore, 1)) (k9 : Rn G I Post (pc + 1) ls st (sI M k j e9 z)) : Rn G I Post pc ls (vI x :: vI (nI e9) :: vR k j :: st) M := Rn.zast hk (vp_in_nI he hn) hd (by rw [nI_clamp (by omega), hz]; exact k9)
theorem Rn.castN {k j n e9 : Nat} {x z : Int32} (hk : (12 ≤ k ∧ k < 42) ∧ kA k = (1, n, 0)) (he : e9 < n) (hn : n < 2 ^ 31) (hz : vp_nar .char x = z) (hd : decode I.1 pc = .ok (.castore, 1)) (k9 : Rn G I Post (pc + 1) ls st (sI M k j e9 z)) : Rn G I Post pc ls (vI x :: vI (nI e9) :: vR k j :: st) M := Rn.cast hk (vp_in_nI he hn) hd (by rw [nI_clamp (by omega), hz]; exact k9)
theorem Rn.lastN {k j n e9 : Nat} {x : Int64} (hk : (12 ≤ k ∧ k < 42) ∧ kA k = (3, n, 1)) (he : e9 < n) (hn : n < 2 ^ 31) (hd : decode I.1 pc = .ok (.lastore, 1)) (k9 : Rn G I Post (pc + 1) ls st (sJ M k j e9 x)) : Rn G I Post pc ls (vJ x :: vI (nI e9) :: vR k j :: st) M := Rn.last hk (vp_in_nI he hn) hd (by rw [nI_clamp (by omega)]; exact k9)
end HEAP
