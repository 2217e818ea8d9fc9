theorem MetM.post {G : GX} {y : MethodName} {I : MIx} {as : List AV} {M : Mem} {Post Post' : Option AV → Mem → Prop} (h : MetM G y I as M Post) (hp : ∀ r M', Post r M' → Post' r M') : MetM G y I as M Post' := by
  intro h1 h2 sz p e ha hf hg s m args below hs hS hP hK
  obtain ⟨n, o, q1, q2, q3, q4⟩ := h h1 h2 sz p e ha hf hg s m args below hs hS hP hK
  refine ⟨n, o, q1, q2, q3, ?_⟩
  obtain ⟨⟨⟨r, M', e1, e2, e3⟩, e4⟩, e5⟩ := q4
  exact ⟨⟨⟨r, M', e1, hp r M' e2, e3⟩, e4⟩, e5⟩
def NmO (A : CR) (o n : Nat) (L : Nat → Nat) (nf nt : Int32) : Prop := ∃ a e : Nat, nf = nI (o + a) ∧ nt = nI (o + e) ∧ a ≤ e ∧ e ≤ n ∧ isNm L a e = true ∧ rNm A = pkN L a (e - a) ∧ rNP A = a
def StK (A : CR) (s : Nat) (code num : Int32) : Prop :=
  (s = 0 ∧ rK A = 0 ∧ rBy A = nI 0) ∨ (1 ≤ s ∧ s < 4 ∧ rK A = 1 ∧ rNo A = nI (s - 1) ∧ rBy A = nI 0) ∨ (s = 4 ∧ rK A = 2 ∧ rBy A = nI 0) ∨
  (s = 5 ∧ rK A = 3 ∧ rNm A = 0 ∧ num = rNo A ∧ rBy A = nI 4) ∨ (s = 6 ∧ rK A = 3 ∧ rNm A ≠ 0 ∧ num = rNo A ∧ rBy A = nI 4) ∨ (s = 7 ∧ rK A = 4 ∧ num = rNo A ∧ rBy A = nI 1) ∨
  (s = 8 ∧ rK A = 5 ∧ ∃ b, b ≤ 512 ∧ num = nI b ∧ rBy A = nI b) ∨ (s = 9 ∧ rK A = 6 ∧ rBy A = nI 0) ∨ (s = 10 ∧ rK A = 7 ∧ rRe A = 0 ∧ code = rNo A ∧ rBy A = nI 2) ∨
  (s = 11 ∧ rK A = 7 ∧ rRe A = 1 ∧ code = rNo A ∧ rBy A = nI 2) ∨ (s = 12 ∧ rK A = 7 ∧ rRe A = 2 ∧ code = rNo A ∧ rBy A = nI 2) ∨ (s = 13 ∧ rK A = 7 ∧ rRe A = 3 ∧ rNo A = nI 61440 ∧ rBy A = nI 4) ∨ (s = 14 ∧ rK A = 7 ∧ rRe A = 4 ∧ code = rNo A ∧ rBy A = nI 2)
def StO (A : CR) (o n : Nat) (L : Nat → Nat) (r : SR) (sa : Int32) : Prop := ∃ s : Nat, s < 15 ∧ r.1 = nI s ∧ (s ≠ 0 → sa = nI (o + rPl A)) ∧ StK A s r.2.1 r.2.2.1 ∧ ((s = 4 ∨ s = 6 ∨ 11 ≤ s) → NmO A o n L r.2.2.2.1 r.2.2.2.2)
/-- the record A says what the line L of n signs says to the model -/
def RdOK (A : CR) (n : Nat) (L : Nat → Nat) : Prop := ∀ (o : Nat) (r4 : Int32 × Int32 × Int32 × Int32) (fp lt0 : Int32),
  ((rLab A = 0 ∧ (rdR o L n false (nI 0, r4) fp lt0).1.1 = -1 ∧ rdR o L n true (nI 0, r4) fp lt0 = rdR o L n false (nI 0, r4) fp lt0) ∨
   (∃ a e : Nat, (rdR o L n false (nI 0, r4) fp lt0).1.1 = nI (o + a) ∧ (rdR o L n false (nI 0, r4) fp lt0).1.2.1 = nI (o + e) ∧ a ≤ e ∧ e ≤ n ∧ isNm L a e = true ∧ rLab A = pkN L a (e - a) ∧ rLP A = a ∧ a = skp L n 0 ∧ e = wEnd L n (skp L n 0) ∧ (rdR o L n true (nI 0, r4) fp lt0).2.2.2.1 = -2 ∧ (rdR o L n true (nI 0, r4) fp lt0).2.2.2.2 = nI a)) ∧
  (rdR o L n false (nI 0, r4) fp lt0).2.2.2.1 = rFa A ∧ (rFa A ≠ 0 → (rdR o L n false (nI 0, r4) fp lt0).2.2.2.2 = rFP A) ∧
  (rFa A = 0 → StO A o n L (rdR o L n false (nI 0, r4) fp lt0).2.1 (rdR o L n false (nI 0, r4) fp lt0).1.2.2)
def RcOK (A : CR) : Prop := rFa A = 0 → bN A ≤ 512 ∧ rK A ≤ 7 ∧ (rK A = 1 → sN A < 3) ∧ (rK A ≤ 2 → bN A = 0) ∧ (rK A = 3 → bN A = 4) ∧ (rK A = 4 → bN A = 1) ∧ (rK A = 5 → bN A ≤ 512) ∧ (rK A = 7 → rRe A ≤ 4 ∧ bN A = if rRe A = 3 then 4 else 2)
theorem StK.rc {A : CR} {s : Nat} {code num : Int32} (h : StK A s code num) : RcOK A := by
  intro _
  unfold StK at h
  rcases h with h | h | h | h | h | h | h | h | h | h | h | h | h
  · have := bN_n h.2.2 (by decide); refine ⟨?_, ?_, ?_, ?_, ?_, ?_, ?_, ?_⟩ <;> intros <;> omega
  · have := bN_n h.2.2.2.2 (by decide)
    have := sN_n h.2.2.2.1 (by omega)
    refine ⟨?_, ?_, ?_, ?_, ?_, ?_, ?_, ?_⟩ <;> intros <;> omega
  · have := bN_n h.2.2 (by decide); refine ⟨?_, ?_, ?_, ?_, ?_, ?_, ?_, ?_⟩ <;> intros <;> omega
  · have := bN_n h.2.2.2.2 (by decide); refine ⟨?_, ?_, ?_, ?_, ?_, ?_, ?_, ?_⟩ <;> intros <;> omega
  · have := bN_n h.2.2.2.2 (by decide); refine ⟨?_, ?_, ?_, ?_, ?_, ?_, ?_, ?_⟩ <;> intros <;> omega
  · have := bN_n h.2.2.2 (by decide); refine ⟨?_, ?_, ?_, ?_, ?_, ?_, ?_, ?_⟩ <;> intros <;> omega
  · obtain ⟨b, hb, _, hc⟩ := h.2.2
    have := bN_n hc (by omega); refine ⟨?_, ?_, ?_, ?_, ?_, ?_, ?_, ?_⟩ <;> intros <;> omega
  · have := bN_n h.2.2 (by decide); refine ⟨?_, ?_, ?_, ?_, ?_, ?_, ?_, ?_⟩ <;> intros <;> omega
  · have := bN_n h.2.2.2.2 (by decide); refine ⟨?_, ?_, ?_, ?_, ?_, ?_, ?_, fun _ => ⟨?_, ?_⟩⟩ <;> intros <;> (try rw [if_neg (by omega)]) <;> omega
  · have := bN_n h.2.2.2.2 (by decide); refine ⟨?_, ?_, ?_, ?_, ?_, ?_, ?_, fun _ => ⟨?_, ?_⟩⟩ <;> intros <;> (try rw [if_neg (by omega)]) <;> omega
  · have := bN_n h.2.2.2.2 (by decide); refine ⟨?_, ?_, ?_, ?_, ?_, ?_, ?_, fun _ => ⟨?_, ?_⟩⟩ <;> intros <;> (try rw [if_neg (by omega)]) <;> omega
  · have := bN_n h.2.2.2.2 (by decide); refine ⟨?_, ?_, ?_, ?_, ?_, ?_, ?_, fun _ => ⟨?_, ?_⟩⟩ <;> intros <;> (try rw [if_pos (by omega)]) <;> omega
  · have := bN_n h.2.2.2.2 (by decide); refine ⟨?_, ?_, ?_, ?_, ?_, ?_, ?_, fun _ => ⟨?_, ?_⟩⟩ <;> intros <;> (try rw [if_neg (by omega)]) <;> omega
theorem RdOK.rc {A : CR} {n : Nat} {L : Nat → Nat} (h : RdOK A n L) : RcOK A := by
  intro h0
  obtain ⟨s, _, _, _, hk, _⟩ := (h 0 (0, 0, 0, 0) 0 0).2.2.2 h0
  exact hk.rc h0
/-- the model's lines -/
def SrcM (R : Nat → Nat → CR) (cnt : Nat → Nat) (M : Mem) : Prop := ∀ m, m < 4 → mI M 23 0 m = nI (cnt m) ∧ cnt m ≤ 24 ∧ ∀ n, n < cnt m → ∃ q : Nat × (Nat → Nat), StoM (24 * m + n) q M ∧ q.1 ≤ 48 ∧ (∀ i, i < q.1 → 0 < q.2 i ∧ q.2 i < 256) ∧ RdOK (R m n) q.1 q.2
def SLk (k _j s : Nat) : Prop := (k = 11 ∧ ((6 ≤ s ∧ s ≤ 19) ∨ s = 30)) ∨ k = 31 ∨ k = 32 ∨ k = 33 ∨ k = 34 ∨ k = 38 ∨ k = 40 ∨ (k = 26 ∧ s < 576) ∨ ((k = 27 ∨ k = 28 ∨ k = 29 ∨ k = 30) ∧ s < 96)
theorem SrcM.fr {R : Nat → Nat → CR} {cnt : Nat → Nat} {M N : Mem} (h : SrcM R cnt M) (f : Fr SLk M N) : SrcM R cnt N := by
  intro m hm
  obtain ⟨h1, h2, h3⟩ := h m hm
  refine ⟨(f.I (by unfold SLk; omega)).trans h1, h2, fun n hn => ?_⟩
  obtain ⟨q, hs, h4⟩ := h3 n hn
  exact ⟨q, ⟨(f.I (by unfold SLk; omega)).trans hs.1, fun i hi => (f.I (by unfold SLk; omega)).trans (hs.2 i hi)⟩, h4⟩
def SRd (k _j s : Nat) : Prop := k = 11 ∧ 6 ≤ s ∧ s ≤ 18
theorem rd_fr {o l n : Nat} {M : Mem} {lf lt sa : Int32} {r : SR} {s : PS} : Fr SRd M (wS o (stS (rB M l n lf lt sa) r) s) := by
  unfold wS wP stS rB
  refine ((((((((((((((Fr.refl M).sI ?_).sI ?_).sI ?_).sI ?_).sI ?_).sI ?_).sI ?_).sI ?_).sI ?_).sI ?_).sI ?_).sI ?_).sI ?_)
  all_goals exact ⟨rfl, by decide, by decide⟩
def twB (A : CR) (m : Nat) (B : LB) (first : Bool) : Bool := first && (decide (rLab A ≠ 0) && (fnd B m (rLab A)).isSome)
/-- after a line is read -/
def RdP (A : CR) (m l : Nat) (q : Nat × (Nat → Nat)) (tw : Bool) (M' : Mem) : Prop :=
  mI M' 11 0 6 = nI l ∧ (tw = true → mI M' 11 0 9 = -2 ∧ mI M' 11 0 10 = nI (rLP A)) ∧
  (tw = false → mI M' 11 0 9 = rFa A ∧ (rFa A ≠ 0 → mI M' 11 0 10 = rFP A) ∧
    ((rLab A = 0 ∧ mI M' 11 0 11 = -1) ∨ (rLab A ≠ 0 ∧ ∃ a e : Nat, mI M' 11 0 11 = nI (48 * l + a) ∧ mI M' 11 0 12 = nI (48 * l + e) ∧ a ≤ e ∧ e ≤ q.1 ∧ isNm q.2 a e = true ∧ rLab A = pkN q.2 a (e - a))) ∧
    (rFa A = 0 → StO A (48 * l) q.1 q.2 (mI M' 11 0 13, mI M' 11 0 15, mI M' 11 0 16, mI M' 11 0 17, mI M' 11 0 18) (mI M' 11 0 14)))
theorem c_readL (G : GX) {M : Mem} (A : CR) (m n : Nat) (q : Nat × (Nat → Nat)) (B : LB) (first : Bool) (hm : m < 4) (hn : n < 24) (hs : StoM (24 * m + n) q M) (hq : q.1 ≤ 48) (hc : ∀ i, i < q.1 → 0 < q.2 i ∧ q.2 i < 256) (hA : RdOK A q.1 q.2) (hw : LbW B) (hB : LbM 0 B M) (hk : mI M 11 0 19 = nI B.1) (hB9 : B.1 ≤ 96) :
    MetM G yX12_read iX12_read [vR 11 0, vI (nI m), vI (nI n), vI (bI first)] M (fun r M' => r = none ∧ Fr SRd M M' ∧ RdP A m (24 * m + n) q (twB A m B first) M') := by
  refine MetM.post (c_read G (L := q.2) m n q.1 B.1 (24 * m + n) first hm hn rfl hs.1 hq hs.2 hc hk hB9) ?_
  rintro r M' ⟨rfl, rfl⟩
  refine ⟨rfl, rd_fr, ?_⟩
  have h := hA (48 * (24 * m + n)) (srM M).2 (mI M 11 0 10) (mI M 11 0 12)
  have ht : rdR (48 * (24 * m + n)) q.2 q.1 (first && (lfF M (nI m) (tch q.2 (skp q.2 q.1 0) (wEnd q.2 q.1 (skp q.2 q.1 0))) B.1 0).isSome) (nI 0, (srM M).2) (mI M 11 0 10) (mI M 11 0 12) = rdR (48 * (24 * m + n)) q.2 q.1 (twB A m B first) (nI 0, (srM M).2) (mI M 11 0 10) (mI M 11 0 12) := by
    rcases h.1 with h1 | ⟨a, e, h1, h2, h3, h4, h5, h6, h7, h8, h9, h10⟩
    · have key : ∀ b : Bool, rdR (48 * (24 * m + n)) q.2 q.1 b (nI 0, (srM M).2) (mI M 11 0 10) (mI M 11 0 12) = rdR (48 * (24 * m + n)) q.2 q.1 false (nI 0, (srM M).2) (mI M 11 0 10) (mI M 11 0 12) := by
        intro b; cases b
        · rfl
        · exact h1.2.2
      rw [key, key (twB A m B first)]
    · congr 1
      unfold twB
      rw [← h9, ← h8, lf_fnd hm hw hB h5, ← h6, show decide (rLab A ≠ 0) = true from decide_eq_true (by rw [h6]; exact nm_ne0 h5), Bool.true_and]
  rw [ht]
  refine ⟨rfl, fun h1 => ?_, fun h1 => ?_⟩
  · rw [h1]
    rcases h.1 with h2 | ⟨a, e, h2⟩
    · exfalso
      unfold twB at h1
      rw [h2.1] at h1
      simp at h1
    · rw [h2.2.2.2.2.2.2.1]
      exact ⟨h2.2.2.2.2.2.2.2.2.2.1, h2.2.2.2.2.2.2.2.2.2.2⟩
  · rw [h1]
    refine ⟨h.2.1, h.2.2.1, ?_, h.2.2.2⟩
    rcases h.1 with h2 | ⟨a, e, h2, h3, h4, h5, h6, h7, h8⟩
    · exact Or.inl ⟨h2.1, h2.2.1⟩
    · exact Or.inr ⟨by rw [h7]; exact nm_ne0 h6, a, e, h2, h3, h4, h5, h6, h7⟩
/-! THE FIRST PASS'S STATE -/
def Inv1 (σ : S1) (m n : Nat) : Prop := LbW σ.1 ∧ σ.1.1 ≤ 24 * m + n ∧ (∀ s, σ.2.1 s ≤ 1024) ∧ σ.2.2 < 3
theorem er1_0 {A : CR} {m : Nat} {σ : S1} (h : (er1 A m σ).1 = 0) : (rLab A = 0 ∨ fnd σ.1 m (rLab A) = none) ∧ rFa A = 0 ∧ erL A σ.2.2 (zz m σ) = 0 := by
  unfold er1 at h
  by_cases q : rLab A ≠ 0 ∧ (fnd σ.1 m (rLab A)).isSome = true
  · rw [if_pos q] at h; exact absurd (show (-2 : Int32) = 0 from h) (by decide)
  rw [if_neg q] at h
  by_cases q2 : rFa A ≠ 0
  · rw [if_pos q2] at h; exact absurd h q2
  rw [if_neg q2] at h
  refine ⟨?_, Classical.byContradiction q2, h⟩
  by_cases q3 : rLab A = 0
  · exact Or.inl q3
  · right
    cases hf : fnd σ.1 m (rLab A) with
    | none => rfl
    | some k => exact absurd ⟨q3, by rw [hf]; rfl⟩ q
theorem erL_0 {A : CR} {nw z : Nat} (h : erL A nw z = 0) : ¬ badK A nw ∧ ¬ badA A z ∧ z + by1 A z ≤ 1024 := by
  unfold erL at h
  by_cases q : badK A nw
  · rw [if_pos q] at h; exact absurd h (by decide)
  rw [if_neg q] at h
  by_cases q2 : badA A z
  · rw [if_pos q2] at h; exact absurd h (by decide)
  rw [if_neg q2] at h
  by_cases q3 : 1024 < z + by1 A z
  · rw [if_pos q3] at h; exact absurd h (by decide)
  exact ⟨q, q2, by omega⟩
theorem lab1_W {A : CR} {m n : Nat} {σ : S1} (hm : m < 4) (h : Inv1 σ m n) (hf : rLab A = 0 ∨ fnd σ.1 m (rLab A) = none) : LbW (lab1 A m σ) ∧ (lab1 A m σ).1 ≤ 24 * m + (n + 1) := by
  unfold lab1
  obtain ⟨⟨h1, h2⟩, h3, h4, h5⟩ := h
  by_cases q : rLab A = 0
  · rw [if_pos q]; exact ⟨⟨h1, h2⟩, by omega⟩
  · rw [if_neg q]
    have hf2 := fnd_none (hf.resolve_left q)
    refine ⟨⟨fun i hi => ?_, fun i j hi hj e1 e2 => ?_⟩, by dsimp only; omega⟩
    · dsimp only at hi ⊢
      by_cases z : i = σ.1.1
      · rw [if_pos z]; exact ⟨hm, h5, h4 _⟩
      · rw [if_neg z]; exact h1 i (by omega)
    · dsimp only at hi hj e1 e2
      by_cases z : i = σ.1.1 <;> by_cases y : j = σ.1.1
      · omega
      · rw [if_pos z, if_neg y] at e1 e2
        exact absurd ⟨e1.symm, e2.symm⟩ (hf2 j (by omega))
      · rw [if_neg z, if_pos y] at e1 e2
        exact absurd ⟨e1, e2⟩ (hf2 i (by omega))
      · rw [if_neg z, if_neg y] at e1 e2
        exact h2 i j (by omega) (by omega) e1 e2
theorem nx1_inv {A : CR} {m n : Nat} {σ : S1} (hm : m < 4) (hA : RcOK A) (h : Inv1 σ m n) (h0 : (er1 A m σ).1 = 0) : Inv1 (nx1 A m σ) m (n + 1) := by
  obtain ⟨q1, q2, q3⟩ := er1_0 h0
  have hL := lab1_W hm h q1
  have hE := erL_0 q3
  refine ⟨hL.1, hL.2, fun s => ?_, ?_⟩
  · show (if s = 3 * m + σ.2.2 then zz m σ + by1 A (zz m σ) else σ.2.1 s) ≤ 1024
    split
    · exact hE.2.2
    · exact h.2.2.1 s
  · show (if rK A = 1 then sN A else σ.2.2) < 3
    split
    · rename_i z; exact (hA q2).2.2.1 z
    · exact h.2.2.2
theorem st1_inv {R : Nat → Nat → CR} {cnt : Nat → Nat} {m : Nat} (hm : m < 4) (hR : ∀ n, n < cnt m → RcOK (R m n)) (h0 : Inv1 (at1 R cnt m 0) m 0) : ∀ n, n ≤ cnt m → Ok cnt (e1 R cnt) m n → Inv1 (at1 R cnt m n) m n
  | 0, _, _ => h0
  | n + 1, hn, hk => by
    rw [at1_s]
    exact nx1_inv hm (hR n (by omega)) (st1_inv hm hR h0 n (by omega) (hk.le (Or.inr ⟨rfl, by omega⟩))) (hk m n (Or.inr ⟨rfl, by omega⟩) (by omega))
theorem at1_inv {R : Nat → Nat → CR} {cnt : Nat → Nat} (hc : ∀ m, m < 4 → cnt m ≤ 24) (hR : ∀ m n, m < 4 → n < cnt m → RcOK (R m n)) : ∀ (m n : Nat), m < 4 → n ≤ cnt m → Ok cnt (e1 R cnt) m n → Inv1 (at1 R cnt m n) m n
  | 0, n, hm, hn, hk => st1_inv hm (fun n hn => hR 0 n (by omega) hn) ⟨⟨fun i hi => absurd hi (Nat.not_lt_zero i), fun i j hi => absurd hi (Nat.not_lt_zero i)⟩, Nat.le_refl 0, fun s => Nat.zero_le 1024, by show 0 < 3; decide⟩ n hn hk
  | m + 1, n, hm, hn, hk => by
    refine st1_inv hm (fun n hn => hR (m + 1) n hm hn) ?_ n hn hk
    have h9 := at1_inv hc hR m (cnt m) (by omega) (Nat.le_refl _) (fun a b q hb => hk a b (by unfold lx at q ⊢; omega) hb)
    rw [at1_m]
    exact ⟨h9.1, by have := hc m (by omega); have := h9.2.1; dsimp only; omega, h9.2.2.1, by dsimp only; omega⟩
theorem nx1_le {A : CR} {m s : Nat} {σ : S1} : σ.2.1 s ≤ (nx1 A m σ).2.1 s := by
  show σ.2.1 s ≤ (if s = 3 * m + σ.2.2 then zz m σ + by1 A (zz m σ) else σ.2.1 s)
  split
  · rename_i h; rw [h]; exact Nat.le_add_right _ _
  · exact Nat.le_refl _
theorem st1_le {R : Nat → Nat → CR} {cnt : Nat → Nat} {m s n : Nat} : ∀ d, (at1 R cnt m n).2.1 s ≤ (at1 R cnt m (n + d)).2.1 s
  | 0 => Nat.le_refl _
  | d + 1 => Nat.le_trans (st1_le d) (by rw [← Nat.add_assoc, at1_s]; exact nx1_le)
theorem sm1_le {R : Nat → Nat → CR} {cnt : Nat → Nat} {s : Nat} {m : Nat} : ∀ d, (at1 R cnt m 0).2.1 s ≤ (at1 R cnt (m + d) 0).2.1 s
  | 0 => Nat.le_refl _
  | d + 1 => by
    refine Nat.le_trans (sm1_le d) ?_
    rw [← Nat.add_assoc, at1_m]
    have h := st1_le (R := R) (cnt := cnt) (m := m + d) (s := s) (n := 0) (cnt (m + d))
    rw [Nat.zero_add] at h
    exact h
theorem at1_le {R : Nat → Nat → CR} {cnt : Nat → Nat} {s m' n' m n : Nat} (hl : m' < m ∨ (m' = m ∧ n' ≤ n)) (hc : n' ≤ cnt m') : (at1 R cnt m' n').2.1 s ≤ (at1 R cnt m n).2.1 s := by
  rcases hl with h | ⟨rfl, h⟩
  · have h1 := st1_le (R := R) (cnt := cnt) (m := m') (s := s) (n := n') (cnt m' - n')
    rw [show n' + (cnt m' - n') = cnt m' by omega] at h1
    have h2 := sm1_le (R := R) (cnt := cnt) (s := s) (m := m' + 1) (m - (m' + 1))
    rw [show m' + 1 + (m - (m' + 1)) = m by omega] at h2
    have h3 := st1_le (R := R) (cnt := cnt) (m := m) (s := s) (n := 0) n
    rw [Nat.zero_add] at h3
    exact Nat.le_trans h1 (Nat.le_trans h2 h3)
  · have h1 := st1_le (R := R) (cnt := cnt) (m := m') (s := s) (n := n') (n - n')
    rw [show n' + (n - n') = n by omega] at h1
    exact h1
/-- where a line's bytes lie: its section, its offset, how many -/
def pS (R : Nat → Nat → CR) (cnt : Nat → Nat) (m n : Nat) : Nat := 3 * m + (at1 R cnt m n).2.2
def pO (R : Nat → Nat → CR) (cnt : Nat → Nat) (m n : Nat) : Nat := zz m (at1 R cnt m n)
def pB1 (R : Nat → Nat → CR) (cnt : Nat → Nat) (m n : Nat) : Nat := by1 (R m n) (pO R cnt m n)
theorem p_end {R : Nat → Nat → CR} {cnt : Nat → Nat} {m' n' m n : Nat} (hl : lx m' n' m n) (hc : n' < cnt m') : pO R cnt m' n' + pB1 R cnt m' n' ≤ (at1 R cnt m n).2.1 (pS R cnt m' n') := by
  refine Nat.le_trans (Nat.le_of_eq ?_) (at1_le (m' := m') (n' := n' + 1) (by unfold lx at hl; omega) hc)
  rw [at1_s]
  show _ = if pS R cnt m' n' = 3 * m' + (at1 R cnt m' n').2.2 then zz m' (at1 R cnt m' n') + by1 (R m' n') (zz m' (at1 R cnt m' n')) else _
  rw [if_pos (show pS R cnt m' n' = 3 * m' + (at1 R cnt m' n').2.2 from rfl)]
  rfl
theorem p_dis {R : Nat → Nat → CR} {cnt : Nat → Nat} {m' n' m n : Nat} (hl : lx m' n' m n) (hc : n' < cnt m') (hs : pS R cnt m' n' = pS R cnt m n) : pO R cnt m' n' + pB1 R cnt m' n' ≤ pO R cnt m n := by
  have h := p_end (R := R) hl hc
  rw [hs] at h
  exact h
