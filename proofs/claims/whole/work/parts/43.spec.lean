/-! NAMES -/
theorem nm_f {L : Nat → Nat} {a e : Nat} (h : isNm L a e = true) : a < e ∧ e - a ≤ 6 ∧ isLow (L a) = true ∧ ∀ i, i < e - a → isWs (L (a + i)) = true := by
  unfold isNm allWs at h
  simp only [Bool.and_eq_true, decide_eq_true_eq] at h
  refine ⟨by omega, h.1.1.2, h.1.2, fun i hi => ?_⟩
  exact run_all (p := isWs) (L := L) (n := e) (a := a) (by omega) (a + i) (by omega) (by omega)
theorem ws_f {c : Nat} (h : isWs c = true) : 48 ≤ c ∧ c ≤ 122 := by
  unfold isWs isLow isDig at h
  simp only [Bool.or_eq_true, Bool.and_eq_true, decide_eq_true_eq] at h
  omega
theorem pkN_lo {L : Nat → Nat} {a : Nat} : ∀ (m : Nat), (∀ i, i < m + 1 → 1 ≤ L (a + i)) → 256 ^ m ≤ pkN L a (m + 1)
  | 0, h => by have := h 0 (by omega); show 1 ≤ 0 * 256 + L (a + 0); omega
  | m + 1, h => by
    have h1 := pkN_lo m (fun i hi => h i (by omega))
    show 256 ^ (m + 1) ≤ pkN L a (m + 1) * 256 + L (a + (m + 1))
    rw [Nat.pow_succ]
    omega
theorem pkN_eq {L L' : Nat → Nat} {a a' : Nat} : ∀ (m : Nat), (∀ i, i < m → L (a + i) < 256) → (∀ i, i < m → L' (a' + i) < 256) → pkN L a m = pkN L' a' m → ∀ i, i < m → L (a + i) = L' (a' + i)
  | 0, _, _, _, i, h => absurd h (by omega)
  | m + 1, h1, h2, he, i, hi => by
    have e : pkN L a m * 256 + L (a + m) = pkN L' a' m * 256 + L' (a' + m) := he
    have b1 := h1 m (by omega)
    have b2 := h2 m (by omega)
    rcases Nat.lt_or_ge i m with q | q
    · exact pkN_eq m (fun i hi => h1 i (by omega)) (fun i hi => h2 i (by omega)) (by omega) i q
    · rw [show i = m by omega]; omega
theorem pkN_cg {L L' : Nat → Nat} {a a' : Nat} : ∀ (m : Nat), (∀ i, i < m → L (a + i) = L' (a' + i)) → pkN L a m = pkN L' a' m
  | 0, _ => rfl
  | m + 1, h => by
    show pkN L a m * 256 + L (a + m) = pkN L' a' m * 256 + L' (a' + m)
    rw [pkN_cg m (fun i hi => h i (by omega)), h m (by omega)]
theorem nm_len {L L' : Nat → Nat} {a a' m m' : Nat} (h1 : ∀ i, i < m → 1 ≤ L (a + i) ∧ L (a + i) < 256) (h2 : ∀ i, i < m' → 1 ≤ L' (a' + i) ∧ L' (a' + i) < 256) (he : pkN L a m = pkN L' a' m') : m = m' := by
  have key : ∀ {L L' : Nat → Nat} {a a' m m' : Nat}, (∀ i, i < m → 1 ≤ L (a + i) ∧ L (a + i) < 256) → (∀ i, i < m' → 1 ≤ L' (a' + i) ∧ L' (a' + i) < 256) → pkN L a m = pkN L' a' m' → ¬ m < m' := by
    intro L L' a a' m m' h1 h2 he hlt
    obtain ⟨k, rfl⟩ : ∃ k, m' = k + 1 := ⟨m' - 1, by omega⟩
    have b1 := pkN_lt m (fun i hi => (h1 i hi).2)
    have b2 := pkN_lo k (fun i hi => (h2 i hi).1)
    have b3 : 256 ^ m ≤ 256 ^ k := Nat.pow_le_pow_right (by decide) (by omega)
    omega
  have q1 := key h1 h2 he
  have q2 := key h2 h1 he.symm
  omega
theorem nm_b {L : Nat → Nat} {a e : Nat} (h : isNm L a e = true) : ∀ i, i < e - a → 1 ≤ L (a + i) ∧ L (a + i) < 256 := fun i hi => by
  have := ws_f ((nm_f h).2.2.2 i hi); omega
theorem nm_inj {L L' : Nat → Nat} {a a' e e' : Nat} (h : isNm L a e = true) (h' : isNm L' a' e' = true) : (∀ j, j < 6 → tch L a e j = tch L' a' e' j) ↔ pkN L a (e - a) = pkN L' a' (e' - a') := by
  have f := nm_f h
  have f' := nm_f h'
  have b := nm_b h
  have b' := nm_b h'
  constructor
  · intro q
    have hl : e - a = e' - a' := by
      rcases Nat.lt_trichotomy (e - a) (e' - a') with z | z | z
      · have h9 := q (e - a) (by omega)
        unfold tch at h9
        rw [if_neg (by omega), if_pos (by omega)] at h9
        have := b' (e - a) z
        omega
      · exact z
      · have h9 := q (e' - a') (by omega)
        unfold tch at h9
        rw [if_pos (by omega), if_neg (by omega)] at h9
        have := b (e' - a') z
        omega
    rw [← hl]
    refine pkN_cg _ (fun i hi => ?_)
    have h9 := q i (by omega)
    unfold tch at h9
    rw [if_pos (by omega), if_pos (by omega)] at h9
    exact h9
  · intro q
    have hl := nm_len b b' q
    rw [← hl] at q
    have h9 := pkN_eq _ (fun i hi => (b i hi).2) (fun i hi => (b' i (by omega)).2) q
    intro j hj
    unfold tch
    by_cases z : j < e - a
    · rw [if_pos (by omega), if_pos (by omega)]; exact h9 j z
    · rw [if_neg (by omega), if_neg (by omega)]
theorem nm_ne0 {L : Nat → Nat} {a e : Nat} (h : isNm L a e = true) : pkN L a (e - a) ≠ 0 := by
  have f := nm_f h
  have b := nm_b h
  obtain ⟨k, hk⟩ : ∃ k, e - a = k + 1 := ⟨e - a - 1, by omega⟩
  rw [hk]
  have := pkN_lo (L := L) (a := a) k (fun i hi => (b i (by omega)).1)
  have : 0 < 256 ^ k := Nat.pow_pos (by decide)
  omega
theorem tch_lt {L : Nat → Nat} {a e j : Nat} (h : isNm L a e = true) : tch L a e j < 256 := by
  unfold tch
  split
  · have b := nm_b h (j) (by omega); exact b.2
  · decide
/-- the six signs f say the name v -/
def NmA (v : Nat) (f : Nat → Int32) : Prop := ∃ (L : Nat → Nat) (a e : Nat), isNm L a e = true ∧ v = pkN L a (e - a) ∧ ∀ j, j < 6 → f j = nI (tch L a e j)
theorem NmA.cmp {v : Nat} {f : Nat → Int32} (h : NmA v f) {L : Nat → Nat} {a e : Nat} (hn : isNm L a e = true) : (∀ j, j < 6 → f j = nI (tch L a e j)) ↔ v = pkN L a (e - a) := by
  obtain ⟨L', a', e', h', rfl, hf⟩ := h
  rw [← nm_inj h' hn]
  constructor
  · intro q j hj
    have h9 := q j hj
    rw [hf j hj] at h9
    exact (nI_eq (by have := tch_lt (j := j) h'; omega) (by have := tch_lt (j := j) hn; omega)).mp h9
  · intro q j hj
    rw [hf j hj, q j hj]
theorem NmA.ne0 {v : Nat} {f : Nat → Int32} (h : NmA v f) : v ≠ 0 := by
  obtain ⟨L', a', e', h', rfl, hf⟩ := h
  exact nm_ne0 h'
theorem allc_iff {M : Mem} {k : Nat} {T : Nat → Nat} : ∀ (d i : Nat), allc M k T d i = true ↔ ∀ j, i ≤ j → j < i + d → mI M 26 0 (6 * k + j) = nI (T j)
  | 0, i => ⟨fun _ j h1 h2 => absurd h2 (by omega), fun _ => rfl⟩
  | d + 1, i => by
    show (decide (mI M 26 0 (6 * k + i) = nI (T i)) && allc M k T d (i + 1)) = true ↔ _
    rw [Bool.and_eq_true, decide_eq_true_eq, allc_iff d (i + 1)]
    constructor
    · intro q j h1 h2
      rcases Nat.eq_or_lt_of_le h1 with z | z
      · rw [← z]; exact q.1
      · exact q.2 j z (by omega)
    · intro q
      exact ⟨q i (Nat.le_refl i) (by omega), fun j h1 h2 => q j (by omega) (by omega)⟩
/-! LABELS: how many; number ↦ module, section, offset, name -/
abbrev LB : Type := Nat × (Nat → Nat × Nat × Nat × Nat)
def fndF (B : LB) (m v : Nat) : Nat → Nat → Option Nat
  | 0, _ => none
  | d + 1, i => if (B.2 i).1 = m ∧ (B.2 i).2.2.2 = v then some i else fndF B m v d (i + 1)
def fnd (B : LB) (m v : Nat) : Option Nat := fndF B m v B.1 0
def LbR (r : Nat) (B : LB) (M : Mem) (i : Nat) : Prop := mI M 27 0 (r + i) = nI (B.2 i).1 ∧ mI M 28 0 (r + i) = nI (B.2 i).2.1 ∧ mI M 29 0 (r + i) = nI (B.2 i).2.2.1 ∧ NmA (B.2 i).2.2.2 (fun j => mI M 26 0 (6 * (r + i) + j))
def LbM (r : Nat) (B : LB) (M : Mem) : Prop := ∀ i, i < B.1 → LbR r B M i
/-- labels are of modules below 4, in sections below 3, at offsets up to 1024, and no module has a name twice -/
def LbW (B : LB) : Prop := (∀ i, i < B.1 → (B.2 i).1 < 4 ∧ (B.2 i).2.1 < 3 ∧ (B.2 i).2.2.1 ≤ 1024) ∧ ∀ i j, i < B.1 → j < B.1 → (B.2 i).1 = (B.2 j).1 → (B.2 i).2.2.2 = (B.2 j).2.2.2 → i = j
theorem fndF_some {B : LB} {m v : Nat} : ∀ (d i k : Nat), fndF B m v d i = some k → i ≤ k ∧ k < i + d ∧ (B.2 k).1 = m ∧ (B.2 k).2.2.2 = v
  | 0, i, k, h => by cases h
  | d + 1, i, k, h => by
    rw [fndF] at h
    by_cases q : (B.2 i).1 = m ∧ (B.2 i).2.2.2 = v
    · rw [if_pos q] at h; cases h; exact ⟨Nat.le_refl i, by omega, q.1, q.2⟩
    · rw [if_neg q] at h
      have h9 := fndF_some d (i + 1) k h
      exact ⟨by omega, by omega, h9.2.2⟩
theorem fndF_none {B : LB} {m v : Nat} : ∀ (d i : Nat), fndF B m v d i = none → ∀ k, i ≤ k → k < i + d → ¬ ((B.2 k).1 = m ∧ (B.2 k).2.2.2 = v)
  | 0, i, h, k, h1, h2 => absurd h2 (by omega)
  | d + 1, i, h, k, h1, h2 => by
    rw [fndF] at h
    by_cases q : (B.2 i).1 = m ∧ (B.2 i).2.2.2 = v
    · rw [if_pos q] at h; cases h
    · rw [if_neg q] at h
      rcases Nat.eq_or_lt_of_le h1 with z | z
      · rw [← z]; exact q
      · exact fndF_none d (i + 1) h k z (by omega)
theorem fnd_some {B : LB} {m v k : Nat} (h : fnd B m v = some k) : k < B.1 ∧ (B.2 k).1 = m ∧ (B.2 k).2.2.2 = v := by
  have h9 := fndF_some _ _ _ h
  exact ⟨by omega, h9.2.2⟩
theorem fnd_none {B : LB} {m v : Nat} (h : fnd B m v = none) : ∀ k, k < B.1 → ¬ ((B.2 k).1 = m ∧ (B.2 k).2.2.2 = v) := fun k hk => fndF_none _ _ h k (Nat.zero_le k) (by omega)
theorem fnd_eq {B : LB} {m v k : Nat} (hw : LbW B) (hk : k < B.1) (h1 : (B.2 k).1 = m) (h2 : (B.2 k).2.2.2 = v) : fnd B m v = some k := by
  cases h : fnd B m v with
  | none => exact absurd ⟨h1, h2⟩ (fnd_none h k hk)
  | some i =>
    have h9 := fnd_some h
    rw [hw.2 i k h9.1 hk (by rw [h9.2.1, h1]) (by rw [h9.2.2, h2])]
theorem lfF_fnd {B : LB} {M : Mem} {m : Nat} {L : Nat → Nat} {a e : Nat} (hm : m < 4) (hw : ∀ i, i < B.1 → (B.2 i).1 < 4) (hB : LbM 0 B M) (hn : isNm L a e = true) : ∀ (d i : Nat), i + d ≤ B.1 → lfF M (nI m) (tch L a e) d i = fndF B m (pkN L a (e - a)) d i
  | 0, _, _ => rfl
  | d + 1, i, h => by
    rw [lfF, fndF, lfF_fnd hm hw hB hn d (i + 1) (by omega)]
    have hb := hB i (by omega)
    have hc : mtc M (nI m) (tch L a e) i = true ↔ ((B.2 i).1 = m ∧ (B.2 i).2.2.2 = pkN L a (e - a)) := by
      unfold mtc
      rw [Bool.and_eq_true, decide_eq_true_eq, allc_iff]
      have h1 : mI M 27 0 i = nI (B.2 i).1 := by have := hb.1; rwa [Nat.zero_add] at this
      have h2 := hb.2.2.2.cmp hn
      simp only [Nat.zero_add] at h2
      rw [h1, nI_eq (by have := hw i (by omega); omega) (by omega), ← h2]
      constructor
      · intro q; exact ⟨q.1, fun j hj => q.2 j (Nat.zero_le j) (by omega)⟩
      · intro q; exact ⟨q.1, fun j _ hj => q.2 j (by omega)⟩
    by_cases q : mtc M (nI m) (tch L a e) i = true
    · rw [if_pos q, if_pos (hc.mp q)]
    · rw [if_neg q, if_neg (fun z => q (hc.mpr z))]
theorem lf_fnd {B : LB} {M : Mem} {m : Nat} {L : Nat → Nat} {a e : Nat} (hm : m < 4) (hw : LbW B) (hB : LbM 0 B M) (hn : isNm L a e = true) : lfF M (nI m) (tch L a e) B.1 0 = fnd B m (pkN L a (e - a)) := lfF_fnd hm (fun i hi => (hw.1 i hi).1) hB hn B.1 0 (by omega)
/-! RECORDS: label, its place, the statement's place, kind, reach, number, bytes, name, its place, fault, its place -/
abbrev CR : Type := Nat × Nat × Nat × Nat × Nat × Int32 × Int32 × Nat × Nat × Int32 × Int32
def rLab (A : CR) : Nat := A.1
def rLP (A : CR) : Nat := A.2.1
def rPl (A : CR) : Nat := A.2.2.1
def rK (A : CR) : Nat := A.2.2.2.1
def rRe (A : CR) : Nat := A.2.2.2.2.1
def rNo (A : CR) : Int32 := A.2.2.2.2.2.1
def rBy (A : CR) : Int32 := A.2.2.2.2.2.2.1
def rNm (A : CR) : Nat := A.2.2.2.2.2.2.2.1
def rNP (A : CR) : Nat := A.2.2.2.2.2.2.2.2.1
def rFa (A : CR) : Int32 := A.2.2.2.2.2.2.2.2.2.1
def rFP (A : CR) : Int32 := A.2.2.2.2.2.2.2.2.2.2
def bN (A : CR) : Nat := (rBy A).toInt.toNat
def sN (A : CR) : Nat := (rNo A).toInt.toNat
theorem bN_n {A : CR} {b : Nat} (h : rBy A = nI b) (hb : b < 2 ^ 31) : bN A = b := by
  unfold bN; rw [h, nI_toInt hb]; rfl
theorem sN_n {A : CR} {b : Nat} (h : rNo A = nI b) (hb : b < 2 ^ 31) : sN A = b := by
  unfold sN; rw [h, nI_toInt hb]; rfl
/-! THE FIRST PASS: labels, sizes (3 * module + section), the section now -/
abbrev S1 : Type := LB × (Nat → Nat) × Nat
def zz (m : Nat) (σ : S1) : Nat := σ.2.1 (3 * m + σ.2.2)
def lab1 (A : CR) (m : Nat) (σ : S1) : LB := if rLab A = 0 then σ.1 else (σ.1.1 + 1, fun i => if i = σ.1.1 then (m, σ.2.2, zz m σ, rLab A) else σ.1.2 i)
def by1 (A : CR) (z : Nat) : Nat := if rK A = 6 then (4 - z % 4) % 4 else bN A
abbrev badK (A : CR) (nw : Nat) : Prop := ((rK A = 3 ∨ rK A = 4) ∧ nw = 2) ∨ (rK A = 7 ∧ nw ≠ 0)
abbrev badA (A : CR) (z : Nat) : Prop := (rK A = 7 ∧ z % 2 ≠ 0) ∨ (rK A = 3 ∧ z % 4 ≠ 0)
def erL (A : CR) (nw z : Nat) : Int32 := if badK A nw then -5 else if badA A z then -6 else if 1024 < z + by1 A z then -7 else 0
def er1 (A : CR) (m : Nat) (σ : S1) : Int32 × Int32 :=
  if rLab A ≠ 0 ∧ (fnd σ.1 m (rLab A)).isSome = true then (-2, nI (rLP A))
  else if rFa A ≠ 0 then (rFa A, rFP A)
  else (erL A σ.2.2 (zz m σ), nI (rPl A))
def nx1 (A : CR) (m : Nat) (σ : S1) : S1 := (lab1 A m σ, (fun s => if s = 3 * m + σ.2.2 then zz m σ + by1 A (zz m σ) else σ.2.1 s), if rK A = 1 then sN A else σ.2.2)
def st1 (R : Nat → Nat → CR) (m : Nat) (σ : S1) : Nat → S1
  | 0 => σ
  | n + 1 => nx1 (R m n) m (st1 R m σ n)
def sm1 (R : Nat → Nat → CR) (cnt : Nat → Nat) : Nat → S1
  | 0 => ((0, fun _ => (0, 0, 0, 0)), (fun _ => 0), 0)
  | m + 1 => ((st1 R m (sm1 R cnt m) (cnt m)).1, (st1 R m (sm1 R cnt m) (cnt m)).2.1, 0)
def at1 (R : Nat → Nat → CR) (cnt : Nat → Nat) (m n : Nat) : S1 := st1 R m (sm1 R cnt m) n
def lx (m' n' m n : Nat) : Prop := m' < m ∨ (m' = m ∧ n' < n)
/-- every line ahead of line n of module m is fine -/
def Ok (cnt : Nat → Nat) (er : Nat → Nat → Int32 × Int32) (m n : Nat) : Prop := ∀ m' n', lx m' n' m n → n' < cnt m' → (er m' n').1 = 0
/-- the first fault of a pass -/
def FB (cnt : Nat → Nat) (er : Nat → Nat → Int32 × Int32) (r f0 f1 f2 : Int32) : Prop := ∃ m n, m < 4 ∧ n < cnt m ∧ Ok cnt er m n ∧ (er m n).1 ≠ 0 ∧ r = (er m n).1 ∧ f0 = nI m ∧ f1 = nI n ∧ f2 = (er m n).2
theorem FB.uniq {cnt : Nat → Nat} {er : Nat → Nat → Int32 × Int32} {r f0 f1 f2 r' f0' f1' f2' : Int32} (h : FB cnt er r f0 f1 f2) (h' : FB cnt er r' f0' f1' f2') : r = r' ∧ f0 = f0' ∧ f1 = f1' ∧ f2 = f2' := by
  obtain ⟨m, n, h1, h2, h3, h4, h5⟩ := h
  obtain ⟨m', n', g1, g2, g3, g4, g5⟩ := h'
  have e : m = m' ∧ n = n' := by
    by_cases q : lx m n m' n'
    · exact absurd (g3 m n q h2) h4
    by_cases q' : lx m' n' m n
    · exact absurd (h3 m' n' q' g2) g4
    unfold lx at q q'
    omega
  obtain ⟨rfl, rfl⟩ := e
  obtain ⟨rfl, rfl, rfl, rfl⟩ := h5
  obtain ⟨rfl, rfl, rfl, rfl⟩ := g5
  exact ⟨rfl, rfl, rfl, rfl⟩
theorem FB.no {cnt : Nat → Nat} {er : Nat → Nat → Int32 × Int32} {r f0 f1 f2 : Int32} (h : FB cnt er r f0 f1 f2) (h' : Ok cnt er 4 0) : False := by
  obtain ⟨m, n, h1, h2, h3, h4, h5⟩ := h
  exact h4 (h' m n (Or.inl h1) h2)
def e1 (R : Nat → Nat → CR) (cnt : Nat → Nat) (m n : Nat) : Int32 × Int32 := er1 (R m n) m (at1 R cnt m n)
theorem at1_s {R : Nat → Nat → CR} {cnt : Nat → Nat} {m n : Nat} : at1 R cnt m (n + 1) = nx1 (R m n) m (at1 R cnt m n) := rfl
theorem at1_m {R : Nat → Nat → CR} {cnt : Nat → Nat} {m : Nat} : at1 R cnt (m + 1) 0 = ((at1 R cnt m (cnt m)).1, (at1 R cnt m (cnt m)).2.1, 0) := rfl
theorem Ok.s {cnt : Nat → Nat} {er : Nat → Nat → Int32 × Int32} {m n : Nat} (h : Ok cnt er m n) (hn : n < cnt m → (er m n).1 = 0) : Ok cnt er m (n + 1) := by
  intro m' n' q hc
  by_cases e : m' = m ∧ n' = n
  · obtain ⟨rfl, rfl⟩ := e; exact hn hc
  · exact h m' n' (by unfold lx at q ⊢; omega) hc
theorem Ok.m {cnt : Nat → Nat} {er : Nat → Nat → Int32 × Int32} {m : Nat} (h : Ok cnt er m (cnt m)) : Ok cnt er (m + 1) 0 := by
  intro m' n' q hc
  refine h m' n' ?_ hc
  unfold lx at q ⊢
  rcases q with q | q
  · rcases Nat.eq_or_lt_of_le (Nat.le_of_lt_succ q) with z | z
    · subst z; exact Or.inr ⟨rfl, hc⟩
    · exact Or.inl z
  · omega
theorem Ok.le {cnt : Nat → Nat} {er : Nat → Nat → Int32 × Int32} {m n m' n' : Nat} (h : Ok cnt er m n) (hl : lx m' n' m n) : Ok cnt er m' n' := by
  intro a b q hc
  exact h a b (by unfold lx at *; omega) hc
