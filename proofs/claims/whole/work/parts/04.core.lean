/-! WORDS: the good ones of the tables, the same for every method -/
def gw_tbl : List Cond := lw_tbl.filter goodWord
theorem gw_in {w : Cond} (i : Nat) (h : lw_tbl[i]? = some w) (hg : goodWord w = true) : w ∈ gw_tbl := List.mem_filter.mpr ⟨List.mem_of_getElem? h, hg⟩
theorem gw_mem {w : Cond} (h : w ∈ lw_tbl) (hg : goodWord w = true) : w ∈ gw_tbl := List.mem_filter.mpr ⟨h, hg⟩
theorem gw_all {ws : List Cond} (h : ∀ w ∈ ws, w ∈ lw_tbl) (hg : ws.all goodWord = true) : ∀ w ∈ ws, w ∈ gw_tbl := fun w hw => gw_mem (h w hw) (List.all_eq_true.mp hg w hw)
/-! ABSTRACT VALUES: a number, a long, a cell by its kind and its number there, null -/
abbrev AV : Type := Int32 ⊕ Int64 ⊕ Option (Nat × Nat)
abbrev vI (x : Int32) : AV := Sum.inl x
abbrev vJ (x : Int64) : AV := Sum.inr (Sum.inl x)
abbrev vR (k j : Nat) : AV := Sum.inr (Sum.inr (some (k, j)))
abbrev vN : AV := Sum.inr (Sum.inr none)
def cv (ad : Nat → Nat → Nat) : AV → Value
  | Sum.inl x => .int x
  | Sum.inr (Sum.inl x) => .long x
  | Sum.inr (Sum.inr (some (k, j))) => .ref (ad k j)
  | Sum.inr (Sum.inr none) => .null
/-! MEMORY: what int-like, long and reference slots hold; by kind, number, slot; a reference by the number of its target, whose kind is fixed -/
abbrev Mem : Type := (Nat → Nat → Nat → Int32) × (Nat → Nat → Nat → Int64) × (Nat → Nat → Nat → Nat)
def mI (M : Mem) (k j s : Nat) : Int32 := M.1 k j s
def mJ (M : Mem) (k j s : Nat) : Int64 := M.2.1 k j s
def mR (M : Mem) (k j s : Nat) : Nat := M.2.2 k j s
def up3 {α : Type} (f : Nat → Nat → Nat → α) (k j s : Nat) (v : α) : Nat → Nat → Nat → α := fun k' j' s' => if k' = k ∧ j' = j ∧ s' = s then v else f k' j' s'
def sI (M : Mem) (k j s : Nat) (v : Int32) : Mem := (up3 M.1 k j s v, M.2.1, M.2.2)
def sJ (M : Mem) (k j s : Nat) (v : Int64) : Mem := (M.1, up3 M.2.1 k j s v, M.2.2)
def sR (M : Mem) (k j s : Nat) (v : Nat) : Mem := (M.1, M.2.1, up3 M.2.2 k j s v)
/-! KINDS: 0 .. 11 objects (the classes of vwCl), 12 .. 41 arrays; 50 the enum's array, 51 its constants, 52 texts (not written) -/
def kF : Nat → List Nat
  | 0 => [5, 6, 4]
  | 1 => [0, 0, 0, 0]
  | 2 => [23, 0]
  | 3 => [17, 18, 19, 19, 19, 0]
  | 4 => [20, 20, 22, 0]
  | 5 => [8]
  | 6 => [11, 0, 0, 0, 0]
  | 7 => [16, 0]
  | 8 => [1, 0, 0, 0, 0, 0, 0, 1, 0, 0, 0, 0, 0]
  | 9 => [14, 0]
  | 10 => [11, 15, 7, 3, 2, 2]
  | 11 => [0, 24, 0, 25, 26, 27, 0, 0, 0, 0, 0, 0, 0, 0, 0, 0, 0, 0, 0, 0, 0, 28, 29, 30, 31, 32, 33, 34, 35, 36, 0, 37, 38, 39, 0, 40, 41, 0, 42, 0]
  | _ => []
/-- an array kind: number of its type, length, what a place holds -/
def kA : Nat → Nat × Nat × Nat
  | 12 => (1, 48, 0)
  | 13 => (5, 4, 9)
  | 14 => (6, 24, 10)
  | 15 => (3, 96, 1)
  | 16 => (4, 96, 0)
  | 17 => (2, 96, 0)
  | 18 => (7, 4, 21)
  | 19 => (2, 3, 0)
  | 20 => (2, 4, 0)
  | 21 => (0, 2048, 0)
  | 22 => (1, 48, 0)
  | 23 => (2, 4, 0)
  | 24 => (2, 96, 0)
  | 25 => (1, 4608, 0)
  | 26 => (1, 1152, 0)
  | 27 => (2, 192, 0)
  | 28 => (2, 192, 0)
  | 29 => (2, 192, 0)
  | 30 => (4, 192, 0)
  | 31 => (2, 12, 0)
  | 32 => (2, 12, 0)
  | 33 => (2, 12, 0)
  | 34 => (2, 12288, 0)
  | 35 => (2, 12, 0)
  | 36 => (2, 12, 0)
  | 37 => (2, 2048, 0)
  | 38 => (2, 3, 0)
  | 39 => (1, 6400, 0)
  | 40 => (2, 12, 0)
  | 41 => (3, 1, 1)
  | _ => (0, 0, 0)
def kCnt : Nat → Nat
  | 0 => 2
  | 1 => 1
  | 2 => 2
  | 3 => 2
  | 4 => 2
  | 5 => 1
  | 6 => 1
  | 7 => 4
  | 8 => 96
  | 9 => 2
  | 10 => 1
  | 11 => 1
  | 12 => 2
  | 13 => 1
  | 14 => 4
  | 15 => 2
  | 16 => 2
  | 17 => 6
  | 18 => 4
  | 19 => 16
  | 20 => 2
  | 21 => 2
  | 22 => 1
  | 23 => 1
  | 24 => 1
  | 25 => 1
  | 26 => 1
  | 27 => 1
  | 28 => 1
  | 29 => 1
  | 30 => 1
  | 31 => 1
  | 32 => 1
  | 33 => 1
  | 34 => 1
  | 35 => 1
  | 36 => 1
  | 37 => 1
  | 38 => 1
  | 39 => 1
  | 40 => 1
  | 41 => 1
  | 50 => 1
  | 51 => 49
  | 52 => 60
  | 53 => 60
  | 54 => 1
  | 55 => 1
  | _ => 0
def tyT : Nat → FieldType
  | 0 => .byte
  | 1 => .char
  | 2 => .int
  | 3 => .long
  | 4 => .boolean
  | 5 => .object "ThumbLinker$Source"
  | 6 => .object "ThumbLinker$Statement"
  | _ => .array .int
def PL : List (Nat × Nat) := (List.range 42).flatMap (fun k => (List.range (kCnt k)).map (fun j => (k, j)))
theorem mem_PL {k j : Nat} : (k, j) ∈ PL ↔ k < 42 ∧ j < kCnt k := by
  unfold PL
  simp only [List.mem_flatMap, List.mem_range, List.mem_map, Prod.mk.injEq]
  constructor
  · rintro ⟨a, ha, b, hb, rfl, rfl⟩; exact ⟨ha, hb⟩
  · rintro ⟨h1, h2⟩; exact ⟨k, h1, j, h2, rfl, rfl⟩
theorem PL_nodup : PL.Nodup := by decide +kernel
/-! THE WORLD: launch, classes' numbers and slots, array classes, addresses of cells, addresses of texts' bytes -/
abbrev GX : Type := Launch × va_G × (Nat → ClassId) × (Nat → Nat → Nat) × (Nat × (Nat → Int32))
abbrev gD (G : GX) : va_G := G.2.1
abbrev gC (G : GX) : Nat → ClassId := G.2.2.1
abbrev gA (G : GX) : Nat → Nat → Nat := G.2.2.2.1
abbrev gS (G : GX) : Nat × (Nat → Int32) := G.2.2.2.2
def valC (ad : Nat → Nat → Nat) (M : Mem) (k j s : Nat) : Nat → Value
  | 0 => .int (mI M k j s)
  | 1 => .long (mJ M k j s)
  | t + 2 => .ref (ad t (mR M k j s))
def contC (ad : Nat → Nat → Nat) (M : Mem) (k j : Nat) : Nat → ((Nat → Int32) ⊕ (Nat → Int64) ⊕ (Nat → UInt32) ⊕ (Nat → UInt64) ⊕ (Nat → Option Nat))
  | 0 => .inl (fun i => mI M k j i)
  | 1 => .inr (.inl (fun i => mJ M k j i))
  | t + 2 => .inr (.inr (.inr (.inr (fun i => some (ad t (mR M k j i))))))
def flds (G : GX) (M : Mem) (k j : Nat) : List Value := (List.range (kF k).length).map (fun s => valC (gA G) M k j s ((kF k).getD s 0))
def cellE (G : GX) (M : Mem) (k j : Nat) : va_E := if k < 12 then .inr (k, flds G M k j) else .inl (gC G (kA k).1, (kA k).2.1, contC (gA G) M k j (kA k).2.2)
def wsM (G : GX) (M : Mem) : va_W := PL.map (fun q => (gA G q.1 q.2, cellE G M q.1 q.2))
def tysG (G : GX) : List (ClassId × FieldType) := (List.range 8).map (fun t => (gC G t, tyT t))
theorem tysG_at (G : GX) {t : Nat} (h : t < 8) : (tysG G)[t]? = some (gC G t, tyT t) := by
  unfold tysG
  rw [List.getElem?_map, List.getElem?_range h]; rfl
def InjG (G : GX) : Prop := ∀ k j k' j', (k, j) ∈ PL → (k', j') ∈ PL → gA G k j = gA G k' j' → k = k' ∧ j = j'
def gPool (G : GX) (sz : Nat) : Nat → Prop := fun q => (∃ k j, (k, j) ∈ PL ∧ gA G k j = q) ∨ sz ≤ q
def Pw (G : GX) (M : Mem) (H : Heap) : Prop := va_P (gD G) vwCl (wsM G M) H
/-! VALID VALUES -/
def okV : AV → Prop
  | Sum.inr (Sum.inr (some (k, j))) => j < kCnt k
  | _ => True
def okVs (st : List AV) : Prop := ∀ v ∈ st, okV v
def okLs (ls : List (Option AV)) : Prop := ∀ (i : Nat) (v : AV), ls[i]? = some (some v) → okV v
def okO (r : Option AV) : Prop := ∀ v, r = some v → okV v
def slotC (k s : Nat) : Nat := if k < 12 then (kF k).getD s 0 else (kA k).2.2
def kLen (k : Nat) : Nat := if k < 12 then (kF k).length else (kA k).2.1
/-- the references that change: the linker's two builds, the scanner's line -/
def mutR (k s : Nat) : Bool := (k == 10 && (s == 4 || s == 5)) || (k == 6 && s == 0)
/-- the others: made once -/
def fixR (k j s : Nat) : Nat := match k, s with
  | 0, _ => j
  | 3, 0 => j
  | 3, 1 => j
  | 3, 2 => 3 * j
  | 3, 3 => 3 * j + 1
  | 3, 4 => 3 * j + 2
  | 4, 0 => 2 * j
  | 4, 1 => 2 * j + 1
  | 4, 2 => j
  | 2, 0 => j
  | 7, 0 => j
  | 9, 0 => j
  | 13, m => m
  | 14, i => 24 * j + i
  | 18, i => 4 * j + i
  | _, _ => 0
def okM (M : Mem) : Prop := ∀ k j s t : Nat, (k, j) ∈ PL → s < kLen k → slotC k s = t + 2 → mR M k j s < kCnt t ∧ (mutR k s = false → mR M k j s = fixR k j s)
theorem okVs.I {st : List AV} (h : okVs st) (x : Int32) : okVs (vI x :: st) := fun v hv => (List.mem_cons.mp hv).elim (fun e => by rw [e]; exact trivial) (h v)
theorem okVs.J {st : List AV} (h : okVs st) (x : Int64) : okVs (vJ x :: st) := fun v hv => (List.mem_cons.mp hv).elim (fun e => by rw [e]; exact trivial) (h v)
theorem okVs.d {st : List AV} {a : AV} (h : okVs (a :: st)) : okVs st := fun v hv => h v (List.mem_cons_of_mem _ hv)
theorem okVs.hd {st : List AV} {a : AV} (h : okVs (a :: st)) : okV a := h a List.mem_cons_self
theorem okVs.c {st : List AV} {a : AV} (ha : okV a) (h : okVs st) : okVs (a :: st) := fun v hv => (List.mem_cons.mp hv).elim (fun e => by rw [e]; exact ha) (h v)
theorem okVs.app {st st' : List AV} (h : okVs st) (h' : okVs st') : okVs (st ++ st') := fun v hv => (List.mem_append.mp hv).elim (h v) (h' v)
/-! LOCALS -/
def lvL (ad : Nat → Nat → Nat) : Nat → List (Option AV) → List (Nat × Value)
  | _, [] => []
  | i, none :: t => lvL ad (i + 1) t
  | i, some v :: t => (i, cv ad v) :: lvL ad (i + 1) t
theorem mem_lvL {ad : Nat → Nat → Nat} : ∀ {ls : List (Option AV)} {n : Nat} {q : Nat × Value}, q ∈ lvL ad n ls ↔ ∃ (i : Nat) (v : AV), ls[i]? = some (some v) ∧ q = (n + i, cv ad v)
  | [], n, q => by simp [lvL]
  | none :: t, n, q => by
    rw [lvL, mem_lvL (ls := t)]
    constructor
    · rintro ⟨i, v, h, e⟩; exact ⟨i + 1, v, by simpa using h, by rw [e]; congr 1; omega⟩
    · rintro ⟨i, v, h, e⟩
      cases i with
      | zero => simp at h
      | succ i => exact ⟨i, v, by simpa using h, by rw [e]; congr 1; omega⟩
  | some w :: t, n, q => by
    rw [lvL, List.mem_cons, mem_lvL (ls := t)]
    constructor
    · rintro (e | ⟨i, v, h, e⟩)
      · exact ⟨0, w, rfl, e⟩
      · exact ⟨i + 1, v, by simpa using h, by rw [e]; congr 1; omega⟩
    · rintro ⟨i, v, h, e⟩
      cases i with
      | zero => left; simp at h; rw [e, h]; rfl
      | succ i => right; exact ⟨i, v, by simpa using h, by rw [e]; congr 1; omega⟩
theorem lvAt {ad : Nat → Nat → Nat} {lsA : Array Slot} {nL i : Nat} {ls : List (Option AV)} {v : AV} (h : lv_has lsA nL (lvL ad 0 ls)) (hl : ls[i]? = some (some v)) : lsA[i]? = some (.val (cv ad v)) :=
  h.2.2 (i, cv ad v) (mem_lvL.mpr ⟨i, v, hl, by rw [Nat.zero_add]⟩)
/-- place i isn't the second half of a long -/
def notL (ls : List (Option AV)) : Nat → Bool
  | 0 => true
  | i + 1 => match ls[i]? with
    | some (some (Sum.inr (Sum.inl _))) => false
    | _ => true
theorem cv_cat1 {ad : Nat → Nat → Nat} {v : AV} (h : (cv ad v).category = 2) : ∃ x, v = vJ x := by
  rcases v with x | x | _ | ⟨k, j⟩
  · cases h
  · exact ⟨x, rfl⟩
  · cases h
  · cases h
theorem lvSet1 {ad : Nat → Nat → Nat} {nL i : Nat} {ls : List (Option AV)} {v : AV} (hn : notL ls i = true) :
    ∀ lsA : Array Slot, lv_has lsA nL ((i, cv ad v) :: (lvL ad 0 ls).filter (fun q => !(q.1 == i) && !(q.1 + 1 == i && q.2.category == 2))) → lv_has lsA nL (lvL ad 0 (ls.set i (some v))) := by
  intro lsA h
  refine ⟨h.1, h.2.1, fun q hq => h.2.2 q ?_⟩
  obtain ⟨a, w, ha, rfl⟩ := mem_lvL.mp hq
  rw [List.getElem?_set] at ha
  by_cases hi : i = a
  · subst hi
    rw [if_pos rfl] at ha
    split at ha
    · cases ha; simp
    · cases ha
  · rw [if_neg hi] at ha
    refine List.mem_cons_of_mem _ (List.mem_filter.mpr ⟨mem_lvL.mpr ⟨a, w, ha, rfl⟩, ?_⟩)
    simp only [Nat.zero_add, Bool.and_eq_true, Bool.not_eq_true', Bool.and_eq_false_iff, beq_eq_false_iff_ne, ne_eq]
    refine ⟨fun q => hi q.symm, ?_⟩
    by_cases h2 : a + 1 = i
    · right
      intro hc
      obtain ⟨x, rfl⟩ := cv_cat1 hc
      subst h2
      simp [notL, ha] at hn
    · left; exact h2
theorem lvSet2 {ad : Nat → Nat → Nat} {nL i : Nat} {ls : List (Option AV)} {v : AV} (hn : notL ls i = true) :
    ∀ lsA : Array Slot, lv_has lsA nL ((i, cv ad v) :: (lvL ad 0 ls).filter (fun q => !(q.1 == i) && (!(q.1 == i + 1) && !(q.1 + 1 == i && q.2.category == 2)))) → lv_has lsA nL (lvL ad 0 ((ls.set i (some v)).set (i + 1) none)) := by
  intro lsA h
  refine ⟨h.1, h.2.1, fun q hq => h.2.2 q ?_⟩
  obtain ⟨a, w, ha, rfl⟩ := mem_lvL.mp hq
  rw [List.getElem?_set] at ha
  by_cases h1 : i + 1 = a
  · rw [if_pos h1] at ha
    split at ha <;> cases ha
  · rw [if_neg h1, List.getElem?_set] at ha
    by_cases hi : i = a
    · subst hi
      rw [if_pos rfl] at ha
      split at ha
      · cases ha; simp
      · cases ha
    · rw [if_neg hi] at ha
      refine List.mem_cons_of_mem _ (List.mem_filter.mpr ⟨mem_lvL.mpr ⟨a, w, ha, rfl⟩, ?_⟩)
      simp only [Nat.zero_add, Bool.and_eq_true, Bool.not_eq_true', Bool.and_eq_false_iff, beq_eq_false_iff_ne, ne_eq]
      refine ⟨fun q => hi q.symm, fun q => h1 q.symm, ?_⟩
      by_cases h2 : a + 1 = i
      · right
        intro hc
        obtain ⟨x, rfl⟩ := cv_cat1 hc
        subst h2
        simp [notL, ha] at hn
      · left; exact h2
theorem okLs.set {ls : List (Option AV)} {i : Nat} {v : AV} (h : okLs ls) (hv : okV v) : okLs (ls.set i (some v)) := by
  intro a w ha
  rw [List.getElem?_set] at ha
  split at ha
  · split at ha
    · cases ha; exact hv
    · cases ha
  · exact h a w ha
theorem okLs.set0 {ls : List (Option AV)} {i : Nat} (h : okLs ls) : okLs (ls.set i none) := by
  intro a w ha
  rw [List.getElem?_set] at ha
  split at ha
  · split at ha <;> cases ha
  · exact h a w ha
