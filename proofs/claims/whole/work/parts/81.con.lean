/-! CONSTRUCTION: cells open (explicit), and closed (as the first memory says) -/
def mem0 : Mem := (fun k _ s => if k = 38 ∨ (k = 1 ∧ s ≠ 0) then -1 else 0, fun _ _ _ => 0, fun k j s => if k = 10 ∧ s = 5 then 1 else if k = 6 then 1 else fixR k j s)
def dfV : Nat → AV
  | 0 => vI 0
  | 1 => vJ 0
  | _ => vN
def dfC : Nat → Value
  | 0 => .int 0
  | 1 => .long 0
  | _ => .null
def dfs (k : Nat) : List AV := (kF k).map dfV
theorem dfs_cv (ad : Nat → Nat → Nat) (k : Nat) : (dfs k).map (cv ad) = (kF k).map dfC := by
  unfold dfs
  rw [List.map_map]
  apply List.map_congr_left
  intro t _
  rcases t with _ | _ | t <;> rfl
abbrev OCt : Type := List AV ⊕ (Nat → Option (Nat × Nat)) ⊕ (Nat → Int32)
abbrev OC : Type := List ((Nat × Nat) × OCt)
abbrev WP : Type := Nat × Nat × OC
def ocE (G : GX) (k : Nat) : OCt → va_E
  | .inl fs => .inr (k, fs.map (cv (gA G)))
  | .inr (.inl f) => .inl (gC G (kA k).1, (kA k).2.1, .inr (.inr (.inr (.inr (fun i => (f i).map (fun q => gA G q.1 q.2))))))
  | .inr (.inr f) => .inl (gC G (kA k).1, (kA k).2.1, .inl f)
def ocA (G : GX) (x : (Nat × Nat) × OCt) (H : Heap) : Prop := va_at (gD G) vwCl (gA G x.1.1 x.1.2, ocE G x.1.1 x.2) H
def clA (G : GX) (k j : Nat) (H : Heap) : Prop := va_at (gD G) vwCl (gA G k j, cellE G mem0 k j) H
def WA (G : GX) (w : WP) (H : Heap) : Prop :=
  H.size = w.2.1 ∧ w.1 ≤ w.2.1 ∧ (∀ x ∈ w.2.2, x.1 ∈ PL ∧ w.1 ≤ gA G x.1.1 x.1.2 ∧ ocA G x H) ∧ ∀ k j, (k, j) ∈ PL → w.1 ≤ gA G k j → gA G k j < w.2.1 → (∀ x ∈ w.2.2, x.1 ≠ (k, j)) → clA G k j H
theorem at_kept {D : va_G} {cl : List vw_C} {q : Nat × va_E} {H H1 : Heap} (h : va_at D cl q H) (hq : H1[q.1]? = H[q.1]?) : va_at D cl q H1 := h.kept hq
theorem at_lt {D : va_G} {cl : List vw_C} {q : Nat × va_E} {H : Heap} (h : va_at D cl q H) : q.1 < H.size := h.lt
theorem vaP1 {D : va_G} {cl : List vw_C} {x : Nat × va_E} {H : Heap} (h : va_at D cl x H) : va_P D cl [x] H := by
  intro i q hi
  cases i with
  | zero => cases hi; exact h
  | succ i => cases hi
theorem WA.push {G : GX} (hI : InjG G) {lo n k j : Nat} {o : OC} {x : OCt} {H H1 : Heap} (h : WA G (lo, n, o) H) (hk : (k, j) ∈ PL) (ha : gA G k j = n) (z1 : H1.size = n + 1) (o1 : ∀ q, q < n → H1[q]? = H[q]?) (hx : ocA G ((k, j), x) H1) : WA G (lo, n + 1, o ++ [((k, j), x)]) H1 := by
  have hn : H.size = n := h.1
  refine ⟨z1, Nat.le_succ_of_le h.2.1, fun y hy => ?_, fun k' j' hp hl hlt hno => ?_⟩
  · rcases List.mem_append.mp hy with q | q
    · obtain ⟨p1, p2, p3⟩ := h.2.2.1 y q
      exact ⟨p1, p2, at_kept p3 (o1 _ (hn ▸ at_lt p3))⟩
    · rw [List.mem_singleton.mp q]; exact ⟨hk, ha ▸ h.2.1, hx⟩
  · by_cases e : gA G k' j' < n
    · exact at_kept (h.2.2.2 k' j' hp hl e (fun y hy => hno y (List.mem_append_left _ hy))) (o1 _ e)
    · have e2 : gA G k' j' = gA G k j := by
        have : gA G k' j' < n + 1 := hlt
        omega
      obtain ⟨rfl, rfl⟩ := hI _ _ _ _ hp hk e2
      exact absurd rfl (hno _ (List.mem_append_right _ (List.mem_singleton.mpr rfl)))
theorem WA.add {G : GX} {lo n n' : Nat} {o : OC} {H H1 : Heap} (h : WA G (lo, n, o) H) (hle : n ≤ n') (z1 : H1.size = n') (o1 : ∀ q, q < n → H1[q]? = H[q]?) (hx : ∀ k j, (k, j) ∈ PL → n ≤ gA G k j → gA G k j < n' → clA G k j H1) : WA G (lo, n', o) H1 := by
  have hn : H.size = n := h.1
  refine ⟨z1, Nat.le_trans h.2.1 hle, fun y hy => ?_, fun k' j' hp hl hlt hno => ?_⟩
  · obtain ⟨p1, p2, p3⟩ := h.2.2.1 y hy
    exact ⟨p1, p2, at_kept p3 (o1 _ (hn ▸ at_lt p3))⟩
  · by_cases e : gA G k' j' < n
    · exact at_kept (h.2.2.2 k' j' hp hl e hno) (o1 _ e)
    · exact hx k' j' hp (by omega) hlt
theorem WA.put {G : GX} (hI : InjG G) {lo n k j : Nat} {o1 o2 : OC} {x y : OCt} {H H1 : Heap} (h : WA G (lo, n, o1 ++ ((k, j), x) :: o2) H) (hd : ∀ q ∈ o1 ++ o2, q.1 ≠ (k, j)) (z1 : H1.size = H.size) (oq : ∀ q, q ≠ gA G k j → H1[q]? = H[q]?) (hy : ocA G ((k, j), y) H1) : WA G (lo, n, o1 ++ ((k, j), y) :: o2) H1 := by
  obtain ⟨a1, a2, a3⟩ := h.2.2.1 ((k, j), x) (List.mem_append_right _ List.mem_cons_self)
  have oth : ∀ k' j', (k', j') ∈ PL → (k', j') ≠ (k, j) → H1[gA G k' j']? = H[gA G k' j']? := fun k' j' hp hne => oq _ (fun e => hne (by
    obtain ⟨rfl, rfl⟩ := hI _ _ _ _ hp a1 e
    rfl))
  refine ⟨z1.trans h.1, h.2.1, fun q hq => ?_, fun k' j' hp hl hlt hno => ?_⟩
  · rcases List.mem_append.mp hq with e | e
    · obtain ⟨p1, p2, p3⟩ := h.2.2.1 q (List.mem_append_left _ e)
      exact ⟨p1, p2, at_kept p3 (oth _ _ p1 (hd q (List.mem_append_left _ e)))⟩
    · rcases List.mem_cons.mp e with rfl | e
      · exact ⟨a1, a2, hy⟩
      · obtain ⟨p1, p2, p3⟩ := h.2.2.1 q (List.mem_append_right _ (List.mem_cons_of_mem _ e))
        exact ⟨p1, p2, at_kept p3 (oth _ _ p1 (hd q (List.mem_append_right _ e)))⟩
  · have hne : (k', j') ≠ (k, j) := fun e => hno ((k, j), y) (List.mem_append_right _ List.mem_cons_self) e.symm
    refine at_kept (h.2.2.2 k' j' hp hl hlt (fun q hq => ?_)) (oth _ _ hp hne)
    rcases List.mem_append.mp hq with e | e
    · exact hno q (List.mem_append_left _ e)
    · rcases List.mem_cons.mp e with rfl | e
      · exact fun e => hne e.symm
      · exact hno q (List.mem_append_right _ (List.mem_cons_of_mem _ e))
theorem WA.close {G : GX} {lo n k j : Nat} {o1 o2 : OC} {x : OCt} {H : Heap} (h : WA G (lo, n, o1 ++ ((k, j), x) :: o2) H) (hc : ocA G ((k, j), x) H → clA G k j H) : WA G (lo, n, o1 ++ o2) H := by
  refine ⟨h.1, h.2.1, fun q hq => h.2.2.1 q ?_, fun k' j' hp hl hlt hno => ?_⟩
  · rcases List.mem_append.mp hq with e | e
    · exact List.mem_append_left _ e
    · exact List.mem_append_right _ (List.mem_cons_of_mem _ e)
  · by_cases e : (k', j') = (k, j)
    · obtain ⟨rfl, rfl⟩ := Prod.mk.inj e
      exact hc (h.2.2.1 (_, x) (List.mem_append_right _ List.mem_cons_self)).2.2
    · refine h.2.2.2 k' j' hp hl hlt (fun q hq => ?_)
      rcases List.mem_append.mp hq with f | f
      · exact hno q (List.mem_append_left _ f)
      · rcases List.mem_cons.mp f with rfl | f
        · exact fun f => e f.symm
        · exact hno q (List.mem_append_right _ f)
def pA (G : GX) (z : MX) (lo : Nat) : Nat → Prop := fun q => lo ≤ q ∧ gPool G z.2.2.1.heap.size q
def RnA (G : GX) (I : MIx) (z : MX) (cs : Nat × Nat) (Q : State → Prop) (pc : Nat) (ls : List (Option AV)) (st : List AV) (M : WP) : Prop :=
  CxF G I z → ∀ (H : Heap) (locs : List Loc) (lsA : Array Slot), WA G M H → va_S (pA G z M.1) z.2.2.1.heap H locs → lv_has lsA I.2.2.1 (lvL (gA G) 0 ls) → True → okLs ls → okVs st →
  W z.1 G.1 z.2.1 I.2.2.2.2 z.2.2.1 z.2.2.2.1 z.2.2.2.2.1 z.2.2.2.2.2.1 z.2.2.2.2.2.2.1 z.2.2.2.2.2.2.2 H locs cs.1 cs.2 Q (F0 z.2.2.2.1 pc lsA (st.map (cv (gA G))))
section ARULES
variable {G : GX} {I : MIx} {z : MX} {cs : Nat × Nat} {Q : State → Prop} {pc : Nat} {ls : List (Option AV)} {st : List AV} {M : WP}
theorem RnA.iconst {n : Int} {v : Int32} (hd : decode I.1 pc = .ok (.iconst n, 1)) (hv : Int32.ofInt n = v) (k : RnA G I z cs Q (pc + 1) ls (vI v :: st) M) : RnA G I z cs Q pc ls (st) M :=
  fun hc H locs lsA hP hS hL hM hLs hSt => lv_iconst hc.1 hc.2.1 hd hv (k hc H locs lsA hP hS hL hM hLs (hSt.I _))
theorem RnA.bipush {n : Int} {v : Int32} (hd : decode I.1 pc = .ok (.bipush n, 2)) (hv : (Int8.ofInt n).toInt32 = v) (k : RnA G I z cs Q (pc + 2) ls (vI v :: st) M) : RnA G I z cs Q pc ls (st) M :=
  fun hc H locs lsA hP hS hL hM hLs hSt => lv_bipush hc.1 hc.2.1 hd hv (k hc H locs lsA hP hS hL hM hLs (hSt.I _))
theorem RnA.sipush {n : Int} {v : Int32} (hd : decode I.1 pc = .ok (.sipush n, 3)) (hv : (Int16.ofInt n).toInt32 = v) (k : RnA G I z cs Q (pc + 3) ls (vI v :: st) M) : RnA G I z cs Q pc ls (st) M :=
  fun hc H locs lsA hP hS hL hM hLs hSt => lv_sipush hc.1 hc.2.1 hd hv (k hc H locs lsA hP hS hL hM hLs (hSt.I _))
theorem RnA.iload_n {x : Int32} {i : Nat} {k : Fin 4} (hd : decode I.1 pc = .ok (.iload_n k, 1)) (hi : (k : Nat) = i) (hl : ls[i]? = some (some (vI x))) (k9 : RnA G I z cs Q (pc + 1) ls (vI x :: st) M) : RnA G I z cs Q pc ls st M :=
  fun hc H locs lsA hP hS hL hM hLs hSt => lv_iload_n hc.1 hc.2.1 hd hi (lvAt hL hl) (k9 hc H locs lsA hP hS hL hM hLs (okVs.c (hLs _ _ hl) hSt))
theorem RnA.aload_n {r j : Nat} {i : Nat} {k : Fin 4} (hd : decode I.1 pc = .ok (.aload_n k, 1)) (hi : (k : Nat) = i) (hl : ls[i]? = some (some (vR r j))) (k9 : RnA G I z cs Q (pc + 1) ls (vR r j :: st) M) : RnA G I z cs Q pc ls st M :=
  fun hc H locs lsA hP hS hL hM hLs hSt => lv_aload_n hc.1 hc.2.1 hd hi (lvAt hL hl) (k9 hc H locs lsA hP hS hL hM hLs (okVs.c (hLs _ _ hl) hSt))
theorem RnA.istore_n {x : Int32} {i : Nat} {ls' : List (Option AV)} {k : Fin 4} (hd : decode I.1 pc = .ok (.istore_n k, 1)) (hi : (k : Nat) = i) (hn : i < I.2.2.1) (hp : notL ls i = true) (hl : ls.set i (some (vI x)) = ls') (k9 : RnA G I z cs Q (pc + 1) ls' st M) : RnA G I z cs Q pc ls (vI x :: st) M :=
  fun hc H locs lsA hP hS hL hM hLs hSt => lv_istore_n hc.1 hc.2.1 hd hi hL hn rfl (fun lsB hB => k9 hc H locs lsB hP hS (hl ▸ lvSet1 (v := vI x) hp lsB hB) hM (hl ▸ hLs.set hSt.hd) hSt.d)
theorem RnA.istore {x : Int32} {i : Nat} {ls' : List (Option AV)} (hd : decode I.1 pc = .ok (.istore i, 2)) (hn : i < I.2.2.1) (hp : notL ls i = true) (hl : ls.set i (some (vI x)) = ls') (k9 : RnA G I z cs Q (pc + 2) ls' st M) : RnA G I z cs Q pc ls (vI x :: st) M :=
  fun hc H locs lsA hP hS hL hM hLs hSt => lv_istore hc.1 hc.2.1 hd hL hn rfl (fun lsB hB => k9 hc H locs lsB hP hS (hl ▸ lvSet1 (v := vI x) hp lsB hB) hM (hl ▸ hLs.set hSt.hd) hSt.d)
theorem RnA.astore_n {r j : Nat} {i : Nat} {ls' : List (Option AV)} {k : Fin 4} (hd : decode I.1 pc = .ok (.astore_n k, 1)) (hi : (k : Nat) = i) (hn : i < I.2.2.1) (hp : notL ls i = true) (hl : ls.set i (some (vR r j)) = ls') (k9 : RnA G I z cs Q (pc + 1) ls' st M) : RnA G I z cs Q pc ls (vR r j :: st) M :=
  fun hc H locs lsA hP hS hL hM hLs hSt => lv_astore_n hc.1 hc.2.1 hd hi hL hn rfl (fun lsB hB => k9 hc H locs lsB hP hS (hl ▸ lvSet1 (v := vR r j) hp lsB hB) hM (hl ▸ hLs.set hSt.hd) hSt.d)
theorem RnA.iinc {x v : Int32} {n : Int} {i : Nat} {ls' : List (Option AV)} (hd : decode I.1 pc = .ok (.iinc i n, 3)) (hx : ls[i]? = some (some (vI x))) (hv : x + Int32.ofInt n = v) (hn : i < I.2.2.1) (hp : notL ls i = true) (hl : ls.set i (some (vI v)) = ls') (k9 : RnA G I z cs Q (pc + 3) ls' st M) : RnA G I z cs Q pc ls st M := by
  obtain ⟨p, e, s, m, args, below, meth, c⟩ := z
  intro hc H locs lsA hP hS hL hM hLs hSt
  obtain ⟨q, hq⟩ := List.getElem?_of_mem (mem_lvL.mpr ⟨i, _, hx, by rw [Nat.zero_add]⟩ : (i, cv (gA G) (vI x)) ∈ lvL (gA G) 0 ls)
  exact lv_iinc (k := q) hc.1 hc.2.1 hd hL hq hv hn rfl (fun lsB hB => k9 hc H locs lsB hP hS (hl ▸ lvSet1 (v := vI v) hp lsB hB) hM (hl ▸ hLs.set (v := vI v) trivial) hSt)
theorem RnA.dupR {x y : Int32} {r j : Nat} (hd : decode I.1 pc = .ok (.dup, 1)) (k : RnA G I z cs Q (pc + 1) ls (vR r j :: vR r j :: st) M) : RnA G I z cs Q pc ls (vR r j :: st) M :=
  fun hc H locs lsA hP hS hL hM hLs hSt => lv_dup hc.1 hc.2.1 hd rfl (k hc H locs lsA hP hS hL hM hLs (okVs.c hSt.hd hSt))
theorem RnA.icmp_ge {x y : Int32} {off : Int} {tgt : Nat} (hd : decode I.1 pc = .ok (.if_icmp .ge off, 3)) (ht : (pc : Int) + off = (tgt : Int)) (kt : y ≤ x → RnA G I z cs Q tgt ls st M) (kf : ¬ y ≤ x → RnA G I z cs Q (pc + 3) ls st M) : RnA G I z cs Q pc ls (vI y :: vI x :: st) M :=
  fun hc H locs lsA hP hS hL hM hLs hSt => lv_icmp_ge hc.1 hc.2.1 hd ht (fun h9 => kt h9 hc H locs lsA hP hS hL hM hLs hSt.d.d) (fun h9 => kf h9 hc H locs lsA hP hS hL hM hLs hSt.d.d)
theorem RnA.iincN {x n : Nat} {i : Nat} {ls' : List (Option AV)} (hd : decode I.1 pc = .ok (.iinc i (n : Int), 3)) (hx : ls[i]? = some (some (vI (nI x)))) (hv : Int32.ofInt (n : Int) = nI n) (hn : i < I.2.2.1) (hp : notL ls i = true) (hl : ls.set i (some (vI (nI (x + n)))) = ls') (k9 : RnA G I z cs Q (pc + 3) ls' st M) : RnA G I z cs Q pc ls st M := RnA.iinc hd hx (by rw [hv, nI_add]) hn hp hl k9
theorem RnA.icmp_geN {x y : Nat} {off : Int} {tgt : Nat} (hd : decode I.1 pc = .ok (.if_icmp .ge off, 3)) (ht : (pc : Int) + off = (tgt : Int)) (hx : x < 2 ^ 31) (hy : y < 2 ^ 31) (kt : y ≤ x → RnA G I z cs Q tgt ls st M) (kf : x < y → RnA G I z cs Q (pc + 3) ls st M) : RnA G I z cs Q pc ls (vI (nI y) :: vI (nI x) :: st) M := RnA.icmp_ge hd ht (fun h => kt ((nI_leI hy hx).mp h)) (fun h => kf (Nat.not_le.mp fun e => h ((nI_leI hy hx).mpr e)))
theorem RnA.goto {off : Int} {tgt : Nat} (hd : decode I.1 pc = .ok (.goto off, 3)) (ht : (pc : Int) + off = (tgt : Int)) (k : RnA G I z cs Q tgt ls st M) : RnA G I z cs Q pc ls st M :=
  fun hc H locs lsA hP hS hL hM hLs hSt => lv_goto hc.1 hc.2.1 hd ht (k hc H locs lsA hP hS hL hM hLs hSt)
theorem RnA.widen {cs' : Nat × Nat} (h1 : cs.1 ≤ cs'.1) (h2 : cs.2 ≤ cs'.2) (k : RnA G I z cs' Q pc ls st M) : RnA G I z cs Q pc ls st M :=
  fun hc H locs lsA hP hS hL hM hLs hSt => W.widen h1 h2 (k hc H locs lsA hP hS hL hM hLs hSt)
theorem pA_new {lo q : Nat} (h1 : lo ≤ q) (h2 : z.2.2.1.heap.size ≤ q) : pA G z lo q := ⟨h1, Or.inr h2⟩
theorem S_grow {lo : Nat} {H H1 : Heap} {locs : List Loc} (hS : va_S (pA G z lo) z.2.2.1.heap H locs) (h1 : H.size ≤ H1.size) (h2 : ∀ q, q < H.size → H1[q]? = H[q]?) : va_S (pA G z lo) z.2.2.1.heap H1 locs :=
  ⟨Nat.le_trans hS.1 h1, fun q a b => (h2 q (Nat.lt_of_lt_of_le a hS.1)).trans (hS.2.1 q a b), hS.2.2⟩
/-- words for 'new' of a class -/
def NW (own : String) (index k : Nat) (C : String) (T : u_T) (ty : Nat → FieldType) (N : Nat) : Prop :=
  (k < 12 ∧ vwCl[k]? = some (C, T, N)) ∧ (∀ w ∈ u_ws C T N, w ∈ gw_tbl) ∧ (Cond.classLink own index C ∈ gw_tbl ∧ Cond.instantiable C N ∈ gw_tbl ∧ Cond.initialized C ∈ gw_tbl) ∧ (∀ a, a < N → parseFieldDescriptor (T a).2.2.1 = some (ty a)) ∧ (∀ a, a < N → defaultValue (ty a) = vp_V ((kF k).map dfC) a)
variable {C : String} {T : u_T} {ty : Nat → FieldType} {N lo n : Nat} {o : OC}
theorem RnA.new {index k j : Nat} (hw : NW I.2.1 index k C T ty N) (hk : (k, j) ∈ PL) (ha : gA G k j = n) (hcs : cs.1 + 1 ≤ I.2.2.2.2.cells ∧ cs.2 + N ≤ I.2.2.2.2.slots) (hd : decode I.1 pc = .ok (.new index, 3)) (kk : RnA G I z (cs.1 + 1, cs.2 + N) Q (pc + 3) ls (vR k j :: st) (lo, n + 1, o ++ [((k, j), .inl (dfs k))])) : RnA G I z cs Q pc ls st (lo, n, o) := by
  obtain ⟨p, e, s, m, args, below, meth, c⟩ := z
  intro hc H locs lsA hW hS hL hM hLs hSt
  have hgood : ∀ w ∈ gw_tbl, w.before args s = true := hc.2.2.2.2.2.1
  have hK : va_K (gD G) vwCl (tysG G) s := hc.2.2.2.2.2.2.1
  have hKn := hK.1 k _ hw.1.2
  have hn : H.size = n := hW.1
  refine W.newcK hc.1 hc.2.1 hc.2.2.2.2.1 (hgood _ hw.2.2.1.1) (hgood _ hw.2.2.1.2.1) (hgood _ hw.2.2.1.2.2) rfl hd hcs.1 hcs.2 hKn.2.1 (hn.trans ha.symm) fun H1 kC hkC e1 z1 o1 => ?_
  rw [ha] at z1 o1
  have hob := (u_born ty hgood hw.2.1 hKn hkC e1 hw.2.2.2.1).to hw.2.2.2.2
  exact kk hc H1 locs lsA (WA.push hc.2.2.2.2.2.2.2.2.1 hW hk ha z1 o1 ⟨_, hw.1.2, by rw [dfs_cv]; exact hob⟩) (S_grow hS (by omega) (fun q hq => o1 q (by omega))) hL trivial hLs (okVs.c (mem_PL.mp hk).2 hSt)
/-- words for 'newarray' -/
def NA (at_ : ArrayType) (k t N cd : Nat) : Prop := ((12 ≤ k ∧ k < 42) ∧ kA k = (t, N, cd)) ∧ t < 8 ∧ Cond.arrayClass (newarray.typeOf at_) ∈ gw_tbl ∧ (∀ (s : State) (cA : ClassId), va_RA s cA (tyT t) → s.vm.findClass ("[" ++ (newarray.typeOf at_).toString) = some cA) ∧ N * componentBytes (newarray.typeOf at_) ≤ 536870912 ∧ N ≤ 2147483647
theorem RnA.newa0 {at_ : ArrayType} {k j t cd : Nat} (hw : NA at_ k t N cd) (ha : gA G k j = n) (hcs : cs.1 + 1 ≤ I.2.2.2.2.cells ∧ cs.2 + N ≤ I.2.2.2.2.slots) (hd : decode I.1 pc = .ok (.newarray at_, 2)) (hj : j < kCnt k)
    (kk : ∀ (H H1 : Heap), WA G (lo, n, o) H → H1[gA G k j]? = some (arrV (gC G t) N (fun _ => defaultValue (newarray.typeOf at_))) → H1.size = n + 1 → (∀ q, q < n → H1[q]? = H[q]?) → InjG G → WA G M H1) (k9 : RnA G I z (cs.1 + 1, cs.2 + N) Q (pc + 2) ls (vR k j :: st) M) (hM : M.1 = lo) : RnA G I z cs Q pc ls (vI (nI N) :: st) (lo, n, o) := by
  obtain ⟨p, e, s, m, args, below, meth, c⟩ := z
  intro hc H locs lsA hW hS hL hM0 hLs hSt
  have hgood : ∀ w ∈ gw_tbl, w.before args s = true := hc.2.2.2.2.2.1
  have hK : va_K (gD G) vwCl (tysG G) s := hc.2.2.2.2.2.2.1
  have hn : H.size = n := hW.1
  refine va_newaK hc.1 hc.2.1 (hgood _ hw.2.2.1) rfl hd rfl (nI_pos (by have := hw.2.2.2.2.2; omega)) (nI_clamp (by have := hw.2.2.2.2.2; omega)) hw.2.2.2.2.1 hcs.1 hcs.2 (hn.trans ha.symm) fun H1 cA e1 z1 o1 _ f1 => ?_
  have hcA : cA = gC G t := Option.some.inj (f1.symm.trans (hw.2.2.2.1 s (gC G t) (hK.2 t _ (tysG_at G hw.2.1)).2))
  subst hcA
  rw [ha] at z1 o1
  subst hM
  exact k9 hc H1 locs lsA (kk H H1 hW e1 z1 o1 hc.2.2.2.2.2.2.2.2.1) (S_grow hS (by omega) (fun q hq => o1 q (by omega))) hL trivial hLs (okVs.c hj hSt.d)
/-- an array that the first memory knows: closed at once -/
theorem RnA.newa {at_ : ArrayType} {k j t cd : Nat} (hw : NA at_ k t N cd) (hj : j < kCnt k) (ha : gA G k j = n) (hcs : cs.1 + 1 ≤ I.2.2.2.2.cells ∧ cs.2 + N ≤ I.2.2.2.2.slots) (hd : decode I.1 pc = .ok (.newarray at_, 2)) (hz : ∀ cA, vp_cell cA (N, contC (gA G) mem0 k j cd) = arrV cA N (fun _ => defaultValue (newarray.typeOf at_)))
    (k9 : RnA G I z (cs.1 + 1, cs.2 + N) Q (pc + 2) ls (vR k j :: st) (lo, n + 1, o)) : RnA G I z cs Q pc ls (vI (nI N) :: st) (lo, n, o) := by
  refine RnA.newa0 hw ha hcs hd hj (fun H H1 hW e1 z1 o1 hI => WA.add hW (Nat.le_succ _) z1 o1 (fun k' j' hp h1 h2 => ?_)) k9 rfl
  obtain ⟨rfl, rfl⟩ := hI k' j' k j hp (mem_PL.mpr ⟨hw.1.1.2, hj⟩) (by omega)
  unfold clA
  rw [cellE_a hw.1]
  show H1[_]? = some (vp_cell _ _)
  rw [hz]
  exact e1
/-- an array of numbers that stays open -/
theorem RnA.newaO {at_ : ArrayType} {k j t cd : Nat} (hw : NA at_ k t N cd) (hj : j < kCnt k) (ha : gA G k j = n) (hcs : cs.1 + 1 ≤ I.2.2.2.2.cells ∧ cs.2 + N ≤ I.2.2.2.2.slots) (hd : decode I.1 pc = .ok (.newarray at_, 2)) (hz : defaultValue (newarray.typeOf at_) = .int 0)
    (k9 : RnA G I z (cs.1 + 1, cs.2 + N) Q (pc + 2) ls (vR k j :: st) (lo, n + 1, o ++ [((k, j), .inr (.inr (fun _ => 0)))])) : RnA G I z cs Q pc ls (vI (nI N) :: st) (lo, n, o) := by
  refine RnA.newa0 hw ha hcs hd hj (fun H H1 hW e1 z1 o1 hI => WA.push hI hW (mem_PL.mpr ⟨hw.1.1.2, hj⟩) ha z1 o1 ?_) k9 rfl
  show H1[_]? = some (vp_cell (gC G (kA k).1) ((kA k).2.1, .inl (fun _ => 0)))
  rw [hw.1.2, e1, hz]
  rfl
/-- words for 'anewarray' -/
def NQ (own : String) (index k t : Nat) (C : String) (N : Nat) : Prop := ((12 ≤ k ∧ k < 42) ∧ (kA k).1 = t ∧ (kA k).2.1 = N) ∧ t < 8 ∧ tyT t = .object C ∧ Cond.classLink own index C ∈ gw_tbl ∧ N * 4 ≤ 536870912
theorem RnA.newq {index k j t : Nat} (hw : NQ I.2.1 index k t C N) (ho : va_AO C z.2.2.1) (hj : j < kCnt k) (ha : gA G k j = n) (hcs : cs.1 + 1 ≤ I.2.2.2.2.cells ∧ cs.2 + N ≤ I.2.2.2.2.slots) (hd : decode I.1 pc = .ok (.anewarray index, 3))
    (k9 : RnA G I z (cs.1 + 1, cs.2 + N) Q (pc + 3) ls (vR k j :: st) (lo, n + 1, o ++ [((k, j), .inr (.inl (fun _ => none)))])) : RnA G I z cs Q pc ls (vI (nI N) :: st) (lo, n, o) := by
  obtain ⟨p, e, s, m, args, below, meth, c⟩ := z
  intro hc H locs lsA hW hS hL hM0 hLs hSt
  have hgood : ∀ w ∈ gw_tbl, w.before args s = true := hc.2.2.2.2.2.1
  have hK : va_K (gD G) vwCl (tysG G) s := hc.2.2.2.2.2.2.1
  have hn : H.size = n := hW.1
  have hN : (nI N).toNatClampNeg = N := nI_clamp (by have := hw.2.2.2.2; omega)
  refine W.anew hc.1 hc.2.1 hc.2.2.2.2.1 (hgood _ hw.2.2.2.1) (va_AO.use ho) rfl hd rfl (nI_pos (by have := hw.2.2.2.2; omega)) (by rw [hN]; exact hw.2.2.2.2) hcs.1 (by rw [hN]; exact hcs.2) fun cA kA9 comp f1 f2 f3 f4 => ?_
  have hra := (hK.2 t _ (tysG_at G hw.2.1)).2
  rw [show (gC G t, tyT t).2 = FieldType.object C from hw.2.2.1] at hra
  obtain ⟨_, _, _, _, _, g1⟩ := hra
  have hcA : cA = gC G t := Option.some.inj (f1.symm.trans g1)
  subst hcA
  rw [hN]
  generalize hH1 : H.push ({ cls := gC G t, slots := Array.replicate N .null, vm := .none } : Cell) = H1
  have z1 : H1.size = n + 1 := by rw [← hH1, Array.size_push, hn]
  have e1 : H1[gA G k j]? = some (arrV (gC G t) N (fun _ => .null)) := by rw [ha, ← hn, ← hH1, Array.getElem?_push_size, ← arrV_new]
  have o1 : ∀ q : Nat, q < n → H1[q]? = H[q]? := fun q hq => by rw [← hH1, Array.getElem?_push, if_neg (by omega)]
  have key := k9 hc H1 locs lsA (WA.push hc.2.2.2.2.2.2.2.2.1 hW (mem_PL.mpr ⟨hw.1.1.2, hj⟩) ha z1 o1 (by
    show H1[_]? = some (vp_cell _ _)
    rw [hw.1.2.1, hw.1.2.2, vp_cell_q]
    exact e1)) (S_grow hS (by omega) (fun q hq => o1 q (by omega))) hL trivial hLs (okVs.c hj hSt.d)
  rw [show H.size = gA G k j by omega]
  exact key
theorem RnA.put {index k j s t : Nat} {v : AV} {fs : List AV} (hf : FL I.2.1 index k s t C T ty N) (hfin : (T s).2.2.2 = false ∨ ((T s).2.2.2 = true ∧ z.2.2.2.2.2.2.1.name = "<init>" ∧ (T s).1 = I.2.1)) (hn : narrow (ty s) (cv (gA G) v) = cv (gA G) v) (hfit : fits (ty s) (cv (gA G) v) = true) (hl : s < fs.length) (hno : ∀ q ∈ o, q.1 ≠ (k, j)) (hd : decode I.1 pc = .ok (.putfield index, 3))
    (k9 : RnA G I z cs Q (pc + 3) ls st (lo, n, ((k, j), .inl (fs.set s v)) :: o)) : RnA G I z cs Q pc ls (v :: vR k j :: st) (lo, n, ((k, j), .inl fs) :: o) := by
  obtain ⟨p, e, s0, m, args, below, meth, c⟩ := z
  intro hc H locs lsA hW hS hL hM0 hLs hSt
  have hgood : ∀ w ∈ gw_tbl, w.before args s0 = true := hc.2.2.2.2.2.1
  have hK : va_K (gD G) vwCl (tysG G) s0 := hc.2.2.2.2.2.2.1
  have hap := va_apart (own := I.2.1) hgood hf.2.2.1 ty hf.2.2.2.2.1 hf.2.2.2.2.2 hK hf.2.1
  obtain ⟨a1, a2, ho⟩ := hW.2.2.1 _ List.mem_cons_self
  obtain ⟨r, h1, cell, q1, q2, q3, q4⟩ := ho
  have hr : r = (C, T, N) := Option.some.inj (h1.symm.trans hf.2.1)
  subst hr
  obtain ⟨hSl, hfc, kC, hkC, hkind⟩ := hK.1 k _ hf.2.1
  have hk : s < N := hf.1.2.1
  obtain ⟨cf, kf, fi, f, hi, hsl⟩ := hSl s hk
  have hlay := hgood _ (hf.2.2.1 _ (u_in_lay hk))
  have hst := (u_facts hfc hkC (u_lays hgood hf.2.2.1 hk) hi).1
  have hd9 : parseFieldDescriptor (T s).2.2.1 = some (ty s) := hf.2.2.2.2.1 s hk
  have fin : ∀ H' : Heap, H'[gA G k j]? = some (cell.setSlot f.slot (cv (gA G) v)) → H'.size = H.size → (∀ q, q ≠ gA G k j → H'[q]? = H[q]?) → W p G.1 e I.2.2.2.2 s0 m args below meth c H' (locs ++ [⟨gA G k j, f.slot⟩]) cs.1 cs.2 Q (F0 m (pc + 3) lsA (st.map (cv (gA G)))) := by
    intro H' e1 e2 e3
    rw [hsl] at e1
    refine k9 hc H' _ lsA (WA.put (o1 := []) hc.2.2.2.2.2.2.2.2.1 hW hno e2 e3 ?_) (hS.put e2 e3 ⟨a2, Or.inl ⟨k, j, a1, rfl⟩⟩) hL trivial hLs hSt.d.d
    refine ⟨_, hf.2.1, ?_⟩
    show t_OB _ _ _ _ _ (vp_V ((fs.set s v).map (cv (gA G))))
    rw [List.map_set]
    exact t_OB.to (V := updV (vp_V (fs.map (cv (gA G)))) s (cv (gA G) v)) ⟨_, e1, q2, q3, t_set q4 hap hk _⟩ (fun j _ => vp_updV_set (by rw [List.length_map]; exact hl) _ j)
  rcases hfin with hfin | ⟨hfin, hin2, hdecl⟩
  · unfold u_lay at hlay
    rw [if_neg (by rw [hfin]; decide)] at hlay
    have h6 := u_store hfc hkC hkind hlay hi hd9 hn hfit
    exact W.putK hc.1 hc.2.1 (f := f) ⟨hc.2.2.2.2.1, hgood _ hf.2.2.2.1, ⟨_, _, _, hi⟩, hst⟩ (by rw [q2]; exact h6) q1 q3 (by rw [hsl]; exact k2_hasslot (q4 s hk)) rfl rfl hd fin
  · unfold u_lay at hlay
    rw [if_pos hfin] at hlay
    have hcf : m.cls = cf := by
      obtain ⟨_, _, c', _, _, _, -, -, hf', -, -, -, hown2, -⟩ := Cond.laysFinal_spec hlay
      have e1 : c' = cf := by have := hi.symm.trans hf'; simp at this; exact this.1.symm
      rw [hdecl] at hown2
      rw [← e1]; exact Option.some.inj (hc.2.2.2.2.1.symm.trans hown2)
    have h6 := u_fits hfc hkC hkind (Or.inr hlay) hi hd9 hn hfit
    exact W.putFinK hc.1 hc.2.1 hc.2.2.2.2.1 (hgood _ hf.2.2.2.1) hi hst hcf hin2 (by rw [q2]; exact h6) q1 q3 (by rw [hsl]; exact k2_hasslot (q4 s hk)) rfl rfl hd fin
theorem RnA.get {index k j s t : Nat} {v : AV} {fs : List AV} (hf : FL I.2.1 index k s t C T ty N) (hv : fs[s]? = some v) (hok : okV v) (hd : decode I.1 pc = .ok (.getfield index, 3))
    (k9 : RnA G I z cs Q (pc + 3) ls (v :: st) (lo, n, ((k, j), .inl fs) :: o)) : RnA G I z cs Q pc ls (vR k j :: st) (lo, n, ((k, j), .inl fs) :: o) := by
  obtain ⟨p, e, s0, m, args, below, meth, c⟩ := z
  intro hc H locs lsA hW hS hL hM0 hLs hSt
  obtain ⟨a1, a2, ho⟩ := hW.2.2.1 _ List.mem_cons_self
  exact va_get (D := gD G) (ci := k) hc.1 hc.2.1 hc.2.2.2.2.2.1 hf.2.2.1 hc.2.2.2.2.1 hc.2.2.2.2.2.2.1 (vaP1 ho) 0 rfl hf.2.1 s hf.1.2.1 (hc.2.2.2.2.2.1 _ hf.2.2.2.1) (fun _ h9 => h9) (v := cv (gA G) v) (by rw [List.getElem?_map, hv]; rfl) hd (k9 hc H locs lsA hW hS hL trivial hLs (okVs.c hok hSt.d))
theorem RnA.aast {k j kv jv t ii : Nat} {f : Nat → Option (Nat × Nat)} {x0 : (Nat × Nat) × OCt} (hw : ((12 ≤ k ∧ k < 42) ∧ (kA k).1 = t ∧ (kA k).2.1 = N) ∧ t < 8 ∧ tyT t = .object C) (hkv : kv < 12 ∧ vwCl[kv]? = some (C, T, ii)) {i : Nat} (hi : i < N) (hi9 : i < 2147483648) (hno : ∀ q ∈ x0 :: o, q.1 ≠ (k, j)) (hv : (kv, jv) ∈ PL ∧ lo ≤ gA G kv jv ∧ gA G kv jv < n ∧ (∀ q ∈ x0 :: ((k, j), .inr (.inl f)) :: o, q.1 ≠ (kv, jv))) (hd : decode I.1 pc = .ok (.aastore, 1))
    (k9 : RnA G I z cs Q (pc + 1) ls st (lo, n, x0 :: ((k, j), .inr (.inl (fun y => if y = i then some (kv, jv) else f y))) :: o)) : RnA G I z cs Q pc ls (vR kv jv :: vI (nI i) :: vR k j :: st) (lo, n, x0 :: ((k, j), .inr (.inl f)) :: o) := by
  obtain ⟨p, e, s0, m, args, below, meth, c⟩ := z
  intro hc H locs lsA hW hS hL hM0 hLs hSt
  have hK : va_K (gD G) vwCl (tysG G) s0 := hc.2.2.2.2.2.2.1
  obtain ⟨a1, a2, ho⟩ := hW.2.2.1 ((k, j), .inr (.inl f)) (List.mem_cons_of_mem _ List.mem_cons_self)
  have hcv := hW.2.2.2 kv jv hv.1 hv.2.1 hv.2.2.1 hv.2.2.2
  unfold clA at hcv
  rw [cellE_o hkv.1] at hcv
  obtain ⟨r', hr', cellV, g1, g2, g3, -⟩ := hcv
  have hr9 : r' = (C, T, ii) := Option.some.inj (hr'.symm.trans hkv.2)
  subst hr9
  have hcls := (hK.1 kv _ hkv.2).2
  have hra := (hK.2 t _ (tysG_at G hw.2.1)).2
  rw [show (gC G t, tyT t).2 = FieldType.object C from hw.2.2] at hra
  obtain ⟨kA9, comp, k1, k2, k3, -⟩ := hra
  have hcomp : comp = (gD G).1 kv := Option.some.inj (k3.symm.trans hcls.1)
  subst hcomp
  obtain ⟨kC, hkC, -⟩ := hcls.2
  have hcl : (nI i).toNatClampNeg = i := nI_clamp hi9
  have ho2 : H[gA G k j]? = some (vp_cell (gC G t) (N, .inr (.inr (.inr (.inr (fun i => (f i).map (fun q => gA G q.1 q.2))))))) := by
    have h9 : H[gA G k j]? = some (vp_cell (gC G (kA k).1) ((kA k).2.1, .inr (.inr (.inr (.inr (fun i => (f i).map (fun q => gA G q.1 q.2))))))) := ho
    rw [hw.1.2.1, hw.1.2.2] at h9
    exact h9
  refine W.aast hc.1 hc.2.1 ho2 (fun q h => by cases h) (fun h => by cases h) k1 k2 rfl hkC ⟨nI_pos hi9, by show _ < (arrV _ _ _).slots.size; rw [arrV_size, hcl]; exact hi⟩ g1 (fun q h => by rw [g3] at h; cases h) (by rw [g2]; exact hkC) (by rw [g2]; exact va_assign hcls) rfl rfl hd fun H1 e1 z1 oq => ?_
  refine k9 hc H1 _ lsA (WA.put (o1 := [x0]) hc.2.2.2.2.2.2.2.2.1 hW hno z1 oq ?_) (hS.put z1 oq ⟨a2, Or.inl ⟨k, j, a1, rfl⟩⟩) hL trivial hLs hSt.d.d.d
  show H1[gA G k j]? = some (vp_cell (gC G (kA k).1) ((kA k).2.1, .inr (.inr (.inr (.inr (fun y => (if y = i then some (kv, jv) else f y).map (fun q => gA G q.1 q.2)))))))
  rw [hw.1.2.1, hw.1.2.2, e1, hcl, vp_cell_q, vp_cell_q, arrV_store]
  congr 2
  funext q
  by_cases hq : q = i
  · subst hq
    simp [updV, va_rf]
  · simp [updV, hq]
theorem RnA.iastO {k j : Nat} {f : Nat → Int32} {x0 : (Nat × Nat) × OCt} (hw : ((12 ≤ k ∧ k < 42) ∧ (kA k).1 = 2 ∧ (kA k).2.1 = N)) {i : Nat} {v : Int32} (hi : i < N) (hi9 : i < 2147483648) (hno : ∀ q ∈ x0 :: o, q.1 ≠ (k, j)) (hd : decode I.1 pc = .ok (.iastore, 1))
    (k9 : RnA G I z cs Q (pc + 1) ls st (lo, n, x0 :: ((k, j), .inr (.inr (fun y => if y = i then v else f y))) :: o)) : RnA G I z cs Q pc ls (vI v :: vI (nI i) :: vR k j :: st) (lo, n, x0 :: ((k, j), .inr (.inr f)) :: o) := by
  obtain ⟨p, e, s0, m, args, below, meth, c⟩ := z
  intro hc H locs lsA hW hS hL hM0 hLs hSt
  have hK : va_K (gD G) vwCl (tysG G) s0 := hc.2.2.2.2.2.2.1
  obtain ⟨a1, a2, ho⟩ := hW.2.2.1 ((k, j), .inr (.inr f)) (List.mem_cons_of_mem _ List.mem_cons_self)
  have hcl : (nI i).toNatClampNeg = i := nI_clamp hi9
  have ho2 : H[gA G k j]? = some (vp_cell (gC G 2) (N, .inl f)) := by
    have h9 : H[gA G k j]? = some (vp_cell (gC G (kA k).1) ((kA k).2.1, .inl f)) := ho
    rw [hw.2.1, hw.2.2] at h9
    exact h9
  refine W.iast hc.1 hc.2.1 ho2 ((hK.2 2 _ (tysG_at G (by decide))).1 N (fun j => .int (f j))) (fun h => by cases h) (by show ¬ (_ ∨ (arrV _ _ _).slots.size ≤ _); rw [arrV_size, hcl]; exact fun h => h.elim (nI_pos hi9) (fun q => by omega)) rfl rfl hd fun H1 e1 z1 oq => ?_
  refine k9 hc H1 _ lsA (WA.put (o1 := [x0]) hc.2.2.2.2.2.2.2.2.1 hW hno z1 oq ?_) (hS.put z1 oq ⟨a2, Or.inl ⟨k, j, a1, rfl⟩⟩) hL trivial hLs hSt.d.d.d
  show H1[gA G k j]? = some (vp_cell (gC G (kA k).1) ((kA k).2.1, .inl (fun y => if y = i then v else f y)))
  rw [hw.2.1, hw.2.2, e1, hcl]
  show some ((arrV _ _ (fun j => Value.int (f j))).setSlot i _) = some (arrV _ _ (fun j => Value.int (if j = i then v else f j)))
  rw [arrV_store]
  congr 2
  funext q
  by_cases hq : q = i
  · subst hq
    simp [updV]
  · simp [updV, hq]
theorem RnA.close {k j : Nat} {x : OCt} (o1 o2 : OC) (hc : ∀ H, ocA G ((k, j), x) H → clA G k j H) (k9 : RnA G I z cs Q pc ls st (lo, n, o1 ++ o2)) : RnA G I z cs Q pc ls st (lo, n, o1 ++ ((k, j), x) :: o2) :=
  fun hcx H locs lsA hW hS hL hM hLs hSt => k9 hcx H locs lsA (WA.close hW (hc H)) hS hL hM hLs hSt
theorem cl_o {k j : Nat} {fs : List AV} (hk : k < 12) (he : fs.map (cv (gA G)) = flds G mem0 k j) : ∀ H, ocA G ((k, j), .inl fs) H → clA G k j H := by
  intro H h
  unfold clA
  rw [cellE_o hk, ← he]
  exact h
theorem cl_a {k j t cd : Nat} {x : OCt} (hk : (12 ≤ k ∧ k < 42) ∧ kA k = (t, N, cd)) {a : vp_A} (ho : ocE G k x = .inl (gC G t, a)) (he : vp_cell (gC G t) a = vp_cell (gC G t) (N, contC (gA G) mem0 k j cd)) : ∀ H, ocA G ((k, j), x) H → clA G k j H := by
  intro H h
  unfold clA
  rw [cellE_a hk]
  unfold ocA at h
  rw [ho] at h
  have h9 : H[gA G k j]? = some (vp_cell (gC G t) a) := h
  rw [he] at h9
  exact h9
theorem RnA.objInit {index k j : Nat} (hw : Cond.methodLink I.2.1 index Lib.objectInit ∈ gw_tbl) (hw2 : Cond.instanceMethod Lib.objectInit ∈ gw_tbl ∧ Cond.code Lib.objectInit ⟨#[0xb1]⟩ 1 none ∈ gw_tbl) (hR : 1 ≤ I.2.2.2.2.frames ∧ (st.map avc).sum + 12 ≤ I.2.2.2.2.locals) (hd : decode I.1 pc = .ok (.invokespecial index, 3)) (k9 : RnA G I z cs Q (pc + 3) ls st M) : RnA G I z cs Q pc ls (vR k j :: st) M := by
  obtain ⟨p, e, s0, m, args, below, meth, c⟩ := z
  intro hc H locs lsA hW hS hL hM0 hLs hSt
  have hgood : ∀ w ∈ gw_tbl, w.before args s0 = true := hc.2.2.2.2.2.1
  refine W.objInit hc.1 hc.2.1 hc.2.2.2.2.1 (hgood _ hw) (hgood _ hw2.1) (hgood _ hw2.2) rfl (hL.1.trans hc.2.2.1.symm) rfl hd hR.1 ?_ ?_
  · rw [avc_sum]
    show 0 + _ + 12 ≤ _
    have := hR.2
    omega
  · exact k9 hc H locs lsA hW hS hL trivial hLs hSt.d
/-! CONTRACTS of constructors -/
def nmI : List (String × Nat × MethodName) := [("ThumbLinker", 9, yX10_init), ("ThumbLinker$Source", 17, yX9_init), ("ThumbLinker", 25, yX6_init), ("ThumbLinker$Parser", 11, yX7_init), ("ThumbLinker$Scanner", 11, yX10_init), ("ThumbLinker", 32, yX1_init), ("ThumbLinker", 39, yX0_init), ("ThumbLinker$Build", 11, yX3_init), ("ThumbLinker$Build", 20, yX4_init), ("ThumbLinker$Build", 27, yX2_init)]
def ROi (U : State) : Prop := (∀ q ∈ nmI, va_Nw (.methodLinkNest q.1 q.2.1 q.2.2 "ThumbLinker") U) ∧ va_AO "ThumbLinker$Source" U ∧ va_AO "ThumbLinker$Statement" U ∧ (Cond.arrayOver (.array .int)).before #[] U = true
theorem ROi.warm {s U : State} (hW : s.WarmedH U.vm) (h : ROi s) : ROi U := ⟨fun q hq => va_Nw.warmM hW (h.1 q hq), va_AO.moved hW.alike h.2.1, va_AO.moved hW.alike h.2.2.1, Jvm.Stand.arrayOver_alikeB hW.alike h.2.2.2⟩
theorem ROi.same {u U : State} (hv : U.vm = u.vm) (h : ROi u) : ROi U := ⟨fun q hq => va_Nw.same rfl hv.symm (h.1 q hq), va_AO.moved (by rw [hv]; exact Vm.Alike.refl _) h.2.1, va_AO.moved (by rw [hv]; exact Vm.Alike.refl _) h.2.2.1, Jvm.Stand.arrayOver_alikeB (by rw [hv]; exact Vm.Alike.refl _) h.2.2.2⟩
def pN (G : GX) (k j : Nat) : Nat → Prop := fun q => gA G k j ≤ q ∧ gPool G (gA G k j + 1) q
def PcN (G : GX) (k j : Nat) : Array Value → State → Prop := va_Pc [.ref (gA G k j)] (fun U => U.heap.size = gA G k j + 1 ∧ ocA G ((k, j), .inl (dfs k)) U.heap ∧ va_K (gD G) vwCl (tysG G) U ∧ InjG G ∧ RO G (gPool G U.heap.size) U U.heap ∧ ROi U)
def QcN (G : GX) (k j nc : Nat) : Array Value → State → Outcome → State → Prop := fun _ st oc t =>
  (oc = .returned none ∧ t.heap.size = gA G k j + (nc + 1) ∧ ∀ k' j', (k', j') ∈ PL → gA G k j ≤ gA G k' j' → gA G k' j' < gA G k j + (nc + 1) → clA G k' j' t.heap) ∧ va_F (pN G k j) st t
def MetN (G : GX) (y : MethodName) (I : MIx) (k j nc sl : Nat) : Prop := Met G.1 y (Cond.code y I.1 I.2.2.1 I.2.2.2.1 :: gw_tbl) I.2.2.2.2 (PcN G k j) (QcN G k j nc) nc sl (pN G k j)
abbrev QN (G : GX) (k j nc sl : Nat) (z : MX) : State → Prop := MQ z.2.2.2.2.2.1 (QcN G k j nc) z.2.2.2.2.1 z.2.2.1 nc sl (pN G k j)
/-- what a constructor's machine keeps -/
def zN (G : GX) (z : MX) (k j : Nat) : Prop := z.2.2.2.2.2.2.1.name = "<init>" ∧ ROi z.2.2.1 ∧ z.2.2.1.heap.size = gA G k j + 1
theorem MetN.of {y : MethodName} {k j nc sl : Nat} (hy : plainName y.cls = true) (hn : y.name = "<init>") (hown : I.2.1 = y.cls) (hlen : 1 ≤ I.2.2.1) (hls : some (vR k j) :: List.replicate (I.2.2.1 - 1) none = ls) (hpl : (k, j) ∈ PL)
    (h : ∀ z : MX, zN G z k j → RnA G I z (0, 0) (QN G k j nc sl z) 0 ls [] (gA G k j, gA G k j + 1, [((k, j), .inl (dfs k))])) : MetN G y I k j nc sl := by
  refine Met.ofW (cc := I.1) (maxL := I.2.2.1) (ret := I.2.2.2.1) hy rfl ?_
  intro p e s m args below meth c s₁ B hml hv
  obtain ⟨rfl, hsz, hP, hK, hI, hR, hX⟩ := hv
  have hts := atoms_spec (ws := Cond.code y I.1 I.2.2.1 I.2.2.2.1 :: gw_tbl) B.pre
  have hcx : Cx G I p s m [Value.ref (gA G k j)].toArray meth c := ⟨B.exec, B.bytes, hml, B.returns, by rw [hown]; exact findClass_of_methodNamed B.named, fun w hw => hts w (List.mem_cons_of_mem _ hw), hK, B.notSynchronized, hI, hR⟩
  have hin : meth.name = "<init>" := (name_of_methodNamed B.named B.method).1.trans hn
  have hl := lv_entry ([vR k j].map (cv (gA G))) (n := I.2.2.1) (by rw [ent_len]; exact hlen)
  rw [lg_entry_eq]
  rw [← lvL_ent (gA G) (I.2.2.1 - (entA [vR k j]).length)] at hl
  have hls' : entA [vR k j] ++ List.replicate (I.2.2.1 - (entA [vR k j]).length) none = ls := hls
  rw [hls'] at hl
  have hok : okVs [vR k j] := fun v hv => by rw [List.mem_singleton.mp hv]; exact (mem_PL.mp hpl).2
  refine h (p, e, s, m, [Value.ref (gA G k j)].toArray, below, meth, c) ⟨hin, hX, hsz⟩ hcx s.heap [] _ ⟨hsz, Nat.le_succ _, fun x hx => ?_, fun k' j' hp h1 h2 h3 => ?_⟩ va_S.rf hl trivial (hls' ▸ okLs_ent hok _) (fun v h => nomatch h)
  · rw [List.mem_singleton.mp hx]; exact ⟨hpl, Nat.le_refl _, hP⟩
  · have e9 : gA G k' j' = gA G k j := by
      have h2' : gA G k' j' < gA G k j + 1 := h2
      have h1' : gA G k j ≤ gA G k' j' := h1
      omega
    obtain ⟨rfl, rfl⟩ := hI _ _ _ _ hp hpl e9
    exact absurd rfl (h3 _ List.mem_cons_self)
theorem RnA.vretN {k j nc sl : Nat} (hz : zN G z k j) (hM : M = (gA G k j, gA G k j + (nc + 1), [])) (h1 : cs.1 ≤ nc) (h2 : cs.2 ≤ sl) (hr : I.2.2.2.1 = none) (hd : decode I.1 pc = .ok (.return_, 1)) : RnA G I z cs (QN G k j nc sl z) pc ls [] M := by
  subst hM
  obtain ⟨p, e, s0, m, args, below, meth, c⟩ := z
  intro hc H locs lsA hW hS hL hM0 hLs hSt
  have hp : ∀ q, pA G (p, e, s0, m, args, below, meth, c) (gA G k j) q → pN G k j q := fun q h => by
    unfold pN
    have h9 : gPool G s0.heap.size q := h.2
    rw [hz.2.2] at h9
    exact ⟨h.1, h9⟩
  refine W.widen h1 h2 (W.vret hc.1 hc.2.1 (hc.2.2.2.1.trans hr) (fun t ht hW9 => ⟨⟨rfl, by rw [ht]; exact hW.1, fun k' j' hp1 hl hlt => by rw [ht]; exact hW.2.2.2 k' j' hp1 hl hlt (fun x hx => nomatch hx)⟩, ?_⟩) (fun q hq => hp _ (hS.2.2 q hq)) hd hc.2.2.2.2.2.2.2.1)
  refine ⟨by rw [ht]; exact hS.1, fun q q1 q2 => by rw [ht]; exact hS.2.1 q q1 (fun h => q2 (hp q h))⟩
/-- a constructor's call: its link, its words, its rooms -/
def CI (own : String) (index : Nat) (y : MethodName) (Iy : MIx) : Prop :=
  (Cond.methodLink own index y ∈ gw_tbl ∨ (own, index, y) ∈ nmI) ∧ (Cond.instanceMethod y ∈ gw_tbl ∧ Cond.initialized y.cls ∈ gw_tbl ∧ Cond.code y Iy.1 Iy.2.2.1 Iy.2.2.2.1 ∈ gw_tbl) ∧ (y.cls ≠ nMH ∧ y.cls ≠ nVH ∧ (parseMethodDescriptor y.desc).map (fun d => d.parameters.length) = some 0) ∧ y.name = "<init>" ∧ Iy.2.2.2.1 = none
def RmN (I Iy : MIx) (cs : Nat × Nat) (nc sl : Nat) : Prop := (Iy.2.2.2.2.frames + 1 ≤ I.2.2.2.2.frames ∧ 8 + (Iy.2.2.1 + 11) + Iy.2.2.2.2.locals ≤ I.2.2.2.2.locals) ∧ (cs.1 + nc ≤ I.2.2.2.2.cells ∧ cs.2 + sl ≤ I.2.2.2.2.slots) ∧ Iy.2.2.2.2.cells = nc ∧ Iy.2.2.2.2.slots = sl
theorem RnA.init {index k j nc sl : Nat} {y : MethodName} {Iy : MIx} (hroi : ROi z.2.2.1) (hcv : CI I.2.1 index y Iy) (hrm : RmN I Iy cs nc sl) (hd : decode I.1 pc = .ok (.invokespecial index, 3)) (hW9 : (st.map avc).sum ≤ 8) (hpl : (k, j) ∈ PL) (ha : gA G k j + 1 = n) (hno : ∀ q ∈ o, q.1 ≠ (k, j)) (hm : MetN G y Iy k j nc sl)
    (kk : RnA G I z (cs.1 + nc, cs.2 + sl) Q (pc + 3) ls st (lo, gA G k j + (nc + 1), o)) : RnA G I z cs Q pc ls (vR k j :: st) (lo, n, o ++ [((k, j), .inl (dfs k))]) := by
  obtain ⟨p, e, s, m, args, below, meth, c⟩ := z
  intro hc H locs lsA hW hS hL hM0 hLs hSt
  have hgood : ∀ w ∈ gw_tbl, w.before args s = true := hc.2.2.2.2.2.1
  have hI : InjG G := hc.2.2.2.2.2.2.2.2.1
  obtain ⟨a1, a2, ho⟩ := hW.2.2.1 ((k, j), .inl (dfs k)) (List.mem_append_right _ (List.mem_singleton.mpr rfl))
  have hn : H.size = gA G k j + 1 := hW.1.trans ha.symm
  have hpp : ∀ q, pN G k j q → pA G (p, e, s, m, args, below, meth, c) lo q := fun q h => ⟨Nat.le_trans a2 h.1, h.2.imp id (fun h9 => Nat.le_trans hS.1 (by rw [hn]; exact h9))⟩
  have hpg : ∀ q, ¬ gPool G s.heap.size q → ¬ pA G (p, e, s, m, args, below, meth, c) lo q := fun q h h9 => h h9.2
  have hpre : PreS s H (PcN G k j) [.ref (gA G k j)] := by
    refine ⟨fun a U g mk q => ?_, fun U hU hWm => ?_⟩
    · obtain ⟨q0, q1, q2, q3, q4, q5, q6⟩ := q
      exact ⟨q0, q1, q2, va_K.moved (u := U) (U := U.calling g mk a) (Vm.Alike.refl U.vm) q3, q4, RO.same (u := U) (U := U.calling g mk a) rfl q5, ROi.same (u := U) (U := U.calling g mk a) rfl q6⟩
    · refine ⟨rfl, by rw [hU]; exact hn, by rw [hU]; exact ho, va_K.moved hWm.alike hc.2.2.2.2.2.2.1, hI, ?_, ROi.warm hWm hroi⟩
      rw [hU]
      exact RO.warm hWm (RO.narrow (RO.kept hc.2.2.2.2.2.2.2.2.2 (fun q h1 h2 => hS.2.1 q h1 (hpg q h2))) (gSub hS.1))
  have hrun : va_Run p G.1 e I.2.2.2.2 s m args below meth c H locs cs.1 cs.2 nc sl (F0 m pc lsA ((vR k j :: st).map (cv (gA G)))) (st.map (cv (gA G))) (QcN G k j nc (Value.ref (gA G k j) :: []).toArray) (pN G k j) := by
    have hsz : (2 : Nat) * 0 + ((st.map (cv (gA G))).map fun v => v.category).sum ≤ 8 := by rw [avc_sum]; omega
    rcases hcv.1 with hl | hl
    · exact va_runI (Ts := gw_tbl) (As := []) (rest := st.map (cv (gA G))) (b := gA G k j) (nL := I.2.2.1) (n := 0) ⟨hc.1, hc.2.1, hc.2.2.1, hc.2.2.2.2.1, hgood⟩ hm ⟨callB_of _ hgood (by have := gw_good hcv.2.1.2.2 (big := gw_tbl) (fun w h => h); rw [hcv.2.2.2.2] at this ⊢; exact this) (by rw [hcv.2.2.2.2]) hrm.2.2.1 hrm.2.2.2 (hgood _ hcv.2.1.2.1) (hgood _ hl) hcv.2.2.1 hrm.1, hcv.2.2.2.1, hgood _ hcv.2.1.1⟩ hpre rfl rfl hL.1 rfl hsz hd hrm.2.1
    · exact va_runIN (Ts := gw_tbl) (As := []) (rest := st.map (cv (gA G))) (b := gA G k j) (nL := I.2.2.1) (n := 0) (host := "ThumbLinker") ⟨hc.1, hc.2.1, hc.2.2.1, hc.2.2.2.2.1, hgood⟩ hm ⟨va_cnB _ hgood (by have := gw_good hcv.2.1.2.2 (big := gw_tbl) (fun w h => h); rw [hcv.2.2.2.2] at this ⊢; exact this) (by rw [hcv.2.2.2.2]) hrm.2.2.1 hrm.2.2.2 (hroi.1 _ hl) (hgood _ hcv.2.1.2.1) hcv.2.2.1 hrm.1, hcv.2.2.2.1, hgood _ hcv.2.1.1⟩ hpre rfl rfl hL.1 rfl hsz hd hrm.2.1
  intro T hT X
  obtain ⟨v, st₀, t, T', L, h0, X', hLf, e1, e2, ⟨⟨hv, hsz, hcl⟩, hz, hk⟩, stp⟩ := hrun T hT X
  rw [h0] at hz hk
  have hlow : ∀ q, q < gA G k j → T'.heap[q]? = H[q]? := fun q hq => by rw [e1]; exact hk q (by omega) (fun h9 => absurd h9.1 (by omega))
  have hS1 : va_S (pA G (p, e, s, m, args, below, meth, c) lo) s.heap T'.heap (locs ++ L) := by
    refine ⟨Nat.le_trans hS.1 (by rw [e1]; exact hz), fun q h1 h2 => ?_, fun q hq => ?_⟩
    · rw [e1, hk q (Nat.lt_of_lt_of_le h1 hS.1) (fun z => h2 (hpp q z))]; exact hS.2.1 q h1 h2
    · rcases List.mem_append.mp hq with h | h
      · exact hS.2.2 q h
      · exact hpp _ (hLf q h)
  have hW1 : WA G (lo, gA G k j + (nc + 1), o) T'.heap := by
    refine ⟨by rw [e1]; exact hsz, (by have a2' : lo ≤ gA G k j := a2; show lo ≤ gA G k j + (nc + 1); omega), fun x hx => ?_, fun k' j' hp h1 h2 h3 => ?_⟩
    · obtain ⟨p1, p2, p3⟩ := hW.2.2.1 x (List.mem_append_left _ hx)
      have hlt := at_lt p3
      have hne : gA G x.1.1 x.1.2 ≠ gA G k j := fun e9 => hno x hx (by
        obtain ⟨f1, f2⟩ := hI _ _ _ _ p1 hpl e9
        exact Prod.ext f1 f2)
      exact ⟨p1, p2, at_kept p3 (hlow _ (by have hlt' : gA G x.1.1 x.1.2 < H.size := hlt; show gA G x.1.1 x.1.2 < gA G k j; omega))⟩
    · by_cases e9 : gA G k' j' < gA G k j
      · refine at_kept (hW.2.2.2 k' j' hp h1 (by show _ < n; omega) (fun x hx => ?_)) (hlow _ e9)
        rcases List.mem_append.mp hx with f | f
        · exact h3 x f
        · rw [List.mem_singleton.mp f]
          intro f9
          cases f9
          exact absurd e9 (Nat.lt_irrefl _)
      · rw [e1]
        exact hcl k' j' hp (by omega) h2
  obtain ⟨t2, b1, b2⟩ := kk hc T'.heap (locs ++ L) lsA hW1 hS1 hL trivial hLs hSt.d T' rfl X'
  refine ⟨t2, stp t2 ?_, b2⟩
  cases hv
  exact b1
end ARULES
