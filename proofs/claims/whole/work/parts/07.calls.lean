/-! CONTRACTS AND CALLS -/
def MetM (G : GX) (y : MethodName) (I : MIx) (as : List AV) (M : Mem) (Post : Option AV → Mem → Prop) : Prop :=
  okVs as → okM M → ∀ sz : Nat, Met G.1 y (Cond.code y I.1 I.2.2.1 I.2.2.2.1 :: gw_tbl) I.2.2.2.2 (va_Pc (as.map (cv (gA G))) (fun U => U.heap.size = sz ∧ Pw G M U.heap ∧ va_K (gD G) vwCl (tysG G) U ∧ InjG G ∧ RO G (gPool G sz) U U.heap)) (QcM G Post) 0 0 (gPool G sz)
def entA : List AV → List (Option AV)
  | [] => []
  | Sum.inr (Sum.inl x) :: t => some (Sum.inr (Sum.inl x)) :: none :: entA t
  | Sum.inl x :: t => some (Sum.inl x) :: entA t
  | Sum.inr (Sum.inr x) :: t => some (Sum.inr (Sum.inr x)) :: entA t
theorem lvL_none (ad : Nat → Nat → Nat) : ∀ (m n : Nat), lvL ad n (List.replicate m none) = []
  | 0, _ => rfl
  | m + 1, n => by rw [List.replicate_succ, lvL]; exact lvL_none ad m (n + 1)
theorem lvL_ent (ad : Nat → Nat → Nat) (m : Nat) : ∀ (as : List AV) (n : Nat), lvL ad n (entA as ++ List.replicate m none) = lv_args n (as.map (cv ad))
  | [], n => lvL_none ad m n
  | Sum.inl x :: t, n => by
    show (n, Value.int x) :: lvL ad (n + 1) _ = (n, Value.int x) :: lv_args (n + 1) _
    exact congrArg (List.cons _) (lvL_ent ad m t _)
  | Sum.inr (Sum.inl x) :: t, n => by
    show (n, Value.long x) :: lvL ad (n + 1 + 1) _ = (n, Value.long x) :: lv_args (n + 2) _
    exact congrArg (List.cons _) (lvL_ent ad m t _)
  | Sum.inr (Sum.inr none) :: t, n => by
    show (n, Value.null) :: lvL ad (n + 1) _ = (n, Value.null) :: lv_args (n + 1) _
    exact congrArg (List.cons _) (lvL_ent ad m t _)
  | Sum.inr (Sum.inr (some (k, j))) :: t, n => by
    show (n, Value.ref (ad k j)) :: lvL ad (n + 1) _ = (n, Value.ref (ad k j)) :: lv_args (n + 1) _
    exact congrArg (List.cons _) (lvL_ent ad m t _)
theorem ent_len (ad : Nat → Nat → Nat) : ∀ as : List AV, (lg_sl (as.map (cv ad))).length = (entA as).length
  | [] => rfl
  | Sum.inl x :: t => by
    show (lg_sl (t.map (cv ad))).length + 1 = (entA t).length + 1
    rw [ent_len ad t]
  | Sum.inr (Sum.inl x) :: t => by
    show (lg_sl (t.map (cv ad))).length + 1 + 1 = (entA t).length + 1 + 1
    rw [ent_len ad t]
  | Sum.inr (Sum.inr none) :: t => by
    show (lg_sl (t.map (cv ad))).length + 1 = (entA t).length + 1
    rw [ent_len ad t]
  | Sum.inr (Sum.inr (some (k, j))) :: t => by
    show (lg_sl (t.map (cv ad))).length + 1 = (entA t).length + 1
    rw [ent_len ad t]
theorem okLs_ent {as : List AV} (h : okVs as) (m : Nat) : okLs (entA as ++ List.replicate m none) := by
  have key : ∀ (as : List AV), okVs as → ∀ o ∈ entA as, ∀ v, o = some v → okV v := by
    intro as
    induction as with
    | nil => intro _ o ho; cases ho
    | cons a t ih =>
      intro h o ho v e
      rcases a with x | x | x
      · rcases List.mem_cons.mp ho with rfl | ho
        · cases e; exact trivial
        · exact ih h.d o ho v e
      · rcases List.mem_cons.mp ho with rfl | ho
        · cases e; exact trivial
        · rcases List.mem_cons.mp ho with rfl | ho
          · cases e
          · exact ih h.d o ho v e
      · rcases List.mem_cons.mp ho with rfl | ho
        · cases e; exact h.hd
        · exact ih h.d o ho v e
  intro i v hi
  rcases List.mem_append.mp (List.mem_of_getElem? hi) with h1 | h1
  · exact key as h _ h1 v rfl
  · cases (List.eq_of_mem_replicate h1)
theorem MetM.of {G : GX} {y : MethodName} {I : MIx} {as : List AV} {M : Mem} {Post : Option AV → Mem → Prop} {ls : List (Option AV)} (hy : plainName y.cls = true) (hown : I.2.1 = y.cls) (hlen : (entA as).length ≤ I.2.2.1) (hls : entA as ++ List.replicate (I.2.2.1 - (entA as).length) none = ls) (h : okM M → Rn G I Post 0 ls [] M) : MetM G y I as M Post := by
  intro hok hM sz
  refine Met.ofW (cc := I.1) (maxL := I.2.2.1) (ret := I.2.2.2.1) hy rfl ?_
  intro p e s m args below meth c s₁ B hml hv
  obtain ⟨rfl, hsz, hP, hK, hI, hR⟩ := hv
  subst hsz
  have hts := atoms_spec (ws := Cond.code y I.1 I.2.2.1 I.2.2.2.1 :: gw_tbl) B.pre
  have hcx : Cx G I p s m (as.map (cv (gA G))).toArray meth c := ⟨B.exec, B.bytes, hml, B.returns, by rw [hown]; exact findClass_of_methodNamed B.named, fun w hw => hts w (List.mem_cons_of_mem _ hw), hK, B.notSynchronized, hI, hR⟩
  have hl := lv_entry (as.map (cv (gA G))) (n := I.2.2.1) (by rw [ent_len]; exact hlen)
  rw [lg_entry_eq]
  rw [← lvL_ent (gA G) (I.2.2.1 - (entA as).length), hls] at hl
  exact h hM p e s m _ below meth c hcx s.heap [] _ hP va_S.rf hl hM (hls ▸ okLs_ent hok _) (fun v h => nomatch h)
def avc : AV → Nat
  | Sum.inr (Sum.inl _) => 2
  | _ => 1
theorem avc_cat (ad : Nat → Nat → Nat) (v : AV) : (cv ad v).category = avc v := by
  rcases v with x | x | _ | ⟨k, j⟩ <;> rfl
theorem avc_sum (ad : Nat → Nat → Nat) (l : List AV) : ((l.map (cv ad)).map fun v => v.category).sum = (l.map avc).sum := by
  rw [List.map_map]
  congr 1
  apply List.map_congr_left
  intro v _
  exact avc_cat ad v
section CALLS
variable {G : GX} {I : MIx} {Post : Option AV → Mem → Prop} {pc : Nat} {ls : List (Option AV)} {st : List AV} {M : Mem}
theorem Rn.call {P : Option AV → Mem → Prop} {rest : List AV} (hrest : ∀ v ∈ rest, v ∈ st)
    (hr : ∀ (p : Program) (e : Env) (s : State) (m : MethodId) (args : Array Value) (below : List Frame) (meth : Method) (c : Code), Cx G I p s m args meth c → ∀ (H : Heap) (locs : List Loc) (lsA : Array Slot), Pw G M H → va_S (gPool G s.heap.size) s.heap H locs → lv_has lsA I.2.2.1 (lvL (gA G) 0 ls) → okM M → okVs st →
      ∃ a, va_Run p G.1 e I.2.2.2.2 s m args below meth c H locs 0 0 0 0 (F0 m pc lsA (st.map (cv (gA G)))) (rest.map (cv (gA G))) (QcM G P a) (gPool G H.size))
    (kk : ∀ r M', P r M' → Rn G I Post (pc + 3) ls (r.toList ++ rest) M') : Rn G I Post pc ls st M := by
  intro p e s m args below meth c hc H locs lsA hP hS hL hM hLs hSt
  obtain ⟨a, hrun⟩ := hr p e s m args below meth c hc H locs lsA hP hS hL hM hSt
  intro T hT X
  obtain ⟨v, st₀, t, T', L, h0, X', hLf, e1, e2, ⟨⟨r, M', hv, hp, hro, hm', hP'⟩, hz, hk⟩, stp⟩ := hrun T hT X
  rw [h0] at hz hk
  have hsub := gSub (G := G) hS.1
  have hS1 : va_S (gPool G s.heap.size) s.heap T'.heap (locs ++ L) := by
    refine ⟨Nat.le_trans hS.1 (by rw [e1]; exact hz), fun q h1 h2 => ?_, fun q hq => ?_⟩
    · rw [e1, hk q (Nat.lt_of_lt_of_le h1 hS.1) (fun z => h2 (hsub q z))]; exact hS.2.1 q h1 h2
    · rcases List.mem_append.mp hq with h | h
      · exact hS.2.2 q h
      · exact hsub _ (hLf q h)
  obtain ⟨t2, a1, b1⟩ := kk r M' hp p e s m args below meth c hc T'.heap (locs ++ L) lsA (by rw [e1]; exact hP') hS1 hL hm' hLs
    (okVs.app (fun v hv => hro v (by rcases r with _ | x; cases hv; rw [List.mem_singleton.mp hv])) (fun v hv => hSt v (hrest v hv))) T' rfl X'
  refine ⟨t2, stp t2 ?_, b1⟩
  cases hv
  have hstk : (r.toList ++ rest).map (cv (gA G)) = (r.map (cv (gA G))).toList ++ rest.map (cv (gA G)) := by cases r <;> rfl
  rw [hstk] at a1
  exact a1
theorem gw_good {y : MethodName} {b : ByteArray} {n : Nat} {r : Option FieldType} (h : Cond.code y b n r ∈ gw_tbl) {big : List Cond} (hb : ∀ w ∈ gw_tbl, w ∈ big) : GoodIn big (Cond.code y b n r :: gw_tbl) := by
  intro w hw
  have h1 : w ∈ gw_tbl := (List.mem_cons.mp hw).elim (fun e => by rw [e]; exact h) id
  exact ⟨hb w h1, good_of_word (List.mem_filter.mp h1).2⟩
theorem preM {y : MethodName} {Iy : MIx} {as : List AV} {H : Heap} {s : State} {locs : List Loc} {args : Array Value} {p : Program} {m : MethodId} {meth : Method} {c : Code} (hc : Cx G I p s m args meth c) (hP : Pw G M H) (hS : va_S (gPool G s.heap.size) s.heap H locs) :
    FrameBlind (va_Pc (as.map (cv (gA G))) (fun U => U.heap.size = H.size ∧ Pw G M U.heap ∧ va_K (gD G) vwCl (tysG G) U ∧ InjG G ∧ RO G (gPool G H.size) U U.heap)) ∧
    ∀ U : State, U.heap = H → s.WarmedH U.vm → va_Pc (as.map (cv (gA G))) (fun U => U.heap.size = H.size ∧ Pw G M U.heap ∧ va_K (gD G) vwCl (tysG G) U ∧ InjG G ∧ RO G (gPool G H.size) U U.heap) (as.map (cv (gA G))).toArray U := by
  refine ⟨fun a U g mk q => ?_, fun U hU hW => ?_⟩
  · obtain ⟨q0, q1, q2, q3, q4, q5⟩ := q
    exact ⟨q0, q1, q2, va_K.moved (u := U) (U := U.calling g mk a) (Vm.Alike.refl U.vm) q3, q4, RO.same (u := U) (U := U.calling g mk a) rfl q5⟩
  · refine ⟨rfl, by rw [hU], by rw [hU]; exact hP, va_K.moved hW.alike hc.2.2.2.2.2.2.1, hc.2.2.2.2.2.2.2.2.1, ?_⟩
    rw [hU]
    exact RO.warm hW (RO.narrow (RO.kept hc.2.2.2.2.2.2.2.2.2 hS.2.1) (gSub hS.1))
abbrev nMH : String := "java/lang/invoke/MethodHandle"
abbrev nVH : String := "java/lang/invoke/VarHandle"
def CV (own : String) (index : Nat) (C : String) (y : MethodName) (Iy : MIx) (n : Nat) : Prop :=
  (Cond.methodLink own index y ∈ gw_tbl ∧ Cond.instanceMethod y ∈ gw_tbl ∧ Cond.selects C y y ∈ gw_tbl ∧ Cond.initialized C ∈ gw_tbl ∧ Cond.code y Iy.1 Iy.2.2.1 Iy.2.2.2.1 ∈ gw_tbl) ∧ (y.cls = C ∧ y.cls ≠ nMH ∧ y.cls ≠ nVH ∧ (parseMethodDescriptor y.desc).map (fun d => d.parameters.length) = some n) ∧ Iy.2.2.2.2.cells = 0 ∧ Iy.2.2.2.2.slots = 0
def CS (own : String) (index : Nat) (y : MethodName) (Iy : MIx) (n : Nat) : Prop :=
  (Cond.methodLink own index y ∈ gw_tbl ∧ Cond.static y ∈ gw_tbl ∧ Cond.initialized y.cls ∈ gw_tbl ∧ Cond.code y Iy.1 Iy.2.2.1 Iy.2.2.2.1 ∈ gw_tbl) ∧ (y.cls ≠ nMH ∧ y.cls ≠ nVH ∧ (parseMethodDescriptor y.desc).map (fun d => d.parameters.length) = some n) ∧ Iy.2.2.2.2.cells = 0 ∧ Iy.2.2.2.2.slots = 0
def CN (own : String) (index : Nat) (y : MethodName) (Iy : MIx) (n : Nat) : Prop :=
  ((own, index, y) ∈ nmL ∧ Cond.static y ∈ gw_tbl ∧ Cond.initialized y.cls ∈ gw_tbl ∧ Cond.code y Iy.1 Iy.2.2.1 Iy.2.2.2.1 ∈ gw_tbl) ∧ (y.cls ≠ nMH ∧ y.cls ≠ nVH ∧ (parseMethodDescriptor y.desc).map (fun d => d.parameters.length) = some n) ∧ Iy.2.2.2.2.cells = 0 ∧ Iy.2.2.2.2.slots = 0
/-- what a call asks of the rooms -/
def RmOK (I Iy : MIx) : Prop := Iy.2.2.2.2.frames + 1 ≤ I.2.2.2.2.frames ∧ 8 + (Iy.2.2.1 + 11) + Iy.2.2.2.2.locals ≤ I.2.2.2.2.locals
theorem Rn.callV {k j index : Nat} {as rest : List AV} {y : MethodName} {Iy : MIx} {C : String} {T : u_T} {N : Nat} {P : Option AV → Mem → Prop} (hcv : CV I.2.1 index C y Iy as.length) (hkc : k < 12 ∧ vwCl[k]? = some (C, T, N)) (hrm : RmOK I Iy) (hd : decode I.1 pc = .ok (.invokevirtual index, 3)) (hW : (rest.map avc).sum ≤ 8) (hst : st = as.reverse ++ vR k j :: rest) (hm : MetM G y Iy (vR k j :: as) M P)
    (kk : ∀ r M', P r M' → Rn G I Post (pc + 3) ls (r.toList ++ rest) M') : Rn G I Post pc ls st M := by
  subst hst
  refine Rn.call (P := P) (rest := rest) (fun v hv => List.mem_append_right _ (List.mem_cons_of_mem _ hv)) ?_ kk
  intro p e s m args below meth c hc H locs lsA hP hS hL hM hSt
  have hgood : ∀ w ∈ gw_tbl, w.before args s = true := hc.2.2.2.2.2.1
  have hok : okVs (vR k j :: as) := okVs.c (hSt _ (List.mem_append_right _ List.mem_cons_self)) (fun v hv => hSt v (List.mem_append_left _ (List.mem_reverse.mpr hv)))
  have hpl : (k, j) ∈ PL := mem_PL.mpr ⟨by have := hkc.1; omega, hok.hd⟩
  obtain ⟨i, -, hi⟩ := wsM_at (G := G) (M := M) hpl
  rw [cellE_o hkc.1] at hi
  obtain ⟨hb, hPc⟩ := preM (G := G) (I := I) (M := M) (y := y) (Iy := Iy) (as := vR k j :: as) hc hP hS
  have hcw : CallW I.2.2.2.2 s args I.2.1 C index y Iy.1 Iy.2.2.1 Iy.2.2.2.1 (Cond.code y Iy.1 Iy.2.2.1 Iy.2.2.2.1 :: gw_tbl) Iy.2.2.2.2 0 0 (as.map (cv (gA G))).length :=
    ⟨callB_of _ hgood (gw_good hcv.1.2.2.2.2 (fun w h => h)) rfl hcv.2.2.1 hcv.2.2.2 (by rw [hcv.2.1.1]; exact hgood _ hcv.1.2.2.2.1) (hgood _ hcv.1.1) (by rw [List.length_map]; exact hcv.2.1.2) hrm, hgood _ hcv.1.2.1, hgood _ hcv.1.2.2.1⟩
  exact ⟨_, va_runV (Ts := gw_tbl) (As := as.map (cv (gA G))) (rest := rest.map (cv (gA G))) (b := gA G k j) (nL := I.2.2.1) ⟨hc.1, hc.2.1, hc.2.2.1, hc.2.2.2.2.1, hgood⟩ (hm hok hM H.size) hcw ⟨hb, va_recv hc.2.2.2.2.2.2.1 hP hkc.2 hi, hPc⟩ rfl rfl hL.1 (by show List.map (cv (gA G)) (as.reverse ++ vR k j :: rest) = _; rw [List.map_append, List.map_reverse]; rfl) (by rw [avc_sum]; show 0 + _ ≤ 8; omega) hd ⟨Nat.zero_le _, Nat.zero_le _⟩⟩
theorem Rn.callS {index : Nat} {as rest : List AV} {y : MethodName} {Iy : MIx} {P : Option AV → Mem → Prop} (hcv : CS I.2.1 index y Iy as.length) (hrm : RmOK I Iy) (hd : decode I.1 pc = .ok (.invokestatic index, 3)) (hW : (rest.map avc).sum ≤ 8) (hst : st = as.reverse ++ rest) (hm : MetM G y Iy as M P)
    (kk : ∀ r M', P r M' → Rn G I Post (pc + 3) ls (r.toList ++ rest) M') : Rn G I Post pc ls st M := by
  subst hst
  refine Rn.call (P := P) (rest := rest) (fun v hv => List.mem_append_right _ hv) ?_ kk
  intro p e s m args below meth c hc H locs lsA hP hS hL hM hSt
  have hgood : ∀ w ∈ gw_tbl, w.before args s = true := hc.2.2.2.2.2.1
  have hok : okVs as := fun v hv => hSt v (List.mem_append_left _ (List.mem_reverse.mpr hv))
  obtain ⟨hb, hPc⟩ := preM (G := G) (I := I) (M := M) (y := y) (Iy := Iy) (as := as) hc hP hS
  exact ⟨_, va_runS (Ts := gw_tbl) (As := as.map (cv (gA G))) (rest := rest.map (cv (gA G))) (nL := I.2.2.1) ⟨hc.1, hc.2.1, hc.2.2.1, hc.2.2.2.2.1, hgood⟩ (hm hok hM H.size) ⟨callB_of _ hgood (gw_good hcv.1.2.2.2 (fun w h => h)) rfl hcv.2.2.1 hcv.2.2.2 (hgood _ hcv.1.2.2.1) (hgood _ hcv.1.1) (by rw [List.length_map]; exact hcv.2.1) hrm, hgood _ hcv.1.2.1⟩ ⟨hb, hPc⟩ rfl rfl hL.1 (by show List.map (cv (gA G)) (as.reverse ++ rest) = _; rw [List.map_append, List.map_reverse]) (by rw [avc_sum]; show 0 + _ ≤ 8; omega) hd ⟨Nat.zero_le _, Nat.zero_le _⟩⟩
theorem Rn.callN {index : Nat} {as rest : List AV} {y : MethodName} {Iy : MIx} {P : Option AV → Mem → Prop} (hcv : CN I.2.1 index y Iy as.length) (hrm : RmOK I Iy) (hd : decode I.1 pc = .ok (.invokestatic index, 3)) (hW : (rest.map avc).sum ≤ 8) (hst : st = as.reverse ++ rest) (hm : MetM G y Iy as M P)
    (kk : ∀ r M', P r M' → Rn G I Post (pc + 3) ls (r.toList ++ rest) M') : Rn G I Post pc ls st M := by
  subst hst
  refine Rn.call (P := P) (rest := rest) (fun v hv => List.mem_append_right _ hv) ?_ kk
  intro p e s m args below meth c hc H locs lsA hP hS hL hM hSt
  have hgood : ∀ w ∈ gw_tbl, w.before args s = true := hc.2.2.2.2.2.1
  have hok : okVs as := fun v hv => hSt v (List.mem_append_left _ (List.mem_reverse.mpr hv))
  obtain ⟨hb, hPc⟩ := preM (G := G) (I := I) (M := M) (y := y) (Iy := Iy) (as := as) hc hP hS
  exact ⟨_, va_runSN (Ts := gw_tbl) (As := as.map (cv (gA G))) (rest := rest.map (cv (gA G))) (nL := I.2.2.1) (host := "ThumbLinker") ⟨hc.1, hc.2.1, hc.2.2.1, hc.2.2.2.2.1, hgood⟩ (hm hok hM H.size) ⟨va_cnB _ hgood (gw_good hcv.1.2.2.2 (fun w h => h)) rfl hcv.2.2.1 hcv.2.2.2 (hc.2.2.2.2.2.2.2.2.2.2.1.1 _ hcv.1.1) (hgood _ hcv.1.2.2.1) (by rw [List.length_map]; exact hcv.2.1) hrm, hgood _ hcv.1.2.1, trivial⟩ ⟨hb, hPc⟩ rfl rfl hL.1 (by show List.map (cv (gA G)) (as.reverse ++ rest) = _; rw [List.map_append, List.map_reverse]) (by rw [avc_sum]; show 0 + _ ≤ 8; omega) hd ⟨Nat.zero_le _, Nat.zero_le _⟩⟩
end CALLS
