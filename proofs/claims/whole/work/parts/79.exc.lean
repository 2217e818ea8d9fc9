abbrev nIA : String := "java/lang/IllegalArgumentException"
abbrev nIS : String := "java/lang/IllegalStateException"
abbrev sups : List String := ["java/lang/RuntimeException", "java/lang/Exception"]
abbrev mdS : String := "(Ljava/lang/String;)V"
def xwD : List MethodName := [⟨"java/lang/RuntimeException", "<init>", mdS⟩, ⟨"java/lang/Exception", "<init>", mdS⟩, ⟨"java/lang/Throwable", "<init>", mdS⟩]
def xwC : List String := [nIS, nIA]
def ROx (G : GX) (A : Nat → Prop) (U : State) (H : Heap) : Prop := G.1.stackTraces = false ∧ vx_Zq Bundle.tN "UNASSIGNED_STACK" Bundle.steD A U H ∧ vx_Zq Bundle.tN "SUPPRESSED_SENTINEL" Bundle.listD A U H ∧ va_Nc nIS nIA U ∧ (∀ x ∈ xwD, va_Nw (.declares x) U) ∧ (∀ x ∈ xwC, va_Nw (.castable x x) U)
theorem ROx.kept {G : GX} {A : Nat → Prop} {U : State} {H H1 : Heap} (h : ROx G A U H) (hq : ∀ a : Nat, a < H.size → ¬ A a → H1[a]? = H[a]?) : ROx G A U H1 := ⟨h.1, h.2.1.kept hq, h.2.2.1.kept hq, h.2.2.2⟩
theorem ROx.narrow {G : GX} {A B : Nat → Prop} {U : State} {H : Heap} (h : ROx G A U H) (hq : ∀ q, B q → A q) : ROx G B U H := ⟨h.1, h.2.1.narrow hq, h.2.2.1.narrow hq, h.2.2.2⟩
theorem ROx.warm {G : GX} {A : Nat → Prop} {s U : State} {H : Heap} (hW : s.WarmedH U.vm) (h : ROx G A s H) : ROx G A U H := ⟨h.1, vx_Zq.moved hW.alike h.2.1, vx_Zq.moved hW.alike h.2.2.1, va_Nc.moved hW.alike h.2.2.2.1, fun x hx => va_Nw.warmD hW (h.2.2.2.2.1 x hx), fun x hx => va_Nw.warmC hW (h.2.2.2.2.2 x hx)⟩
theorem ROx.same {G : GX} {A : Nat → Prop} {u U : State} {H : Heap} (hv : U.vm = u.vm) (h : ROx G A u H) : ROx G A U H := ⟨h.1, vx_Zq.moved (by rw [hv]; exact Vm.Alike.refl _) h.2.1, vx_Zq.moved (by rw [hv]; exact Vm.Alike.refl _) h.2.2.1, va_Nc.moved (by rw [hv]; exact Vm.Alike.refl _) h.2.2.2.1, fun x hx => va_Nw.same rfl hv.symm (h.2.2.2.2.1 x hx), fun x hx => va_Nw.same rfl hv.symm (h.2.2.2.2.2 x hx)⟩
abbrev wdS : List Cond := Cond.classLink RX11 55 nIS :: Cond.initialized nIS :: vx_atS RX11 59 nIS sups
abbrev wdA : List Cond := Cond.classLink RX11 70 nIA :: Cond.initialized nIA :: vx_atS RX11 74 nIA sups
abbrev xwW : List Cond := xwD.map Cond.declares ++ xwC.map (fun x => Cond.castable x x)
set_option maxRecDepth 100000 in
theorem wdS_in : wdS.all (fun w => (decide (w ∈ lw_tbl) && goodWord w) || decide (w ∈ xwW)) = true := by decide +kernel
set_option maxRecDepth 100000 in
theorem wdA_in : wdA.all (fun w => (decide (w ∈ lw_tbl) && goodWord w) || decide (w ∈ xwW)) = true := by decide +kernel
set_option maxRecDepth 100000 in
theorem wdS_ot : ∀ w ∈ wdS, vx_ot w = true := List.all_eq_true.mp (by decide +kernel)
set_option maxRecDepth 100000 in
theorem wdA_ot : ∀ w ∈ wdA, vx_ot w = true := List.all_eq_true.mp (by decide +kernel)
theorem wd_at {G : GX} {A : Nat → Prop} {s : State} {H : Heap} {args : Array Value} {ws : List Cond} (hin : ws.all (fun w => (decide (w ∈ lw_tbl) && goodWord w) || decide (w ∈ xwW)) = true) (hx : ROx G A s H) (hgood : ∀ w ∈ gw_tbl, w.before args s = true) : ∀ w ∈ ws, w.before args s = true := by
  intro w hw
  have h := List.all_eq_true.mp hin w hw
  rw [Bool.or_eq_true, Bool.and_eq_true, decide_eq_true_eq, decide_eq_true_eq] at h
  rcases h with h | h
  · exact hgood w (gw_mem h.1 h.2)
  · rcases List.mem_append.mp h with q | q
    · obtain ⟨x, hx9, rfl⟩ := List.mem_map.mp q
      exact va_Nw.use rfl (hx.2.2.2.2.1 x hx9)
    · obtain ⟨x, hx9, rfl⟩ := List.mem_map.mp q
      exact va_Nw.use rfl (hx.2.2.2.2.2 x hx9)
def XcM (G : GX) (M : Mem) (E : String) : String → State → State → Prop := fun E' st t => E' = E ∧ Pw G M t.heap ∧ va_F (gPool G st.heap.size) st t
abbrev zS (z : MX) : State := z.2.2.1
abbrev zC (z : MX) : Code := z.2.2.2.2.2.2.2
abbrev QX (G : GX) (M : Mem) (E : String) (z : MX) : State → Prop := vx_MQ z.2.2.2.2.2.1 (fun _ _ _ _ => False) (XcM G M E) z.2.2.2.2.1 z.2.2.1 1 6 (gPool G z.2.2.1.heap.size)
abbrev QH (G : GX) (Post : Option AV → Mem → Prop) (z : MX) : State → Prop := MQ z.2.2.2.2.2.1 (QcM G Post) z.2.2.2.2.1 z.2.2.1 1 6 (gPool G z.2.2.1.heap.size)
abbrev zX (G : GX) (z : MX) : Prop := ROx G (gPool G z.2.2.1.heap.size) z.2.2.1 z.2.2.1.heap
def PcX (G : GX) (as : List AV) (M : Mem) (sz : Nat) : Array Value → State → Prop := va_Pc (as.map (cv (gA G))) (fun U => U.heap.size = sz ∧ Pw G M U.heap ∧ va_K (gD G) vwCl (tysG G) U ∧ InjG G ∧ RO G (gPool G sz) U U.heap ∧ ROx G (gPool G sz) U U.heap)
def MetX (G : GX) (y : MethodName) (I : MIx) (as : List AV) (M : Mem) (E : String) : Prop :=
  okVs as → okM M → ∀ sz : Nat, vx_Met G.1 y (Cond.code y I.1 I.2.2.1 I.2.2.2.1 :: gw_tbl) I.2.2.2.2 (PcX G as M sz) (fun _ _ _ _ => False) (XcM G M E) 1 6 (gPool G sz)
def MetH (G : GX) (y : MethodName) (I : MIx) (hh : List (Nat × Nat × Nat × Nat)) (as : List AV) (M : Mem) (Post : Option AV → Mem → Prop) : Prop :=
  okVs as → okM M → ∀ sz : Nat, Met G.1 y (Cond.codeWith y I.1 I.2.2.1 I.2.2.2.1 hh :: gw_tbl) I.2.2.2.2 (PcX G as M sz) (QcM G Post) 1 6 (gPool G sz)
theorem MetX.of {G : GX} {y : MethodName} {I : MIx} {as : List AV} {M : Mem} {E : String} {ls : List (Option AV)} (hy : plainName y.cls = true) (hown : I.2.1 = y.cls) (hlen : (entA as).length ≤ I.2.2.1) (hls : entA as ++ List.replicate (I.2.2.1 - (entA as).length) none = ls) (h : okM M → ∀ z : MX, zX G z → (∀ x ∈ (zC z).exceptionTable.toList, False) → RnE G I z (0, 0) (QX G M E z) 0 ls [] M) : MetX G y I as M E := by
  intro hok hM sz
  refine vx_ofW (cc := I.1) (maxL := I.2.2.1) (ret := I.2.2.2.1) hy rfl ?_
  intro p e s m args below meth c s₁ B hml hex hv
  obtain ⟨rfl, hsz, hP, hK, hI, hR, hX⟩ := hv
  subst hsz
  have hts := atoms_spec (ws := Cond.code y I.1 I.2.2.1 I.2.2.2.1 :: gw_tbl) B.pre
  have hcx : Cx G I p s m (as.map (cv (gA G))).toArray meth c := ⟨B.exec, B.bytes, hml, B.returns, by rw [hown]; exact findClass_of_methodNamed B.named, fun w hw => hts w (List.mem_cons_of_mem _ hw), hK, B.notSynchronized, hI, hR⟩
  have hl := lv_entry (as.map (cv (gA G))) (n := I.2.2.1) (by rw [ent_len]; exact hlen)
  rw [lg_entry_eq]
  rw [← lvL_ent (gA G) (I.2.2.1 - (entA as).length), hls] at hl
  exact h hM (p, e, s, m, (as.map (cv (gA G))).toArray, below, meth, c) hX hex hcx s.heap [] _ hP va_S.rf hl hM (hls ▸ okLs_ent hok _) (fun v h => nomatch h)
theorem MetH.of {G : GX} {y : MethodName} {I : MIx} {hh : List (Nat × Nat × Nat × Nat)} {as : List AV} {M : Mem} {Post : Option AV → Mem → Prop} {ls : List (Option AV)} (hy : plainName y.cls = true) (hown : I.2.1 = y.cls) (hlen : (entA as).length ≤ I.2.2.1) (hls : entA as ++ List.replicate (I.2.2.1 - (entA as).length) none = ls) (h : okM M → ∀ z : MX, zX G z → (zC z).exceptionTable.toList = tableOf hh → RnE G I z (0, 0) (QH G Post z) 0 ls [] M) : MetH G y I hh as M Post := by
  intro hok hM sz
  refine MetFree.of_bodyS (code := I.1) (maxLocals := I.2.2.1) (ret := I.2.2.2.1) hy ?_ ?_
  · intro args s m h hn
    obtain ⟨m9, meth, c, hn9, h1, h2, h3, h4, -, h5, h6, -⟩ := Cond.codeWith_spec (atoms_spec (ws := Cond.codeWith y I.1 I.2.2.1 I.2.2.2.1 hh :: gw_tbl) h _ List.mem_cons_self)
    cases hn.symm.trans hn9
    exact ⟨meth, c, h1, h2, h3, h4, h5, h6⟩
  · intro p e s m args below meth c s₁ B hml hv _
    obtain ⟨rfl, hsz, hP, hK, hI, hR, hX⟩ := hv
    subst hsz
    have hts := atoms_spec (ws := Cond.codeWith y I.1 I.2.2.1 I.2.2.2.1 hh :: gw_tbl) B.pre
    have hh0 : s₁.heap = s.heap := by rw [B.state]; rfl
    have hcx : Cx G I p s m (as.map (cv (gA G))).toArray meth c := ⟨B.exec, B.bytes, hml, B.returns, by rw [hown]; exact findClass_of_methodNamed B.named, fun w hw => hts w (List.mem_cons_of_mem _ hw), hK, B.notSynchronized, hI, hR⟩
    have hl := lv_entry (as.map (cv (gA G))) (n := I.2.2.1) (by rw [ent_len]; exact hlen)
    rw [← lvL_ent (gA G) (I.2.2.1 - (entA as).length), hls] at hl
    have key := h hM (p, e, s, m, (as.map (cv (gA G))).toArray, below, meth, c) hX (vx_table (x := y) B (hts _ List.mem_cons_self)) hcx s.heap [] _ hP va_S.rf hl hM (hls ▸ okLs_ent hok _) (fun v h => nomatch h)
    rw [List.map_nil, ← lg_entry_eq] at key
    obtain ⟨t, a1, o, b1, b2, b3⟩ := key s₁ hh0 (Stand.of_body B)
    exact ⟨t, o, a1, b1, b2, ⟨b3.1, b3.2⟩⟩
theorem preX {G : GX} {I : MIx} {M : Mem} {as : List AV} {H : Heap} {s : State} {locs : List Loc} {args : Array Value} {p : Program} {m : MethodId} {meth : Method} {c : Code} (hc : Cx G I p s m args meth c) (hX : ROx G (gPool G s.heap.size) s s.heap) (hP : Pw G M H) (hS : va_S (gPool G s.heap.size) s.heap H locs) :
    FrameBlind (PcX G as M H.size) ∧ ∀ U : State, U.heap = H → s.WarmedH U.vm → PcX G as M H.size (as.map (cv (gA G))).toArray U := by
  refine ⟨fun a U g mk q => ?_, fun U hU hW => ?_⟩
  · obtain ⟨q0, q1, q2, q3, q4, q5, q6⟩ := q
    exact ⟨q0, q1, q2, va_K.moved (u := U) (U := U.calling g mk a) (Vm.Alike.refl U.vm) q3, q4, RO.same (u := U) (U := U.calling g mk a) rfl q5, ROx.same (u := U) (U := U.calling g mk a) rfl q6⟩
  · refine ⟨rfl, by rw [hU], by rw [hU]; exact hP, va_K.moved hW.alike hc.2.2.2.2.2.2.1, hc.2.2.2.2.2.2.2.2.1, ?_, ?_⟩
    · rw [hU]
      exact RO.warm hW (RO.narrow (RO.kept hc.2.2.2.2.2.2.2.2.2 hS.2.1) (gSub hS.1))
    · rw [hU]
      exact ROx.warm hW (ROx.narrow (ROx.kept hX hS.2.1) (gSub hS.1))
/-- what a call asks of the rooms, and that what is used fits -/
def RmE (I Iy : MIx) (cs : Nat × Nat) : Prop := Iy.2.2.2.2.frames + 1 ≤ I.2.2.2.2.frames ∧ 8 + (Iy.2.2.1 + 11) + Iy.2.2.2.2.locals ≤ I.2.2.2.2.locals ∧ cs.1 ≤ I.2.2.2.2.cells ∧ cs.2 ≤ I.2.2.2.2.slots
section EROWS
variable {G : GX} {I : MIx} {z : MX} {cs : Nat × Nat} {Q : State → Prop} {pc : Nat} {ls : List (Option AV)} {st : List AV} {M : Mem}
theorem RnE.widen {cs' : Nat × Nat} (h1 : cs.1 ≤ cs'.1) (h2 : cs.2 ≤ cs'.2) (k : RnE G I z cs' Q pc ls st M) : RnE G I z cs Q pc ls st M :=
  fun hc H locs lsA hP hS hL hM hLs hSt => W.widen h1 h2 (k hc H locs lsA hP hS hL hM hLs hSt)
theorem RnE.iret {Post : Option AV → Mem → Prop} {x : Int32} (h1 : cs.1 ≤ 1) (h2 : cs.2 ≤ 6) (hr : I.2.2.2.1 = some .int) (hd : decode I.1 pc = .ok (.ireturn, 1)) (hp : Post (some (vI x)) M) : RnE G I z cs (QH G Post z) pc ls [vI x] M := by
  obtain ⟨p, e, s0, m, args, below, meth, c⟩ := z
  intro hc H locs lsA hP hS hL hM hLs hSt
  exact W.widen h1 h2 (W.iret (v := x) hc.1 hc.2.1 (hc.2.2.2.1.trans hr) (fun t ht hW => ⟨⟨some (vI x), M, rfl, hp, fun v h => by cases h; exact trivial, hM, by rw [ht]; exact hP⟩, hS.F ht⟩) hS.2.2 hd hc.2.2.2.2.2.2.2.1)
theorem RnE.call {mc ms : Nat} {P : Option AV → Mem → Prop} {rest : List AV} (hrest : ∀ v ∈ rest, v ∈ st)
    (hr : ∀ (p : Program) (e : Env) (s : State) (m : MethodId) (args : Array Value) (below : List Frame) (meth : Method) (c : Code), z = (p, e, s, m, args, below, meth, c) → Cx G I p s m args meth c → ∀ (H : Heap) (locs : List Loc) (lsA : Array Slot), Pw G M H → va_S (gPool G s.heap.size) s.heap H locs → lv_has lsA I.2.2.1 (lvL (gA G) 0 ls) → okM M → okVs st →
      ∃ a, va_Run p G.1 e I.2.2.2.2 s m args below meth c H locs cs.1 cs.2 mc ms (F0 m pc lsA (st.map (cv (gA G)))) (rest.map (cv (gA G))) (QcM G P a) (gPool G H.size))
    (kk : ∀ r M', P r M' → RnE G I z (cs.1 + mc, cs.2 + ms) Q (pc + 3) ls (r.toList ++ rest) M') : RnE G I z cs Q pc ls st M := by
  obtain ⟨p, e, s, m, args, below, meth, c⟩ := z
  intro hc H locs lsA hP hS hL hM hLs hSt
  obtain ⟨a, hrun⟩ := hr p e s m args below meth c rfl hc H locs lsA hP hS hL hM hSt
  intro T hT X
  obtain ⟨v, st₀, t, T', L, h0, X', hLf, e1, e2, ⟨⟨r, M', hv, hp, hro, hm', hP'⟩, hz, hk⟩, stp⟩ := hrun T hT X
  rw [h0] at hz hk
  have hsub := gSub (G := G) hS.1
  have hS1 : va_S (gPool G s.heap.size) s.heap T'.heap (locs ++ L) := by
    refine ⟨Nat.le_trans hS.1 (by rw [e1]; exact hz), fun q h1 h2 => ?_, fun q hq => ?_⟩
    · rw [e1, hk q (Nat.lt_of_lt_of_le h1 hS.1) (fun z => h2 (hsub q z))]; exact hS.2.1 q h1 h2
    · rcases List.mem_append.mp hq with h | h
      · exact hS.2.2 q h
      · exact hsub _ (hLf q h)
  obtain ⟨t2, a1, b1⟩ := kk r M' hp hc T'.heap (locs ++ L) lsA (by rw [e1]; exact hP') hS1 hL hm' hLs
    (okVs.app (fun v hv => hro v (by rcases r with _ | x; cases hv; rw [List.mem_singleton.mp hv])) (fun v hv => hSt v (hrest v hv))) T' rfl X'
  refine ⟨t2, stp t2 ?_, b1⟩
  cases hv
  have hstk : (r.toList ++ rest).map (cv (gA G)) = (r.map (cv (gA G))).toList ++ rest.map (cv (gA G)) := by cases r <;> rfl
  rw [hstk] at a1
  exact a1
theorem RnE.callV {k j index : Nat} {as rest : List AV} {y : MethodName} {Iy : MIx} {C : String} {T : u_T} {N : Nat} {P : Option AV → Mem → Prop} (hcv : CV I.2.1 index C y Iy as.length) (hkc : k < 12 ∧ vwCl[k]? = some (C, T, N)) (hrm : RmE I Iy cs) (hd : decode I.1 pc = .ok (.invokevirtual index, 3)) (hW : (rest.map avc).sum ≤ 8) (hst : st = as.reverse ++ vR k j :: rest) (hm : MetM G y Iy (vR k j :: as) M P)
    (kk : ∀ r M', P r M' → RnE G I z cs Q (pc + 3) ls (r.toList ++ rest) M') : RnE G I z cs Q pc ls st M := by
  subst hst
  refine RnE.call (mc := 0) (ms := 0) (P := P) (rest := rest) (fun v hv => List.mem_append_right _ (List.mem_cons_of_mem _ hv)) ?_ kk
  intro p e s m args below meth c hz hc H locs lsA hP hS hL hM hSt
  have hgood : ∀ w ∈ gw_tbl, w.before args s = true := hc.2.2.2.2.2.1
  have hok : okVs (vR k j :: as) := okVs.c (hSt _ (List.mem_append_right _ List.mem_cons_self)) (fun v hv => hSt v (List.mem_append_left _ (List.mem_reverse.mpr hv)))
  have hpl : (k, j) ∈ PL := mem_PL.mpr ⟨by have := hkc.1; omega, hok.hd⟩
  obtain ⟨i, -, hi⟩ := wsM_at (G := G) (M := M) hpl
  rw [cellE_o hkc.1] at hi
  obtain ⟨hb, hPc⟩ := preM (G := G) (I := I) (M := M) (y := y) (Iy := Iy) (as := vR k j :: as) hc hP hS
  have hcw : CallW I.2.2.2.2 s args I.2.1 C index y Iy.1 Iy.2.2.1 Iy.2.2.2.1 (Cond.code y Iy.1 Iy.2.2.1 Iy.2.2.2.1 :: gw_tbl) Iy.2.2.2.2 0 0 (as.map (cv (gA G))).length :=
    ⟨callB_of _ hgood (gw_good hcv.1.2.2.2.2 (fun w h => h)) rfl hcv.2.2.1 hcv.2.2.2 (by rw [hcv.2.1.1]; exact hgood _ hcv.1.2.2.2.1) (hgood _ hcv.1.1) (by rw [List.length_map]; exact hcv.2.1.2) ⟨hrm.1, hrm.2.1⟩, hgood _ hcv.1.2.1, hgood _ hcv.1.2.2.1⟩
  exact ⟨_, va_runV (Ts := gw_tbl) (As := as.map (cv (gA G))) (rest := rest.map (cv (gA G))) (b := gA G k j) (nL := I.2.2.1) ⟨hc.1, hc.2.1, hc.2.2.1, hc.2.2.2.2.1, hgood⟩ (hm hok hM H.size) hcw ⟨hb, va_recv hc.2.2.2.2.2.2.1 hP hkc.2 hi, hPc⟩ rfl rfl hL.1 (by show List.map (cv (gA G)) (as.reverse ++ vR k j :: rest) = _; rw [List.map_append, List.map_reverse]; rfl) (by rw [avc_sum]; show 0 + _ ≤ 8; omega) hd hrm.2.2⟩
theorem RnE.callS {index : Nat} {as rest : List AV} {y : MethodName} {Iy : MIx} {P : Option AV → Mem → Prop} (hcv : CS I.2.1 index y Iy as.length) (hrm : RmE I Iy cs) (hd : decode I.1 pc = .ok (.invokestatic index, 3)) (hW : (rest.map avc).sum ≤ 8) (hst : st = as.reverse ++ rest) (hm : MetM G y Iy as M P)
    (kk : ∀ r M', P r M' → RnE G I z cs Q (pc + 3) ls (r.toList ++ rest) M') : RnE G I z cs Q pc ls st M := by
  subst hst
  refine RnE.call (mc := 0) (ms := 0) (P := P) (rest := rest) (fun v hv => List.mem_append_right _ hv) ?_ kk
  intro p e s m args below meth c hz hc H locs lsA hP hS hL hM hSt
  have hgood : ∀ w ∈ gw_tbl, w.before args s = true := hc.2.2.2.2.2.1
  have hok : okVs as := fun v hv => hSt v (List.mem_append_left _ (List.mem_reverse.mpr hv))
  obtain ⟨hb, hPc⟩ := preM (G := G) (I := I) (M := M) (y := y) (Iy := Iy) (as := as) hc hP hS
  exact ⟨_, va_runS (Ts := gw_tbl) (As := as.map (cv (gA G))) (rest := rest.map (cv (gA G))) (nL := I.2.2.1) ⟨hc.1, hc.2.1, hc.2.2.1, hc.2.2.2.2.1, hgood⟩ (hm hok hM H.size) ⟨callB_of _ hgood (gw_good hcv.1.2.2.2 (fun w h => h)) rfl hcv.2.2.1 hcv.2.2.2 (hgood _ hcv.1.2.2.1) (hgood _ hcv.1.1) (by rw [List.length_map]; exact hcv.2.1) ⟨hrm.1, hrm.2.1⟩, hgood _ hcv.1.2.1⟩ ⟨hb, hPc⟩ rfl rfl hL.1 (by show List.map (cv (gA G)) (as.reverse ++ rest) = _; rw [List.map_append, List.map_reverse]) (by rw [avc_sum]; show 0 + _ ≤ 8; omega) hd hrm.2.2⟩
/-- a helper of the law: static, with a table, one cell of six slots at most -/
def CH (own : String) (index : Nat) (y : MethodName) (Iy : MIx) (hh : List (Nat × Nat × Nat × Nat)) (n : Nat) : Prop :=
  (Cond.methodLink own index y ∈ gw_tbl ∧ Cond.static y ∈ gw_tbl ∧ Cond.initialized y.cls ∈ gw_tbl ∧ Cond.codeWith y Iy.1 Iy.2.2.1 Iy.2.2.2.1 hh ∈ gw_tbl) ∧ (y.cls ≠ nMH ∧ y.cls ≠ nVH ∧ (parseMethodDescriptor y.desc).map (fun d => d.parameters.length) = some n) ∧ Iy.2.2.2.2.cells = 1 ∧ Iy.2.2.2.2.slots = 6
theorem RnE.callH {index : Nat} {as rest : List AV} {y : MethodName} {Iy : MIx} {hh : List (Nat × Nat × Nat × Nat)} {P : Option AV → Mem → Prop} (hx : zX G z) (hcv : CH I.2.1 index y Iy hh as.length) (hrm : RmE I Iy (cs.1 + 1, cs.2 + 6)) (hd : decode I.1 pc = .ok (.invokestatic index, 3)) (hW : (rest.map avc).sum ≤ 8) (hst : st = as.reverse ++ rest) (hm : MetH G y Iy hh as M P)
    (kk : ∀ r M', P r M' → RnE G I z (cs.1 + 1, cs.2 + 6) Q (pc + 3) ls (r.toList ++ rest) M') : RnE G I z cs Q pc ls st M := by
  subst hst
  refine RnE.call (mc := 1) (ms := 6) (P := P) (rest := rest) (fun v hv => List.mem_append_right _ hv) ?_ kk
  intro p e s m args below meth c hz hc H locs lsA hP hS hL hM hSt
  subst hz
  have hgood : ∀ w ∈ gw_tbl, w.before args s = true := hc.2.2.2.2.2.1
  have hok : okVs as := fun v hv => hSt v (List.mem_append_left _ (List.mem_reverse.mpr hv))
  have hpre := preX (G := G) (I := I) (M := M) (as := as) hc hx hP hS
  have hw : ∀ w ∈ Cond.codeWith y Iy.1 Iy.2.2.1 Iy.2.2.2.1 hh :: gw_tbl, w ∈ gw_tbl := fun w h => (List.mem_cons.mp h).elim (fun e => by rw [e]; exact hcv.1.2.2.2) id
  have hcw : vx_CSW I.2.2.2.2 s args I.2.1 index y Iy.1 Iy.2.2.1 Iy.2.2.2.1 hh (Cond.codeWith y Iy.1 Iy.2.2.1 Iy.2.2.2.1 hh :: gw_tbl) Iy.2.2.2.2 1 6 (as.map (cv (gA G))).length := by
    refine ⟨⟨hcv.2.2.1, hcv.2.2.2, hrm.1, hrm.2.1, fun w h a' U hW => word_at hW (good_of_word (List.mem_filter.mp (hw w h)).2) (hgood w (hw w h)), List.mem_cons_self⟩, hgood _ hcv.1.2.2.2, hgood _ hcv.1.2.2.1, ⟨hcv.2.1.1, hcv.2.1.2.1⟩, fun sig hs => ?_, hgood _ hcv.1.1, hgood _ hcv.1.2.1⟩
    have h9 := hcv.2.1.2.2
    rw [hs] at h9
    rw [List.length_map]
    exact (Option.some.inj h9).symm
  exact ⟨_, vx_runSW (Ts := gw_tbl) (As := as.map (cv (gA G))) (rest := rest.map (cv (gA G))) (nL := I.2.2.1) ⟨hc.1, hc.2.1, hc.2.2.1, hc.2.2.2.2.1, hgood⟩ (hm hok hM H.size) hcw hpre rfl rfl hL.1 (by show List.map (cv (gA G)) (as.reverse ++ rest) = _; rw [List.map_append, List.map_reverse]) (by rw [avc_sum]; show 0 + _ ≤ 8; omega) hd hrm.2.2⟩
/-- an exception of class E over the frame -/
def RnT (G : GX) (I : MIx) (z : MX) (cs : Nat × Nat) (Q : State → Prop) (pc : Nat) (ls : List (Option AV)) (rest : List AV) (M : Mem) (E : String) : Prop :=
  CxF G I z → ∀ (H : Heap) (locs : List Loc) (lsA : Array Slot), Pw G M H → va_S (gPool G z.2.2.1.heap.size) z.2.2.1.heap H locs → lv_has lsA I.2.2.1 (lvL (gA G) 0 ls) → okM M → okLs ls →
  ∀ (q : Addr) (ce : Cell), H[q]? = some ce → ce.vm = .none → z.2.2.1.vm.findClass E = some ce.cls →
  vx_W z.1 G.1 z.2.1 I.2.2.2.2 z.2.2.1 z.2.2.2.1 z.2.2.2.2.1 z.2.2.2.2.2.1 z.2.2.2.2.2.2.1 z.2.2.2.2.2.2.2 H locs cs.1 cs.2 Q (F0 z.2.2.2.1 pc lsA (rest.map (cv (gA G)))) q
theorem RnE.callX {k j index : Nat} {as rest : List AV} {y : MethodName} {Iy : MIx} {I0 : MIx} {C E : String} {T : u_T} {N : Nat} (hx : zX G z) (hcv : CV I.2.1 index C y I0 as.length) (hsame : Iy.1 = I0.1 ∧ Iy.2.2.1 = I0.2.2.1 ∧ Iy.2.2.2.1 = I0.2.2.2.1 ∧ Iy.2.2.2.2.cells = 1 ∧ Iy.2.2.2.2.slots = 6) (hkc : k < 12 ∧ vwCl[k]? = some (C, T, N)) (hrm : RmE I Iy (cs.1 + 1, cs.2 + 6)) (hd : decode I.1 pc = .ok (.invokevirtual index, 3)) (hW : (rest.map avc).sum ≤ 8) (hst : st = as.reverse ++ vR k j :: rest) (hm : MetX G y Iy (vR k j :: as) M E)
    (kk : RnT G I z (cs.1 + 1, cs.2 + 6) Q pc ls rest M E) : RnE G I z cs Q pc ls st M := by
  subst hst
  obtain ⟨p, e, s, m, args, below, meth, c⟩ := z
  intro hc H locs lsA hP hS hL hM hLs hSt
  have hgood : ∀ w ∈ gw_tbl, w.before args s = true := hc.2.2.2.2.2.1
  have hok : okVs (vR k j :: as) := okVs.c (hSt _ (List.mem_append_right _ List.mem_cons_self)) (fun v hv => hSt v (List.mem_append_left _ (List.mem_reverse.mpr hv)))
  have hpl : (k, j) ∈ PL := mem_PL.mpr ⟨by have := hkc.1; omega, hok.hd⟩
  obtain ⟨i, -, hi⟩ := wsM_at (G := G) (M := M) hpl
  rw [cellE_o hkc.1] at hi
  obtain ⟨hb, hPc⟩ := preX (G := G) (I := I) (M := M) (as := vR k j :: as) hc hx hP hS
  have hcode : Cond.code y Iy.1 Iy.2.2.1 Iy.2.2.2.1 ∈ gw_tbl := by rw [hsame.1, hsame.2.1, hsame.2.2.1]; exact hcv.1.2.2.2.2
  have hcw : CallW I.2.2.2.2 s args I.2.1 C index y Iy.1 Iy.2.2.1 Iy.2.2.2.1 (Cond.code y Iy.1 Iy.2.2.1 Iy.2.2.2.1 :: gw_tbl) Iy.2.2.2.2 1 6 (as.map (cv (gA G))).length :=
    ⟨callB_of _ hgood (gw_good hcode (fun w h => h)) rfl hsame.2.2.2.1 hsame.2.2.2.2 (by rw [hcv.2.1.1]; exact hgood _ hcv.1.2.2.2.1) (hgood _ hcv.1.1) (by rw [List.length_map]; exact hcv.2.1.2) ⟨hrm.1, hrm.2.1⟩, hgood _ hcv.1.2.1, hgood _ hcv.1.2.2.1⟩
  have hrun := vx_runV (e := e) (below := below) (meth := meth) (H := H) (locs := locs) (cells := cs.1) (slots := cs.2) (g := F0 m pc lsA (List.map (cv (gA G)) (as.reverse ++ vR k j :: rest))) (Ts := gw_tbl) (As := as.map (cv (gA G))) (rest := rest.map (cv (gA G))) (b := gA G k j) (nL := I.2.2.1) ⟨hc.1, hc.2.1, hc.2.2.1, hc.2.2.2.2.1, hgood⟩ (hm hok hM H.size) hcw ⟨hb, va_recv hc.2.2.2.2.2.2.1 hP hkc.2 hi, hPc⟩ rfl rfl hL.1 (by show List.map (cv (gA G)) (as.reverse ++ vR k j :: rest) = _; rw [List.map_append, List.map_reverse]; rfl) (by rw [avc_sum]; show 0 + _ ≤ 8; omega) hd hrm.2.2
  intro T9 hT9 X
  rcases hrun T9 hT9 X with ⟨v, st₀, t, T', L, h0, X', hLf, e1, e2, hF, stp⟩ | ⟨q, st₀, t, T', L, E', ce, h0, X', hLf, e1, e2, ⟨rfl, hPt, hz, hk⟩, hce, hcv9, hcl, stp⟩
  · exact hF.elim
  · rw [h0] at hz hk
    have hsub := gSub (G := G) hS.1
    have hS1 : va_S (gPool G s.heap.size) s.heap T'.heap (locs ++ L) := by
      refine ⟨Nat.le_trans hS.1 (by rw [e1]; exact hz), fun q h1 h2 => ?_, fun q hq => ?_⟩
      · rw [e1, hk q (Nat.lt_of_lt_of_le h1 hS.1) (fun z => h2 (hsub q z))]; exact hS.2.1 q h1 h2
      · rcases List.mem_append.mp hq with h | h
        · exact hS.2.2 q h
        · exact hsub _ (hLf q h)
    obtain ⟨t2, a1, b1⟩ := kk hc T'.heap (locs ++ L) lsA (by rw [e1]; exact hPt) hS1 hL hM hLs q ce (by rw [e1]; exact hce) hcv9 hcl T' rfl X'
    exact ⟨t2, stp.trans a1, b1⟩
theorem lvSet0 {ad : Nat → Nat → Nat} {nL i x : Nat} {ls : List (Option AV)} (hn : notL ls i = true) :
    ∀ lsA : Array Slot, lv_has lsA nL ((i, Value.ref x) :: (lvL ad 0 ls).filter (fun q => !(q.1 == i) && !(q.1 + 1 == i && q.2.category == 2))) → lv_has lsA nL (lvL ad 0 (ls.set i none)) := by
  intro lsA h
  refine ⟨h.1, h.2.1, fun q hq => h.2.2 q ?_⟩
  obtain ⟨a, w, ha, rfl⟩ := mem_lvL.mp hq
  rw [List.getElem?_set] at ha
  by_cases hi : i = a
  · rw [if_pos hi] at ha
    split at ha <;> cases ha
  · rw [if_neg hi] at ha
    refine List.mem_cons_of_mem _ (List.mem_filter.mpr ⟨mem_lvL.mpr ⟨a, w, ha, rfl⟩, ?_⟩)
    simp only [Nat.zero_add, Bool.and_eq_true, Bool.not_eq_true', Bool.and_eq_false_iff, beq_eq_false_iff_ne, ne_eq]
    refine ⟨fun q => hi q.symm, ?_⟩
    by_cases h2 : a + 1 = i
    · right
      intro hc
      obtain ⟨x, rfl⟩ := cv_cat1 hc
      subst h2
      simp [notL, ha] at hn
    · left; exact h2
theorem RnT.catchN {E : String} {rest : List AV} {n : Nat} {k : Fin 4} (pre : List ExceptionTableEntry) (x : ExceptionTableEntry) (suf : List ExceptionTableEntry) (ht : (zC z).exceptionTable.toList = pre ++ x :: suf)
    (hpass : ∀ y ∈ pre, covers y pc = false ∨ (y.catchType ≠ 0 ∧ ∃ nm : String, Cond.classLink I.2.1 y.catchType nm ∈ gw_tbl ∧ va_Nc E nm (zS z))) (hx : covers x pc = true) (h0 : x.catchType ≠ 0) (hl : Cond.classLink I.2.1 x.catchType E ∈ gw_tbl) (hzx : zX G z) (hca : E ∈ xwC)
    (hd : decode I.1 x.handlerPc = .ok (.astore_n k, 1)) (hk : (k : Nat) = n) (hn : n < I.2.2.1) (hnl : notL ls n = true) (kk : RnE G I z cs Q (x.handlerPc + 1) (ls.set n none) [] M) : RnT G I z cs Q pc ls rest M E := by
  obtain ⟨p, e, s, m, args, below, meth, c⟩ := z
  intro hc H locs lsA hP hS hL hM hLs q ce hce hcv hcl
  have hgood : ∀ w ∈ gw_tbl, w.before args s = true := hc.2.2.2.2.2.1
  refine vx_catch hc.2.2.2.2.1 pre x suf ht (fun y hy => (hpass y hy).imp id (fun h => ⟨h.1, h.2.choose, hgood _ h.2.choose_spec.1, h.2.choose_spec.2⟩)) hx h0 (hgood _ hl) (va_Nw.use rfl (hzx.2.2.2.2.2 _ hca)) hce hcv hcl ?_
  exact lv_astore_n hc.1 hc.2.1 hd hk hL hn rfl (fun ls' h' => kk hc H locs ls' hP hS (lvSet0 hnl ls' h') hM hLs.set0 (fun v h => nomatch h))
theorem RnT.catch {E : String} {rest : List AV} {n : Nat} (pre : List ExceptionTableEntry) (x : ExceptionTableEntry) (suf : List ExceptionTableEntry) (ht : (zC z).exceptionTable.toList = pre ++ x :: suf)
    (hpass : ∀ y ∈ pre, covers y pc = false ∨ (y.catchType ≠ 0 ∧ ∃ nm : String, Cond.classLink I.2.1 y.catchType nm ∈ gw_tbl ∧ va_Nc E nm (zS z))) (hx : covers x pc = true) (h0 : x.catchType ≠ 0) (hl : Cond.classLink I.2.1 x.catchType E ∈ gw_tbl) (hzx : zX G z) (hca : E ∈ xwC)
    (hd : decode I.1 x.handlerPc = .ok (.astore n, 2)) (hn : n < I.2.2.1) (hnl : notL ls n = true) (kk : RnE G I z cs Q (x.handlerPc + 2) (ls.set n none) [] M) : RnT G I z cs Q pc ls rest M E := by
  obtain ⟨p, e, s, m, args, below, meth, c⟩ := z
  intro hc H locs lsA hP hS hL hM hLs q ce hce hcv hcl
  have hgood : ∀ w ∈ gw_tbl, w.before args s = true := hc.2.2.2.2.2.1
  refine vx_catch hc.2.2.2.2.1 pre x suf ht (fun y hy => (hpass y hy).imp id (fun h => ⟨h.1, h.2.choose, hgood _ h.2.choose_spec.1, h.2.choose_spec.2⟩)) hx h0 (hgood _ hl) (va_Nw.use rfl (hzx.2.2.2.2.2 _ hca)) hce hcv hcl ?_
  exact lv_astore hc.1 hc.2.1 hd hL hn rfl (fun ls' h' => kk hc H locs ls' hP hS (lvSet0 hnl ls' h') hM hLs.set0 (fun v h => nomatch h))
theorem RnE.thrS {is j : Nat} {tx : String} (hx : zX G z) (ht : ∀ x ∈ (zC z).exceptionTable.toList, False) (hI : I.2.1 = RX11) (hw : (RX11, is, tx, j) ∈ strR) (d0 : decode I.1 pc = .ok (.new 55, 3)) (d3 : decode I.1 (pc + 3) = .ok (.dup, 1)) (d4 : decode I.1 (pc + 4) = .ok (.ldc is, 2)) (d6 : decode I.1 (pc + 6) = .ok (.invokespecial 59, 3)) (d9 : decode I.1 (pc + 9) = .ok (.athrow, 1)) (hR : 5 < I.2.2.2.2.frames ∧ 82 ≤ I.2.2.2.2.locals ∧ 1 ≤ I.2.2.2.2.cells ∧ 6 ≤ I.2.2.2.2.slots) : RnE G I z (0, 0) (QX G M nIS z) pc ls [] M := by
  obtain ⟨p, e, s, m, args, below, meth, c⟩ := z
  intro hc H locs lsA hP hS hL hM hLs hSt
  have hgood : ∀ w ∈ gw_tbl, w.before args s = true := hc.2.2.2.2.2.1
  refine vx_throwS (cc := I.1) (own := RX11) (cls := nIS) (text := tx) (names := sups) (ik := 55) (is := is) (ic := 59) (sa := gA G 52 j) (A := gPool G s.heap.size) hc.1 hc.2.1 hx.1 (by rw [← hI]; exact hc.2.2.2.2.1) (by decide) (by decide) (wd_at wdS_in hx hgood _ List.mem_cons_self) (wd_at wdS_in hx hgood _ (List.mem_cons_of_mem _ List.mem_cons_self)) (hc.2.2.2.2.2.2.2.2.2.1.2.2.2.2.2.2.2.2 _ hw) (fun w h => wd_at wdS_in hx hgood w (List.mem_cons_of_mem _ (List.mem_cons_of_mem _ h))) wdS_ot hx.2.1 hx.2.2.1 hS (hL.1.trans hc.2.2.1.symm) d0 d3 d4 d6 d9 (fun x h => (ht x h).elim) hR.1 hR.2.1 hR.2.2.1 hR.2.2.2 hc.2.2.2.2.2.2.2.1 ?_ hS.2.2 (Nat.le_refl _) (Nat.le_refl _)
  intro t hA h1 h2
  exact ⟨rfl, va_P.kept hP (fun k9 x hx9 => h2 x.1 ((hP k9 x hx9).lt)), Nat.le_trans hS.1 h1, fun q q1 q2 => by rw [h2 q (Nat.lt_of_lt_of_le q1 hS.1)]; exact hS.2.1 q q1 q2⟩
theorem RnE.thrA {is j : Nat} {tx : String} (hx : zX G z) (ht : ∀ x ∈ (zC z).exceptionTable.toList, False) (hI : I.2.1 = RX11) (hw : (RX11, is, tx, j) ∈ strR) (d0 : decode I.1 pc = .ok (.new 70, 3)) (d3 : decode I.1 (pc + 3) = .ok (.dup, 1)) (d4 : decode I.1 (pc + 4) = .ok (.ldc is, 2)) (d6 : decode I.1 (pc + 6) = .ok (.invokespecial 74, 3)) (d9 : decode I.1 (pc + 9) = .ok (.athrow, 1)) (hR : 5 < I.2.2.2.2.frames ∧ 82 ≤ I.2.2.2.2.locals ∧ 1 ≤ I.2.2.2.2.cells ∧ 6 ≤ I.2.2.2.2.slots) : RnE G I z (0, 0) (QX G M nIA z) pc ls [] M := by
  obtain ⟨p, e, s, m, args, below, meth, c⟩ := z
  intro hc H locs lsA hP hS hL hM hLs hSt
  have hgood : ∀ w ∈ gw_tbl, w.before args s = true := hc.2.2.2.2.2.1
  refine vx_throwS (cc := I.1) (own := RX11) (cls := nIA) (text := tx) (names := sups) (ik := 70) (is := is) (ic := 74) (sa := gA G 52 j) (A := gPool G s.heap.size) hc.1 hc.2.1 hx.1 (by rw [← hI]; exact hc.2.2.2.2.1) (by decide) (by decide) (wd_at wdA_in hx hgood _ List.mem_cons_self) (wd_at wdA_in hx hgood _ (List.mem_cons_of_mem _ List.mem_cons_self)) (hc.2.2.2.2.2.2.2.2.2.1.2.2.2.2.2.2.2.2 _ hw) (fun w h => wd_at wdA_in hx hgood w (List.mem_cons_of_mem _ (List.mem_cons_of_mem _ h))) wdA_ot hx.2.1 hx.2.2.1 hS (hL.1.trans hc.2.2.1.symm) d0 d3 d4 d6 d9 (fun x h => (ht x h).elim) hR.1 hR.2.1 hR.2.2.1 hR.2.2.2 hc.2.2.2.2.2.2.2.1 ?_ hS.2.2 (Nat.le_refl _) (Nat.le_refl _)
  intro t hA h1 h2
  exact ⟨rfl, va_P.kept hP (fun k9 x hx9 => h2 x.1 ((hP k9 x hx9).lt)), Nat.le_trans hS.1 h1, fun q q1 q2 => by rw [h2 q (Nat.lt_of_lt_of_le q1 hS.1)]; exact hS.2.1 q q1 q2⟩
end EROWS
