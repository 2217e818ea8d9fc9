/-- the place of a cell among the made ones -/
def pos : Nat → Nat → Nat
  | 10, _ => 0
  | 9, j => 1 + 109 * j
  | 12, j => 2 + 109 * j
  | 13, _ => 3
  | 7, m => 4 + 26 * m
  | 14, m => 5 + 26 * m
  | 8, x => 6 + 26 * (x / 24) + x % 24
  | 5, _ => 108
  | 6, _ => 109
  | 1, _ => 112
  | 0, l => 113 + 21 * l
  | 3, l => 114 + 21 * l
  | 15, l => 115 + 21 * l
  | 16, l => 116 + 21 * l
  | 17, x => 117 + 21 * (x / 3) + x % 3
  | 4, l => 120 + 21 * l
  | 18, x => 121 + 21 * (x / 2) + 5 * (x % 2)
  | 19, x => 122 + 21 * (x / 8) + 5 * (x % 8 / 4) + x % 4
  | 20, l => 131 + 21 * l
  | 2, l => 132 + 21 * l
  | 21, l => 133 + 21 * l
  | 11, _ => 155
  | k, _ => 134 + k
def AdG (G : GX) (B : Nat) : Prop := ∀ k j, (k, j) ∈ PL → gA G k j = B + pos k j
theorem AdG.at {G : GX} {B : Nat} (h : AdG G B) {k j : Nat} (p : Nat) (hk : k < 42) (hj : j < kCnt k) (hp : pos k j = p) : gA G k j = B + p := by
  rw [h k j (mem_PL.mpr ⟨hk, hj⟩), hp]
theorem pos_nd : (PL.map (fun q => pos q.1 q.2)).Nodup := by decide +kernel
theorem AdG.inj {G : GX} {B : Nat} (h : AdG G B) : InjG G := by
  intro k j k' j' h1 h2 e
  rw [h k j h1, h k' j' h2] at e
  obtain ⟨i, hi⟩ := List.getElem?_of_mem h1
  obtain ⟨i', hi'⟩ := List.getElem?_of_mem h2
  have e1 : (PL.map (fun q => pos q.1 q.2))[i]? = some (pos k j) := by rw [List.getElem?_map, hi]; rfl
  have e2 : (PL.map (fun q => pos q.1 q.2))[i']? = some (pos k j) := by rw [List.getElem?_map, hi']; exact congrArg some (by show pos k' j' = pos k j; omega)
  have h9 := nd_inj pos_nd e1 e2
  subst h9
  exact Prod.mk.inj (Option.some.inj (hi.symm.trans hi'))
theorem pos_lt : ∀ q ∈ PL, pos q.1 q.2 < 176 := by decide +kernel
theorem arrV_cong {c : ClassId} {N : Nat} {f g : Nat → Value} (h : ∀ j, j < N → f j = g j) : arrV c N f = arrV c N g := by
  unfold arrV
  have e : (fun j : Fin N => f j.val) = (fun j : Fin N => g j.val) := funext fun j => h j.1 j.2
  rw [e]
section ARULES2
variable {G : GX} {I : MIx} {z : MX} {cs : Nat × Nat} {Q : State → Prop} {pc : Nat} {ls : List (Option AV)} {st : List AV} {M : WP} {lo n : Nat} {o : OC}
theorem RnA.to {n' : Nat} (h : n = n') (k : RnA G I z cs Q pc ls st (lo, n', o)) : RnA G I z cs Q pc ls st (lo, n, o) := h ▸ k
theorem RnA.cst {cs' : Nat × Nat} (h : cs = cs') (k : RnA G I z cs' Q pc ls st M) : RnA G I z cs Q pc ls st M := h ▸ k
theorem RnA.ops {o' : OC} (h : o = o') (k : RnA G I z cs Q pc ls st (lo, n, o')) : RnA G I z cs Q pc ls st (lo, n, o) := h ▸ k
set_option maxRecDepth 100000 in
theorem wIA : Cond.arrayClass .int ∈ gw_tbl := gw_at 320 (by decide +kernel) rfl
theorem RnA.mna {index x : Nat} (hl : Cond.classLink I.2.1 index ("[" ++ (FieldType.array .int).toString) ∈ gw_tbl) (ho : (Cond.arrayOver (.array .int)).before #[] z.2.2.1 = true) (ha : gA G 18 x = n) (hb : ∀ i, i < 4 → gA G 19 (4 * x + i) = n + 1 + i) (hx : x < 4) (hcs : cs.1 + 5 ≤ I.2.2.2.2.cells ∧ cs.2 + 16 ≤ I.2.2.2.2.slots) (hd : decode I.1 pc = .ok (.multianewarray index 2, 4))
    (k9 : RnA G I z (cs.1 + 5, cs.2 + 16) Q (pc + 4) ls (vR 18 x :: st) (lo, n + 5, o)) : RnA G I z cs Q pc ls (vI (nI 3) :: vI (nI 4) :: st) (lo, n, o) := by
  obtain ⟨p, e, s, m, args, below, meth, c⟩ := z
  intro hc H locs lsA hW hS hL hM0 hLs hSt
  have hgood : ∀ w ∈ gw_tbl, w.before args s = true := hc.2.2.2.2.2.1
  have hK : va_K (gD G) vwCl (tysG G) s := hc.2.2.2.2.2.2.1
  have hI : InjG G := hc.2.2.2.2.2.2.2.2.1
  have hn : H.size = n := hW.1
  have h4 : (nI 4).toNatClampNeg = 4 := nI_clamp (by decide)
  have h3 : (nI 3).toNatClampNeg = 3 := nI_clamp (by decide)
  intro T hT X
  have hcode : c.code = I.1 := hc.2.1
  obtain ⟨vm₁, cA, comp, -, fA, fC, -, -, X', step⟩ := X.multianewarray2F (ty := .int) hc.1 hc.2.2.2.2.1 (hgood _ hl) (Jvm.Stand.arrayOver_alikeB (Vm.Alike.refl _) ho) (hgood _ wIA) (g := F0 m pc lsA ((vI (nI 3) :: vI (nI 4) :: st).map (cv (gA G)))) rfl (by rw [hcode]; exact hd) rfl (nI_pos (by decide)) (nI_pos (by decide)) (by rw [h4]; decide) (by rw [h3]; decide) (by rw [h3]; decide) rfl rfl (by rw [h4]; have := hcs.1; omega) (by rw [h4, h3]; have := hcs.2; omega)
  have g7 : s.vm.findClass ("[" ++ (FieldType.array .int).toString) = some (gC G 7) := (hK.2 7 _ (tysG_at G (by decide))).2
  have g2 : s.vm.findClass (FieldType.array .int).toString = some (gC G 2) := (hK.2 2 _ (tysG_at G (by decide))).2
  have e7 : cA = gC G 7 := Option.some.inj (fA.symm.trans g7)
  have e2 : comp = gC G 2 := Option.some.inj (fC.symm.trans g2)
  subst e7; subst e2
  rw [h4, h3] at X' step
  have hTh : (T.setVm vm₁).heap = H := hT
  generalize hF : Jvm.Free.Multi.fill (T.setVm vm₁) (gC G 7) (gC G 2) 4 3 (defaultValue .int) 4 = F at X' step
  obtain ⟨f1, f2, -, -⟩ := Jvm.Free.Multi.fill_facts (T.setVm vm₁) (gC G 7) (gC G 2) 4 3 (defaultValue .int) 4
  rw [hF, hTh] at f1 f2
  have hold : ∀ q : Nat, q < n → F.heap[q]? = H[q]? := fun q hq => by
    have := Jvm.Free.Multi.fill_old (T.setVm vm₁) (gC G 7) (gC G 2) 4 3 (defaultValue .int) (a := q) (by rw [hTh]; exact (show q < H.size by omega)) 4
    rw [hF, hTh] at this
    exact this
  have hrow : ∀ j : Nat, j < 4 → F.heap[H.size + 1 + j]? = some (arrV (gC G 2) 3 (fun _ => .int 0)) := fun j hj => by
    have := Jvm.Free.Multi.fill_inner (T.setVm vm₁) (gC G 7) (gC G 2) 4 3 (defaultValue .int) 4 j hj
    rw [hF, hTh] at this
    rw [this, ← arrV_new]
    rfl
  rw [vr_outer] at f2
  have p18 : (18, x) ∈ PL := mem_PL.mpr ⟨by decide, hx⟩
  have hW1 : WA G (lo, n + 5, o) F.heap := by
    refine WA.add hW (by omega) (by rw [f1, hn]) hold (fun k' j' hp h1 h2 => ?_)
    by_cases e9 : gA G k' j' = n
    · obtain ⟨rfl, rfl⟩ := hI _ _ _ _ hp p18 (e9.trans ha.symm)
      unfold clA
      rw [cellE_a ak18]
      show F.heap[_]? = some (vp_cell (gC G 7) (4, .inr (.inr (.inr (.inr (fun i => some (gA G 19 (mR mem0 18 j' i))))))))
      rw [ha, ← hn, f2, vp_cell_q]
      refine congrArg some (arrV_cong fun i hi => ?_)
      rw [if_pos hi, show mR mem0 18 j' i = 4 * j' + i from rfl, hb i hi, hn]
    · obtain ⟨i, hi⟩ : ∃ i, i = gA G k' j' - n - 1 := ⟨_, rfl⟩
      have hi4 : i < 4 := by omega
      have hk2 := hb i hi4
      have e8 : gA G k' j' = gA G 19 (4 * x + i) := by omega
      have hp19 : (19, 4 * x + i) ∈ PL := mem_PL.mpr ⟨by decide, by show 4 * x + i < 16; omega⟩
      obtain ⟨rfl, hj9⟩ := hI _ _ _ _ hp hp19 e8
      unfold clA
      rw [cellE_a ak19, e8]
      show F.heap[gA G 19 (4 * x + i)]? = some (arrV (gC G 2) 3 (fun _ => .int 0))
      rw [hk2, ← hn]
      exact hrow i hi4
  obtain ⟨t2, b1, b2⟩ := k9 hc F.heap locs lsA hW1 (S_grow hS (by rw [f1]; omega) (fun q hq => hold q (by omega))) hL trivial hLs (okVs.c hx hSt.d.d) F rfl X'
  refine ⟨t2, step t2 ?_, b2⟩
  have ea : T.heap.size = gA G 18 x := by
    have hT9 : T.heap = H := hT
    rw [hT9, hn, ha]
  rw [ea]
  exact b1
/-! a method without answer over a world of open cells -/
def pW (G : GX) (w : WP) : Nat → Prop := fun q => w.1 ≤ q ∧ gPool G w.2.1 q
def MetA (G : GX) (y : MethodName) (I : MIx) (as : List AV) (w w' : WP) : Prop := okVs as → Met G.1 y (Cond.code y I.1 I.2.2.1 I.2.2.2.1 :: gw_tbl) I.2.2.2.2 (va_Pc (as.map (cv (gA G))) (fun U => WA G w U.heap ∧ va_K (gD G) vwCl (tysG G) U ∧ InjG G ∧ RO G (gPool G U.heap.size) U U.heap)) (fun _ st oc t => (oc = .returned none ∧ WA G w' t.heap) ∧ va_F (pW G w) st t) 0 0 (pW G w)
abbrev QA (G : GX) (w w' : WP) (z : MX) : State → Prop := MQ z.2.2.2.2.2.1 (fun _ st oc t => (oc = .returned none ∧ WA G w' t.heap) ∧ va_F (pW G w) st t) z.2.2.2.2.1 z.2.2.1 0 0 (pW G w)
theorem MetA.of {y : MethodName} {as : List AV} {w w' : WP} (hy : plainName y.cls = true) (hown : I.2.1 = y.cls) (hlen : (entA as).length ≤ I.2.2.1) (hls : entA as ++ List.replicate (I.2.2.1 - (entA as).length) none = ls) (h : ∀ z : MX, z.2.2.1.heap.size = w.2.1 → RnA G I z (0, 0) (QA G w w' z) 0 ls [] w) : MetA G y I as w w' := by
  intro hok
  refine Met.ofW (cc := I.1) (maxL := I.2.2.1) (ret := I.2.2.2.1) hy rfl ?_
  intro p e s m args below meth c s₁ B hml hv
  obtain ⟨rfl, hP, hK, hI, hR⟩ := hv
  have hts := atoms_spec (ws := Cond.code y I.1 I.2.2.1 I.2.2.2.1 :: gw_tbl) B.pre
  have hcx : Cx G I p s m (as.map (cv (gA G))).toArray meth c := ⟨B.exec, B.bytes, hml, B.returns, by rw [hown]; exact findClass_of_methodNamed B.named, fun w hw => hts w (List.mem_cons_of_mem _ hw), hK, B.notSynchronized, hI, hR⟩
  have hl := lv_entry (as.map (cv (gA G))) (n := I.2.2.1) (by rw [ent_len]; exact hlen)
  rw [lg_entry_eq]
  rw [← lvL_ent (gA G) (I.2.2.1 - (entA as).length), hls] at hl
  exact h (p, e, s, m, (as.map (cv (gA G))).toArray, below, meth, c) hP.1 hcx s.heap [] _ hP va_S.rf hl trivial (hls ▸ okLs_ent hok _) (fun v h => nomatch h)
theorem RnA.vretA {w : WP} (hz : z.2.2.1.heap.size = w.2.1) (hlo : w.1 = M.1) (h1 : cs.1 ≤ 0) (h2 : cs.2 ≤ 0) (hr : I.2.2.2.1 = none) (hd : decode I.1 pc = .ok (.return_, 1)) : RnA G I z cs (QA G w M z) pc ls [] M := by
  obtain ⟨p, e, s0, m, args, below, meth, c⟩ := z
  intro hc H locs lsA hW hS hL hM0 hLs hSt
  have hp : ∀ q, pA G (p, e, s0, m, args, below, meth, c) M.1 q → pW G w q := fun q h => by
    unfold pW
    have h9 : gPool G s0.heap.size q := h.2
    rw [hz] at h9
    exact ⟨hlo ▸ h.1, h9⟩
  refine W.widen h1 h2 (W.vret hc.1 hc.2.1 (hc.2.2.2.1.trans hr) (fun t ht hW9 => ⟨⟨rfl, by rw [ht]; exact hW⟩, ?_⟩) (fun q hq => hp _ (hS.2.2 q hq)) hd hc.2.2.2.2.2.2.2.1)
  refine ⟨by rw [ht]; exact hS.1, fun q q1 q2 => by rw [ht]; exact hS.2.1 q q1 (fun h => q2 (hp q h))⟩
theorem RnA.callA {index k j : Nat} {y : MethodName} {Iy : MIx} {C : String} {T : u_T} {N : Nat} {fs : List AV} {M' : WP} (hcv : CV I.2.1 index C y Iy 0) (hkc : k < 12 ∧ vwCl[k]? = some (C, T, N)) (hrm : RmE I Iy cs) (hd : decode I.1 pc = .ok (.invokevirtual index, 3)) (hW9 : (st.map avc).sum ≤ 8) (hlo : M'.1 = M.1) (hop : ((k, j), .inl fs) ∈ M.2.2) (hm : MetA G y Iy [vR k j] M M')
    (kk : RnA G I z cs Q (pc + 3) ls st M') : RnA G I z cs Q pc ls (vR k j :: st) M := by
  obtain ⟨p, e, s, m, args, below, meth, c⟩ := z
  intro hc H locs lsA hW hS hL hM0 hLs hSt
  have hgood : ∀ w ∈ gw_tbl, w.before args s = true := hc.2.2.2.2.2.1
  have hn : H.size = M.2.1 := hW.1
  obtain ⟨a1, a2, ho⟩ := hW.2.2.1 _ hop
  have hok : okVs [vR k j] := fun v hv => by rw [List.mem_singleton.mp hv]; exact (mem_PL.mp a1).2
  have hpp : ∀ q, pW G M q → pA G (p, e, s, m, args, below, meth, c) M.1 q := fun q h => ⟨h.1, h.2.imp id (fun h9 => Nat.le_trans hS.1 (by rw [hn]; exact h9))⟩
  have hpg : ∀ q, ¬ gPool G s.heap.size q → ¬ pA G (p, e, s, m, args, below, meth, c) M.1 q := fun q h h9 => h h9.2
  have hPb : FrameBlind (va_Pc ([vR k j].map (cv (gA G))) (fun U => WA G M U.heap ∧ va_K (gD G) vwCl (tysG G) U ∧ InjG G ∧ RO G (gPool G U.heap.size) U U.heap)) := by
    intro a U g mk q
    obtain ⟨q0, q2, q3, q4, q5⟩ := q
    exact ⟨q0, q2, va_K.moved (u := U) (U := U.calling g mk a) (Vm.Alike.refl U.vm) q3, q4, RO.same (u := U) (U := U.calling g mk a) rfl q5⟩
  have hPc : ∀ U : State, U.heap = H → s.WarmedH U.vm → va_Pc ([vR k j].map (cv (gA G))) (fun U => WA G M U.heap ∧ va_K (gD G) vwCl (tysG G) U ∧ InjG G ∧ RO G (gPool G U.heap.size) U U.heap) ([vR k j].map (cv (gA G))).toArray U := by
    intro U hU hWm
    refine ⟨rfl, by rw [hU]; exact hW, va_K.moved hWm.alike hc.2.2.2.2.2.2.1, hc.2.2.2.2.2.2.2.2.1, ?_⟩
    rw [hU]
    exact RO.warm hWm (RO.narrow (RO.kept hc.2.2.2.2.2.2.2.2.2 (fun q h1 h2 => hS.2.1 q h1 (hpg q h2))) (gSub hS.1))
  have hcw : CallW I.2.2.2.2 s args I.2.1 C index y Iy.1 Iy.2.2.1 Iy.2.2.2.1 (Cond.code y Iy.1 Iy.2.2.1 Iy.2.2.2.1 :: gw_tbl) Iy.2.2.2.2 0 0 (([] : List AV).map (cv (gA G))).length :=
    ⟨callB_of _ hgood (gw_good hcv.1.2.2.2.2 (fun w h => h)) rfl hcv.2.2.1 hcv.2.2.2 (by rw [hcv.2.1.1]; exact hgood _ hcv.1.2.2.2.1) (hgood _ hcv.1.1) hcv.2.1.2 ⟨hrm.1, hrm.2.1⟩, hgood _ hcv.1.2.1, hgood _ hcv.1.2.2.1⟩
  have hrun := va_runV (e := e) (below := below) (meth := meth) (H := H) (locs := locs) (cells := cs.1) (slots := cs.2) (g := F0 m pc lsA ((vR k j :: st).map (cv (gA G)))) (Ts := gw_tbl) (As := ([] : List AV).map (cv (gA G))) (rest := st.map (cv (gA G))) (b := gA G k j) (nL := I.2.2.1) ⟨hc.1, hc.2.1, hc.2.2.1, hc.2.2.2.2.1, hgood⟩ (hm hok) hcw ⟨hPb, va_recv hc.2.2.2.2.2.2.1 (vaP1 ho) hkc.2 (q0 := 0) rfl, hPc⟩ rfl rfl hL.1 rfl (by rw [avc_sum]; show 0 + _ ≤ 8; omega) hd hrm.2.2
  intro T9 hT X
  obtain ⟨v, st₀, t, T', L, h0, X', hLf, e1, e2, ⟨⟨hv, hW1⟩, hz, hk⟩, stp⟩ := hrun T9 hT X
  rw [h0] at hz hk
  have hS1 : va_S (pA G (p, e, s, m, args, below, meth, c) M.1) s.heap T'.heap (locs ++ L) := by
    refine ⟨Nat.le_trans hS.1 (by rw [e1]; exact hz), fun q h1 h2 => ?_, fun q hq => ?_⟩
    · rw [e1, hk q (Nat.lt_of_lt_of_le h1 hS.1) (fun z => h2 (hpp q z))]; exact hS.2.1 q h1 h2
    · rcases List.mem_append.mp hq with h | h
      · exact hS.2.2 q h
      · exact hpp _ (hLf q h)
  rw [← hlo] at hS1
  obtain ⟨t2, b1, b2⟩ := kk hc T'.heap (locs ++ L) lsA (by rw [e1]; exact hW1) hS1 hL trivial hLs hSt.d T' rfl X'
  refine ⟨t2, stp t2 ?_, b2⟩
  cases hv
  exact b1
end ARULES2
set_option maxRecDepth 100000 in
theorem wOI : Cond.instanceMethod Lib.objectInit ∈ gw_tbl ∧ Cond.code Lib.objectInit ⟨#[0xb1]⟩ 1 none ∈ gw_tbl := ⟨gw_at 113 (by decide +kernel) rfl, gw_at 114 (by decide +kernel) rfl⟩
set_option maxRecDepth 100000 in
theorem na12 : NA .char 12 1 48 0 := ⟨ak12, by decide, gw_at 131 (by decide +kernel) rfl, fun _ _ h => h, by decide, by decide⟩
set_option maxRecDepth 100000 in
theorem na15 : NA .long 15 3 96 1 := ⟨ak15, by decide, gw_at 318 (by decide +kernel) rfl, fun _ _ h => h, by decide, by decide⟩
set_option maxRecDepth 100000 in
theorem na16 : NA .boolean 16 4 96 0 := ⟨ak16, by decide, gw_at 319 (by decide +kernel) rfl, fun _ _ h => h, by decide, by decide⟩
set_option maxRecDepth 100000 in
theorem na17 : NA .int 17 2 96 0 := ⟨ak17, by decide, gw_at 320 (by decide +kernel) rfl, fun _ _ h => h, by decide, by decide⟩
set_option maxRecDepth 100000 in
theorem na19 : NA .int 19 2 3 0 := ⟨ak19, by decide, gw_at 320 (by decide +kernel) rfl, fun _ _ h => h, by decide, by decide⟩
set_option maxRecDepth 100000 in
theorem na20 : NA .int 20 2 4 0 := ⟨ak20, by decide, gw_at 320 (by decide +kernel) rfl, fun _ _ h => h, by decide, by decide⟩
set_option maxRecDepth 100000 in
theorem na21 : NA .byte 21 0 2048 0 := ⟨ak21, by decide, gw_at 361 (by decide +kernel) rfl, fun _ _ h => h, by decide, by decide⟩
set_option maxRecDepth 100000 in
theorem na22 : NA .char 22 1 48 0 := ⟨ak22, by decide, gw_at 131 (by decide +kernel) rfl, fun _ _ h => h, by decide, by decide⟩
set_option maxRecDepth 100000 in
theorem na23 : NA .int 23 2 4 0 := ⟨ak23, by decide, gw_at 320 (by decide +kernel) rfl, fun _ _ h => h, by decide, by decide⟩
set_option maxRecDepth 100000 in
theorem na24 : NA .int 24 2 96 0 := ⟨ak24, by decide, gw_at 320 (by decide +kernel) rfl, fun _ _ h => h, by decide, by decide⟩
set_option maxRecDepth 100000 in
theorem na25 : NA .char 25 1 4608 0 := ⟨ak25, by decide, gw_at 131 (by decide +kernel) rfl, fun _ _ h => h, by decide, by decide⟩
set_option maxRecDepth 100000 in
theorem na26 : NA .char 26 1 1152 0 := ⟨ak26, by decide, gw_at 131 (by decide +kernel) rfl, fun _ _ h => h, by decide, by decide⟩
set_option maxRecDepth 100000 in
theorem na27 : NA .int 27 2 192 0 := ⟨ak27, by decide, gw_at 320 (by decide +kernel) rfl, fun _ _ h => h, by decide, by decide⟩
set_option maxRecDepth 100000 in
theorem na28 : NA .int 28 2 192 0 := ⟨ak28, by decide, gw_at 320 (by decide +kernel) rfl, fun _ _ h => h, by decide, by decide⟩
set_option maxRecDepth 100000 in
theorem na29 : NA .int 29 2 192 0 := ⟨ak29, by decide, gw_at 320 (by decide +kernel) rfl, fun _ _ h => h, by decide, by decide⟩
set_option maxRecDepth 100000 in
theorem na30 : NA .boolean 30 4 192 0 := ⟨ak30, by decide, gw_at 319 (by decide +kernel) rfl, fun _ _ h => h, by decide, by decide⟩
set_option maxRecDepth 100000 in
theorem na31 : NA .int 31 2 12 0 := ⟨ak31, by decide, gw_at 320 (by decide +kernel) rfl, fun _ _ h => h, by decide, by decide⟩
set_option maxRecDepth 100000 in
theorem na32 : NA .int 32 2 12 0 := ⟨ak32, by decide, gw_at 320 (by decide +kernel) rfl, fun _ _ h => h, by decide, by decide⟩
set_option maxRecDepth 100000 in
theorem na33 : NA .int 33 2 12 0 := ⟨ak33, by decide, gw_at 320 (by decide +kernel) rfl, fun _ _ h => h, by decide, by decide⟩
set_option maxRecDepth 100000 in
theorem na34 : NA .int 34 2 12288 0 := ⟨ak34, by decide, gw_at 320 (by decide +kernel) rfl, fun _ _ h => h, by decide, by decide⟩
set_option maxRecDepth 100000 in
theorem na35 : NA .int 35 2 12 0 := ⟨ak35, by decide, gw_at 320 (by decide +kernel) rfl, fun _ _ h => h, by decide, by decide⟩
set_option maxRecDepth 100000 in
theorem na36 : NA .int 36 2 12 0 := ⟨ak36, by decide, gw_at 320 (by decide +kernel) rfl, fun _ _ h => h, by decide, by decide⟩
set_option maxRecDepth 100000 in
theorem na37 : NA .int 37 2 2048 0 := ⟨ak37, by decide, gw_at 320 (by decide +kernel) rfl, fun _ _ h => h, by decide, by decide⟩
set_option maxRecDepth 100000 in
theorem na38 : NA .int 38 2 3 0 := ⟨ak38, by decide, gw_at 320 (by decide +kernel) rfl, fun _ _ h => h, by decide, by decide⟩
set_option maxRecDepth 100000 in
theorem na39 : NA .char 39 1 6400 0 := ⟨ak39, by decide, gw_at 131 (by decide +kernel) rfl, fun _ _ h => h, by decide, by decide⟩
set_option maxRecDepth 100000 in
theorem na40 : NA .int 40 2 12 0 := ⟨ak40, by decide, gw_at 320 (by decide +kernel) rfl, fun _ _ h => h, by decide, by decide⟩
set_option maxRecDepth 100000 in
theorem na41 : NA .long 41 3 1 1 := ⟨ak41, by decide, gw_at 318 (by decide +kernel) rfl, fun _ _ h => h, by decide, by decide⟩
abbrev nX9 : MIx := (cX9_init, RX9, 1, none, { frames := 1, cells := 0, slots := 0, locals := 12 })
set_option maxRecDepth 100000 in
theorem wOX9 : Cond.methodLink RX9 3 Lib.objectInit ∈ gw_tbl := gw_at 145 (by decide +kernel) rfl
abbrev nX10 : MIx := (cX10_init, RX10, 1, none, { frames := 1, cells := 1, slots := 48, locals := 12 })
set_option maxRecDepth 100000 in
theorem wOX10 : Cond.methodLink RX10 3 Lib.objectInit ∈ gw_tbl := gw_at 120 (by decide +kernel) rfl
abbrev nX8 : MIx := (cX8_init, RX8, 2, none, { frames := 2, cells := 25, slots := 336, locals := 32 })
set_option maxRecDepth 100000 in
theorem wOX8 : Cond.methodLink RX8 3 Lib.objectInit ∈ gw_tbl := gw_at 138 (by decide +kernel) rfl
abbrev nX7 : MIx := (cX7_init, RX7, 1, none, { frames := 2, cells := 2, slots := 50, locals := 32 })
set_option maxRecDepth 100000 in
theorem wOX7 : Cond.methodLink RX7 3 Lib.objectInit ∈ gw_tbl := gw_at 233 (by decide +kernel) rfl
abbrev nX6 : MIx := (cX6_init, RX6, 1, none, { frames := 3, cells := 3, slots := 55, locals := 52 })
set_option maxRecDepth 100000 in
theorem wOX6 : Cond.methodLink RX6 3 Lib.objectInit ∈ gw_tbl := gw_at 227 (by decide +kernel) rfl
abbrev nX1 : MIx := (cX1_init, RX1, 1, none, { frames := 1, cells := 0, slots := 0, locals := 12 })
set_option maxRecDepth 100000 in
theorem wOX1 : Cond.methodLink RX1 3 Lib.objectInit ∈ gw_tbl := gw_at 264 (by decide +kernel) rfl
abbrev nX3 : MIx := (cX3_init, RX3, 1, none, { frames := 1, cells := 5, slots := 480, locals := 12 })
set_option maxRecDepth 100000 in
theorem wOX3 : Cond.methodLink RX3 3 Lib.objectInit ∈ gw_tbl := gw_at 293 (by decide +kernel) rfl
abbrev nX4 : MIx := (cX4_init, RX4, 1, none, { frames := 1, cells := 11, slots := 36, locals := 12 })
set_option maxRecDepth 100000 in
theorem wOX4 : Cond.methodLink RX4 3 Lib.objectInit ∈ gw_tbl := gw_at 326 (by decide +kernel) rfl
abbrev nX2 : MIx := (cX2_init, RX2, 1, none, { frames := 1, cells := 1, slots := 2048, locals := 12 })
set_option maxRecDepth 100000 in
theorem wOX2 : Cond.methodLink RX2 5 Lib.objectInit ∈ gw_tbl := gw_at 352 (by decide +kernel) rfl
abbrev nX0 : MIx := (cX0_init, RX0, 1, none, { frames := 2, cells := 20, slots := 2576, locals := 32 })
set_option maxRecDepth 100000 in
theorem wOX0 : Cond.methodLink RX0 3 Lib.objectInit ∈ gw_tbl := gw_at 287 (by decide +kernel) rfl
abbrev nX11 : MIx := (cX11_init, RX11, 2, none, { frames := 4, cells := 154, slots := 6624, locals := 72 })
set_option maxRecDepth 100000 in
theorem wOX11 : Cond.methodLink RX11 1 Lib.objectInit ∈ gw_tbl := gw_at 112 (by decide +kernel) rfl
abbrev nX12 : MIx := (cX12_init, RX12, 1, none, { frames := 2, cells := 19, slots := 27487, locals := 41 })
set_option maxRecDepth 100000 in
theorem wOX12 : Cond.methodLink RX12 1 Lib.objectInit ∈ gw_tbl := gw_at 924 (by decide +kernel) rfl
set_option maxRecDepth 100000 in
theorem nwX8_9 : NW RX8 9 8 RX9 TX9 tyX9 13 := ⟨⟨by decide, rfl⟩, gnX9, ⟨gw_at 139 (by decide +kernel) rfl, gw_at 141 (by decide +kernel) rfl, gw_at 85 (by decide +kernel) rfl⟩, tyX9_ok, by decide +kernel⟩
set_option maxRecDepth 100000 in
theorem ciX8_17 : CI RX8 17 yX9_init nX9 := ⟨Or.inr (by decide), ⟨gw_at 143 (by decide +kernel) rfl, gw_at 85 (by decide +kernel) rfl, gw_at 144 (by decide +kernel) rfl⟩, (by decide +kernel), rfl, rfl⟩
set_option maxRecDepth 100000 in
theorem nwX7_9 : NW RX7 9 9 RX10 TX10 tyX10 2 := ⟨⟨by decide, rfl⟩, gnX10, ⟨gw_at 234 (by decide +kernel) rfl, gw_at 116 (by decide +kernel) rfl, gw_at 83 (by decide +kernel) rfl⟩, tyX10_ok, by decide +kernel⟩
set_option maxRecDepth 100000 in
theorem ciX7_11 : CI RX7 11 yX10_init nX10 := ⟨Or.inr (by decide), ⟨gw_at 118 (by decide +kernel) rfl, gw_at 83 (by decide +kernel) rfl, gw_at 119 (by decide +kernel) rfl⟩, (by decide +kernel), rfl, rfl⟩
set_option maxRecDepth 100000 in
theorem nwX6_9 : NW RX6 9 6 RX7 TX7 tyX7 5 := ⟨⟨by decide, rfl⟩, gnX7, ⟨gw_at 228 (by decide +kernel) rfl, gw_at 229 (by decide +kernel) rfl, gw_at 87 (by decide +kernel) rfl⟩, tyX7_ok, by decide +kernel⟩
set_option maxRecDepth 100000 in
theorem ciX6_11 : CI RX6 11 yX7_init nX7 := ⟨Or.inr (by decide), ⟨gw_at 231 (by decide +kernel) rfl, gw_at 87 (by decide +kernel) rfl, gw_at 232 (by decide +kernel) rfl⟩, (by decide +kernel), rfl, rfl⟩
set_option maxRecDepth 100000 in
theorem nwX0_9 : NW RX0 9 3 RX3 TX3 tyX3 6 := ⟨⟨by decide, rfl⟩, gnX3, ⟨gw_at 288 (by decide +kernel) rfl, gw_at 289 (by decide +kernel) rfl, gw_at 90 (by decide +kernel) rfl⟩, tyX3_ok, by decide +kernel⟩
set_option maxRecDepth 100000 in
theorem ciX0_11 : CI RX0 11 yX3_init nX3 := ⟨Or.inr (by decide), ⟨gw_at 291 (by decide +kernel) rfl, gw_at 90 (by decide +kernel) rfl, gw_at 292 (by decide +kernel) rfl⟩, (by decide +kernel), rfl, rfl⟩
set_option maxRecDepth 100000 in
theorem nwX0_18 : NW RX0 18 4 RX4 TX4 tyX4 4 := ⟨⟨by decide, rfl⟩, gnX4, ⟨gw_at 321 (by decide +kernel) rfl, gw_at 322 (by decide +kernel) rfl, gw_at 91 (by decide +kernel) rfl⟩, tyX4_ok, by decide +kernel⟩
set_option maxRecDepth 100000 in
theorem ciX0_20 : CI RX0 20 yX4_init nX4 := ⟨Or.inr (by decide), ⟨gw_at 324 (by decide +kernel) rfl, gw_at 91 (by decide +kernel) rfl, gw_at 325 (by decide +kernel) rfl⟩, (by decide +kernel), rfl, rfl⟩
set_option maxRecDepth 100000 in
theorem nwX0_25 : NW RX0 25 2 RX2 TX2 tyX2 2 := ⟨⟨by decide, rfl⟩, gnX2, ⟨gw_at 347 (by decide +kernel) rfl, gw_at 348 (by decide +kernel) rfl, gw_at 92 (by decide +kernel) rfl⟩, tyX2_ok, by decide +kernel⟩
set_option maxRecDepth 100000 in
theorem ciX0_27 : CI RX0 27 yX2_init nX2 := ⟨Or.inr (by decide), ⟨gw_at 350 (by decide +kernel) rfl, gw_at 92 (by decide +kernel) rfl, gw_at 351 (by decide +kernel) rfl⟩, (by decide +kernel), rfl, rfl⟩
set_option maxRecDepth 100000 in
theorem nwX11_7 : NW RX11 7 9 RX10 TX10 tyX10 2 := ⟨⟨by decide, rfl⟩, gnX10, ⟨gw_at 115 (by decide +kernel) rfl, gw_at 116 (by decide +kernel) rfl, gw_at 83 (by decide +kernel) rfl⟩, tyX10_ok, by decide +kernel⟩
set_option maxRecDepth 100000 in
theorem ciX11_9 : CI RX11 9 yX10_init nX10 := ⟨Or.inr (by decide), ⟨gw_at 118 (by decide +kernel) rfl, gw_at 83 (by decide +kernel) rfl, gw_at 119 (by decide +kernel) rfl⟩, (by decide +kernel), rfl, rfl⟩
set_option maxRecDepth 100000 in
theorem nwX11_16 : NW RX11 16 7 RX8 TX8 tyX8 2 := ⟨⟨by decide, rfl⟩, gnX8, ⟨gw_at 132 (by decide +kernel) rfl, gw_at 134 (by decide +kernel) rfl, gw_at 84 (by decide +kernel) rfl⟩, tyX8_ok, by decide +kernel⟩
set_option maxRecDepth 100000 in
theorem ciX11_22 : CI RX11 22 yX8_init nX8 := ⟨Or.inl (gw_at 135 (by decide +kernel) rfl), ⟨gw_at 136 (by decide +kernel) rfl, gw_at 84 (by decide +kernel) rfl, gw_at 137 (by decide +kernel) rfl⟩, (by decide +kernel), rfl, rfl⟩
set_option maxRecDepth 100000 in
theorem nwX11_23 : NW RX11 23 5 RX6 TX6 tyX6 1 := ⟨⟨by decide, rfl⟩, gnX6, ⟨gw_at 222 (by decide +kernel) rfl, gw_at 223 (by decide +kernel) rfl, gw_at 86 (by decide +kernel) rfl⟩, tyX6_ok, by decide +kernel⟩
set_option maxRecDepth 100000 in
theorem ciX11_25 : CI RX11 25 yX6_init nX6 := ⟨Or.inr (by decide), ⟨gw_at 225 (by decide +kernel) rfl, gw_at 86 (by decide +kernel) rfl, gw_at 226 (by decide +kernel) rfl⟩, (by decide +kernel), rfl, rfl⟩
set_option maxRecDepth 100000 in
theorem nwX11_30 : NW RX11 30 1 RX1 TX1 tyX1 4 := ⟨⟨by decide, rfl⟩, gnX1, ⟨gw_at 259 (by decide +kernel) rfl, gw_at 260 (by decide +kernel) rfl, gw_at 88 (by decide +kernel) rfl⟩, tyX1_ok, by decide +kernel⟩
set_option maxRecDepth 100000 in
theorem ciX11_32 : CI RX11 32 yX1_init nX1 := ⟨Or.inr (by decide), ⟨gw_at 262 (by decide +kernel) rfl, gw_at 88 (by decide +kernel) rfl, gw_at 263 (by decide +kernel) rfl⟩, (by decide +kernel), rfl, rfl⟩
set_option maxRecDepth 100000 in
theorem nwX11_37 : NW RX11 37 0 RX0 TX0 tyX0 3 := ⟨⟨by decide, rfl⟩, gnX0, ⟨gw_at 282 (by decide +kernel) rfl, gw_at 283 (by decide +kernel) rfl, gw_at 89 (by decide +kernel) rfl⟩, tyX0_ok, by decide +kernel⟩
set_option maxRecDepth 100000 in
theorem ciX11_39 : CI RX11 39 yX0_init nX0 := ⟨Or.inr (by decide), ⟨gw_at 285 (by decide +kernel) rfl, gw_at 89 (by decide +kernel) rfl, gw_at 286 (by decide +kernel) rfl⟩, (by decide +kernel), rfl, rfl⟩
set_option maxRecDepth 100000 in
theorem nwL_8 : NW RL 8 10 RX11 TX11 tyX11 6 := ⟨⟨by decide, rfl⟩, gnX11, ⟨gw_at 107 (by decide +kernel) rfl, gw_at 108 (by decide +kernel) rfl, gw_at 82 (by decide +kernel) rfl⟩, tyX11_ok, by decide +kernel⟩
set_option maxRecDepth 100000 in
theorem ciL_38 : CI RL 38 yX11_init nX11 := ⟨Or.inl (gw_at 109 (by decide +kernel) rfl), ⟨gw_at 110 (by decide +kernel) rfl, gw_at 82 (by decide +kernel) rfl, gw_at 111 (by decide +kernel) rfl⟩, (by decide +kernel), rfl, rfl⟩
set_option maxRecDepth 100000 in
theorem nwL_39 : NW RL 39 11 RX12 TX12 tyX12 40 := ⟨⟨by decide, rfl⟩, gnX12, ⟨gw_at 919 (by decide +kernel) rfl, gw_at 920 (by decide +kernel) rfl, gw_at 93 (by decide +kernel) rfl⟩, tyX12_ok, by decide +kernel⟩
set_option maxRecDepth 100000 in
theorem ciL_41 : CI RL 41 yX12_init nX12 := ⟨Or.inl (gw_at 921 (by decide +kernel) rfl), ⟨gw_at 922 (by decide +kernel) rfl, gw_at 93 (by decide +kernel) rfl, gw_at 923 (by decide +kernel) rfl⟩, (by decide +kernel), rfl, rfl⟩
set_option maxRecDepth 100000 in
theorem nqX8_9 : NQ RX8 9 14 6 RX9 24 := ⟨⟨by decide, rfl, rfl⟩, by decide, rfl, gw_at 139 (by decide +kernel) rfl, by decide⟩
set_option maxRecDepth 100000 in
theorem nqX11_16 : NQ RX11 16 13 5 RX8 4 := ⟨⟨by decide, rfl, rfl⟩, by decide, rfl, gw_at 132 (by decide +kernel) rfl, by decide⟩
set_option maxRecDepth 100000 in
theorem wgX4_9 : Cond.classLink RX4 9 ("[" ++ (FieldType.array .int).toString) ∈ gw_tbl := gw_at 327 (by decide +kernel) rfl
set_option maxRecDepth 40000 in
set_option maxHeartbeats 4000000 in
theorem n_X9 {G : GX} {B : Nat} (hG : AdG G B) (j : Nat) (hj : j < 96) : MetN G yX9_init nX9 8 j 0 0 := by
  refine MetN.of (by decide) rfl rfl (by decide) rfl (mem_PL.mpr ⟨by decide, hj⟩) ?_
  intro z hz
  refine RnA.aload_n dX9_init_0 rfl rfl ?_
  refine RnA.objInit wOX9 wOI ⟨by decide, by decide⟩ dX9_init_1 ?_
  refine RnA.close [] [] (cl_o (by decide) rfl) ?_
  exact RnA.vretN hz rfl (by decide) (by decide) rfl dX9_init_4
set_option maxRecDepth 40000 in
set_option maxHeartbeats 4000000 in
theorem n_X10 {G : GX} {B : Nat} (hG : AdG G B) (j : Nat) (hj : j < 2) : MetN G yX10_init nX10 9 j 1 48 := by
  have a0 := hG.at (k := 9) (j := j) (1 + 109 * j) (by decide) hj rfl
  have a1 := hG.at (k := 12) (j := j) (2 + 109 * j) (by decide) hj rfl
  refine MetN.of (by decide) rfl rfl (by decide) rfl (mem_PL.mpr ⟨by decide, hj⟩) ?_
  intro z hz
  refine RnA.aload_n dX10_init_0 rfl rfl ?_
  refine RnA.objInit wOX10 wOI ⟨by decide, by decide⟩ dX10_init_1 ?_
  refine RnA.aload_n dX10_init_4 rfl rfl ?_
  refine RnA.bipush (v := nI 48) dX10_init_5 (by decide) ?_
  refine RnA.newa (j := j) na12 hj (by omega) ⟨by decide, by decide⟩ dX10_init_7 (fun _ => rfl) ?_
  refine RnA.cst (cs' := (1, 48)) rfl ?_
  refine RnA.put flX10_9 (Or.inr ⟨rfl, hz.1, rfl⟩) rfl rfl (Nat.le_of_ble_eq_true rfl) (fun q h => nomatch h) dX10_init_9 ?_
  refine RnA.close [] [] (cl_o (by decide) rfl) ?_
  refine RnA.to (n' := gA G 9 j + (1 + 1)) (by first | rfl | omega) ?_
  exact RnA.vretN hz rfl (by decide) (by decide) rfl dX10_init_12
set_option maxRecDepth 40000 in
set_option maxHeartbeats 4000000 in
theorem n_X8 {G : GX} {B : Nat} (hG : AdG G B) (m : Nat) (hm : m < 4) : MetN G yX8_init nX8 7 m 25 336 := by
  have a0 := hG.at (k := 7) (j := m) (4 + 26 * m) (by decide) hm rfl
  have a1 := hG.at (k := 14) (j := m) (5 + 26 * m) (by decide) hm rfl
  refine MetN.of (by decide) rfl rfl (by decide) rfl (mem_PL.mpr ⟨by decide, hm⟩) ?_
  intro z hz
  have loop : ∀ (r i : Nat), i + r = 24 → RnA G nX8 z (1 + i, 24 + 13 * i) (QN G 7 m 25 336 z) 15 [some (vR 7 m), some (vI (nI i))] [] (gA G 7 m, gA G 7 m + 2 + i, [((7, m), Sum.inl [vR 14 m, vI 0]), ((14, m), Sum.inr (Sum.inl (fun y => if y < i then some (8, 24 * m + y) else none)))]) := by
    intro r
    induction r with
    | zero =>
      intro i hi
      obtain rfl : i = 24 := by omega
      refine RnA.iload_n dX8_init_15 rfl rfl ?_
      refine RnA.bipush (v := nI 24) dX8_init_16 (by decide) ?_
      refine RnA.icmp_geN (tgt := 40) dX8_init_18 (by decide) (by omega) (by omega) (fun c18 => ?_) (fun c18 => absurd c18 (by omega))
      refine RnA.close [((7, m), Sum.inl [vR 14 m, vI 0])] [] (cl_a ak14 rfl ?_) ?_
      · rw [vp_cell_q]
        show _ = vp_cell _ (24, .inr (.inr (.inr (.inr (fun i => some (gA G 8 (mR mem0 14 m i)))))))
        rw [vp_cell_q]
        exact arrV_cong fun j hj => by
          show va_rf (Option.map _ (if j < 24 then some (8, 24 * m + j) else none)) = _
          rw [if_pos (show j < 24 from hj)]
          rfl
      refine RnA.close [] [] (cl_o (by decide) rfl) ?_
      refine RnA.to (n' := gA G 7 m + (25 + 1)) (by omega) ?_
      exact RnA.vretN hz rfl (by decide) (by decide) rfl dX8_init_40
    | succ r ih =>
      intro i hi
      have hi96 : 24 * m + i < 96 := by omega
      have b1 := hG.at (k := 8) (j := 24 * m + i) (6 + 26 * m + i) (by decide) hi96 (by show 6 + 26 * ((24 * m + i) / 24) + (24 * m + i) % 24 = _; omega)
      refine RnA.iload_n dX8_init_15 rfl rfl ?_
      refine RnA.bipush (v := nI 24) dX8_init_16 (by decide) ?_
      refine RnA.icmp_geN (tgt := 40) dX8_init_18 (by decide) (by omega) (by omega) (fun c18 => absurd c18 (by omega)) (fun c18 => ?_)
      refine RnA.aload_n dX8_init_21 rfl rfl ?_
      refine RnA.get flX8_11 rfl hm dX8_init_22 ?_
      refine RnA.iload_n dX8_init_25 rfl rfl ?_
      refine RnA.new (j := (24 * m + i)) nwX8_9 (mem_PL.mpr ⟨by decide, hi96⟩) (by omega) ⟨by show 1 + i + 1 ≤ 25; omega, by show 24 + 13 * i + 13 ≤ 336; omega⟩ dX8_init_26 ?_
      refine RnA.dupR (x := 0) (y := 0) dX8_init_29 ?_
      refine RnA.init (nc := 0) (sl := 0) hz.2.1 ciX8_17 ⟨⟨by decide, by decide⟩, ⟨by show 1 + i + 1 + 0 ≤ 25; omega, by show 24 + 13 * i + 13 + 0 ≤ 336; omega⟩, rfl, rfl⟩ dX8_init_30 (Nat.le_of_ble_eq_true rfl) (mem_PL.mpr ⟨by decide, hi96⟩) (by omega) (fun q h => by rcases List.mem_cons.mp h with rfl | h; exact fun e => absurd (Prod.mk.inj e).1 (by decide); rw [List.mem_singleton.mp h]; exact fun e => absurd (Prod.mk.inj e).1 (by decide)) (n_X9 hG _ hi96) ?_
      refine RnA.aast (N := 24) (kv := 8) (ii := 13) (i := i) ⟨⟨by decide, rfl, rfl⟩, by decide, rfl⟩ ⟨by decide, rfl⟩ (by omega) (by omega) (fun q h => by rw [List.mem_singleton.mp h]; exact fun e => absurd (Prod.mk.inj e).1 (by decide)) ⟨mem_PL.mpr ⟨by decide, hi96⟩, by omega, by omega, fun q h => by rcases List.mem_cons.mp h with rfl | h; exact fun e => absurd (Prod.mk.inj e).1 (by decide); rw [List.mem_singleton.mp h]; exact fun e => absurd (Prod.mk.inj e).1 (by decide)⟩ dX8_init_33 ?_
      refine RnA.iincN (n := 1) dX8_init_34 rfl (by decide) (by decide) rfl st2_1 ?_
      refine RnA.goto (tgt := 15) dX8_init_37 (by decide) ?_
      refine RnA.to (n' := gA G 7 m + 2 + (i + 1)) (by omega) ?_
      refine RnA.ops (o' := [((7, m), Sum.inl [vR 14 m, vI 0]), ((14, m), Sum.inr (Sum.inl (fun y => if y < (i + 1) then some (8, 24 * m + y) else none)))]) (by
        congr 5
        funext y
        by_cases h1 : y = i
        · rw [if_pos h1, if_pos (by omega), h1]
        · rw [if_neg h1]
          by_cases h2 : y < i
          · rw [if_pos h2, if_pos (by omega)]
          · rw [if_neg h2, if_neg (by omega)]) ?_
      refine RnA.cst (cs' := (1 + (i + 1), 24 + 13 * (i + 1))) (Prod.ext (by show 1 + i + 1 + 0 = _; omega) (by show 24 + 13 * i + 13 + 0 = _; omega)) ?_
      exact ih (i + 1) (by omega)
  refine RnA.aload_n dX8_init_0 rfl rfl ?_
  refine RnA.objInit wOX8 wOI ⟨by decide, by decide⟩ dX8_init_1 ?_
  refine RnA.aload_n dX8_init_4 rfl rfl ?_
  refine RnA.bipush (v := nI 24) dX8_init_5 (by decide) ?_
  refine RnA.newq (j := m) nqX8_9 hz.2.1.2.2.1 hm (by omega) ⟨by decide, by decide⟩ dX8_init_7 ?_
  refine RnA.cst (cs' := (1, 24)) rfl ?_
  refine RnA.put flX8_11 (Or.inr ⟨rfl, hz.1, rfl⟩) rfl rfl (Nat.le_of_ble_eq_true rfl) (fun q h => by rw [List.mem_singleton.mp h]; exact fun e => absurd (Prod.mk.inj e).1 (by decide)) dX8_init_10 ?_
  refine RnA.iconst (v := nI 0) dX8_init_13 (by decide) ?_
  refine RnA.istore_n dX8_init_14 rfl (by decide) rfl st2_1 ?_
  refine RnA.ops (o' := [((7, m), Sum.inl [vR 14 m, vI 0]), ((14, m), Sum.inr (Sum.inl (fun y => if y < 0 then some (8, 24 * m + y) else none)))]) (by
    show [((7, m), Sum.inl [vR 14 m, vI 0]), ((14, m), Sum.inr (Sum.inl (fun _ => none)))] = _
    congr 4) ?_
  exact loop 24 0 (by decide)
set_option maxRecDepth 40000 in
set_option maxHeartbeats 4000000 in
theorem n_X7 {G : GX} {B : Nat} (hG : AdG G B) : MetN G yX7_init nX7 6 0 2 50 := by
  have a0 := hG.at (k := 6) (j := 0) (109) (by decide) (by decide) rfl
  have a1 := hG.at (k := 9) (j := 1) (110) (by decide) (by decide) rfl
  have a2 := hG.at (k := 12) (j := 1) (111) (by decide) (by decide) rfl
  refine MetN.of (by decide) rfl rfl (by decide) rfl (mem_PL.mpr ⟨by decide, (by decide)⟩) ?_
  intro z hz
  refine RnA.aload_n dX7_init_0 rfl rfl ?_
  refine RnA.objInit wOX7 wOI ⟨by decide, by decide⟩ dX7_init_1 ?_
  refine RnA.aload_n dX7_init_4 rfl rfl ?_
  refine RnA.new (j := 1) nwX7_9 (mem_PL.mpr ⟨by decide, (by decide)⟩) (by omega) ⟨by decide, by decide⟩ dX7_init_5 ?_
  refine RnA.cst (cs' := (1, 2)) rfl ?_
  refine RnA.dupR (x := 0) (y := 0) dX7_init_8 ?_
  refine RnA.init (nc := 1) (sl := 48) hz.2.1 ciX7_11 ⟨⟨by decide, by decide⟩, ⟨by decide, by decide⟩, rfl, rfl⟩ dX7_init_9 (Nat.le_of_ble_eq_true rfl) (mem_PL.mpr ⟨by decide, (by decide)⟩) (by omega) (fun q h => by rw [List.mem_singleton.mp h]; exact fun e => absurd (Prod.mk.inj e).1 (by decide)) (n_X10 hG _ (by decide)) ?_
  refine RnA.cst (cs' := (2, 50)) rfl ?_
  refine RnA.put flX7_12 (Or.inl rfl) rfl rfl (Nat.le_of_ble_eq_true rfl) (fun q h => nomatch h) dX7_init_12 ?_
  refine RnA.close [] [] (cl_o (by decide) rfl) ?_
  refine RnA.to (n' := gA G 6 0 + (2 + 1)) (by first | rfl | omega) ?_
  exact RnA.vretN hz rfl (by decide) (by decide) rfl dX7_init_15
set_option maxRecDepth 40000 in
set_option maxHeartbeats 4000000 in
theorem n_X6 {G : GX} {B : Nat} (hG : AdG G B) : MetN G yX6_init nX6 5 0 3 55 := by
  have a0 := hG.at (k := 5) (j := 0) (108) (by decide) (by decide) rfl
  have a1 := hG.at (k := 6) (j := 0) (109) (by decide) (by decide) rfl
  refine MetN.of (by decide) rfl rfl (by decide) rfl (mem_PL.mpr ⟨by decide, (by decide)⟩) ?_
  intro z hz
  refine RnA.aload_n dX6_init_0 rfl rfl ?_
  refine RnA.objInit wOX6 wOI ⟨by decide, by decide⟩ dX6_init_1 ?_
  refine RnA.aload_n dX6_init_4 rfl rfl ?_
  refine RnA.new (j := 0) nwX6_9 (mem_PL.mpr ⟨by decide, (by decide)⟩) (by omega) ⟨by decide, by decide⟩ dX6_init_5 ?_
  refine RnA.cst (cs' := (1, 5)) rfl ?_
  refine RnA.dupR (x := 0) (y := 0) dX6_init_8 ?_
  refine RnA.init (nc := 2) (sl := 50) hz.2.1 ciX6_11 ⟨⟨by decide, by decide⟩, ⟨by decide, by decide⟩, rfl, rfl⟩ dX6_init_9 (Nat.le_of_ble_eq_true rfl) (mem_PL.mpr ⟨by decide, (by decide)⟩) (by omega) (fun q h => by rw [List.mem_singleton.mp h]; exact fun e => absurd (Prod.mk.inj e).1 (by decide)) (n_X7 hG) ?_
  refine RnA.cst (cs' := (3, 55)) rfl ?_
  refine RnA.put flX6_12 (Or.inr ⟨rfl, hz.1, rfl⟩) rfl rfl (Nat.le_of_ble_eq_true rfl) (fun q h => nomatch h) dX6_init_12 ?_
  refine RnA.close [] [] (cl_o (by decide) rfl) ?_
  refine RnA.to (n' := gA G 5 0 + (3 + 1)) (by first | rfl | omega) ?_
  exact RnA.vretN hz rfl (by decide) (by decide) rfl dX6_init_15
set_option maxRecDepth 40000 in
set_option maxHeartbeats 4000000 in
theorem n_X1 {G : GX} {B : Nat} (hG : AdG G B) : MetN G yX1_init nX1 1 0 0 0 := by
  refine MetN.of (by decide) rfl rfl (by decide) rfl (mem_PL.mpr ⟨by decide, (by decide)⟩) ?_
  intro z hz
  refine RnA.aload_n dX1_init_0 rfl rfl ?_
  refine RnA.objInit wOX1 wOI ⟨by decide, by decide⟩ dX1_init_1 ?_
  refine RnA.aload_n dX1_init_4 rfl rfl ?_
  refine RnA.iconst (v := nI 0) dX1_init_5 (by decide) ?_
  refine RnA.put flX1_9 (Or.inl rfl) rfl rfl (Nat.le_of_ble_eq_true rfl) (fun q h => nomatch h) dX1_init_6 ?_
  refine RnA.aload_n dX1_init_9 rfl rfl ?_
  refine RnA.iconst (v := -1) dX1_init_10 (by decide) ?_
  refine RnA.put flX1_15 (Or.inl rfl) rfl rfl (Nat.le_of_ble_eq_true rfl) (fun q h => nomatch h) dX1_init_11 ?_
  refine RnA.aload_n dX1_init_14 rfl rfl ?_
  refine RnA.iconst (v := -1) dX1_init_15 (by decide) ?_
  refine RnA.put flX1_18 (Or.inl rfl) rfl rfl (Nat.le_of_ble_eq_true rfl) (fun q h => nomatch h) dX1_init_16 ?_
  refine RnA.aload_n dX1_init_19 rfl rfl ?_
  refine RnA.iconst (v := -1) dX1_init_20 (by decide) ?_
  refine RnA.put flX1_21 (Or.inl rfl) rfl rfl (Nat.le_of_ble_eq_true rfl) (fun q h => nomatch h) dX1_init_21 ?_
  refine RnA.close [] [] (cl_o (by decide) rfl) ?_
  exact RnA.vretN hz rfl (by decide) (by decide) rfl dX1_init_24
set_option maxRecDepth 40000 in
set_option maxHeartbeats 4000000 in
theorem n_X3 {G : GX} {B : Nat} (hG : AdG G B) (l : Nat) (hl : l < 2) : MetN G yX3_init nX3 3 l 5 480 := by
  have a0 := hG.at (k := 3) (j := l) (114 + 21 * l) (by decide) hl rfl
  have a1 := hG.at (k := 15) (j := l) (115 + 21 * l) (by decide) hl rfl
  have a2 := hG.at (k := 16) (j := l) (116 + 21 * l) (by decide) hl rfl
  have a3 := hG.at (k := 17) (j := 3 * l) (117 + 21 * l) (by decide) (by show 3 * l < 6; omega) (by show 117 + 21 * ((3 * l) / 3) + (3 * l) % 3 = _; omega)
  have a4 := hG.at (k := 17) (j := 3 * l + 1) (118 + 21 * l) (by decide) (by show 3 * l + 1 < 6; omega) (by show 117 + 21 * ((3 * l + 1) / 3) + (3 * l + 1) % 3 = _; omega)
  have a5 := hG.at (k := 17) (j := 3 * l + 2) (119 + 21 * l) (by decide) (by show 3 * l + 2 < 6; omega) (by show 117 + 21 * ((3 * l + 2) / 3) + (3 * l + 2) % 3 = _; omega)
  refine MetN.of (by decide) rfl rfl (by decide) rfl (mem_PL.mpr ⟨by decide, hl⟩) ?_
  intro z hz
  refine RnA.aload_n dX3_init_0 rfl rfl ?_
  refine RnA.objInit wOX3 wOI ⟨by decide, by decide⟩ dX3_init_1 ?_
  refine RnA.aload_n dX3_init_4 rfl rfl ?_
  refine RnA.bipush (v := nI 96) dX3_init_5 (by decide) ?_
  refine RnA.newa (j := l) na15 hl (by omega) ⟨by decide, by decide⟩ dX3_init_7 (fun _ => rfl) ?_
  refine RnA.cst (cs' := (1, 96)) rfl ?_
  refine RnA.put flX3_9 (Or.inr ⟨rfl, hz.1, rfl⟩) rfl rfl (Nat.le_of_ble_eq_true rfl) (fun q h => nomatch h) dX3_init_9 ?_
  refine RnA.aload_n dX3_init_12 rfl rfl ?_
  refine RnA.bipush (v := nI 96) dX3_init_13 (by decide) ?_
  refine RnA.newa (j := l) na16 hl (by omega) ⟨by decide, by decide⟩ dX3_init_15 (fun _ => rfl) ?_
  refine RnA.cst (cs' := (2, 192)) rfl ?_
  refine RnA.put flX3_15 (Or.inr ⟨rfl, hz.1, rfl⟩) rfl rfl (Nat.le_of_ble_eq_true rfl) (fun q h => nomatch h) dX3_init_17 ?_
  refine RnA.aload_n dX3_init_20 rfl rfl ?_
  refine RnA.bipush (v := nI 96) dX3_init_21 (by decide) ?_
  refine RnA.newa (j := (3 * l)) na17 (by show 3 * l < 6; omega) (by omega) ⟨by decide, by decide⟩ dX3_init_23 (fun _ => rfl) ?_
  refine RnA.cst (cs' := (3, 288)) rfl ?_
  refine RnA.put flX3_19 (Or.inr ⟨rfl, hz.1, rfl⟩) rfl rfl (Nat.le_of_ble_eq_true rfl) (fun q h => nomatch h) dX3_init_25 ?_
  refine RnA.aload_n dX3_init_28 rfl rfl ?_
  refine RnA.bipush (v := nI 96) dX3_init_29 (by decide) ?_
  refine RnA.newa (j := (3 * l + 1)) na17 (by show 3 * l + 1 < 6; omega) (by omega) ⟨by decide, by decide⟩ dX3_init_31 (fun _ => rfl) ?_
  refine RnA.cst (cs' := (4, 384)) rfl ?_
  refine RnA.put flX3_23 (Or.inr ⟨rfl, hz.1, rfl⟩) rfl rfl (Nat.le_of_ble_eq_true rfl) (fun q h => nomatch h) dX3_init_33 ?_
  refine RnA.aload_n dX3_init_36 rfl rfl ?_
  refine RnA.bipush (v := nI 96) dX3_init_37 (by decide) ?_
  refine RnA.newa (j := (3 * l + 2)) na17 (by show 3 * l + 2 < 6; omega) (by omega) ⟨by decide, by decide⟩ dX3_init_39 (fun _ => rfl) ?_
  refine RnA.cst (cs' := (5, 480)) rfl ?_
  refine RnA.put flX3_26 (Or.inr ⟨rfl, hz.1, rfl⟩) rfl rfl (Nat.le_of_ble_eq_true rfl) (fun q h => nomatch h) dX3_init_41 ?_
  refine RnA.close [] [] (cl_o (by decide) rfl) ?_
  refine RnA.to (n' := gA G 3 l + (5 + 1)) (by first | rfl | omega) ?_
  exact RnA.vretN hz rfl (by decide) (by decide) rfl dX3_init_44
set_option maxRecDepth 40000 in
set_option maxHeartbeats 4000000 in
theorem n_X4 {G : GX} {B : Nat} (hG : AdG G B) (l : Nat) (hl : l < 2) : MetN G yX4_init nX4 4 l 11 36 := by
  have a0 := hG.at (k := 4) (j := l) (120 + 21 * l) (by decide) hl rfl
  have a1 := hG.at (k := 18) (j := 2 * l) (121 + 21 * l) (by decide) (by show 2 * l < 4; omega) (by show 121 + 21 * ((2 * l) / 2) + 5 * ((2 * l) % 2) = _; omega)
  have a2 := hG.at (k := 18) (j := 2 * l + 1) (126 + 21 * l) (by decide) (by show 2 * l + 1 < 4; omega) (by show 121 + 21 * ((2 * l + 1) / 2) + 5 * ((2 * l + 1) % 2) = _; omega)
  have a3 := hG.at (k := 20) (j := l) (131 + 21 * l) (by decide) hl rfl
  refine MetN.of (by decide) rfl rfl (by decide) rfl (mem_PL.mpr ⟨by decide, hl⟩) ?_
  intro z hz
  refine RnA.aload_n dX4_init_0 rfl rfl ?_
  refine RnA.objInit wOX4 wOI ⟨by decide, by decide⟩ dX4_init_1 ?_
  refine RnA.aload_n dX4_init_4 rfl rfl ?_
  refine RnA.iconst (v := nI 4) dX4_init_5 (by decide) ?_
  refine RnA.iconst (v := nI 3) dX4_init_6 (by decide) ?_
  refine RnA.mna (x := (2 * l)) wgX4_9 hz.2.1.2.2.2 (by omega) (fun i hi => ?_) (by omega) ⟨by decide, by decide⟩ dX4_init_7 ?_
  · have := hG.at (k := 19) (j := 4 * (2 * l) + i) (122 + 21 * l + i) (by decide) (by show 4 * (2 * l) + i < 16; omega) (by show 122 + 21 * ((4 * (2 * l) + i) / 8) + 5 * ((4 * (2 * l) + i) % 8 / 4) + (4 * (2 * l) + i) % 4 = _; omega); omega
  refine RnA.cst (cs' := (5, 16)) rfl ?_
  refine RnA.put flX4_11 (Or.inr ⟨rfl, hz.1, rfl⟩) rfl rfl (Nat.le_of_ble_eq_true rfl) (fun q h => nomatch h) dX4_init_11 ?_
  refine RnA.aload_n dX4_init_14 rfl rfl ?_
  refine RnA.iconst (v := nI 4) dX4_init_15 (by decide) ?_
  refine RnA.iconst (v := nI 3) dX4_init_16 (by decide) ?_
  refine RnA.mna (x := (2 * l + 1)) wgX4_9 hz.2.1.2.2.2 (by omega) (fun i hi => ?_) (by omega) ⟨by decide, by decide⟩ dX4_init_17 ?_
  · have := hG.at (k := 19) (j := 4 * (2 * l + 1) + i) (127 + 21 * l + i) (by decide) (by show 4 * (2 * l + 1) + i < 16; omega) (by show 122 + 21 * ((4 * (2 * l + 1) + i) / 8) + 5 * ((4 * (2 * l + 1) + i) % 8 / 4) + (4 * (2 * l + 1) + i) % 4 = _; omega); omega
  refine RnA.cst (cs' := (10, 32)) rfl ?_
  refine RnA.put flX4_16 (Or.inr ⟨rfl, hz.1, rfl⟩) rfl rfl (Nat.le_of_ble_eq_true rfl) (fun q h => nomatch h) dX4_init_21 ?_
  refine RnA.aload_n dX4_init_24 rfl rfl ?_
  refine RnA.iconst (v := nI 4) dX4_init_25 (by decide) ?_
  refine RnA.newa (j := l) na20 hl (by omega) ⟨by decide, by decide⟩ dX4_init_26 (fun _ => rfl) ?_
  refine RnA.cst (cs' := (11, 36)) rfl ?_
  refine RnA.put flX4_19 (Or.inr ⟨rfl, hz.1, rfl⟩) rfl rfl (Nat.le_of_ble_eq_true rfl) (fun q h => nomatch h) dX4_init_28 ?_
  refine RnA.close [] [] (cl_o (by decide) rfl) ?_
  refine RnA.to (n' := gA G 4 l + (11 + 1)) (by first | rfl | omega) ?_
  exact RnA.vretN hz rfl (by decide) (by decide) rfl dX4_init_31
set_option maxRecDepth 40000 in
set_option maxHeartbeats 4000000 in
theorem n_X2 {G : GX} {B : Nat} (hG : AdG G B) (l : Nat) (hl : l < 2) : MetN G yX2_init nX2 2 l 1 2048 := by
  have a0 := hG.at (k := 2) (j := l) (132 + 21 * l) (by decide) hl rfl
  have a1 := hG.at (k := 21) (j := l) (133 + 21 * l) (by decide) hl rfl
  refine MetN.of (by decide) rfl rfl (by decide) rfl (mem_PL.mpr ⟨by decide, hl⟩) ?_
  intro z hz
  refine RnA.aload_n dX2_init_0 rfl rfl ?_
  refine RnA.objInit wOX2 wOI ⟨by decide, by decide⟩ dX2_init_1 ?_
  refine RnA.aload_n dX2_init_4 rfl rfl ?_
  refine RnA.sipush (v := nI 2048) dX2_init_5 (by decide) ?_
  refine RnA.newa (j := l) na21 hl (by omega) ⟨by decide, by decide⟩ dX2_init_8 (fun _ => rfl) ?_
  refine RnA.cst (cs' := (1, 2048)) rfl ?_
  refine RnA.put flX2_11 (Or.inr ⟨rfl, hz.1, rfl⟩) rfl rfl (Nat.le_of_ble_eq_true rfl) (fun q h => nomatch h) dX2_init_10 ?_
  refine RnA.close [] [] (cl_o (by decide) rfl) ?_
  refine RnA.to (n' := gA G 2 l + (1 + 1)) (by first | rfl | omega) ?_
  exact RnA.vretN hz rfl (by decide) (by decide) rfl dX2_init_13
set_option maxRecDepth 40000 in
set_option maxHeartbeats 4000000 in
theorem n_X0 {G : GX} {B : Nat} (hG : AdG G B) (l : Nat) (hl : l < 2) : MetN G yX0_init nX0 0 l 20 2576 := by
  have a0 := hG.at (k := 0) (j := l) (113 + 21 * l) (by decide) hl rfl
  have a1 := hG.at (k := 3) (j := l) (114 + 21 * l) (by decide) hl rfl
  have a2 := hG.at (k := 4) (j := l) (120 + 21 * l) (by decide) hl rfl
  have a3 := hG.at (k := 2) (j := l) (132 + 21 * l) (by decide) hl rfl
  refine MetN.of (by decide) rfl rfl (by decide) rfl (mem_PL.mpr ⟨by decide, hl⟩) ?_
  intro z hz
  refine RnA.aload_n dX0_init_0 rfl rfl ?_
  refine RnA.objInit wOX0 wOI ⟨by decide, by decide⟩ dX0_init_1 ?_
  refine RnA.aload_n dX0_init_4 rfl rfl ?_
  refine RnA.new (j := l) nwX0_9 (mem_PL.mpr ⟨by decide, hl⟩) (by omega) ⟨by decide, by decide⟩ dX0_init_5 ?_
  refine RnA.cst (cs' := (1, 6)) rfl ?_
  refine RnA.dupR (x := 0) (y := 0) dX0_init_8 ?_
  refine RnA.init (nc := 5) (sl := 480) hz.2.1 ciX0_11 ⟨⟨by decide, by decide⟩, ⟨by decide, by decide⟩, rfl, rfl⟩ dX0_init_9 (Nat.le_of_ble_eq_true rfl) (mem_PL.mpr ⟨by decide, hl⟩) (by omega) (fun q h => by rw [List.mem_singleton.mp h]; exact fun e => absurd (Prod.mk.inj e).1 (by decide)) (n_X3 hG _ hl) ?_
  refine RnA.cst (cs' := (6, 486)) rfl ?_
  refine RnA.put flX0_12 (Or.inr ⟨rfl, hz.1, rfl⟩) rfl rfl (Nat.le_of_ble_eq_true rfl) (fun q h => nomatch h) dX0_init_12 ?_
  refine RnA.aload_n dX0_init_15 rfl rfl ?_
  refine RnA.new (j := l) nwX0_18 (mem_PL.mpr ⟨by decide, hl⟩) (by omega) ⟨by decide, by decide⟩ dX0_init_16 ?_
  refine RnA.cst (cs' := (7, 490)) rfl ?_
  refine RnA.dupR (x := 0) (y := 0) dX0_init_19 ?_
  refine RnA.init (nc := 11) (sl := 36) hz.2.1 ciX0_20 ⟨⟨by decide, by decide⟩, ⟨by decide, by decide⟩, rfl, rfl⟩ dX0_init_20 (Nat.le_of_ble_eq_true rfl) (mem_PL.mpr ⟨by decide, hl⟩) (by omega) (fun q h => by rw [List.mem_singleton.mp h]; exact fun e => absurd (Prod.mk.inj e).1 (by decide)) (n_X4 hG _ hl) ?_
  refine RnA.cst (cs' := (18, 526)) rfl ?_
  refine RnA.put flX0_21 (Or.inr ⟨rfl, hz.1, rfl⟩) rfl rfl (Nat.le_of_ble_eq_true rfl) (fun q h => nomatch h) dX0_init_23 ?_
  refine RnA.aload_n dX0_init_26 rfl rfl ?_
  refine RnA.new (j := l) nwX0_25 (mem_PL.mpr ⟨by decide, hl⟩) (by omega) ⟨by decide, by decide⟩ dX0_init_27 ?_
  refine RnA.cst (cs' := (19, 528)) rfl ?_
  refine RnA.dupR (x := 0) (y := 0) dX0_init_30 ?_
  refine RnA.init (nc := 1) (sl := 2048) hz.2.1 ciX0_27 ⟨⟨by decide, by decide⟩, ⟨by decide, by decide⟩, rfl, rfl⟩ dX0_init_31 (Nat.le_of_ble_eq_true rfl) (mem_PL.mpr ⟨by decide, hl⟩) (by omega) (fun q h => by rw [List.mem_singleton.mp h]; exact fun e => absurd (Prod.mk.inj e).1 (by decide)) (n_X2 hG _ hl) ?_
  refine RnA.cst (cs' := (20, 2576)) rfl ?_
  refine RnA.put flX0_28 (Or.inr ⟨rfl, hz.1, rfl⟩) rfl rfl (Nat.le_of_ble_eq_true rfl) (fun q h => nomatch h) dX0_init_34 ?_
  refine RnA.close [] [] (cl_o (by decide) rfl) ?_
  refine RnA.to (n' := gA G 0 l + (20 + 1)) (by first | rfl | omega) ?_
  exact RnA.vretN hz rfl (by decide) (by decide) rfl dX0_init_37
set_option maxRecDepth 40000 in
set_option maxHeartbeats 4000000 in
theorem n_X11 {G : GX} {B : Nat} (hG : AdG G B) : MetN G yX11_init nX11 10 0 154 6624 := by
  have a0 := hG.at (k := 10) (j := 0) (0) (by decide) (by decide) rfl
  have a1 := hG.at (k := 9) (j := 0) (1) (by decide) (by decide) rfl
  have a2 := hG.at (k := 12) (j := 0) (2) (by decide) (by decide) rfl
  have a3 := hG.at (k := 13) (j := 0) (3) (by decide) (by decide) rfl
  have a4 := hG.at (k := 5) (j := 0) (108) (by decide) (by decide) rfl
  have a5 := hG.at (k := 1) (j := 0) (112) (by decide) (by decide) rfl
  have a6 := hG.at (k := 0) (j := 0) (113) (by decide) (by decide) rfl
  have a7 := hG.at (k := 0) (j := 1) (134) (by decide) (by decide) rfl
  refine MetN.of (by decide) rfl rfl (by decide) rfl (mem_PL.mpr ⟨by decide, (by decide)⟩) ?_
  intro z hz
  have loop : ∀ (r i : Nat), i + r = 4 → RnA G nX11 z (3 + 26 * i, 54 + 338 * i) (QN G 10 0 154 6624 z) 25 [some (vR 10 0), some (vI (nI i))] [] (gA G 10 0, gA G 10 0 + 4 + 26 * i, [((10, 0), Sum.inl [vR 9 0, vR 13 0, vN, vN, vN, vN]), ((13, 0), Sum.inr (Sum.inl (fun y => if y < i then some (7, y) else none)))]) := by
    intro r
    induction r with
    | zero =>
      intro i hi
      obtain rfl : i = 4 := by omega
      refine RnA.iload_n dX11_init_25 rfl rfl ?_
      refine RnA.iconst (v := nI 4) dX11_init_26 (by decide) ?_
      refine RnA.icmp_geN (tgt := 49) dX11_init_27 (by decide) (by omega) (by omega) (fun c18 => ?_) (fun c18 => absurd c18 (by omega))
      refine RnA.close [((10, 0), Sum.inl [vR 9 0, vR 13 0, vN, vN, vN, vN])] [] (cl_a ak13 rfl ?_) ?_
      · rw [vp_cell_q]
        show _ = vp_cell _ (4, .inr (.inr (.inr (.inr (fun i => some (gA G 7 (mR mem0 13 0 i)))))))
        rw [vp_cell_q]
        exact arrV_cong fun j hj => by
          show va_rf (Option.map _ (if j < 4 then some (7, j) else none)) = _
          rw [if_pos (show j < 4 from hj)]
          rfl
      refine RnA.aload_n dX11_init_49 rfl rfl ?_
      refine RnA.new (j := 0) nwX11_23 (mem_PL.mpr ⟨by decide, (by decide)⟩) (by omega) ⟨by decide, by decide⟩ dX11_init_50 ?_
      refine RnA.cst (cs' := (108, 1407)) rfl ?_
      refine RnA.dupR (x := 0) (y := 0) dX11_init_53 ?_
      refine RnA.init (nc := 3) (sl := 55) hz.2.1 ciX11_25 ⟨⟨by decide, by decide⟩, ⟨by decide, by decide⟩, rfl, rfl⟩ dX11_init_54 (Nat.le_of_ble_eq_true rfl) (mem_PL.mpr ⟨by decide, (by decide)⟩) (by omega) (fun q h => by rw [List.mem_singleton.mp h]; decide) (n_X6 hG) ?_
      refine RnA.cst (cs' := (111, 1462)) rfl ?_
      refine RnA.put flX11_26 (Or.inr ⟨rfl, hz.1, rfl⟩) rfl rfl (Nat.le_of_ble_eq_true rfl) (fun q h => nomatch h) dX11_init_57 ?_
      refine RnA.aload_n dX11_init_60 rfl rfl ?_
      refine RnA.new (j := 0) nwX11_30 (mem_PL.mpr ⟨by decide, (by decide)⟩) (by omega) ⟨by decide, by decide⟩ dX11_init_61 ?_
      refine RnA.cst (cs' := (112, 1466)) rfl ?_
      refine RnA.dupR (x := 0) (y := 0) dX11_init_64 ?_
      refine RnA.init (nc := 0) (sl := 0) hz.2.1 ciX11_32 ⟨⟨by decide, by decide⟩, ⟨by decide, by decide⟩, rfl, rfl⟩ dX11_init_65 (Nat.le_of_ble_eq_true rfl) (mem_PL.mpr ⟨by decide, (by decide)⟩) (by omega) (fun q h => by rw [List.mem_singleton.mp h]; decide) (n_X1 hG) ?_
      refine RnA.cst (cs' := (112, 1466)) rfl ?_
      refine RnA.put flX11_33 (Or.inr ⟨rfl, hz.1, rfl⟩) rfl rfl (Nat.le_of_ble_eq_true rfl) (fun q h => nomatch h) dX11_init_68 ?_
      refine RnA.aload_n dX11_init_71 rfl rfl ?_
      refine RnA.new (j := 0) nwX11_37 (mem_PL.mpr ⟨by decide, (by decide)⟩) (by omega) ⟨by decide, by decide⟩ dX11_init_72 ?_
      refine RnA.cst (cs' := (113, 1469)) rfl ?_
      refine RnA.dupR (x := 0) (y := 0) dX11_init_75 ?_
      refine RnA.init (nc := 20) (sl := 2576) hz.2.1 ciX11_39 ⟨⟨by decide, by decide⟩, ⟨by decide, by decide⟩, rfl, rfl⟩ dX11_init_76 (Nat.le_of_ble_eq_true rfl) (mem_PL.mpr ⟨by decide, (by decide)⟩) (by omega) (fun q h => by rw [List.mem_singleton.mp h]; decide) (n_X0 hG _ (by decide)) ?_
      refine RnA.cst (cs' := (133, 4045)) rfl ?_
      refine RnA.put flX11_40 (Or.inl rfl) rfl rfl (Nat.le_of_ble_eq_true rfl) (fun q h => nomatch h) dX11_init_79 ?_
      refine RnA.aload_n dX11_init_82 rfl rfl ?_
      refine RnA.new (j := 1) nwX11_37 (mem_PL.mpr ⟨by decide, (by decide)⟩) (by omega) ⟨by decide, by decide⟩ dX11_init_83 ?_
      refine RnA.cst (cs' := (134, 4048)) rfl ?_
      refine RnA.dupR (x := 0) (y := 0) dX11_init_86 ?_
      refine RnA.init (nc := 20) (sl := 2576) hz.2.1 ciX11_39 ⟨⟨by decide, by decide⟩, ⟨by decide, by decide⟩, rfl, rfl⟩ dX11_init_87 (Nat.le_of_ble_eq_true rfl) (mem_PL.mpr ⟨by decide, (by decide)⟩) (by omega) (fun q h => by rw [List.mem_singleton.mp h]; decide) (n_X0 hG _ (by decide)) ?_
      refine RnA.cst (cs' := (154, 6624)) rfl ?_
      refine RnA.put flX11_44 (Or.inl rfl) rfl rfl (Nat.le_of_ble_eq_true rfl) (fun q h => nomatch h) dX11_init_90 ?_
      refine RnA.close [] [] (cl_o (by decide) rfl) ?_
      refine RnA.to (n' := gA G 10 0 + (154 + 1)) (by first | rfl | omega) ?_
      exact RnA.vretN hz rfl (by decide) (by decide) rfl dX11_init_93
    | succ r ih =>
      intro i hi
      have hi4 : i < 4 := by omega
      have b1 := hG.at (k := 7) (j := i) (4 + 26 * i) (by decide) hi4 rfl
      refine RnA.iload_n dX11_init_25 rfl rfl ?_
      refine RnA.iconst (v := nI 4) dX11_init_26 (by decide) ?_
      refine RnA.icmp_geN (tgt := 49) dX11_init_27 (by decide) (by omega) (by omega) (fun c18 => absurd c18 (by omega)) (fun c18 => ?_)
      refine RnA.aload_n dX11_init_30 rfl rfl ?_
      refine RnA.get flX11_18 rfl (show (0 : Nat) < 1 from Nat.one_pos) dX11_init_31 ?_
      refine RnA.iload_n dX11_init_34 rfl rfl ?_
      refine RnA.new (j := i) nwX11_16 (mem_PL.mpr ⟨by decide, hi4⟩) (by omega) ⟨by show 3 + 26 * i + 1 ≤ 154; omega, by show 54 + 338 * i + 2 ≤ 6624; omega⟩ dX11_init_35 ?_
      refine RnA.dupR (x := 0) (y := 0) dX11_init_38 ?_
      refine RnA.init (nc := 25) (sl := 336) hz.2.1 ciX11_22 ⟨⟨by decide, by decide⟩, ⟨by show 3 + 26 * i + 1 + 25 ≤ 154; omega, by show 54 + 338 * i + 2 + 336 ≤ 6624; omega⟩, rfl, rfl⟩ dX11_init_39 (Nat.le_of_ble_eq_true rfl) (mem_PL.mpr ⟨by decide, hi4⟩) (by omega) (fun q h => by rcases List.mem_cons.mp h with rfl | h; exact fun e => absurd (Prod.mk.inj e).1 (by decide); rw [List.mem_singleton.mp h]; exact fun e => absurd (Prod.mk.inj e).1 (by decide)) (n_X8 hG _ hi4) ?_
      refine RnA.aast (N := 4) (kv := 7) (ii := 2) (i := i) ⟨⟨by decide, rfl, rfl⟩, by decide, rfl⟩ ⟨by decide, rfl⟩ (by omega) (by omega) (fun q h => by rw [List.mem_singleton.mp h]; decide) ⟨mem_PL.mpr ⟨by decide, hi4⟩, by omega, by omega, fun q h => by rcases List.mem_cons.mp h with rfl | h; exact fun e => absurd (Prod.mk.inj e).1 (by decide); rw [List.mem_singleton.mp h]; exact fun e => absurd (Prod.mk.inj e).1 (by decide)⟩ dX11_init_42 ?_
      refine RnA.iincN (n := 1) dX11_init_43 rfl (by decide) (by decide) rfl st2_1 ?_
      refine RnA.goto (tgt := 25) dX11_init_46 (by decide) ?_
      refine RnA.to (n' := gA G 10 0 + 4 + 26 * (i + 1)) (by omega) ?_
      refine RnA.ops (o' := [((10, 0), Sum.inl [vR 9 0, vR 13 0, vN, vN, vN, vN]), ((13, 0), Sum.inr (Sum.inl (fun y => if y < (i + 1) then some (7, y) else none)))]) (by
        congr 5
        funext y
        by_cases h1 : y = i
        · rw [if_pos h1, if_pos (by omega), h1]
        · rw [if_neg h1]
          by_cases h2 : y < i
          · rw [if_pos h2, if_pos (by omega)]
          · rw [if_neg h2, if_neg (by omega)]) ?_
      refine RnA.cst (cs' := (3 + 26 * (i + 1), 54 + 338 * (i + 1))) (Prod.ext (by show 3 + 26 * i + 1 + 25 = _; omega) (by show 54 + 338 * i + 2 + 336 = _; omega)) ?_
      exact ih (i + 1) (by omega)
  refine RnA.aload_n dX11_init_0 rfl rfl ?_
  refine RnA.objInit wOX11 wOI ⟨by decide, by decide⟩ dX11_init_1 ?_
  refine RnA.aload_n dX11_init_4 rfl rfl ?_
  refine RnA.new (j := 0) nwX11_7 (mem_PL.mpr ⟨by decide, (by decide)⟩) (by omega) ⟨by decide, by decide⟩ dX11_init_5 ?_
  refine RnA.cst (cs' := (1, 2)) rfl ?_
  refine RnA.dupR (x := 0) (y := 0) dX11_init_8 ?_
  refine RnA.init (nc := 1) (sl := 48) hz.2.1 ciX11_9 ⟨⟨by decide, by decide⟩, ⟨by decide, by decide⟩, rfl, rfl⟩ dX11_init_9 (Nat.le_of_ble_eq_true rfl) (mem_PL.mpr ⟨by decide, (by decide)⟩) (by omega) (fun q h => by rw [List.mem_singleton.mp h]; decide) (n_X10 hG _ (by decide)) ?_
  refine RnA.cst (cs' := (2, 50)) rfl ?_
  refine RnA.put flX11_10 (Or.inr ⟨rfl, hz.1, rfl⟩) rfl rfl (Nat.le_of_ble_eq_true rfl) (fun q h => nomatch h) dX11_init_12 ?_
  refine RnA.aload_n dX11_init_15 rfl rfl ?_
  refine RnA.iconst (v := nI 4) dX11_init_16 (by decide) ?_
  refine RnA.newq (j := 0) nqX11_16 hz.2.1.2.1 (by decide) (by omega) ⟨by decide, by decide⟩ dX11_init_17 ?_
  refine RnA.cst (cs' := (3, 54)) rfl ?_
  refine RnA.put flX11_18 (Or.inr ⟨rfl, hz.1, rfl⟩) rfl rfl (Nat.le_of_ble_eq_true rfl) (fun q h => by rw [List.mem_singleton.mp h]; decide) dX11_init_20 ?_
  refine RnA.iconst (v := nI 0) dX11_init_23 (by decide) ?_
  refine RnA.istore_n dX11_init_24 rfl (by decide) rfl st2_1 ?_
  refine RnA.to (n' := gA G 10 0 + 4 + 26 * 0) (by omega) ?_
  refine RnA.ops (o' := [((10, 0), Sum.inl [vR 9 0, vR 13 0, vN, vN, vN, vN]), ((13, 0), Sum.inr (Sum.inl (fun y => if y < 0 then some (7, y) else none)))]) (by
    show [((10, 0), Sum.inl [vR 9 0, vR 13 0, vN, vN, vN, vN]), ((13, 0), Sum.inr (Sum.inl (fun _ => none)))] = _
    congr 4) ?_
  exact loop 4 0 (by decide)
def oF (fs : List AV) (i : Nat) : OC := [((11, 0), .inl fs), ((38, 0), .inr (.inr (fun y => if y < i then -1 else 0)))]
set_option maxRecDepth 40000 in
set_option maxHeartbeats 4000000 in
theorem n_forget {G : GX} (lo n : Nat) (fs : List AV) (hf : fs[35]? = some (vR 38 0)) : MetA G yX12_forget iX12_forget [vR 11 0] (lo, n, oF fs 0) (lo, n, oF fs 3) := by
  refine MetA.of (ls := [some (vR 11 0), none]) (by decide) rfl (Nat.le_of_ble_eq_true rfl) rfl ?_
  intro z hz
  have loop : ∀ (r i : Nat), i + r = 3 → RnA G iX12_forget z (0, 0) (QA G (lo, n, oF fs 0) (lo, n, oF fs 3) z) 2 [some (vR 11 0), some (vI (nI i))] [] (lo, n, oF fs i) := by
    intro r
    induction r with
    | zero =>
      intro i hi
      obtain rfl : i = 3 := by omega
      refine RnA.iload_n dX12_forget_2 rfl rfl ?_
      refine RnA.iconst (v := nI 3) dX12_forget_3 (by decide) ?_
      refine RnA.icmp_geN (tgt := 20) dX12_forget_4 (by decide) (by omega) (by omega) (fun c18 => ?_) (fun c18 => absurd c18 (by omega))
      exact RnA.vretA hz rfl (Nat.le_refl _) (Nat.le_refl _) rfl dX12_forget_20
    | succ r ih =>
      intro i hi
      refine RnA.iload_n dX12_forget_2 rfl rfl ?_
      refine RnA.iconst (v := nI 3) dX12_forget_3 (by decide) ?_
      refine RnA.icmp_geN (tgt := 20) dX12_forget_4 (by decide) (by omega) (by omega) (fun c18 => absurd c18 (by omega)) (fun c18 => ?_)
      refine RnA.aload_n dX12_forget_7 rfl rfl ?_
      unfold oF
      refine RnA.get flX12_60 hf (show (0 : Nat) < 1 from Nat.one_pos) dX12_forget_8 ?_
      refine RnA.iload_n dX12_forget_11 rfl rfl ?_
      refine RnA.iconst (v := -1) dX12_forget_12 (by decide) ?_
      refine RnA.iastO (N := 3) ⟨by decide, rfl, rfl⟩ (by omega) (by omega) (fun q h => by rw [List.mem_singleton.mp h]; exact fun e => absurd (Prod.mk.inj e).1 (by decide)) dX12_forget_13 ?_
      refine RnA.iincN (n := 1) dX12_forget_14 rfl (by decide) (by decide) rfl st2_1 ?_
      refine RnA.goto (tgt := 2) dX12_forget_17 (by decide) ?_
      refine RnA.ops (o' := oF fs (i + 1)) (by
        unfold oF
        congr 5
        funext y
        by_cases h1 : y = i
        · rw [if_pos h1, if_pos (by omega)]
        · rw [if_neg h1]
          by_cases h2 : y < i
          · rw [if_pos h2, if_pos (by omega)]
          · rw [if_neg h2, if_neg (by omega)]) ?_
      exact ih (i + 1) (by omega)
  refine RnA.iconst (v := nI 0) dX12_forget_0 (by decide) ?_
  refine RnA.istore_n dX12_forget_1 rfl (by decide) rfl st2_1 ?_
  exact loop 3 0 (by decide)
set_option maxRecDepth 40000 in
set_option maxHeartbeats 4000000 in
theorem n_X12 {G : GX} {B : Nat} (hG : AdG G B) : MetN G yX12_init nX12 11 0 19 27487 := by
  have a0 := hG.at (k := 11) (j := 0) (155) (by decide) (by decide) rfl
  have b22 := hG.at (k := 22) (j := 0) (156) (by decide) (by decide) rfl
  have b23 := hG.at (k := 23) (j := 0) (157) (by decide) (by decide) rfl
  have b24 := hG.at (k := 24) (j := 0) (158) (by decide) (by decide) rfl
  have b25 := hG.at (k := 25) (j := 0) (159) (by decide) (by decide) rfl
  have b26 := hG.at (k := 26) (j := 0) (160) (by decide) (by decide) rfl
  have b27 := hG.at (k := 27) (j := 0) (161) (by decide) (by decide) rfl
  have b28 := hG.at (k := 28) (j := 0) (162) (by decide) (by decide) rfl
  have b29 := hG.at (k := 29) (j := 0) (163) (by decide) (by decide) rfl
  have b30 := hG.at (k := 30) (j := 0) (164) (by decide) (by decide) rfl
  have b31 := hG.at (k := 31) (j := 0) (165) (by decide) (by decide) rfl
  have b32 := hG.at (k := 32) (j := 0) (166) (by decide) (by decide) rfl
  have b33 := hG.at (k := 33) (j := 0) (167) (by decide) (by decide) rfl
  have b34 := hG.at (k := 34) (j := 0) (168) (by decide) (by decide) rfl
  have b35 := hG.at (k := 35) (j := 0) (169) (by decide) (by decide) rfl
  have b36 := hG.at (k := 36) (j := 0) (170) (by decide) (by decide) rfl
  have b37 := hG.at (k := 37) (j := 0) (171) (by decide) (by decide) rfl
  have b38 := hG.at (k := 38) (j := 0) (172) (by decide) (by decide) rfl
  have b39 := hG.at (k := 39) (j := 0) (173) (by decide) (by decide) rfl
  have b40 := hG.at (k := 40) (j := 0) (174) (by decide) (by decide) rfl
  refine MetN.of (by decide) rfl rfl (by decide) rfl (mem_PL.mpr ⟨by decide, (by decide)⟩) ?_
  intro z hz
  refine RnA.aload_n dX12_init_0 rfl rfl ?_
  refine RnA.objInit wOX12 wOI ⟨by decide, by decide⟩ dX12_init_1 ?_
  refine RnA.ops (o' := [((11, 0), Sum.inl [vI 0, vN, vI 0, vN, vN, vN, vI 0, vI 0, vI 0, vI 0, vI 0, vI 0, vI 0, vI 0, vI 0, vI 0, vI 0, vI 0, vI 0, vI 0, vI 0, vN, vN, vN, vN, vN, vN, vN, vN, vN, vI 0, vN, vN, vN, vI 0, vN, vN, vI 0, vN, vI 0])]) rfl ?_
  refine RnA.aload_n dX12_init_4 rfl rfl ?_
  refine RnA.bipush (v := nI 48) dX12_init_5 (by decide) ?_
  refine RnA.newa (j := 0) na22 (by decide) (by rw [b22, a0]) ⟨by decide, by decide⟩ dX12_init_7 (fun _ => rfl) ?_
  refine RnA.cst (cs' := (1, 48)) rfl ?_
  refine RnA.to (n' := gA G 11 0 + 2) rfl ?_
  refine RnA.put flX12_7 (Or.inr ⟨rfl, hz.1, rfl⟩) rfl rfl (Nat.le_of_ble_eq_true rfl) (fun q h => nomatch h) dX12_init_9 ?_
  refine RnA.ops (o' := [((11, 0), Sum.inl [vI 0, vR 22 0, vI 0, vN, vN, vN, vI 0, vI 0, vI 0, vI 0, vI 0, vI 0, vI 0, vI 0, vI 0, vI 0, vI 0, vI 0, vI 0, vI 0, vI 0, vN, vN, vN, vN, vN, vN, vN, vN, vN, vI 0, vN, vN, vN, vI 0, vN, vN, vI 0, vN, vI 0])]) rfl ?_
  refine RnA.aload_n dX12_init_12 rfl rfl ?_
  refine RnA.iconst (v := nI 4) dX12_init_13 (by decide) ?_
  refine RnA.newa (j := 0) na23 (by decide) (by rw [b23, a0]) ⟨by decide, by decide⟩ dX12_init_14 (fun _ => rfl) ?_
  refine RnA.cst (cs' := (2, 52)) rfl ?_
  refine RnA.to (n' := gA G 11 0 + 3) rfl ?_
  refine RnA.put flX12_13 (Or.inr ⟨rfl, hz.1, rfl⟩) rfl rfl (Nat.le_of_ble_eq_true rfl) (fun q h => nomatch h) dX12_init_16 ?_
  refine RnA.ops (o' := [((11, 0), Sum.inl [vI 0, vR 22 0, vI 0, vR 23 0, vN, vN, vI 0, vI 0, vI 0, vI 0, vI 0, vI 0, vI 0, vI 0, vI 0, vI 0, vI 0, vI 0, vI 0, vI 0, vI 0, vN, vN, vN, vN, vN, vN, vN, vN, vN, vI 0, vN, vN, vN, vI 0, vN, vN, vI 0, vN, vI 0])]) rfl ?_
  refine RnA.aload_n dX12_init_19 rfl rfl ?_
  refine RnA.bipush (v := nI 96) dX12_init_20 (by decide) ?_
  refine RnA.newa (j := 0) na24 (by decide) (by rw [b24, a0]) ⟨by decide, by decide⟩ dX12_init_22 (fun _ => rfl) ?_
  refine RnA.cst (cs' := (3, 148)) rfl ?_
  refine RnA.to (n' := gA G 11 0 + 4) rfl ?_
  refine RnA.put flX12_17 (Or.inr ⟨rfl, hz.1, rfl⟩) rfl rfl (Nat.le_of_ble_eq_true rfl) (fun q h => nomatch h) dX12_init_24 ?_
  refine RnA.ops (o' := [((11, 0), Sum.inl [vI 0, vR 22 0, vI 0, vR 23 0, vR 24 0, vN, vI 0, vI 0, vI 0, vI 0, vI 0, vI 0, vI 0, vI 0, vI 0, vI 0, vI 0, vI 0, vI 0, vI 0, vI 0, vN, vN, vN, vN, vN, vN, vN, vN, vN, vI 0, vN, vN, vN, vI 0, vN, vN, vI 0, vN, vI 0])]) rfl ?_
  refine RnA.aload_n dX12_init_27 rfl rfl ?_
  refine RnA.sipush (v := nI 4608) dX12_init_28 (by decide) ?_
  refine RnA.newa (j := 0) na25 (by decide) (by rw [b25, a0]) ⟨by decide, by decide⟩ dX12_init_31 (fun _ => rfl) ?_
  refine RnA.cst (cs' := (4, 4756)) rfl ?_
  refine RnA.to (n' := gA G 11 0 + 5) rfl ?_
  refine RnA.put flX12_20 (Or.inr ⟨rfl, hz.1, rfl⟩) rfl rfl (Nat.le_of_ble_eq_true rfl) (fun q h => nomatch h) dX12_init_33 ?_
  refine RnA.ops (o' := [((11, 0), Sum.inl [vI 0, vR 22 0, vI 0, vR 23 0, vR 24 0, vR 25 0, vI 0, vI 0, vI 0, vI 0, vI 0, vI 0, vI 0, vI 0, vI 0, vI 0, vI 0, vI 0, vI 0, vI 0, vI 0, vN, vN, vN, vN, vN, vN, vN, vN, vN, vI 0, vN, vN, vN, vI 0, vN, vN, vI 0, vN, vI 0])]) rfl ?_
  refine RnA.aload_n dX12_init_36 rfl rfl ?_
  refine RnA.sipush (v := nI 1152) dX12_init_37 (by decide) ?_
  refine RnA.newa (j := 0) na26 (by decide) (by rw [b26, a0]) ⟨by decide, by decide⟩ dX12_init_40 (fun _ => rfl) ?_
  refine RnA.cst (cs' := (5, 5908)) rfl ?_
  refine RnA.to (n' := gA G 11 0 + 6) rfl ?_
  refine RnA.put flX12_23 (Or.inr ⟨rfl, hz.1, rfl⟩) rfl rfl (Nat.le_of_ble_eq_true rfl) (fun q h => nomatch h) dX12_init_42 ?_
  refine RnA.ops (o' := [((11, 0), Sum.inl [vI 0, vR 22 0, vI 0, vR 23 0, vR 24 0, vR 25 0, vI 0, vI 0, vI 0, vI 0, vI 0, vI 0, vI 0, vI 0, vI 0, vI 0, vI 0, vI 0, vI 0, vI 0, vI 0, vR 26 0, vN, vN, vN, vN, vN, vN, vN, vN, vI 0, vN, vN, vN, vI 0, vN, vN, vI 0, vN, vI 0])]) rfl ?_
  refine RnA.aload_n dX12_init_45 rfl rfl ?_
  refine RnA.sipush (v := nI 192) dX12_init_46 (by decide) ?_
  refine RnA.newa (j := 0) na27 (by decide) (by rw [b27, a0]) ⟨by decide, by decide⟩ dX12_init_49 (fun _ => rfl) ?_
  refine RnA.cst (cs' := (6, 6100)) rfl ?_
  refine RnA.to (n' := gA G 11 0 + 7) rfl ?_
  refine RnA.put flX12_26 (Or.inr ⟨rfl, hz.1, rfl⟩) rfl rfl (Nat.le_of_ble_eq_true rfl) (fun q h => nomatch h) dX12_init_51 ?_
  refine RnA.ops (o' := [((11, 0), Sum.inl [vI 0, vR 22 0, vI 0, vR 23 0, vR 24 0, vR 25 0, vI 0, vI 0, vI 0, vI 0, vI 0, vI 0, vI 0, vI 0, vI 0, vI 0, vI 0, vI 0, vI 0, vI 0, vI 0, vR 26 0, vR 27 0, vN, vN, vN, vN, vN, vN, vN, vI 0, vN, vN, vN, vI 0, vN, vN, vI 0, vN, vI 0])]) rfl ?_
  refine RnA.aload_n dX12_init_54 rfl rfl ?_
  refine RnA.sipush (v := nI 192) dX12_init_55 (by decide) ?_
  refine RnA.newa (j := 0) na28 (by decide) (by rw [b28, a0]) ⟨by decide, by decide⟩ dX12_init_58 (fun _ => rfl) ?_
  refine RnA.cst (cs' := (7, 6292)) rfl ?_
  refine RnA.to (n' := gA G 11 0 + 8) rfl ?_
  refine RnA.put flX12_29 (Or.inr ⟨rfl, hz.1, rfl⟩) rfl rfl (Nat.le_of_ble_eq_true rfl) (fun q h => nomatch h) dX12_init_60 ?_
  refine RnA.ops (o' := [((11, 0), Sum.inl [vI 0, vR 22 0, vI 0, vR 23 0, vR 24 0, vR 25 0, vI 0, vI 0, vI 0, vI 0, vI 0, vI 0, vI 0, vI 0, vI 0, vI 0, vI 0, vI 0, vI 0, vI 0, vI 0, vR 26 0, vR 27 0, vR 28 0, vN, vN, vN, vN, vN, vN, vI 0, vN, vN, vN, vI 0, vN, vN, vI 0, vN, vI 0])]) rfl ?_
  refine RnA.aload_n dX12_init_63 rfl rfl ?_
  refine RnA.sipush (v := nI 192) dX12_init_64 (by decide) ?_
  refine RnA.newa (j := 0) na29 (by decide) (by rw [b29, a0]) ⟨by decide, by decide⟩ dX12_init_67 (fun _ => rfl) ?_
  refine RnA.cst (cs' := (8, 6484)) rfl ?_
  refine RnA.to (n' := gA G 11 0 + 9) rfl ?_
  refine RnA.put flX12_32 (Or.inr ⟨rfl, hz.1, rfl⟩) rfl rfl (Nat.le_of_ble_eq_true rfl) (fun q h => nomatch h) dX12_init_69 ?_
  refine RnA.ops (o' := [((11, 0), Sum.inl [vI 0, vR 22 0, vI 0, vR 23 0, vR 24 0, vR 25 0, vI 0, vI 0, vI 0, vI 0, vI 0, vI 0, vI 0, vI 0, vI 0, vI 0, vI 0, vI 0, vI 0, vI 0, vI 0, vR 26 0, vR 27 0, vR 28 0, vR 29 0, vN, vN, vN, vN, vN, vI 0, vN, vN, vN, vI 0, vN, vN, vI 0, vN, vI 0])]) rfl ?_
  refine RnA.aload_n dX12_init_72 rfl rfl ?_
  refine RnA.sipush (v := nI 192) dX12_init_73 (by decide) ?_
  refine RnA.newa (j := 0) na30 (by decide) (by rw [b30, a0]) ⟨by decide, by decide⟩ dX12_init_76 (fun _ => rfl) ?_
  refine RnA.cst (cs' := (9, 6676)) rfl ?_
  refine RnA.to (n' := gA G 11 0 + 10) rfl ?_
  refine RnA.put flX12_35 (Or.inr ⟨rfl, hz.1, rfl⟩) rfl rfl (Nat.le_of_ble_eq_true rfl) (fun q h => nomatch h) dX12_init_78 ?_
  refine RnA.ops (o' := [((11, 0), Sum.inl [vI 0, vR 22 0, vI 0, vR 23 0, vR 24 0, vR 25 0, vI 0, vI 0, vI 0, vI 0, vI 0, vI 0, vI 0, vI 0, vI 0, vI 0, vI 0, vI 0, vI 0, vI 0, vI 0, vR 26 0, vR 27 0, vR 28 0, vR 29 0, vR 30 0, vN, vN, vN, vN, vI 0, vN, vN, vN, vI 0, vN, vN, vI 0, vN, vI 0])]) rfl ?_
  refine RnA.aload_n dX12_init_81 rfl rfl ?_
  refine RnA.bipush (v := nI 12) dX12_init_82 (by decide) ?_
  refine RnA.newa (j := 0) na31 (by decide) (by rw [b31, a0]) ⟨by decide, by decide⟩ dX12_init_84 (fun _ => rfl) ?_
  refine RnA.cst (cs' := (10, 6688)) rfl ?_
  refine RnA.to (n' := gA G 11 0 + 11) rfl ?_
  refine RnA.put flX12_39 (Or.inr ⟨rfl, hz.1, rfl⟩) rfl rfl (Nat.le_of_ble_eq_true rfl) (fun q h => nomatch h) dX12_init_86 ?_
  refine RnA.ops (o' := [((11, 0), Sum.inl [vI 0, vR 22 0, vI 0, vR 23 0, vR 24 0, vR 25 0, vI 0, vI 0, vI 0, vI 0, vI 0, vI 0, vI 0, vI 0, vI 0, vI 0, vI 0, vI 0, vI 0, vI 0, vI 0, vR 26 0, vR 27 0, vR 28 0, vR 29 0, vR 30 0, vR 31 0, vN, vN, vN, vI 0, vN, vN, vN, vI 0, vN, vN, vI 0, vN, vI 0])]) rfl ?_
  refine RnA.aload_n dX12_init_89 rfl rfl ?_
  refine RnA.bipush (v := nI 12) dX12_init_90 (by decide) ?_
  refine RnA.newa (j := 0) na32 (by decide) (by rw [b32, a0]) ⟨by decide, by decide⟩ dX12_init_92 (fun _ => rfl) ?_
  refine RnA.cst (cs' := (11, 6700)) rfl ?_
  refine RnA.to (n' := gA G 11 0 + 12) rfl ?_
  refine RnA.put flX12_42 (Or.inr ⟨rfl, hz.1, rfl⟩) rfl rfl (Nat.le_of_ble_eq_true rfl) (fun q h => nomatch h) dX12_init_94 ?_
  refine RnA.ops (o' := [((11, 0), Sum.inl [vI 0, vR 22 0, vI 0, vR 23 0, vR 24 0, vR 25 0, vI 0, vI 0, vI 0, vI 0, vI 0, vI 0, vI 0, vI 0, vI 0, vI 0, vI 0, vI 0, vI 0, vI 0, vI 0, vR 26 0, vR 27 0, vR 28 0, vR 29 0, vR 30 0, vR 31 0, vR 32 0, vN, vN, vI 0, vN, vN, vN, vI 0, vN, vN, vI 0, vN, vI 0])]) rfl ?_
  refine RnA.aload_n dX12_init_97 rfl rfl ?_
  refine RnA.bipush (v := nI 12) dX12_init_98 (by decide) ?_
  refine RnA.newa (j := 0) na33 (by decide) (by rw [b33, a0]) ⟨by decide, by decide⟩ dX12_init_100 (fun _ => rfl) ?_
  refine RnA.cst (cs' := (12, 6712)) rfl ?_
  refine RnA.to (n' := gA G 11 0 + 13) rfl ?_
  refine RnA.put flX12_45 (Or.inr ⟨rfl, hz.1, rfl⟩) rfl rfl (Nat.le_of_ble_eq_true rfl) (fun q h => nomatch h) dX12_init_102 ?_
  refine RnA.ops (o' := [((11, 0), Sum.inl [vI 0, vR 22 0, vI 0, vR 23 0, vR 24 0, vR 25 0, vI 0, vI 0, vI 0, vI 0, vI 0, vI 0, vI 0, vI 0, vI 0, vI 0, vI 0, vI 0, vI 0, vI 0, vI 0, vR 26 0, vR 27 0, vR 28 0, vR 29 0, vR 30 0, vR 31 0, vR 32 0, vR 33 0, vN, vI 0, vN, vN, vN, vI 0, vN, vN, vI 0, vN, vI 0])]) rfl ?_
  refine RnA.aload_n dX12_init_105 rfl rfl ?_
  refine RnA.sipush (v := nI 12288) dX12_init_106 (by decide) ?_
  refine RnA.newa (j := 0) na34 (by decide) (by rw [b34, a0]) ⟨by decide, by decide⟩ dX12_init_109 (fun _ => rfl) ?_
  refine RnA.cst (cs' := (13, 19000)) rfl ?_
  refine RnA.to (n' := gA G 11 0 + 14) rfl ?_
  refine RnA.put flX12_48 (Or.inr ⟨rfl, hz.1, rfl⟩) rfl rfl (Nat.le_of_ble_eq_true rfl) (fun q h => nomatch h) dX12_init_111 ?_
  refine RnA.ops (o' := [((11, 0), Sum.inl [vI 0, vR 22 0, vI 0, vR 23 0, vR 24 0, vR 25 0, vI 0, vI 0, vI 0, vI 0, vI 0, vI 0, vI 0, vI 0, vI 0, vI 0, vI 0, vI 0, vI 0, vI 0, vI 0, vR 26 0, vR 27 0, vR 28 0, vR 29 0, vR 30 0, vR 31 0, vR 32 0, vR 33 0, vR 34 0, vI 0, vN, vN, vN, vI 0, vN, vN, vI 0, vN, vI 0])]) rfl ?_
  refine RnA.aload_n dX12_init_114 rfl rfl ?_
  refine RnA.bipush (v := nI 12) dX12_init_115 (by decide) ?_
  refine RnA.newa (j := 0) na35 (by decide) (by rw [b35, a0]) ⟨by decide, by decide⟩ dX12_init_117 (fun _ => rfl) ?_
  refine RnA.cst (cs' := (14, 19012)) rfl ?_
  refine RnA.to (n' := gA G 11 0 + 15) rfl ?_
  refine RnA.put flX12_51 (Or.inr ⟨rfl, hz.1, rfl⟩) rfl rfl (Nat.le_of_ble_eq_true rfl) (fun q h => nomatch h) dX12_init_119 ?_
  refine RnA.ops (o' := [((11, 0), Sum.inl [vI 0, vR 22 0, vI 0, vR 23 0, vR 24 0, vR 25 0, vI 0, vI 0, vI 0, vI 0, vI 0, vI 0, vI 0, vI 0, vI 0, vI 0, vI 0, vI 0, vI 0, vI 0, vI 0, vR 26 0, vR 27 0, vR 28 0, vR 29 0, vR 30 0, vR 31 0, vR 32 0, vR 33 0, vR 34 0, vI 0, vR 35 0, vN, vN, vI 0, vN, vN, vI 0, vN, vI 0])]) rfl ?_
  refine RnA.aload_n dX12_init_122 rfl rfl ?_
  refine RnA.bipush (v := nI 12) dX12_init_123 (by decide) ?_
  refine RnA.newa (j := 0) na36 (by decide) (by rw [b36, a0]) ⟨by decide, by decide⟩ dX12_init_125 (fun _ => rfl) ?_
  refine RnA.cst (cs' := (15, 19024)) rfl ?_
  refine RnA.to (n' := gA G 11 0 + 16) rfl ?_
  refine RnA.put flX12_54 (Or.inr ⟨rfl, hz.1, rfl⟩) rfl rfl (Nat.le_of_ble_eq_true rfl) (fun q h => nomatch h) dX12_init_127 ?_
  refine RnA.ops (o' := [((11, 0), Sum.inl [vI 0, vR 22 0, vI 0, vR 23 0, vR 24 0, vR 25 0, vI 0, vI 0, vI 0, vI 0, vI 0, vI 0, vI 0, vI 0, vI 0, vI 0, vI 0, vI 0, vI 0, vI 0, vI 0, vR 26 0, vR 27 0, vR 28 0, vR 29 0, vR 30 0, vR 31 0, vR 32 0, vR 33 0, vR 34 0, vI 0, vR 35 0, vR 36 0, vN, vI 0, vN, vN, vI 0, vN, vI 0])]) rfl ?_
  refine RnA.aload_n dX12_init_130 rfl rfl ?_
  refine RnA.sipush (v := nI 2048) dX12_init_131 (by decide) ?_
  refine RnA.newa (j := 0) na37 (by decide) (by rw [b37, a0]) ⟨by decide, by decide⟩ dX12_init_134 (fun _ => rfl) ?_
  refine RnA.cst (cs' := (16, 21072)) rfl ?_
  refine RnA.to (n' := gA G 11 0 + 17) rfl ?_
  refine RnA.put flX12_57 (Or.inr ⟨rfl, hz.1, rfl⟩) rfl rfl (Nat.le_of_ble_eq_true rfl) (fun q h => nomatch h) dX12_init_136 ?_
  refine RnA.ops (o' := [((11, 0), Sum.inl [vI 0, vR 22 0, vI 0, vR 23 0, vR 24 0, vR 25 0, vI 0, vI 0, vI 0, vI 0, vI 0, vI 0, vI 0, vI 0, vI 0, vI 0, vI 0, vI 0, vI 0, vI 0, vI 0, vR 26 0, vR 27 0, vR 28 0, vR 29 0, vR 30 0, vR 31 0, vR 32 0, vR 33 0, vR 34 0, vI 0, vR 35 0, vR 36 0, vR 37 0, vI 0, vN, vN, vI 0, vN, vI 0])]) rfl ?_
  refine RnA.aload_n dX12_init_139 rfl rfl ?_
  refine RnA.iconst (v := nI 3) dX12_init_140 (by decide) ?_
  refine RnA.newaO (j := 0) na38 (by decide) (by rw [b38, a0]) ⟨by decide, by decide⟩ dX12_init_141 rfl ?_
  refine RnA.cst (cs' := (17, 21075)) rfl ?_
  refine RnA.to (n' := gA G 11 0 + 18) rfl ?_
  refine RnA.put flX12_60 (Or.inr ⟨rfl, hz.1, rfl⟩) rfl rfl (Nat.le_of_ble_eq_true rfl) (fun q h => by rw [List.mem_singleton.mp h]; decide) dX12_init_143 ?_
  refine RnA.ops (o' := [((11, 0), Sum.inl [vI 0, vR 22 0, vI 0, vR 23 0, vR 24 0, vR 25 0, vI 0, vI 0, vI 0, vI 0, vI 0, vI 0, vI 0, vI 0, vI 0, vI 0, vI 0, vI 0, vI 0, vI 0, vI 0, vR 26 0, vR 27 0, vR 28 0, vR 29 0, vR 30 0, vR 31 0, vR 32 0, vR 33 0, vR 34 0, vI 0, vR 35 0, vR 36 0, vR 37 0, vI 0, vR 38 0, vN, vI 0, vN, vI 0]), ((38, 0), Sum.inr (Sum.inr (fun _ => 0)))]) rfl ?_
  refine RnA.aload_n dX12_init_146 rfl rfl ?_
  refine RnA.sipush (v := nI 6400) dX12_init_147 (by decide) ?_
  refine RnA.newa (j := 0) na39 (by decide) (by rw [b39, a0]) ⟨by decide, by decide⟩ dX12_init_150 (fun _ => rfl) ?_
  refine RnA.cst (cs' := (18, 27475)) rfl ?_
  refine RnA.to (n' := gA G 11 0 + 19) rfl ?_
  refine RnA.put flX12_63 (Or.inr ⟨rfl, hz.1, rfl⟩) rfl rfl (Nat.le_of_ble_eq_true rfl) (fun q h => by rw [List.mem_singleton.mp h]; decide) dX12_init_152 ?_
  refine RnA.ops (o' := [((11, 0), Sum.inl [vI 0, vR 22 0, vI 0, vR 23 0, vR 24 0, vR 25 0, vI 0, vI 0, vI 0, vI 0, vI 0, vI 0, vI 0, vI 0, vI 0, vI 0, vI 0, vI 0, vI 0, vI 0, vI 0, vR 26 0, vR 27 0, vR 28 0, vR 29 0, vR 30 0, vR 31 0, vR 32 0, vR 33 0, vR 34 0, vI 0, vR 35 0, vR 36 0, vR 37 0, vI 0, vR 38 0, vR 39 0, vI 0, vN, vI 0]), ((38, 0), Sum.inr (Sum.inr (fun _ => 0)))]) rfl ?_
  refine RnA.aload_n dX12_init_155 rfl rfl ?_
  refine RnA.bipush (v := nI 12) dX12_init_156 (by decide) ?_
  refine RnA.newa (j := 0) na40 (by decide) (by rw [b40, a0]) ⟨by decide, by decide⟩ dX12_init_158 (fun _ => rfl) ?_
  refine RnA.cst (cs' := (19, 27487)) rfl ?_
  refine RnA.to (n' := gA G 11 0 + 20) rfl ?_
  refine RnA.put flX12_66 (Or.inr ⟨rfl, hz.1, rfl⟩) rfl rfl (Nat.le_of_ble_eq_true rfl) (fun q h => by rw [List.mem_singleton.mp h]; decide) dX12_init_160 ?_
  refine RnA.ops (o' := [((11, 0), Sum.inl [vI 0, vR 22 0, vI 0, vR 23 0, vR 24 0, vR 25 0, vI 0, vI 0, vI 0, vI 0, vI 0, vI 0, vI 0, vI 0, vI 0, vI 0, vI 0, vI 0, vI 0, vI 0, vI 0, vR 26 0, vR 27 0, vR 28 0, vR 29 0, vR 30 0, vR 31 0, vR 32 0, vR 33 0, vR 34 0, vI 0, vR 35 0, vR 36 0, vR 37 0, vI 0, vR 38 0, vR 39 0, vI 0, vR 40 0, vI 0]), ((38, 0), Sum.inr (Sum.inr (fun _ => 0)))]) rfl ?_
  refine RnA.aload_n dX12_init_163 rfl rfl ?_
  refine RnA.ops (o' := oF [vI 0, vR 22 0, vI 0, vR 23 0, vR 24 0, vR 25 0, vI 0, vI 0, vI 0, vI 0, vI 0, vI 0, vI 0, vI 0, vI 0, vI 0, vI 0, vI 0, vI 0, vI 0, vI 0, vR 26 0, vR 27 0, vR 28 0, vR 29 0, vR 30 0, vR 31 0, vR 32 0, vR 33 0, vR 34 0, vI 0, vR 35 0, vR 36 0, vR 37 0, vI 0, vR 38 0, vR 39 0, vI 0, vR 40 0, vI 0] 0) (by
    show [((11, 0), Sum.inl [vI 0, vR 22 0, vI 0, vR 23 0, vR 24 0, vR 25 0, vI 0, vI 0, vI 0, vI 0, vI 0, vI 0, vI 0, vI 0, vI 0, vI 0, vI 0, vI 0, vI 0, vI 0, vI 0, vR 26 0, vR 27 0, vR 28 0, vR 29 0, vR 30 0, vR 31 0, vR 32 0, vR 33 0, vR 34 0, vI 0, vR 35 0, vR 36 0, vR 37 0, vI 0, vR 38 0, vR 39 0, vI 0, vR 40 0, vI 0]), ((38, 0), Sum.inr (Sum.inr (fun _ => 0)))] = _
    unfold oF
    congr 4) ?_
  refine RnA.callA (k := 11) (j := 0) (M' := (gA G 11 0, gA G 11 0 + 20, oF [vI 0, vR 22 0, vI 0, vR 23 0, vR 24 0, vR 25 0, vI 0, vI 0, vI 0, vI 0, vI 0, vI 0, vI 0, vI 0, vI 0, vI 0, vI 0, vI 0, vI 0, vI 0, vI 0, vR 26 0, vR 27 0, vR 28 0, vR 29 0, vR 30 0, vR 31 0, vR 32 0, vR 33 0, vR 34 0, vI 0, vR 35 0, vR 36 0, vR 37 0, vI 0, vR 38 0, vR 39 0, vI 0, vR 40 0, vI 0] 3)) cvX12_69 ⟨by decide, rfl⟩ ⟨by decide, by decide⟩ dX12_init_164 (Nat.le_of_ble_eq_true rfl) rfl (List.mem_cons_self) (n_forget _ _ _ rfl) ?_
  unfold oF
  refine RnA.close [((11, 0), _)] [] (cl_a ak38 rfl ?_) ?_
  · exact arrV_cong fun j hj => by
      show Value.int (if j < 3 then -1 else 0) = _
      rw [if_pos (show j < 3 from hj)]
  refine RnA.close [] [] (cl_o (by decide) rfl) ?_
  exact RnA.vretN hz rfl (by decide) (by decide) rfl dX12_init_167
theorem okM0 : okM mem0 := by
  intro k j s t hp hs hc
  obtain ⟨hk, hj⟩ := mem_PL.mp hp
  by_cases h12 : k < 12
  · have h9 : ((List.range 12).all fun k => (List.range (kCnt k)).all fun j => (List.range (kF k).length).all fun s => decide ((kF k).getD s 0 < 2) || (decide (mR mem0 k j s < kCnt ((kF k).getD s 0 - 2)) && (mutR k s || decide (mR mem0 k j s = fixR k j s)))) = true := by decide +kernel
    unfold kLen at hs
    unfold slotC at hc
    rw [if_pos h12] at hs hc
    have h8 := List.all_eq_true.mp (List.all_eq_true.mp (List.all_eq_true.mp h9 k (List.mem_range.mpr h12)) j (List.mem_range.mpr hj)) s (List.mem_range.mpr hs)
    rw [hc, Bool.or_eq_true, Bool.and_eq_true, Bool.or_eq_true, decide_eq_true_eq, decide_eq_true_eq, decide_eq_true_eq] at h8
    rcases h8 with h8 | h8
    · omega
    · refine ⟨h8.1, fun hm => ?_⟩
      rcases h8.2 with q | q
      · rw [hm] at q; cases q
      · exact q
  · unfold kLen at hs
    unfold slotC at hc
    rw [if_neg h12] at hs hc
    have h9 : ∀ k, k < 42 → 12 ≤ k → (kA k).2.2 < 2 ∨ k = 13 ∨ k = 14 ∨ k = 18 := by decide +kernel
    rcases h9 k hk (by omega) with h | rfl | rfl | rfl
    · omega
    · have hj0 : j = 0 := by have : j < 1 := hj; omega
      have hs4 : s < 4 := hs
      have ht : t = 7 := by have : (9 : Nat) = t + 2 := hc; omega
      subst ht
      exact ⟨hs4, fun _ => rfl⟩
    · have hj4 : j < 4 := hj
      have hs4 : s < 24 := hs
      have ht : t = 8 := by have : (10 : Nat) = t + 2 := hc; omega
      subst ht
      exact ⟨by show 24 * j + s < 96; omega, fun _ => rfl⟩
    · have hj4 : j < 4 := hj
      have hs4 : s < 4 := hs
      have ht : t = 19 := by have : (21 : Nat) = t + 2 := hc; omega
      subst ht
      exact ⟨by show 4 * j + s < 16; omega, fun _ => rfl⟩
