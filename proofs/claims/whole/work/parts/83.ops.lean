theorem hx_lt {z : Nat} {im : Nat → Nat} {k : Nat} : hx z im k < 256 := by
  unfold hx
  split
  · exact rch_lt
  · split <;> exact rch_lt
set_option maxRecDepth 20000 in
set_option maxHeartbeats 4000000 in
theorem k_hex_in (G : GX) {M : Mem} (l z k : Nat) (hl : mR M 10 0 4 = l) (hz : z ≤ 2048) (hz0 : 0 < z) (hk : k < 2 ^ 31) (hlen : mI M 2 l 1 = nI z) : MetM G yX11_hex iX11_hex [vR 10 0, vI (nI k)] M (fun r M' => r = some (vI (nI (if k < hxz z then hx z (imC l M) k else 32))) ∧ M' = M) := by
  refine MetM.of (ls := [some (vR 10 0), some (vI (nI k))]) (by decide) rfl (Nat.le_of_ble_eq_true rfl) rfl ?_
  intro hM0
  refine Rn.aload_n (pc := 0) dX11_hex_0 rfl rfl ?_
  refine Rn.getRm (pc := 1) flX11_40 hl dX11_hex_1 ?_
  refine Rn.getR (pc := 4) flX11_115 mu0_2 fx0_2 dX11_hex_4 ?_
  refine Rn.iload_n (pc := 7) dX11_hex_7 rfl rfl ?_
  refine Rn.callV (pc := 8) (as := [_]) cvX11_136 ⟨by decide, rfl⟩ ⟨by decide, by decide⟩ dX11_hex_8 (Nat.le_of_ble_eq_true rfl) rfl (k_recordCharacter G l z k hz hz0 hk hlen) ?_
  rintro _ M9 ⟨rfl, h9⟩
  rw [h9]
  refine Rn.zret (pc := 11) rfl (nI_ch (by have := @hx_lt z (imC l M) k; split <;> omega)) dX11_hex_11 ?_
  exact ⟨rfl, rfl⟩

set_option maxRecDepth 20000 in
set_option maxHeartbeats 4000000 in
theorem k_hex_no (G : GX) {M : Mem} (l : Nat) (x : Int32) (hl : mR M 10 0 4 = l) (hx : x < 0 ∨ mI M 2 l 1 = nI 0) : MetM G yX11_hex iX11_hex [vR 10 0, vI x] M (fun r M' => r = some (vI (nI 32)) ∧ M' = M) := by
  refine MetM.of (ls := [some (vR 10 0), some (vI x)]) (by decide) rfl (Nat.le_of_ble_eq_true rfl) rfl ?_
  intro hM0
  refine Rn.aload_n (pc := 0) dX11_hex_0 rfl rfl ?_
  refine Rn.getRm (pc := 1) flX11_40 hl dX11_hex_1 ?_
  refine Rn.getR (pc := 4) flX11_115 mu0_2 fx0_2 dX11_hex_4 ?_
  refine Rn.iload_n (pc := 7) dX11_hex_7 rfl rfl ?_
  refine Rn.callV (pc := 8) (as := [_]) cvX11_136 ⟨by decide, rfl⟩ ⟨by decide, by decide⟩ dX11_hex_8 (Nat.le_of_ble_eq_true rfl) rfl (k_recordCharacter_no G l x hx) ?_
  rintro _ M9 ⟨rfl, h9⟩
  rw [h9]
  refine Rn.zret (pc := 11) rfl (nI_ch (by decide)) dX11_hex_11 ?_
  exact ⟨rfl, rfl⟩

set_option maxRecDepth 20000 in
set_option maxHeartbeats 4000000 in
theorem c_change_in2 (G : GX) {M : Mem} (m n t : Nat) (q : Nat × (Nat → Nat)) (hm : m < 4) (hn : n < t) (ht : t ≤ 24) (hl : mI M 23 0 m = nI t) (hq : TyM q M) (hb : q.1 ≤ 48) (hc : ∀ i, i < q.1 → q.2 i < 256) : MetM G yX12_change iX12_change [vR 11 0, vI (nI m), vI (nI n)] M (fun r M' => r = none ∧ mI M' 11 0 0 = nI 0 ∧ StoM (24 * m + n) q M' ∧ mI M' 11 0 2 = nI 0 ∧ Fr (fun k j s => SSt (24 * m + n) k j s ∨ (k = 11 ∧ s = 0)) M M') := by
  refine MetM.of (ls := [some (vR 11 0), some (vI (nI m)), some (vI (nI n))]) (by decide) rfl (Nat.le_of_ble_eq_true rfl) rfl ?_
  intro hM0
  refine Rn.aload_n (pc := 0) dX12_change_0 rfl rfl ?_
  refine Rn.iload_n (pc := 1) dX12_change_1 rfl rfl ?_
  refine Rn.callS (pc := 2) (as := [_]) csX12_87 ⟨by decide, by decide⟩ dX12_change_2 (Nat.le_of_ble_eq_true rfl) rfl (c_isModule G (nI m)) ?_
  rintro _ M9 ⟨rfl, h9⟩
  rw [h9]
  rw [mod_N hm]
  refine Rn.if_eqB (pc := 5) (tgt := 26) dX12_change_5 (by decide) (fun c5 => ?_) (fun c5 => ?_)
  · cases c5
  · refine Rn.iload_n (pc := 8) dX12_change_8 rfl rfl ?_
    refine Rn.if_lt (pc := 9) (y := 0) (tgt := 26) dX12_change_9 (by decide) (fun c9 => ?_) (fun c9 => ?_)
    · exact absurd c9 (nI_pos (by omega))
    · refine Rn.iload_n (pc := 12) dX12_change_12 rfl rfl ?_
      refine Rn.aload_n (pc := 13) dX12_change_13 rfl rfl ?_
      refine Rn.getR (pc := 14) flX12_13 mu11_3 fx11_3 dX12_change_14 ?_
      refine Rn.iload_n (pc := 17) dX12_change_17 rfl rfl ?_
      refine Rn.ialdN (pc := 18) ak23 (by omega) (by decide) hl dX12_change_18 ?_
      refine Rn.icmp_geN (pc := 19) (tgt := 26) dX12_change_19 (by decide) (by omega) (by omega) (fun c19 => ?_) (fun c19 => ?_)
      · exact absurd c19 (by omega)
      · refine Rn.iconst (pc := 22) (v := nI 0) dX12_change_22 (by decide) ?_
        refine Rn.goto (pc := 23) (tgt := 27) dX12_change_23 (by decide) ?_
        refine Rn.callV (pc := 27) (as := [_]) cvX12_83 ⟨by decide, rfl⟩ ⟨by decide, by decide⟩ dX12_change_27 (Nat.le_of_ble_eq_true rfl) rfl (c_refused G (nI 0)) ?_
        rintro _ _ ⟨rfl, rfl⟩
        rw [ref_0]
        refine Rn.if_eqB (pc := 30) (tgt := 34) dX12_change_30 (by decide) (fun c30 => ?_) (fun c30 => ?_)
        · refine Rn.aload_n (pc := 34) dX12_change_34 rfl rfl ?_
          refine Rn.bipush (pc := 35) (v := nI 24) dX12_change_35 (by decide) ?_
          refine Rn.iload_n (pc := 37) dX12_change_37 rfl rfl ?_
          refine Rn.imulN (pc := 38) dX12_change_38 ?_
          refine Rn.iload_n (pc := 39) dX12_change_39 rfl rfl ?_
          refine Rn.iaddN (pc := 40) dX12_change_40 ?_
          refine Rn.callV (pc := 41) (as := [_]) cvX12_90 ⟨by decide, rfl⟩ ⟨by decide, by decide⟩ dX12_change_41 (Nat.le_of_ble_eq_true rfl) rfl (c_store G (24 * m + n) q (by omega) ⟨hq.1, hq.2⟩ hb hc) ?_
          rintro _ M9 ⟨rfl, h9, g9, f9⟩
          refine Rn.vret (pc := 44) rfl dX12_change_44 ?_
          exact ⟨rfl, (f9.I (by unfold SSt; omega)).trans rfl, ⟨h9.1, h9.2⟩, g9, ((Fr.refl M).sI (Or.inr ⟨rfl, rfl⟩)).trans (f9.mono (fun _ _ _ h => Or.inl h))⟩
        · cases c30

def Rr (M : Mem) : Prop := ∃ (q : Nat × (Nat → Nat)) (cnt : Nat → Nat) (T : Nat → Nat → Nat × (Nat → Nat)) (l : Nat), Rx q cnt T l M
theorem fr41 {M : Mem} {v : Int64} : Fr (fun k _ _ => k = 41) M (sJ M 41 0 0 v) := ⟨rfl, fun k j s h => by rw [mJ_sJ, if_neg (fun q => h q.1)], fun _ _ _ _ => rfl⟩
theorem fr_out {S : Nat → Nat → Nat → Prop} {M N : Mem} {v : Int64} (f : Fr S M N) : Fr S (sJ M 41 0 0 v) (sJ N 41 0 0 v) := ⟨f.1, fun k j s h => by rw [mJ_sJ, mJ_sJ]; split; rfl; exact f.2.1 k j s h, fun k j s h => f.2.2 k j s h⟩
theorem Rx.out {q : Nat × (Nat → Nat)} {cnt : Nat → Nat} {T : Nat → Nat → Nat × (Nat → Nat)} {l : Nat} {M : Mem} {v : Int64} (h : Rx q cnt T l M) : Rx q cnt T l (sJ M 41 0 0 v) := by
  obtain ⟨h1, h2, h3, h4, h5⟩ := h
  have f : Fr (fun k _ _ => k = 41) M (sJ M 41 0 0 v) := fr41
  refine ⟨h1.fr f (by intro k j s h; omega), h2.fr f (by intro k j s h; omega), h3.fr f, ?_, h5⟩
  rcases h4 with h4 | ⟨sz, B, z, im, g1, g2, g3, g4, g5⟩
  · exact Or.inl h4
  · exact Or.inr ⟨sz, B, z, im, g1, g2, g3.fr f (by intro k j s h; omega), g4.fr f (by intro k j s h; omega), g5⟩
theorem mod_is {v : Int32} (h : ¬ decide (¬ v < 0 ∧ ¬ nI 4 ≤ v) = false) : ∃ m : Nat, m < 4 ∧ v = nI m := by
  have h1 : ¬ v < 0 ∧ ¬ nI 4 ≤ v := Classical.byContradiction fun q => h (decide_eq_false q)
  rw [Int32.lt_iff_toInt_lt, Int32.le_iff_toInt_le, show (nI 4).toInt = 4 by decide, show (0 : Int32).toInt = 0 by decide] at h1
  refine ⟨v.toInt.toNat, by omega, ?_⟩
  rw [← Int32.toInt_inj, nI_toInt (by omega)]
  omega
theorem sec_is {v : Int32} (h : ¬ decide (¬ v < nI 0 ∧ ¬ nI 2 < v) = false) : ∃ m : Nat, m < 3 ∧ v = nI m := by
  have h1 : ¬ v < nI 0 ∧ ¬ nI 2 < v := Classical.byContradiction fun q => h (decide_eq_false q)
  rw [Int32.lt_iff_toInt_lt, Int32.lt_iff_toInt_lt, show (nI 2).toInt = 2 by decide, show (nI 0).toInt = 0 by decide] at h1
  refine ⟨v.toInt.toNat, by omega, ?_⟩
  rw [← Int32.toInt_inj, nI_toInt (by omega)]
  omega
theorem lin_is {v : Int32} {c : Nat} (hc : c ≤ 2048) (h : ¬ (v < 0 ∨ nI c ≤ v)) : ∃ n : Nat, n < c ∧ v = nI n := by
  rw [Int32.lt_iff_toInt_lt, Int32.le_iff_toInt_le, nI_toInt (by omega), show (0 : Int32).toInt = 0 by decide] at h
  refine ⟨v.toInt.toNat, by omega, ?_⟩
  rw [← Int32.toInt_inj, nI_toInt (by omega)]
  omega
theorem nI_u (x : Int32) : nI x.toUInt32.toNat = x := by
  apply Int32.toBitVec_inj.mp
  first
    | simp [nI]
    | (show BitVec.ofNat 32 x.toUInt32.toNat = x.toBitVec; simp)
/-- a call by a helper: its answer k, then the model's: b, and what it threw -/
def OpH (G : GX) (yh : MethodName) (jh : MIx) (th : List (Nat × Nat × Nat × Nat)) (ym : MethodName) (im : MIx) (ah am : List AV) (M : Mem) : Prop :=
  ∃ PH : Option AV → Mem → Prop, MetH G yh jh th ah M PH ∧ ∀ r M1, PH r M1 → ∃ (k : Int32) (PM : Option AV → Mem → Prop), r = some (vI k) ∧ MetM G ym im am M1 PM ∧ ∀ r2 M2, PM r2 M2 → ∃ b : Int32, r2 = some (vI b) ∧ mI M2 11 0 0 = k ∧ (k = 0 → mJ M2 41 0 0 = b.toInt64) ∧ Rr M2
def OpC (G : GX) (yh : MethodName) (jh : MIx) (th : List (Nat × Nat × Nat × Nat)) (ym : MethodName) (im : MIx) (ah am : List AV) (M : Mem) : Prop :=
  ∃ PH : Option AV → Mem → Prop, MetH G yh jh th ah M PH ∧ ∀ r M1, PH r M1 → ∃ (k : Int32) (PM : Option AV → Mem → Prop), r = some (vI k) ∧ MetM G ym im am M1 PM ∧ ∀ r2 M2, PM r2 M2 → r2 = none ∧ mI M2 11 0 0 = k ∧ Rr M2
def OpV (G : GX) (yk : MethodName) (ik : MIx) (ym : MethodName) (im : MIx) (ak am : List AV) (M : Mem) : Prop :=
  ∃ P : Option AV → Mem → Prop, MetM G yk ik ak M P ∧ ∀ r M1, P r M1 → ∃ (v : Int32) (PM : Option AV → Mem → Prop), r = some (vI v) ∧ MetM G ym im am M1 PM ∧ ∀ r2 M2, PM r2 M2 → r2 = some (vI v) ∧ Rr M2
theorem j41 {M : Mem} {v : Int64} : mJ (sJ M 41 0 0 v) 41 0 0 = v := rfl
theorem sv_inj {x y : Int32} (h : some (vI x) = some (vI y)) : x = y := Sum.inl.inj (Option.some.inj h)
theorem op_type (G : GX) {M : Mem} (a b c d : Int32) (hM : Rr M) : OpH G yL_type jL_type tL_type yX12_type iX12_type [vR 10 0, vI a, vI b, vI c, vI d, vR 41 0] [vR 11 0, vI a, vI b, vI c, vI d] M := by
  obtain ⟨q, cnt, T, l, h⟩ := hM
  by_cases hle : (tyQ a b c d q).1 ≤ 48
  · refine ⟨_, h_type_ok G a b c d (fun r M' hp => ⟨_, hp.1⟩) (k_type_ok G a b c d q h.1.2.1 h.1.2.2.1 hle), ?_⟩
    rintro r M' ⟨rfl, x, M1, ⟨hx, hty, hfr⟩, rfl⟩
    obtain rfl := sv_inj hx
    have h0 : Rx q cnt T l (sJ M 41 0 0 (nI (tyQ a b c d q).1).toInt64) := h.out
    have f1 : Fr STc (sJ M 41 0 0 (nI (tyQ a b c d q).1).toInt64) (sJ M1 41 0 0 (nI (tyQ a b c d q).1).toInt64) := fr_out hfr
    refine ⟨nI 0, _, rfl, c_type G a b c d q (h0.tyM f1) h.1.2.2.1, ?_⟩
    rintro r2 M2 ⟨rfl, e1, e2, f2⟩
    rw [if_neg (by omega)] at e1 e2
    rw [if_neg (by omega)]
    refine ⟨_, rfl, e1, fun _ => ?_, _, cnt, T, l, h0.typed f1 f2 hty e2 hle (tyQ_ch h.1.2.2.2)⟩
    rw [f2.J (by unfold STy0; omega)]
    rfl
  · refine ⟨_, h_type_x G a b c d (kx_type G a b c d q h.1.2.1 h.1.2.2.1 (by omega)), ?_⟩
    rintro r M' ⟨rfl, rfl⟩
    refine ⟨nI 1, _, rfl, c_type G a b c d q h.1.1 h.1.2.2.1, ?_⟩
    rintro r2 M2 ⟨rfl, e1, e2, f2⟩
    rw [if_pos (by omega)] at e1 e2
    exact ⟨_, rfl, e1, fun e => absurd e (by decide), q, cnt, T, l, h.typed (Fr.refl _) f2 h.1.2.1 e2 h.1.2.2.1 h.1.2.2.2⟩
theorem op_add (G : GX) {M : Mem} (v : Int32) (hM : Rr M) : OpH G yL_add jL_add tL_add yX12_add iX12_add [vR 10 0, vI v, vR 41 0] [vR 11 0, vI v] M := by
  obtain ⟨q, cnt, T, l, h⟩ := hM
  by_cases hv : decide (¬ v < 0 ∧ ¬ nI 4 ≤ v) = false
  · refine ⟨_, h_add_x G v (kx_add G v hv), ?_⟩
    rintro r M' ⟨rfl, rfl⟩
    refine ⟨nI 1, _, rfl, c_add_no G v hv, ?_⟩
    rintro r2 M2 ⟨rfl, rfl⟩
    exact ⟨_, rfl, rfl, fun e => absurd e (by decide), q, cnt, T, l, h.ref⟩
  obtain ⟨m, hm, rfl⟩ := mod_is hv
  obtain ⟨c1, c2, c3, c4⟩ := h.2.1 m hm
  by_cases hf : cnt m = 24
  · rw [hf] at c1 c2
    refine ⟨_, h_add_x2 G (nI m) (kx_add_full G m hm c2), ?_⟩
    rintro r M' ⟨rfl, rfl⟩
    refine ⟨nI 2, _, rfl, c_add_full G m hm c1, ?_⟩
    rintro r2 M2 ⟨rfl, rfl⟩
    exact ⟨_, rfl, rfl, fun e => absurd e (by decide), q, cnt, T, l, h.ref⟩
  · have hlt : cnt m < 24 := by omega
    refine ⟨_, h_add_ok G (nI m) (fun r M' hp => ⟨_, hp.1⟩) (k_add_ok G m (cnt m) hm hlt c2 q h.1.2.1 h.1.2.2.1 h.1.2.2.2), ?_⟩
    rintro r M' ⟨rfl, x, M1, ⟨hx, p1, p2, p3, p4, p5⟩, rfl⟩
    obtain rfl := sv_inj hx
    have h0 : Rx q cnt T l (sJ M 41 0 0 (nI (cnt m + 1)).toInt64) := h.out
    have f1 : Fr (SPs (24 * m + cnt m)) (sR (sJ M 41 0 0 (nI (cnt m + 1)).toInt64) 6 0 0 0) (sJ M1 41 0 0 (nI (cnt m + 1)).toInt64) := fr_out (M := sR M 6 0 0 0) p5
    have g1 : ∀ k j s, ¬ SPs (24 * m + cnt m) k j s → mI (sJ M1 41 0 0 (nI (cnt m + 1)).toInt64) k j s = mI M k j s := fun k j s hs => f1.I hs
    refine ⟨nI 0, _, rfl, c_add_in G m (cnt m) q hm hlt ((g1 _ _ _ (by unfold SPs; omega)).trans c1) ⟨(g1 _ _ _ (by unfold SPs; omega)).trans h.1.1.1, fun i h1 h2 => (g1 _ _ _ (by unfold SPs; omega)).trans (h.1.1.2 i h1 h2)⟩ h.1.2.2.1 (fun i hi => (h.1.2.2.2 i hi).2), ?_⟩
    rintro r2 M2 ⟨rfl, e1, e2, e3, e4, f2⟩
    refine ⟨_, rfl, e1, fun _ => ?_, _, fun i => if i = m then cnt m + 1 else cnt i, _, l, h0.put hm hlt f1 (p1.fr fr41 (fun s _ _ _ => by omega) (fun _ => by omega)) p3 f2 e2 e3 (fun i hi => ?_)⟩
    · rw [f2.J (by unfold SAd SSt; omega)]; rfl
    · by_cases e : i = m
      · subst e
        rw [if_pos rfl]
        exact ⟨hlt, p2, e4, fun x h1 h2 => by
          rcases Nat.lt_or_ge x (cnt i) with q | q
          · exact q
          · exact absurd ⟨rfl, by omega⟩ h2⟩
      · rw [if_neg e]
        obtain ⟨d1, d2, d3, -⟩ := h.2.1 i hi
        exact ⟨d3, (p4 i e).trans d2, (f2.I (by unfold SAd SSt; omega)).trans ((g1 _ _ _ (by unfold SPs; omega)).trans d1), fun x h1 _ => h1⟩
theorem op_change (G : GX) {M : Mem} (v y : Int32) (hM : Rr M) : OpC G yL_change jL_change tL_change yX12_change iX12_change [vR 10 0, vI v, vI y] [vR 11 0, vI v, vI y] M := by
  obtain ⟨q, cnt, T, l, h⟩ := hM
  by_cases hv : decide (¬ v < 0 ∧ ¬ nI 4 ≤ v) = false
  · refine ⟨_, h_change_x G v y (kx_change G v hv y), ?_⟩
    rintro r M' ⟨rfl, rfl⟩
    refine ⟨nI 1, _, rfl, c_change_no1 G v y hv, ?_⟩
    rintro r2 M2 ⟨rfl, rfl⟩
    exact ⟨rfl, rfl, q, cnt, T, l, h.ref⟩
  obtain ⟨m, hm, rfl⟩ := mod_is hv
  obtain ⟨c1, c2, c3, c4⟩ := h.2.1 m hm
  by_cases hy : y < 0 ∨ nI (cnt m) ≤ y
  · refine ⟨_, h_change_x G (nI m) y (kx_change_l G m (cnt m) y hm c3 c2 hy), ?_⟩
    rintro r M' ⟨rfl, rfl⟩
    refine ⟨nI 1, _, rfl, c_change_no2 G m (cnt m) y hm c3 c1 hy, ?_⟩
    rintro r2 M2 ⟨rfl, rfl⟩
    exact ⟨rfl, rfl, q, cnt, T, l, h.ref⟩
  obtain ⟨n, hn, rfl⟩ := lin_is (by omega) hy
  refine ⟨_, h_change_ok G (nI m) (nI n) (fun r M' hp => hp.1) (k_change_ok G m n (cnt m) hm hn c3 c2 q h.1.2.1 h.1.2.2.1 h.1.2.2.2), ?_⟩
  rintro r M1 ⟨rfl, -, p1, p3, p4, f1⟩
  have g1 : ∀ k j s, ¬ SPs (24 * m + n) k j s → mI M1 k j s = mI M k j s := fun k j s hs => f1.I hs
  refine ⟨nI 0, _, rfl, c_change_in2 G m n (cnt m) q hm hn c3 ((g1 _ _ _ (by unfold SPs; omega)).trans c1) ⟨(g1 _ _ _ (by unfold SPs; omega)).trans h.1.1.1, fun i h1 h2 => (g1 _ _ _ (by unfold SPs; omega)).trans (h.1.1.2 i h1 h2)⟩ h.1.2.2.1 (fun i hi => (h.1.2.2.2 i hi).2), ?_⟩
  rintro r2 M2 ⟨rfl, e1, e2, e3, f2⟩
  refine ⟨rfl, e1, _, cnt, _, l, h.put hm (by omega) f1 p1 p3 (f2.mono (fun _ _ _ q => q.elim Or.inl (fun q => Or.inr (Or.inr q)))) e2 e3 (fun i hi => ?_)⟩
  obtain ⟨d1, d2, d3, -⟩ := h.2.1 i hi
  exact ⟨d3, (p4 i).trans d2, (f2.I (by unfold SSt; omega)).trans ((g1 _ _ _ (by unfold SPs; omega)).trans d1), fun x h1 _ => h1⟩
theorem op_drop (G : GX) {M : Mem} (v : Int32) (hM : Rr M) : OpH G yL_drop jL_drop tL_drop yX12_drop iX12_drop [vR 10 0, vI v, vR 41 0] [vR 11 0, vI v] M := by
  obtain ⟨q, cnt, T, l, h⟩ := hM
  by_cases hv : decide (¬ v < 0 ∧ ¬ nI 4 ≤ v) = false
  · refine ⟨_, h_drop_x G v (kx_drop G v hv), ?_⟩
    rintro r M' ⟨rfl, rfl⟩
    refine ⟨nI 1, _, rfl, c_drop_no G v hv, ?_⟩
    rintro r2 M2 ⟨rfl, rfl⟩
    exact ⟨_, rfl, rfl, fun e => absurd e (by decide), q, cnt, T, l, h.ref⟩
  obtain ⟨m, hm, rfl⟩ := mod_is hv
  refine ⟨_, h_drop_ok G (nI m) (fun r M' hp => ⟨_, hp.1⟩) (k_drop_ok G m hm), ?_⟩
  rintro r M' ⟨rfl, x, M1, ⟨hx, rfl⟩, rfl⟩
  obtain rfl := sv_inj hx
  refine ⟨nI 0, _, rfl, c_drop_in G m hm, ?_⟩
  rintro r2 M2 ⟨rfl, rfl⟩
  have h0 : Rx q cnt T l (sJ M 41 0 0 (mI M 7 m 1).toInt64) := h.out
  obtain ⟨g1, g2⟩ := h0.drop hm
  refine ⟨_, rfl, rfl, fun _ => ?_, q, _, T, l, g2⟩
  exact congrArg Int32.toInt64 g1
theorem op_fault (G : GX) {M : Mem} (v : Int32) (hM : Rr M) : OpH G yL_fault jL_fault tL_fault yX12_fault iX12_fault [vR 10 0, vI v, vR 41 0] [vR 11 0, vI v] M := by
  obtain ⟨q, cnt, T, l, h⟩ := hM
  by_cases hv : decide (¬ v < nI 0 ∧ ¬ nI 2 < v) = false
  · refine ⟨_, h_fault_x G v (kx_fault G v hv), ?_⟩
    rintro r M' ⟨rfl, rfl⟩
    refine ⟨nI 1, _, rfl, c_fault_no G v hv, ?_⟩
    rintro r2 M2 ⟨rfl, rfl⟩
    exact ⟨_, rfl, rfl, fun e => absurd e (by decide), q, cnt, T, l, h.ref⟩
  obtain ⟨m, hm, rfl⟩ := sec_is hv
  have hk : MetM G yX11_fault iX11_fault [vR 10 0, vI (nI m)] M (fun r M' => r = some (vI (mI M 1 0 (m + 1))) ∧ M' = M) := by
    rcases (by omega : m = 0 ∨ m = 1 ∨ m = 2) with rfl | rfl | rfl
    · exact k_fault_0 G
    · exact k_fault_1 G
    · exact k_fault_2 G
  refine ⟨_, h_fault_ok G (nI m) (fun r M' hp => ⟨_, hp.1⟩) hk, ?_⟩
  rintro r M' ⟨rfl, x, M1, ⟨hx, rfl⟩, rfl⟩
  obtain rfl := sv_inj hx
  refine ⟨nI 0, _, rfl, c_fault_in G m hm, ?_⟩
  rintro r2 M2 ⟨rfl, rfl⟩
  exact ⟨_, rfl, rfl, fun _ => congrArg Int32.toInt64 (h.2.2.2.2 m hm).symm, q, cnt, T, l, h.out.ref⟩
theorem op_address (G : GX) {M : Mem} (v : Int32) (hM : Rr M) : OpH G yL_address jL_address tL_address yX12_address iX12_address [vR 10 0, vI v, vR 41 0] [vR 11 0, vI v] M := by
  obtain ⟨q, cnt, T, l, h⟩ := hM
  by_cases hv : decide (¬ v < 0 ∧ ¬ nI 4 ≤ v) = false
  · refine ⟨_, h_address_x G v (kx_address G v hv), ?_⟩
    rintro r M' ⟨rfl, rfl⟩
    refine ⟨nI 1, _, rfl, c_address_no G v hv, ?_⟩
    rintro r2 M2 ⟨rfl, rfl⟩
    exact ⟨_, rfl, rfl, fun e => absurd e (by decide), q, cnt, T, l, h.ref⟩
  obtain ⟨m, hm, rfl⟩ := mod_is hv
  obtain ⟨bs, bs', B, hk1, hk2, hk3, hk4, hm1, hm2, hm3, hm4, hE⟩ : ∃ (bs bs' : Nat → Nat) (B : LB), LbC l B M ∧ LbN B ∧ LbW B ∧ AdC l bs M ∧ B.1 ≤ 96 ∧ LbM 96 B M ∧ mI M 11 0 20 = nI B.1 ∧ (∀ s, s < 12 → mI M 36 0 s = nI (bs' s)) ∧ adO bs B (fnd B m (nmv q)) = adO bs' B (fnd B m (nmv q)) := by
    rcases h.2.2.2.1 with h4 | ⟨sz, B, z, im, g1, g2, g3, g4, g5⟩
    · refine ⟨fun x => (mI M 19 (4 * (2 * l + 1) + x / 3) (x % 3)).toUInt32.toNat, fun x => (mI M 36 0 x).toUInt32.toNat, (0, fun _ => (0, 0, 0, 0)), ⟨h4.2.2.2.2.2.1, fun i hi => absurd hi (Nat.not_lt_zero _)⟩, ⟨by decide, fun i hi => absurd hi (Nat.not_lt_zero _)⟩, ⟨fun i hi => absurd hi (Nat.not_lt_zero _), fun i j hi => absurd hi (Nat.not_lt_zero _)⟩, fun m s hm hs => ?_, by decide, fun i hi => absurd hi (Nat.not_lt_zero _), h4.2.2.1, fun s _ => (nI_u _).symm, rfl⟩
      dsimp only
      rw [show (3 * m + s) / 3 = m by omega, show (3 * m + s) % 3 = s by omega, nI_u]
    · exact ⟨bsA sz, bsA sz, B, g4.1, g4.2.1, g4.2.2.1, g4.2.2.2.2.1, g4.2.1.1, g3.2.2.2.2.1, g3.2.2.2.1, fun s hs => (g3.2.2.1 s hs).2, rfl⟩
  refine ⟨_, h_address_ok G (nI m) (fun r M' hp => ⟨_, hp.1⟩) (k_address_ok G m l bs B q hm h.2.2.1.2.1 h.1.2.1 h.1.2.2.1 h.1.2.2.2 hk1 hk2 hk3 hk4), ?_⟩
  rintro r M' ⟨rfl, x, M1, ⟨hx, hM1⟩, rfl⟩
  obtain rfl := sv_inj hx
  rw [hM1]
  have h0 : Rx q cnt T l (sJ M 41 0 0 (adO bs B (fnd B m (nmv q))).toInt64) := h.out
  refine ⟨nI 0, _, rfl, c_address_in G m bs' B q hm h0.1.1 h.1.2.2.1 h.1.2.2.2 hm1 hk3 hm2 hm3 hm4, ?_⟩
  rintro r2 M2 ⟨rfl, rfl⟩
  exact ⟨_, rfl, rfl, fun _ => congrArg Int32.toInt64 hE, q, cnt, T, l, h0.ref⟩
theorem op_size (G : GX) {M : Mem} (v y : Int32) (hM : Rr M) : OpH G yL_size jL_size tL_size yX12_size iX12_size [vR 10 0, vI v, vI y, vR 41 0] [vR 11 0, vI v, vI y] M := by
  obtain ⟨q, cnt, T, l, h⟩ := hM
  by_cases hv : decide (¬ v < 0 ∧ ¬ nI 4 ≤ v) = false
  · refine ⟨_, h_size_x G v y (kx_size_m G v hv y), ?_⟩
    rintro r M' ⟨rfl, rfl⟩
    refine ⟨nI 1, _, rfl, c_size_no1 G v y hv, ?_⟩
    rintro r2 M2 ⟨rfl, rfl⟩
    exact ⟨_, rfl, rfl, fun e => absurd e (by decide), q, cnt, T, l, h.ref⟩
  obtain ⟨m, hm, rfl⟩ := mod_is hv
  by_cases hy : decide (¬ y < nI 0 ∧ ¬ nI 2 < y) = false
  · refine ⟨_, h_size_x G (nI m) y (kx_size_s G m y hm hy), ?_⟩
    rintro r M' ⟨rfl, rfl⟩
    refine ⟨nI 1, _, rfl, c_size_no2 G m y hm hy, ?_⟩
    rintro r2 M2 ⟨rfl, rfl⟩
    exact ⟨_, rfl, rfl, fun e => absurd e (by decide), q, cnt, T, l, h.ref⟩
  obtain ⟨s, hs, rfl⟩ := sec_is hy
  refine ⟨_, h_size_ok G (nI m) (nI s) (fun r M' hp => ⟨_, hp.1⟩) (k_size_ok G m s l hm hs h.2.2.1.2.1), ?_⟩
  rintro r M' ⟨rfl, x, M1, ⟨hx, rfl⟩, rfl⟩
  obtain rfl := sv_inj hx
  refine ⟨nI 0, _, rfl, c_size_in G m s hm hs, ?_⟩
  rintro r2 M2 ⟨rfl, rfl⟩
  exact ⟨_, rfl, rfl, fun _ => congrArg Int32.toInt64 (h.size hm hs), q, cnt, T, l, h.out.ref⟩
theorem op_erase (G : GX) {M : Mem} (hM : Rr M) : OpV G yX11_erase iX11_erase yX12_erase iX12_erase [vR 10 0] [vR 11 0] M := by
  obtain ⟨q, cnt, T, l, h⟩ := hM
  refine ⟨_, k_erase G, ?_⟩
  rintro r M1 ⟨rfl, rfl⟩
  refine ⟨_, _, rfl, c_erase G, ?_⟩
  rintro r2 M2 ⟨rfl, rfl⟩
  obtain ⟨g1, g2⟩ := h.erase
  exact ⟨by rw [g1], _, cnt, T, l, g2⟩
theorem rng_no {M : Mem} {z s : Nat} {x : Int32} (hz : z ≤ 6400) (e : mI M 11 0 s = nI z) (hx : x < 0 ∨ nI z ≤ x) : decide (¬ x < nI 0 ∧ ¬ mI M 11 0 s - nI 1 < x) = false := by
  refine decide_eq_false ?_
  rw [e, Int32.lt_iff_toInt_lt, Int32.lt_iff_toInt_lt, show (nI 0).toInt = 0 by decide]
  rw [Int32.lt_iff_toInt_lt, Int32.le_iff_toInt_le, nI_toInt (by omega), show (0 : Int32).toInt = 0 by decide] at hx
  have h1 : (nI z - nI 1).toInt = (z : Int) - 1 := pk_sub_toInt (by omega) (by decide)
  rw [h1]
  omega
theorem op_octet (G : GX) {M : Mem} (v : Int32) (hM : Rr M) : OpV G yX11_octet iX11_octet yX12_octet iX12_octet [vR 10 0, vI v] [vR 11 0, vI v] M := by
  obtain ⟨q, cnt, T, l, h⟩ := hM
  obtain ⟨z, hz, e1, e2, e3⟩ := h.octet
  by_cases hx : v < 0 ∨ nI z ≤ v
  · refine ⟨_, k_octet_no G l z v h.2.2.1.2.1 e1 hx, ?_⟩
    rintro r M1 ⟨rfl, rfl⟩
    refine ⟨_, _, rfl, c_octet_no G v (rng_no (by omega) e2 hx), ?_⟩
    rintro r2 M2 ⟨rfl, rfl⟩
    exact ⟨rfl, q, cnt, T, l, h.ref⟩
  obtain ⟨k, hk, rfl⟩ := lin_is hz hx
  refine ⟨_, k_octet_in G l z k h.2.2.1.2.1 hz e1 hk, ?_⟩
  rintro r M1 ⟨rfl, rfl⟩
  refine ⟨_, _, rfl, c_octet_in G k z e2 hk hz, ?_⟩
  rintro r2 M2 ⟨rfl, rfl⟩
  exact ⟨by rw [e3 k hk], q, cnt, T, l, h.ref⟩
theorem op_hex (G : GX) {M : Mem} (v : Int32) (hM : Rr M) : OpV G yX11_hex iX11_hex yX12_hex iX12_hex [vR 10 0, vI v] [vR 11 0, vI v] M := by
  obtain ⟨q, cnt, T, l, h⟩ := hM
  rcases h.hex with ⟨e1, e2⟩ | ⟨z, im, ⟨hz0, hz⟩, e1, e2, e3, e4, e5⟩
  · refine ⟨_, k_hex_no G l v h.2.2.1.2.1 (Or.inr e1), ?_⟩
    rintro r M1 ⟨rfl, rfl⟩
    refine ⟨_, _, rfl, c_hex_no G v (rng_no (z := 0) (by decide) e2 (by
      rcases Int32.lt_or_le v 0 with g | g
      · exact Or.inl g
      · exact Or.inr g)), ?_⟩
    rintro r2 M2 ⟨rfl, rfl⟩
    exact ⟨rfl, q, cnt, T, l, h.ref⟩
  have hz64 : hxz z ≤ 6400 := by unfold hxz; omega
  by_cases hv : v < 0
  · refine ⟨_, k_hex_no G l v h.2.2.1.2.1 (Or.inl hv), ?_⟩
    rintro r M1 ⟨rfl, rfl⟩
    refine ⟨_, _, rfl, c_hex_no G v (rng_no hz64 e2 (Or.inl hv)), ?_⟩
    rintro r2 M2 ⟨rfl, rfl⟩
    exact ⟨rfl, q, cnt, T, l, h.ref⟩
  obtain ⟨k, hk, rfl⟩ : ∃ k : Nat, k < 2 ^ 31 ∧ v = nI k := by
    rw [Int32.lt_iff_toInt_lt, show (0 : Int32).toInt = 0 by decide] at hv
    have := v.toInt_lt
    refine ⟨v.toInt.toNat, by omega, ?_⟩
    rw [← Int32.toInt_inj, nI_toInt (by omega)]
    omega
  refine ⟨_, k_hex_in G l z k h.2.2.1.2.1 hz hz0 hk e1, ?_⟩
  rintro r M1 ⟨rfl, rfl⟩
  by_cases hlt : k < hxz z
  · rw [if_pos hlt]
    refine ⟨_, _, rfl, c_hex_in G k (hxz z) e2 hlt hz64 (hx z im k) (Nat.lt_trans hx_lt (by decide)) (e5 k hlt), ?_⟩
    rintro r2 M2 ⟨rfl, rfl⟩
    exact ⟨by rw [hx_cg hz e3 hlt], q, cnt, T, l, h.ref⟩
  · rw [if_neg hlt]
    refine ⟨_, _, rfl, c_hex_no G (nI k) (rng_no hz64 e2 (Or.inr (nI_le (by omega) (by omega)))), ?_⟩
    rintro r2 M2 ⟨rfl, rfl⟩
    exact ⟨rfl, q, cnt, T, l, h.ref⟩
theorem PLC_v {R : Nat → Nat → CR} {cnt : Nat → Nat} {j l : Nat} {M M1 : Mem} {r : Option AV} (hp : PLC R cnt j l M r M1) : ∃ v, r = some (vI v) := ⟨hp.choose, hp.choose_spec.1⟩
theorem PLC_src {R : Nat → Nat → CR} {cnt : Nat → Nat} {j l : Nat} {M M1 : Mem} {r : Option AV} (hp : PLC R cnt j l M r M1) (s1 : SrcM R cnt M) : SrcM R cnt M1 := by
  obtain ⟨k1, -, -, a | ⟨N, ma, fN, rfl, -⟩⟩ := hp
  · exact s1.fr2 a.1 (by intro k i s z y; have := SLC_k y; omega)
  · have h9 : SrcM R cnt N := s1.fr2 fN (by intro k i s z y; have := SLC_k y; omega)
    exact h9
theorem op_link (G : GX) {M : Mem} (hM : Rr M) : OpV G yX11_link iX11_link yX12_link iX12_link [vR 10 0] [vR 11 0] M := by
  obtain ⟨q, cnt, T, l, h⟩ := hM
  obtain ⟨s1, s2, s3⟩ := h.src
  refine ⟨_, k_link G (RcT T) cnt (1 - l) l s2 s3 h.2.2.1.2.2 h.2.2.1.2.1, ?_⟩
  intro r M1 hp
  obtain ⟨v, hv⟩ := PLC_v hp
  refine ⟨v, _, hv, c_link G (RcT T) cnt (PLC_src hp s1), ?_⟩
  intro r2 M2 hq
  obtain ⟨g1, g2, l', g3⟩ := h.link hp hq
  exact ⟨by rw [← g1]; exact hv, q, cnt, T, l', g3⟩
