def swF (L : Nat → Nat) (b j : Nat) : Nat → Nat → Bool
  | 0, _ => true
  | d + 1, k => decide (L (b + k) = sbc j k) && swF L b j d (k + 1)
def swB (L : Nat → Nat) (b e j : Nat) : Bool := decide (e - b = sbn j) && swF L b j (sbn j) 0
set_option maxRecDepth 20000 in
set_option maxHeartbeats 4000000 in
theorem k_seesWord (G : GX) {n : Nat} {L : Nat → Nat} {M : Mem} (h : TxOK n L M) (t : KS) (ht : cOK n t) (j : Nat) (hj : j < 60) : MetM G yX7_seesWord iX7_seesWord [vR 6 0, vR 52 j] (wD M t) (fun r M' => r = some (vI (bI (swB L t.1 t.2.1 j))) ∧ M' = wD M t) := by
  refine MetM.of (ls := [some (vR 6 0), some (vR 52 j), none]) (by decide) rfl (Nat.le_of_ble_eq_true rfl) rfl ?_
  intro hM0
  have hq2 := h.2.2.1
  have ht1 := ht.1
  have ht2 := ht.2
  have hl9 := sb_len j hj
  have loop : t.2.1 - t.1 = sbn j → ∀ (d k : Nat), sbn j - k = d → k ≤ sbn j → swF L t.1 j (sbn j) 0 = swF L t.1 j d k → Rn G iX7_seesWord (fun r M' => r = some (vI (bI (swB L t.1 t.2.1 j))) ∧ M' = wD M t) 20 [some (vR 6 0), some (vR 52 j), some (vI (nI k))] [] (wD M t) := by
    intro hlen d
    induction d with
    | zero =>
      intro k hd hk hf
      refine Rn.iload_n (pc := 20) dX7_seesWord_20 rfl rfl ?_
      refine Rn.aload_n (pc := 21) dX7_seesWord_21 rfl rfl ?_
      refine Rn.callO (pc := 22) (as := []) cvX7_48 ⟨by decide, by decide⟩ dX7_seesWord_22 (Nat.le_of_ble_eq_true rfl) rfl (k_length G j hj) ?_
      rintro _ M9 ⟨rfl, h9⟩
      rw [h9]
      refine Rn.icmp_geN (pc := 25) (tgt := 58) dX7_seesWord_25 (by decide) (by omega) (by omega) (fun c25 => ?_) (fun c25 => ?_)
      · refine Rn.iconst (pc := 58) (v := nI 1) dX7_seesWord_58 (by decide) ?_
        refine Rn.zret (pc := 59) rfl rfl dX7_seesWord_59 ?_
        refine ⟨?_, rfl⟩; unfold swB; rw [decide_eq_true hlen, hf]; rfl
      · exact absurd c25 (by omega)
    | succ d ih =>
      intro k hd hk hf
      refine Rn.iload_n (pc := 20) dX7_seesWord_20 rfl rfl ?_
      refine Rn.aload_n (pc := 21) dX7_seesWord_21 rfl rfl ?_
      refine Rn.callO (pc := 22) (as := []) cvX7_48 ⟨by decide, by decide⟩ dX7_seesWord_22 (Nat.le_of_ble_eq_true rfl) rfl (k_length G j hj) ?_
      rintro _ M9 ⟨rfl, h9⟩
      rw [h9]
      refine Rn.icmp_geN (pc := 25) (tgt := 58) dX7_seesWord_25 (by decide) (by omega) (by omega) (fun c25 => ?_) (fun c25 => ?_)
      · exact absurd c25 (by omega)
      · refine Rn.aload_n (pc := 28) dX7_seesWord_28 rfl rfl ?_
        refine Rn.getRm (pc := 29) flX7_12 (show mR (wD M t) 6 0 0 = 0 from h.1) dX7_seesWord_29 ?_
        refine Rn.getR (pc := 32) flX7_37 mu9_0 fx9_0 dX7_seesWord_32 ?_
        refine Rn.aload_n (pc := 35) dX7_seesWord_35 rfl rfl ?_
        refine Rn.getI (pc := 36) (t := 0) flX7_31 (show mI (wD M t) 6 0 2 = nI t.1 from rfl) dX7_seesWord_36 ?_
        refine Rn.iload_n (pc := 39) dX7_seesWord_39 rfl rfl ?_
        refine Rn.iaddN (pc := 40) dX7_seesWord_40 ?_
        refine Rn.caldN (pc := 41) ak12 (by omega) (by decide) (show mI (wD M t) 12 0 (t.1 + k) = nI (L (t.1 + k)) from h.2.2.2.1 (t.1 + k) (by omega)) dX7_seesWord_41 ?_
        refine Rn.aload_n (pc := 42) dX7_seesWord_42 rfl rfl ?_
        refine Rn.iload_n (pc := 43) dX7_seesWord_43 rfl rfl ?_
        refine Rn.callO (pc := 44) (as := [_]) cvX7_53 ⟨by decide, by decide⟩ dX7_seesWord_44 (Nat.le_of_ble_eq_true rfl) rfl (k_charAt G j k hj (by omega)) ?_
        rintro _ M9 ⟨rfl, h9⟩
        rw [h9]
        have hs9 := (sb_all j hj k (by omega)).2
        refine Rn.icmp_eqN (pc := 47) (tgt := 52) dX7_seesWord_47 (by decide) (by have := h.2.2.2.2 (t.1 + k) (by omega); omega) (by omega) (fun c47 => ?_) (fun c47 => ?_)
        · refine Rn.iincN (pc := 52) (n := 1) dX7_seesWord_52 rfl (by decide) (by decide) rfl st3_2 ?_
          refine Rn.goto (pc := 55) (tgt := 20) dX7_seesWord_55 (by decide) ?_
          exact ih (k + 1) (by omega) (by omega) (by rw [hf, swF, decide_eq_true c47, Bool.true_and])
        · refine Rn.iconst (pc := 50) (v := nI 0) dX7_seesWord_50 (by decide) ?_
          refine Rn.zret (pc := 51) rfl rfl dX7_seesWord_51 ?_
          refine ⟨?_, rfl⟩; unfold swB; rw [decide_eq_true hlen, hf, swF, decide_eq_false c47]; rfl
  refine Rn.aload_n (pc := 0) dX7_seesWord_0 rfl rfl ?_
  refine Rn.getI (pc := 1) (t := 0) flX7_18 (show mI (wD M t) 6 0 1 = nI t.2.1 from rfl) dX7_seesWord_1 ?_
  refine Rn.aload_n (pc := 4) dX7_seesWord_4 rfl rfl ?_
  refine Rn.getI (pc := 5) (t := 0) flX7_31 (show mI (wD M t) 6 0 2 = nI t.1 from rfl) dX7_seesWord_5 ?_
  refine Rn.isub (pc := 8) dX7_seesWord_8 ?_
  rw [pk_sub (by omega)]
  refine Rn.aload_n (pc := 9) dX7_seesWord_9 rfl rfl ?_
  refine Rn.callO (pc := 10) (as := []) cvX7_48 ⟨by decide, by decide⟩ dX7_seesWord_10 (Nat.le_of_ble_eq_true rfl) rfl (k_length G j hj) ?_
  rintro _ M9 ⟨rfl, h9⟩
  rw [h9]
  refine Rn.icmp_eqN (pc := 13) (tgt := 18) dX7_seesWord_13 (by decide) (by omega) (by omega) (fun c13 => ?_) (fun c13 => ?_)
  · refine Rn.iconst (pc := 18) (v := nI 0) dX7_seesWord_18 (by decide) ?_
    refine Rn.istore_n (pc := 19) dX7_seesWord_19 rfl (by decide) rfl st3_2 ?_
    have hlen : t.2.1 - t.1 = sbn j := c13
    exact loop hlen (sbn j) 0 rfl (Nat.zero_le _) rfl
  · refine Rn.iconst (pc := 16) (v := nI 0) dX7_seesWord_16 (by decide) ?_
    refine Rn.zret (pc := 17) rfl rfl dX7_seesWord_17 ?_
    refine ⟨?_, rfl⟩; unfold swB; rw [decide_eq_false c13]; rfl

/-- the number of the first word that is seen -/
def mnS (L : Nat → Nat) (b e : Nat) : Nat → Nat → Option Nat
  | 0, _ => none
  | d + 1, k => if swB L b e k = true then some k else mnS L b e d (k + 1)
def avO : Option Nat → AV
  | none => vN
  | some k => vR 51 k
set_option maxRecDepth 20000 in
set_option maxHeartbeats 4000000 in
theorem k_seenMnemonic (G : GX) {n : Nat} {L : Nat → Nat} {M : Mem} (h : TxOK n L M) (t : KS) (ht : cOK n t) : MetM G yX7_seenMnemonic iX7_seenMnemonic [vR 6 0] (wD M t) (fun r M' => r = some (avO (mnS L t.1 t.2.1 49 0)) ∧ M' = wD M t) := by
  refine MetM.of (ls := [some (vR 6 0), none]) (by decide) rfl (Nat.le_of_ble_eq_true rfl) rfl ?_
  intro hM0
  have hq2 := h.2.2.1
  have ht1 := ht.1
  have ht2 := ht.2
  have loop : ∀ (d k : Nat), 49 - k = d → k ≤ 49 → mnS L t.1 t.2.1 49 0 = mnS L t.1 t.2.1 d k → Rn G iX7_seenMnemonic (fun r M' => r = some (avO (mnS L t.1 t.2.1 49 0)) ∧ M' = wD M t) 2 [some (vR 6 0), some (vI (nI k))] [] (wD M t) := by
    intro d
    induction d with
    | zero =>
      intro k hd hk hf
      refine Rn.iload_n (pc := 2) dX7_seenMnemonic_2 rfl rfl ?_
      refine Rn.gets_ALL (pc := 3) rfl dX7_seenMnemonic_3 ?_
      refine Rn.alenE (pc := 6) dX7_seenMnemonic_6 ?_
      refine Rn.icmp_geN (pc := 7) (tgt := 37) dX7_seenMnemonic_7 (by decide) (by omega) (by omega) (fun c7 => ?_) (fun c7 => ?_)
      · refine Rn.null (pc := 37) dX7_seenMnemonic_37 ?_
        refine Rn.aret (pc := 38) (Or.inl rfl) rfl dX7_seenMnemonic_38 ?_
        rw [hf]; exact ⟨rfl, rfl⟩
      · exact absurd c7 (by omega)
    | succ d ih =>
      intro k hd hk hf
      refine Rn.iload_n (pc := 2) dX7_seenMnemonic_2 rfl rfl ?_
      refine Rn.gets_ALL (pc := 3) rfl dX7_seenMnemonic_3 ?_
      refine Rn.alenE (pc := 6) dX7_seenMnemonic_6 ?_
      refine Rn.icmp_geN (pc := 7) (tgt := 37) dX7_seenMnemonic_7 (by decide) (by omega) (by omega) (fun c7 => ?_) (fun c7 => ?_)
      · exact absurd c7 (by omega)
      · refine Rn.aload_n (pc := 10) dX7_seenMnemonic_10 rfl rfl ?_
        refine Rn.gets_ALL (pc := 11) rfl dX7_seenMnemonic_11 ?_
        refine Rn.iload_n (pc := 14) dX7_seenMnemonic_14 rfl rfl ?_
        refine Rn.aaldE (pc := 15) (by omega) dX7_seenMnemonic_15 ?_
        refine Rn.get_word (pc := 16) wfX7_63 dX7_seenMnemonic_16 ?_
        refine Rn.callV (pc := 19) (as := [_]) cvX7_67 ⟨by decide, rfl⟩ ⟨by decide, by decide⟩ dX7_seenMnemonic_19 (Nat.le_of_ble_eq_true rfl) rfl (k_seesWord G h t ht k (by omega)) ?_
        rintro _ _ ⟨rfl, rfl⟩
        refine Rn.if_eqB (pc := 22) (tgt := 31) dX7_seenMnemonic_22 (by decide) (fun c22 => ?_) (fun c22 => ?_)
        · refine Rn.iincN (pc := 31) (n := 1) dX7_seenMnemonic_31 rfl (by decide) (by decide) rfl st2_1 ?_
          refine Rn.goto (pc := 34) (tgt := 2) dX7_seenMnemonic_34 (by decide) ?_
          exact ih (k + 1) (by omega) (by omega) (by rw [hf, mnS, if_neg (by rw [c22]; decide)])
        · refine Rn.gets_ALL (pc := 25) rfl dX7_seenMnemonic_25 ?_
          refine Rn.iload_n (pc := 28) dX7_seenMnemonic_28 rfl rfl ?_
          refine Rn.aaldE (pc := 29) (by omega) dX7_seenMnemonic_29 ?_
          refine Rn.aret (pc := 30) (Or.inr ⟨_, _, rfl⟩) rfl dX7_seenMnemonic_30 ?_
          rw [hf, mnS, if_pos c22]; exact ⟨rfl, rfl⟩
  refine Rn.iconst (pc := 0) (v := nI 0) dX7_seenMnemonic_0 (by decide) ?_
  refine Rn.istore_n (pc := 1) dX7_seenMnemonic_1 rfl (by decide) rfl st2_1 ?_
  exact loop 49 0 rfl (by decide) rfl

def slI (A : CR) (s : Nat) (d : Int32) : Int32 := if s = 1 then nI (rLP A) else if s = 2 then nI (rPl A) else if s = 3 then nI (rK A) else if s = 4 then nI (rRe A) else if s = 5 then rNo A else if s = 6 then rBy A else if s = 8 then nI (rNP A) else if s = 9 then nI 0 else if s = 10 then nI 0 else if s = 11 then rFa A else if s = 12 then rFP A else d
def slJ (A : CR) (s : Nat) (d : Int64) : Int64 := if s = 0 then lN (rLab A) else if s = 7 then lN (rNm A) else d
/-- the statement i holds the record A -/
def wA (i : Nat) (A : CR) (M : Mem) : Mem := (fun k j s => if k = 8 ∧ j = i then slI A s (mI M k j s) else mI M k j s, fun k j s => if k = 8 ∧ j = i then slJ A s (mJ M k j s) else mJ M k j s, M.2.2)
def uLab (A : CR) (v : Nat) : CR := (v, A.2.1, A.2.2.1, A.2.2.2.1, A.2.2.2.2.1, A.2.2.2.2.2.1, A.2.2.2.2.2.2.1, A.2.2.2.2.2.2.2.1, A.2.2.2.2.2.2.2.2.1, A.2.2.2.2.2.2.2.2.2.1, A.2.2.2.2.2.2.2.2.2.2)
def uLP (A : CR) (v : Nat) : CR := (A.1, v, A.2.2.1, A.2.2.2.1, A.2.2.2.2.1, A.2.2.2.2.2.1, A.2.2.2.2.2.2.1, A.2.2.2.2.2.2.2.1, A.2.2.2.2.2.2.2.2.1, A.2.2.2.2.2.2.2.2.2.1, A.2.2.2.2.2.2.2.2.2.2)
def uPl (A : CR) (v : Nat) : CR := (A.1, A.2.1, v, A.2.2.2.1, A.2.2.2.2.1, A.2.2.2.2.2.1, A.2.2.2.2.2.2.1, A.2.2.2.2.2.2.2.1, A.2.2.2.2.2.2.2.2.1, A.2.2.2.2.2.2.2.2.2.1, A.2.2.2.2.2.2.2.2.2.2)
def uK (A : CR) (v : Nat) : CR := (A.1, A.2.1, A.2.2.1, v, A.2.2.2.2.1, A.2.2.2.2.2.1, A.2.2.2.2.2.2.1, A.2.2.2.2.2.2.2.1, A.2.2.2.2.2.2.2.2.1, A.2.2.2.2.2.2.2.2.2.1, A.2.2.2.2.2.2.2.2.2.2)
def uRe (A : CR) (v : Nat) : CR := (A.1, A.2.1, A.2.2.1, A.2.2.2.1, v, A.2.2.2.2.2.1, A.2.2.2.2.2.2.1, A.2.2.2.2.2.2.2.1, A.2.2.2.2.2.2.2.2.1, A.2.2.2.2.2.2.2.2.2.1, A.2.2.2.2.2.2.2.2.2.2)
def uNo (A : CR) (v : Int32) : CR := (A.1, A.2.1, A.2.2.1, A.2.2.2.1, A.2.2.2.2.1, v, A.2.2.2.2.2.2.1, A.2.2.2.2.2.2.2.1, A.2.2.2.2.2.2.2.2.1, A.2.2.2.2.2.2.2.2.2.1, A.2.2.2.2.2.2.2.2.2.2)
def uBy (A : CR) (v : Int32) : CR := (A.1, A.2.1, A.2.2.1, A.2.2.2.1, A.2.2.2.2.1, A.2.2.2.2.2.1, v, A.2.2.2.2.2.2.2.1, A.2.2.2.2.2.2.2.2.1, A.2.2.2.2.2.2.2.2.2.1, A.2.2.2.2.2.2.2.2.2.2)
def uNm (A : CR) (v : Nat) : CR := (A.1, A.2.1, A.2.2.1, A.2.2.2.1, A.2.2.2.2.1, A.2.2.2.2.2.1, A.2.2.2.2.2.2.1, v, A.2.2.2.2.2.2.2.2.1, A.2.2.2.2.2.2.2.2.2.1, A.2.2.2.2.2.2.2.2.2.2)
def uNP (A : CR) (v : Nat) : CR := (A.1, A.2.1, A.2.2.1, A.2.2.2.1, A.2.2.2.2.1, A.2.2.2.2.2.1, A.2.2.2.2.2.2.1, A.2.2.2.2.2.2.2.1, v, A.2.2.2.2.2.2.2.2.2.1, A.2.2.2.2.2.2.2.2.2.2)
def uFa (A : CR) (v : Int32) : CR := (A.1, A.2.1, A.2.2.1, A.2.2.2.1, A.2.2.2.2.1, A.2.2.2.2.2.1, A.2.2.2.2.2.2.1, A.2.2.2.2.2.2.2.1, A.2.2.2.2.2.2.2.2.1, v, A.2.2.2.2.2.2.2.2.2.2)
def uFP (A : CR) (v : Int32) : CR := (A.1, A.2.1, A.2.2.1, A.2.2.2.1, A.2.2.2.2.1, A.2.2.2.2.2.1, A.2.2.2.2.2.2.1, A.2.2.2.2.2.2.2.1, A.2.2.2.2.2.2.2.2.1, A.2.2.2.2.2.2.2.2.2.1, v)
theorem wA_Lab {i : Nat} {A : CR} {M : Mem} {v : Nat} : sJ (wA i A M) 8 i 0 (lN v) = wA i (uLab A v) M := by
  have h : ∀ s d, slJ (uLab A v) s d = if s = 0 then (lN v) else slJ A s d := by
    intro s d
    by_cases e : s = 0
    · rw [if_pos e, e]; rfl
    · rw [if_neg e]; unfold slJ; simp only [e, if_false]; rfl
  have g : ∀ s d, slI (uLab A v) s d = slI A s d := fun s d => rfl
  unfold wA
  refine Prod.ext (funext fun k => funext fun j => funext fun s => ?_) (Prod.ext (funext fun k => funext fun j => funext fun s => ?_) rfl)
  · rfl
  · show (if k = 8 ∧ j = i ∧ s = 0 then (lN v) else if k = 8 ∧ j = i then slJ A s (mJ M k j s) else mJ M k j s) = if k = 8 ∧ j = i then slJ (uLab A v) s (mJ M k j s) else mJ M k j s
    rw [h]
    by_cases q : k = 8 ∧ j = i
    · by_cases e : s = 0
      · rw [if_pos ⟨q.1, q.2, e⟩, if_pos q, if_pos e]
      · rw [if_neg (fun y => e y.2.2), if_pos q, if_pos q, if_neg e]
    · rw [if_neg (fun y => q ⟨y.1, y.2.1⟩), if_neg q, if_neg q]
theorem wA_LP {i : Nat} {A : CR} {M : Mem} {v : Nat} : sI (wA i A M) 8 i 1 (nI v) = wA i (uLP A v) M := by
  have h : ∀ s d, slI (uLP A v) s d = if s = 1 then (nI v) else slI A s d := by
    intro s d
    by_cases e : s = 1
    · rw [if_pos e, e]; rfl
    · rw [if_neg e]; unfold slI; simp only [e, if_false]; rfl
  have g : ∀ s d, slJ (uLP A v) s d = slJ A s d := fun s d => rfl
  unfold wA
  refine Prod.ext (funext fun k => funext fun j => funext fun s => ?_) (Prod.ext (funext fun k => funext fun j => funext fun s => ?_) rfl)
  · show (if k = 8 ∧ j = i ∧ s = 1 then (nI v) else if k = 8 ∧ j = i then slI A s (mI M k j s) else mI M k j s) = if k = 8 ∧ j = i then slI (uLP A v) s (mI M k j s) else mI M k j s
    rw [h]
    by_cases q : k = 8 ∧ j = i
    · by_cases e : s = 1
      · rw [if_pos ⟨q.1, q.2, e⟩, if_pos q, if_pos e]
      · rw [if_neg (fun y => e y.2.2), if_pos q, if_pos q, if_neg e]
    · rw [if_neg (fun y => q ⟨y.1, y.2.1⟩), if_neg q, if_neg q]
  · rfl
theorem wA_Pl {i : Nat} {A : CR} {M : Mem} {v : Nat} : sI (wA i A M) 8 i 2 (nI v) = wA i (uPl A v) M := by
  have h : ∀ s d, slI (uPl A v) s d = if s = 2 then (nI v) else slI A s d := by
    intro s d
    by_cases e : s = 2
    · rw [if_pos e, e]; rfl
    · rw [if_neg e]; unfold slI; simp only [e, if_false]; rfl
  have g : ∀ s d, slJ (uPl A v) s d = slJ A s d := fun s d => rfl
  unfold wA
  refine Prod.ext (funext fun k => funext fun j => funext fun s => ?_) (Prod.ext (funext fun k => funext fun j => funext fun s => ?_) rfl)
  · show (if k = 8 ∧ j = i ∧ s = 2 then (nI v) else if k = 8 ∧ j = i then slI A s (mI M k j s) else mI M k j s) = if k = 8 ∧ j = i then slI (uPl A v) s (mI M k j s) else mI M k j s
    rw [h]
    by_cases q : k = 8 ∧ j = i
    · by_cases e : s = 2
      · rw [if_pos ⟨q.1, q.2, e⟩, if_pos q, if_pos e]
      · rw [if_neg (fun y => e y.2.2), if_pos q, if_pos q, if_neg e]
    · rw [if_neg (fun y => q ⟨y.1, y.2.1⟩), if_neg q, if_neg q]
  · rfl
theorem wA_K {i : Nat} {A : CR} {M : Mem} {v : Nat} : sI (wA i A M) 8 i 3 (nI v) = wA i (uK A v) M := by
  have h : ∀ s d, slI (uK A v) s d = if s = 3 then (nI v) else slI A s d := by
    intro s d
    by_cases e : s = 3
    · rw [if_pos e, e]; rfl
    · rw [if_neg e]; unfold slI; simp only [e, if_false]; rfl
  have g : ∀ s d, slJ (uK A v) s d = slJ A s d := fun s d => rfl
  unfold wA
  refine Prod.ext (funext fun k => funext fun j => funext fun s => ?_) (Prod.ext (funext fun k => funext fun j => funext fun s => ?_) rfl)
  · show (if k = 8 ∧ j = i ∧ s = 3 then (nI v) else if k = 8 ∧ j = i then slI A s (mI M k j s) else mI M k j s) = if k = 8 ∧ j = i then slI (uK A v) s (mI M k j s) else mI M k j s
    rw [h]
    by_cases q : k = 8 ∧ j = i
    · by_cases e : s = 3
      · rw [if_pos ⟨q.1, q.2, e⟩, if_pos q, if_pos e]
      · rw [if_neg (fun y => e y.2.2), if_pos q, if_pos q, if_neg e]
    · rw [if_neg (fun y => q ⟨y.1, y.2.1⟩), if_neg q, if_neg q]
  · rfl
theorem wA_Re {i : Nat} {A : CR} {M : Mem} {v : Nat} : sI (wA i A M) 8 i 4 (nI v) = wA i (uRe A v) M := by
  have h : ∀ s d, slI (uRe A v) s d = if s = 4 then (nI v) else slI A s d := by
    intro s d
    by_cases e : s = 4
    · rw [if_pos e, e]; rfl
    · rw [if_neg e]; unfold slI; simp only [e, if_false]; rfl
  have g : ∀ s d, slJ (uRe A v) s d = slJ A s d := fun s d => rfl
  unfold wA
  refine Prod.ext (funext fun k => funext fun j => funext fun s => ?_) (Prod.ext (funext fun k => funext fun j => funext fun s => ?_) rfl)
  · show (if k = 8 ∧ j = i ∧ s = 4 then (nI v) else if k = 8 ∧ j = i then slI A s (mI M k j s) else mI M k j s) = if k = 8 ∧ j = i then slI (uRe A v) s (mI M k j s) else mI M k j s
    rw [h]
    by_cases q : k = 8 ∧ j = i
    · by_cases e : s = 4
      · rw [if_pos ⟨q.1, q.2, e⟩, if_pos q, if_pos e]
      · rw [if_neg (fun y => e y.2.2), if_pos q, if_pos q, if_neg e]
    · rw [if_neg (fun y => q ⟨y.1, y.2.1⟩), if_neg q, if_neg q]
  · rfl
theorem wA_No {i : Nat} {A : CR} {M : Mem} {v : Int32} : sI (wA i A M) 8 i 5 v = wA i (uNo A v) M := by
  have h : ∀ s d, slI (uNo A v) s d = if s = 5 then v else slI A s d := by
    intro s d
    by_cases e : s = 5
    · rw [if_pos e, e]; rfl
    · rw [if_neg e]; unfold slI; simp only [e, if_false]; rfl
  have g : ∀ s d, slJ (uNo A v) s d = slJ A s d := fun s d => rfl
  unfold wA
  refine Prod.ext (funext fun k => funext fun j => funext fun s => ?_) (Prod.ext (funext fun k => funext fun j => funext fun s => ?_) rfl)
  · show (if k = 8 ∧ j = i ∧ s = 5 then v else if k = 8 ∧ j = i then slI A s (mI M k j s) else mI M k j s) = if k = 8 ∧ j = i then slI (uNo A v) s (mI M k j s) else mI M k j s
    rw [h]
    by_cases q : k = 8 ∧ j = i
    · by_cases e : s = 5
      · rw [if_pos ⟨q.1, q.2, e⟩, if_pos q, if_pos e]
      · rw [if_neg (fun y => e y.2.2), if_pos q, if_pos q, if_neg e]
    · rw [if_neg (fun y => q ⟨y.1, y.2.1⟩), if_neg q, if_neg q]
  · rfl
theorem wA_By {i : Nat} {A : CR} {M : Mem} {v : Int32} : sI (wA i A M) 8 i 6 v = wA i (uBy A v) M := by
  have h : ∀ s d, slI (uBy A v) s d = if s = 6 then v else slI A s d := by
    intro s d
    by_cases e : s = 6
    · rw [if_pos e, e]; rfl
    · rw [if_neg e]; unfold slI; simp only [e, if_false]; rfl
  have g : ∀ s d, slJ (uBy A v) s d = slJ A s d := fun s d => rfl
  unfold wA
  refine Prod.ext (funext fun k => funext fun j => funext fun s => ?_) (Prod.ext (funext fun k => funext fun j => funext fun s => ?_) rfl)
  · show (if k = 8 ∧ j = i ∧ s = 6 then v else if k = 8 ∧ j = i then slI A s (mI M k j s) else mI M k j s) = if k = 8 ∧ j = i then slI (uBy A v) s (mI M k j s) else mI M k j s
    rw [h]
    by_cases q : k = 8 ∧ j = i
    · by_cases e : s = 6
      · rw [if_pos ⟨q.1, q.2, e⟩, if_pos q, if_pos e]
      · rw [if_neg (fun y => e y.2.2), if_pos q, if_pos q, if_neg e]
    · rw [if_neg (fun y => q ⟨y.1, y.2.1⟩), if_neg q, if_neg q]
  · rfl
theorem wA_Nm {i : Nat} {A : CR} {M : Mem} {v : Nat} : sJ (wA i A M) 8 i 7 (lN v) = wA i (uNm A v) M := by
  have h : ∀ s d, slJ (uNm A v) s d = if s = 7 then (lN v) else slJ A s d := by
    intro s d
    by_cases e : s = 7
    · rw [if_pos e, e]; rfl
    · rw [if_neg e]; unfold slJ; simp only [e, if_false]; rfl
  have g : ∀ s d, slI (uNm A v) s d = slI A s d := fun s d => rfl
  unfold wA
  refine Prod.ext (funext fun k => funext fun j => funext fun s => ?_) (Prod.ext (funext fun k => funext fun j => funext fun s => ?_) rfl)
  · rfl
  · show (if k = 8 ∧ j = i ∧ s = 7 then (lN v) else if k = 8 ∧ j = i then slJ A s (mJ M k j s) else mJ M k j s) = if k = 8 ∧ j = i then slJ (uNm A v) s (mJ M k j s) else mJ M k j s
    rw [h]
    by_cases q : k = 8 ∧ j = i
    · by_cases e : s = 7
      · rw [if_pos ⟨q.1, q.2, e⟩, if_pos q, if_pos e]
      · rw [if_neg (fun y => e y.2.2), if_pos q, if_pos q, if_neg e]
    · rw [if_neg (fun y => q ⟨y.1, y.2.1⟩), if_neg q, if_neg q]
theorem wA_NP {i : Nat} {A : CR} {M : Mem} {v : Nat} : sI (wA i A M) 8 i 8 (nI v) = wA i (uNP A v) M := by
  have h : ∀ s d, slI (uNP A v) s d = if s = 8 then (nI v) else slI A s d := by
    intro s d
    by_cases e : s = 8
    · rw [if_pos e, e]; rfl
    · rw [if_neg e]; unfold slI; simp only [e, if_false]; rfl
  have g : ∀ s d, slJ (uNP A v) s d = slJ A s d := fun s d => rfl
  unfold wA
  refine Prod.ext (funext fun k => funext fun j => funext fun s => ?_) (Prod.ext (funext fun k => funext fun j => funext fun s => ?_) rfl)
  · show (if k = 8 ∧ j = i ∧ s = 8 then (nI v) else if k = 8 ∧ j = i then slI A s (mI M k j s) else mI M k j s) = if k = 8 ∧ j = i then slI (uNP A v) s (mI M k j s) else mI M k j s
    rw [h]
    by_cases q : k = 8 ∧ j = i
    · by_cases e : s = 8
      · rw [if_pos ⟨q.1, q.2, e⟩, if_pos q, if_pos e]
      · rw [if_neg (fun y => e y.2.2), if_pos q, if_pos q, if_neg e]
    · rw [if_neg (fun y => q ⟨y.1, y.2.1⟩), if_neg q, if_neg q]
  · rfl
theorem wA_Fa {i : Nat} {A : CR} {M : Mem} {v : Int32} : sI (wA i A M) 8 i 11 v = wA i (uFa A v) M := by
  have h : ∀ s d, slI (uFa A v) s d = if s = 11 then v else slI A s d := by
    intro s d
    by_cases e : s = 11
    · rw [if_pos e, e]; rfl
    · rw [if_neg e]; unfold slI; simp only [e, if_false]; rfl
  have g : ∀ s d, slJ (uFa A v) s d = slJ A s d := fun s d => rfl
  unfold wA
  refine Prod.ext (funext fun k => funext fun j => funext fun s => ?_) (Prod.ext (funext fun k => funext fun j => funext fun s => ?_) rfl)
  · show (if k = 8 ∧ j = i ∧ s = 11 then v else if k = 8 ∧ j = i then slI A s (mI M k j s) else mI M k j s) = if k = 8 ∧ j = i then slI (uFa A v) s (mI M k j s) else mI M k j s
    rw [h]
    by_cases q : k = 8 ∧ j = i
    · by_cases e : s = 11
      · rw [if_pos ⟨q.1, q.2, e⟩, if_pos q, if_pos e]
      · rw [if_neg (fun y => e y.2.2), if_pos q, if_pos q, if_neg e]
    · rw [if_neg (fun y => q ⟨y.1, y.2.1⟩), if_neg q, if_neg q]
  · rfl
theorem wA_FP {i : Nat} {A : CR} {M : Mem} {v : Int32} : sI (wA i A M) 8 i 12 v = wA i (uFP A v) M := by
  have h : ∀ s d, slI (uFP A v) s d = if s = 12 then v else slI A s d := by
    intro s d
    by_cases e : s = 12
    · rw [if_pos e, e]; rfl
    · rw [if_neg e]; unfold slI; simp only [e, if_false]; rfl
  have g : ∀ s d, slJ (uFP A v) s d = slJ A s d := fun s d => rfl
  unfold wA
  refine Prod.ext (funext fun k => funext fun j => funext fun s => ?_) (Prod.ext (funext fun k => funext fun j => funext fun s => ?_) rfl)
  · show (if k = 8 ∧ j = i ∧ s = 12 then v else if k = 8 ∧ j = i then slI A s (mI M k j s) else mI M k j s) = if k = 8 ∧ j = i then slI (uFP A v) s (mI M k j s) else mI M k j s
    rw [h]
    by_cases q : k = 8 ∧ j = i
    · by_cases e : s = 12
      · rw [if_pos ⟨q.1, q.2, e⟩, if_pos q, if_pos e]
      · rw [if_neg (fun y => e y.2.2), if_pos q, if_pos q, if_neg e]
    · rw [if_neg (fun y => q ⟨y.1, y.2.1⟩), if_neg q, if_neg q]
  · rfl
def A0 : CR := (0, 0, 0, 0, 0, nI 0, nI 0, 0, 0, nI 0, nI 0)
theorem wA_RecC {i : Nat} {A : CR} {M : Mem} : RecC i A (wA i A M) := by
  have hI : ∀ s, mI (wA i A M) 8 i s = slI A s (mI M 8 i s) := fun s => if_pos ⟨rfl, rfl⟩
  have hJ : ∀ s, mJ (wA i A M) 8 i s = slJ A s (mJ M 8 i s) := fun s => if_pos ⟨rfl, rfl⟩
  refine ⟨⟨(hJ 0).trans rfl, (hI 1).trans rfl, (hI 2).trans rfl, (hI 3).trans rfl, (hI 4).trans rfl, (hI 5).trans rfl, (hJ 7).trans rfl, (hI 8).trans rfl, (hI 11).trans rfl, (hI 12).trans rfl⟩, fun _ => (hI 6).trans rfl⟩
theorem wA_fr {i : Nat} {A : CR} {M : Mem} : Fr (fun k j _ => k = 8 ∧ j = i) M (wA i A M) := ⟨rfl, fun k j s h => if_neg h, fun k j s h => if_neg h⟩
theorem TxOK.a {n : Nat} {L : Nat → Nat} {M : Mem} (h : TxOK n L M) {i : Nat} {A : CR} : TxOK n L (wA i A M) := ⟨h.1, h.2.1, h.2.2.1, h.2.2.2.1, h.2.2.2.2⟩
theorem wD_8 {M : Mem} {t : KS} {i s : Nat} {v : Int32} : sI (wD M t) 8 i s v = wD (sI M 8 i s v) t := by
  unfold wD wC
  rw [sI_comm (k := 6) (k' := 8) (by omega), sI_comm (k := 6) (k' := 8) (by omega), sI_comm (k := 6) (k' := 8) (by omega), sI_comm (k := 6) (k' := 8) (by omega)]
theorem wD_8J {M : Mem} {t : KS} {i s : Nat} {v : Int64} : sJ (wD M t) 8 i s v = wD (sJ M 8 i s v) t := rfl
theorem clr_eq {i : Nat} {M : Mem} : sI (sI (sI (sI (sI (sJ (sI (sI (sI (sI (sI (sI (sJ M 8 i 0 (lN 0)) 8 i 1 (nI 0)) 8 i 2 (nI 0)) 8 i 3 (nI 0)) 8 i 4 (nI 0)) 8 i 5 (nI 0)) 8 i 6 (nI 0)) 8 i 7 (lN 0)) 8 i 8 (nI 0)) 8 i 9 (nI 0)) 8 i 10 (nI 0)) 8 i 11 (nI 0)) 8 i 12 (nI 0) = wA i A0 M := by
  unfold wA
  refine Prod.ext (funext fun k => funext fun j => funext fun s => ?_) (Prod.ext (funext fun k => funext fun j => funext fun s => ?_) rfl)
  · show mI (sI (sI (sI (sI (sI (sJ (sI (sI (sI (sI (sI (sI (sJ M 8 i 0 (lN 0)) 8 i 1 (nI 0)) 8 i 2 (nI 0)) 8 i 3 (nI 0)) 8 i 4 (nI 0)) 8 i 5 (nI 0)) 8 i 6 (nI 0)) 8 i 7 (lN 0)) 8 i 8 (nI 0)) 8 i 9 (nI 0)) 8 i 10 (nI 0)) 8 i 11 (nI 0)) 8 i 12 (nI 0)) k j s = if k = 8 ∧ j = i then slI A0 s (mI M k j s) else mI M k j s
    simp only [mI_sI, mI_sJ]
    by_cases q : k = 8 ∧ j = i
    · obtain ⟨rfl, rfl⟩ := q
      unfold slI
      simp only [eq_self, true_and, and_self, if_true]
      by_cases h1 : s = 1; · subst h1; rfl
      by_cases h2 : s = 2; · subst h2; rfl
      by_cases h3 : s = 3; · subst h3; rfl
      by_cases h4 : s = 4; · subst h4; rfl
      by_cases h5 : s = 5; · subst h5; rfl
      by_cases h6 : s = 6; · subst h6; rfl
      by_cases h8 : s = 8; · subst h8; rfl
      by_cases h9 : s = 9; · subst h9; rfl
      by_cases h10 : s = 10; · subst h10; rfl
      by_cases h11 : s = 11; · subst h11; rfl
      by_cases h12 : s = 12; · subst h12; rfl
      simp only [h1, h2, h3, h4, h5, h6, h8, h9, h10, h11, h12, if_false]
    · have q2 : ∀ x : Nat, ¬ (k = 8 ∧ j = i ∧ s = x) := fun x y => q ⟨y.1, y.2.1⟩
      simp only [q2, q, if_false]
  · show mJ (sI (sI (sI (sI (sI (sJ (sI (sI (sI (sI (sI (sI (sJ M 8 i 0 (lN 0)) 8 i 1 (nI 0)) 8 i 2 (nI 0)) 8 i 3 (nI 0)) 8 i 4 (nI 0)) 8 i 5 (nI 0)) 8 i 6 (nI 0)) 8 i 7 (lN 0)) 8 i 8 (nI 0)) 8 i 9 (nI 0)) 8 i 10 (nI 0)) 8 i 11 (nI 0)) 8 i 12 (nI 0)) k j s = if k = 8 ∧ j = i then slJ A0 s (mJ M k j s) else mJ M k j s
    simp only [mJ_sI, mJ_sJ]
    by_cases q : k = 8 ∧ j = i
    · obtain ⟨rfl, rfl⟩ := q
      unfold slJ
      simp only [eq_self, true_and, and_self, if_true]
      by_cases h0 : s = 0; · subst h0; rfl
      by_cases h7 : s = 7; · subst h7; rfl
      simp only [h0, h7, if_false]
    · have q2 : ∀ x : Nat, ¬ (k = 8 ∧ j = i ∧ s = x) := fun x y => q ⟨y.1, y.2.1⟩
      simp only [q2, q, if_false]
set_option maxRecDepth 20000 in
set_option maxHeartbeats 4000000 in
theorem k_clearS (G : GX) {M : Mem} (i : Nat) : MetM G yX9_clear iX9_clear [vR 8 i] M (fun r M' => r = none ∧ M' = wA i A0 M) := by
  refine MetM.of (ls := [some (vR 8 i)]) (by decide) rfl (Nat.le_of_ble_eq_true rfl) rfl ?_
  intro hM0
  refine Rn.aload_n (pc := 0) dX9_clear_0 rfl rfl ?_
  refine Rn.lconst (pc := 1) (v := lN 0) dX9_clear_1 (by decide) ?_
  refine Rn.putJ (pc := 2) (t := 0) flX9_9 rfl rfl dX9_clear_2 ?_
  refine Rn.aload_n (pc := 5) dX9_clear_5 rfl rfl ?_
  refine Rn.iconst (pc := 6) (v := nI 0) dX9_clear_6 (by decide) ?_
  refine Rn.putI (pc := 7) (t := 0) flX9_15 rfl rfl dX9_clear_7 ?_
  refine Rn.aload_n (pc := 10) dX9_clear_10 rfl rfl ?_
  refine Rn.iconst (pc := 11) (v := nI 0) dX9_clear_11 (by decide) ?_
  refine Rn.putI (pc := 12) (t := 0) flX9_19 rfl rfl dX9_clear_12 ?_
  refine Rn.aload_n (pc := 15) dX9_clear_15 rfl rfl ?_
  refine Rn.iconst (pc := 16) (v := nI 0) dX9_clear_16 (by decide) ?_
  refine Rn.putI (pc := 17) (t := 0) flX9_22 rfl rfl dX9_clear_17 ?_
  refine Rn.aload_n (pc := 20) dX9_clear_20 rfl rfl ?_
  refine Rn.iconst (pc := 21) (v := nI 0) dX9_clear_21 (by decide) ?_
  refine Rn.putI (pc := 22) (t := 0) flX9_25 rfl rfl dX9_clear_22 ?_
  refine Rn.aload_n (pc := 25) dX9_clear_25 rfl rfl ?_
  refine Rn.iconst (pc := 26) (v := nI 0) dX9_clear_26 (by decide) ?_
  refine Rn.putI (pc := 27) (t := 0) flX9_28 rfl rfl dX9_clear_27 ?_
  refine Rn.aload_n (pc := 30) dX9_clear_30 rfl rfl ?_
  refine Rn.iconst (pc := 31) (v := nI 0) dX9_clear_31 (by decide) ?_
  refine Rn.putI (pc := 32) (t := 0) flX9_31 rfl rfl dX9_clear_32 ?_
  refine Rn.aload_n (pc := 35) dX9_clear_35 rfl rfl ?_
  refine Rn.lconst (pc := 36) (v := lN 0) dX9_clear_36 (by decide) ?_
  refine Rn.putJ (pc := 37) (t := 0) flX9_34 rfl rfl dX9_clear_37 ?_
  refine Rn.aload_n (pc := 40) dX9_clear_40 rfl rfl ?_
  refine Rn.iconst (pc := 41) (v := nI 0) dX9_clear_41 (by decide) ?_
  refine Rn.putI (pc := 42) (t := 0) flX9_37 rfl rfl dX9_clear_42 ?_
  refine Rn.aload_n (pc := 45) dX9_clear_45 rfl rfl ?_
  refine Rn.iconst (pc := 46) (v := nI 0) dX9_clear_46 (by decide) ?_
  refine Rn.putI (pc := 47) (t := 0) flX9_40 rfl rfl dX9_clear_47 ?_
  refine Rn.aload_n (pc := 50) dX9_clear_50 rfl rfl ?_
  refine Rn.iconst (pc := 51) (v := nI 0) dX9_clear_51 (by decide) ?_
  refine Rn.putI (pc := 52) (t := 0) flX9_43 rfl rfl dX9_clear_52 ?_
  refine Rn.aload_n (pc := 55) dX9_clear_55 rfl rfl ?_
  refine Rn.iconst (pc := 56) (v := nI 0) dX9_clear_56 (by decide) ?_
  refine Rn.putI (pc := 57) (t := 0) flX9_46 rfl rfl dX9_clear_57 ?_
  refine Rn.aload_n (pc := 60) dX9_clear_60 rfl rfl ?_
  refine Rn.iconst (pc := 61) (v := nI 0) dX9_clear_61 (by decide) ?_
  refine Rn.putI (pc := 62) (t := 0) flX9_49 rfl rfl dX9_clear_62 ?_
  refine Rn.vret (pc := 65) rfl dX9_clear_65 ?_
  exact ⟨rfl, clr_eq⟩

