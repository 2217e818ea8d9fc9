theorem lw_at {w : Cond} (i : Nat) (h : (lw_tbl[i]? == some w) = true) : w ∈ lw_tbl := List.mem_of_getElem? (beq_iff_eq.mp h)
def lwF : List Cond := flatC (Jvm.Cond.and given_1 narrow_1)
theorem lwF_at {w : Cond} (i : Nat) (h : (lwF[i]? == some w) = true) : w ∈ lwF := List.mem_of_getElem? (beq_iff_eq.mp h)
def stT : List (String × Nat) := [("ThumbLinker$Mnemonic", 187), ("ThumbLinker$Mnemonic", 193), ("ThumbLinker$Mnemonic", 196), ("ThumbLinker$Mnemonic", 199), ("ThumbLinker$Mnemonic", 202), ("ThumbLinker$Mnemonic", 205), ("ThumbLinker$Mnemonic", 208), ("ThumbLinker$Mnemonic", 211), ("ThumbLinker$Mnemonic", 214), ("ThumbLinker$Mnemonic", 218), ("ThumbLinker$Mnemonic", 221), ("ThumbLinker$Mnemonic", 224), ("ThumbLinker$Mnemonic", 227), ("ThumbLinker$Mnemonic", 230), ("ThumbLinker$Mnemonic", 233), ("ThumbLinker$Mnemonic", 236), ("ThumbLinker$Mnemonic", 239), ("ThumbLinker$Mnemonic", 242), ("ThumbLinker$Mnemonic", 245), ("ThumbLinker$Mnemonic", 248), ("ThumbLinker$Mnemonic", 251), ("ThumbLinker$Mnemonic", 254), ("ThumbLinker$Mnemonic", 257), ("ThumbLinker$Mnemonic", 260), ("ThumbLinker$Mnemonic", 263), ("ThumbLinker$Mnemonic", 266), ("ThumbLinker$Mnemonic", 269), ("ThumbLinker$Mnemonic", 272), ("ThumbLinker$Mnemonic", 275), ("ThumbLinker$Mnemonic", 278), ("ThumbLinker$Mnemonic", 281), ("ThumbLinker$Mnemonic", 285), ("ThumbLinker$Mnemonic", 289), ("ThumbLinker$Mnemonic", 295), ("ThumbLinker$Mnemonic", 299), ("ThumbLinker$Mnemonic", 303), ("ThumbLinker$Mnemonic", 307), ("ThumbLinker$Mnemonic", 311), ("ThumbLinker$Mnemonic", 315), ("ThumbLinker$Mnemonic", 319), ("ThumbLinker$Mnemonic", 323), ("ThumbLinker$Mnemonic", 327), ("ThumbLinker$Mnemonic", 331), ("ThumbLinker$Mnemonic", 335), ("ThumbLinker$Mnemonic", 339), ("ThumbLinker$Mnemonic", 343), ("ThumbLinker$Mnemonic", 347), ("ThumbLinker$Mnemonic", 351), ("ThumbLinker$Mnemonic", 355), ("ThumbLinker$Parser", 156), ("ThumbLinker$Parser", 162), ("ThumbLinker$Image", 32), ("ThumbLinker$Image", 47), ("ThumbLinker$Image", 59), ("ThumbLinker", 57), ("ThumbLinker", 72), ("ThumbLinker", 78), ("ThumbLinker", 88), ("ThumbLinker", 131), ("ThumbLinker", 157)]
def stB : List Nat := [594, 603, 612, 620, 631, 640, 649, 659, 669, 676, 684, 691, 699, 707, 715, 723, 731, 739, 747, 755, 763, 770, 778, 786, 794, 802, 810, 817, 824, 832, 840, 848, 855, 860, 866, 873, 880, 887, 894, 901, 908, 915, 922, 929, 936, 943, 950, 957, 964, 515, 521, 387, 427, 407, 443, 470, 488, 527, 543, 565]
def mnN : List String := ["SET_TEXT", "SET_DATA", "SET_BSS", "TELL_GLOBAL", "PUT_WORD", "PUT_BYTE", "PUT_SPACE", "PUT_PADDING", "NOP", "MOVS", "CMP", "ADDS", "SUBS", "LSLS", "LSRS", "ASRS", "ANDS", "EORS", "ADCS", "SBCS", "TST", "NEGS", "ORRS", "MULS", "BICS", "MVNS", "LDR", "STR", "LDRB", "STRB", "PUSH", "POP", "B", "BL", "BEQ", "BNE", "BCS", "BCC", "BMI", "BPL", "BVS", "BVC", "BHI", "BLS", "BGE", "BLT", "BGT", "BLE", "BX"]
abbrev dMn : String := "LThumbLinker$Mnemonic;"
abbrev tAll : Term := .static RMn "ALL" "[LThumbLinker$Mnemonic;"
def tmS (i : Nat) : Term := .string (stT.getD i ("", 0)).1 (stT.getD i ("", 0)).2
def tmV (i : Nat) : Term := .field (tmS i) "java/lang/String" "value" "[B"
def tmN (j : Nat) : Term := .static RMn (mnN.getD j "") dMn
def stW (i : Nat) : List Cond := [.exactly (tmS i) "java/lang/String", .eq (.field (tmS i) "java/lang/String" "coder" "B") (.int 0), .arrayOf (tmV i) .byte, .eq (.length (tmV i)) (.int (Int32.ofNat (strB.getD i []).length))] ++ (List.range (strB.getD i []).length).map (fun j => .eq (.elem (tmV i) (.int (Int32.ofNat j))) (.int ((strB.getD i []).getD j 0)))
def mnW (j : Nat) : List Cond := [.exactly (tmN j) RMn, .eq (.field (tmN j) "java/lang/Enum" "ordinal" "I") (.int (Int32.ofNat j)), .eq (.field (tmN j) RMn "word" "Ljava/lang/String;") (tmS j), .eq (.field (tmN j) RMn "form" "I") (.int (mnT.getD j (0, 0, 0)).1), .eq (.field (tmN j) RMn "code" "I") (.int (mnT.getD j (0, 0, 0)).2.1), .eq (.field (tmN j) RMn "extra" "I") (.int (mnT.getD j (0, 0, 0)).2.2)]
set_option maxRecDepth 100000 in
theorem stW_in : (List.range 60).all (fun i => (lwF.drop (stB.getD i 0)).take (stW i).length == stW i) = true := by decide +kernel
set_option maxRecDepth 100000 in
theorem mnW_in : (List.range 49).all (fun j => (lwF.drop (65 + 6 * j)).take 6 == mnW j) = true := by decide +kernel
set_option maxRecDepth 100000 in
theorem elW_in : (List.range 49).all (fun j => lwF[16 + j]? == some (.eq (.elem tAll (.int (Int32.ofNat j))) (tmN j))) = true := by decide +kernel
theorem mem_dt {α : Type} {l : List α} {a b : Nat} {x : α} (h : x ∈ (l.drop a).take b) : x ∈ l := List.mem_of_mem_drop (List.mem_of_mem_take h)
set_option maxRecDepth 100000 in
theorem strR_in : strR.all (fun q => decide (q.2.2.2 < 60) && (stT.getD q.2.2.2 ("", 0) == (q.1, q.2.1)) && decide (Cond.stringRef q.1 q.2.1 q.2.2.1 ∈ lw_tbl)) = true := by decide +kernel
set_option maxRecDepth 100000 in
theorem nmL_in : (nmL ++ nmI).all (fun q => decide (Cond.methodLinkNest q.1 q.2.1 q.2.2 "ThumbLinker" ∈ lw_tbl)) = true := by decide +kernel
set_option maxRecDepth 100000 in
set_option maxHeartbeats 4000000 in
theorem ro_entry {s : State} {b L : Nat} {xs : Nat → Int32} (hts : ∀ w ∈ lw_tbl, w.before #[Value.ref b] s = true) (hgv : (Jvm.Cond.and given_1 narrow_1).before #[Value.ref b] s = true) (hX : va_X b L xs s s.heap) (hbl : b < s.heap.size) :
    ∃ (a50 : Nat) (a51 a52 a53 : Nat → Nat) (a55 : Nat), ∀ G : GX, (gA G 50 0 = a50 ∧ (∀ j, gA G 51 j = a51 j) ∧ (∀ j, gA G 52 j = a52 j) ∧ (∀ j, gA G 53 j = a53 j) ∧ gA G 54 0 = b ∧ gA G 55 0 = a55) → gS G = (L, xs) → RO G (fun q => s.heap.size ≤ q) s s.heap := by
  have hF : ∀ w ∈ lwF, w.before #[Value.ref b] s = true := flat_of_before _ hgv
  have hA : ∀ a : Nat, a < s.heap.size → ¬ (fun q => s.heap.size ≤ q) a := fun a h => Nat.not_le.mpr h
  have hst : ∀ i, i < 60 → ∀ w ∈ stW i, w.before #[Value.ref b] s = true := fun i hi w hw => by
    have h := beq_iff_eq.mp (List.all_eq_true.mp stW_in i (List.mem_range.mpr hi))
    rw [← h] at hw
    exact hF w (mem_dt hw)
  have hmn : ∀ j, j < 49 → ∀ w ∈ mnW j, w.before #[Value.ref b] s = true := fun i hi w hw => by
    have h := beq_iff_eq.mp (List.all_eq_true.mp mnW_in i (List.mem_range.mpr hi))
    rw [← h] at hw
    exact hF w (mem_dt hw)
  have hel : ∀ j, j < 49 → (Cond.eq (.elem tAll (.int (Int32.ofNat j))) (tmN j)).before #[Value.ref b] s = true := fun j hj => hF _ (List.mem_of_getElem? (beq_iff_eq.mp (List.all_eq_true.mp elW_in j (List.mem_range.mpr hj))))
  have hlen : ∀ i, i < 60 → (strB.getD i []).length < 2 ^ 31 := by
    have h : (List.range 60).all (fun i => decide ((strB.getD i []).length < 2 ^ 31)) = true := by decide +kernel
    exact fun i hi => of_decide_eq_true (List.all_eq_true.mp h i (List.mem_range.mpr hi))
  have h52 : ∀ i : Nat, ∃ q : Nat × Nat, i < 60 → (tmS i).eval #[Value.ref b] s none [] s = some (.ref q.1) ∧ va_O "java/lang/String" q.1 (fun q => s.heap.size ≤ q) s s.heap ∧ va_OF "java/lang/String" "coder" "B" (.int 0) q.1 (fun q => s.heap.size ≤ q) s s.heap ∧ va_OF "java/lang/String" "value" "[B" (.ref q.2) q.1 (fun q => s.heap.size ≤ q) s s.heap ∧ va_T .byte q.2 (strB.getD i []).length (fun j => .int ((strB.getD i []).getD j 0)) (fun q => s.heap.size ≤ q) s s.heap := by
    intro i
    by_cases hi : i < 60
    · have hw := hst i hi
      have w1 := hw (.exactly (tmS i) "java/lang/String") (List.mem_append_left _ List.mem_cons_self)
      have w2 := hw (.eq (.field (tmS i) "java/lang/String" "coder" "B") (.int 0)) (List.mem_append_left _ (List.mem_cons_of_mem _ List.mem_cons_self))
      have w3 := hw (.arrayOf (tmV i) .byte) (List.mem_append_left _ (List.mem_cons_of_mem _ (List.mem_cons_of_mem _ List.mem_cons_self)))
      have w4 := hw (.eq (.length (tmV i)) (.int (Int32.ofNat (strB.getD i []).length))) (List.mem_append_left _ (List.mem_cons_of_mem _ (List.mem_cons_of_mem _ (List.mem_cons_of_mem _ List.mem_cons_self))))
      have w5 : ∀ j, j < (strB.getD i []).length → (Cond.eq (.elem (tmV i) (.int (Int32.ofNat j))) (.int ((strB.getD i []).getD j 0))).before #[Value.ref b] s = true := fun j hj => hw _ (List.mem_append_right _ (List.mem_map.mpr ⟨j, List.mem_range.mpr hj, rfl⟩))
      obtain ⟨a, c, cA, kA9, q1, q2, q3, q4, q5, q6, -⟩ := Cond.exactly_spec (args := #[Value.ref b]) (first := s) (o := none) (s := s) (idx := []) (t := tmS i) (cls := "java/lang/String") w1
      obtain ⟨t, ht, hT⟩ := va_Tof (f := fun j => .int ((strB.getD i []).getD j 0)) (A := fun q => s.heap.size ≤ q) (hlen i hi) w3 (va_eqt w4) (fun j hj => va_eqt (w5 j hj)) hA
      exact ⟨(a, t), fun _ => ⟨q1, va_Oof w1 q1 hA, vk_OFof q1 (va_eqt w2) hA, vk_OFof q1 ht hA, hT⟩⟩
    · exact ⟨(0, 0), fun h => absurd h hi⟩
  obtain ⟨f52, hf52⟩ := Classical.axiomOfChoice h52
  have h51 : ∀ j : Nat, ∃ a : Nat, j < 49 → (tmN j).eval #[Value.ref b] s none [] s = some (.ref a) := by
    intro j
    by_cases hj : j < 49
    · obtain ⟨a, c, cA, kA9, q1, -⟩ := Cond.exactly_spec (args := #[Value.ref b]) (first := s) (o := none) (s := s) (idx := []) (t := tmN j) (cls := RMn) (hmn j hj _ List.mem_cons_self)
      exact ⟨a, fun _ => q1⟩
    · exact ⟨0, fun h => absurd h hj⟩
  obtain ⟨f51, hf51⟩ := Classical.axiomOfChoice h51
  obtain ⟨t50, ht50, hT50⟩ := va_Tof (tm := tAll) (ty := .object RMn) (N := 49) (f := fun j => .ref (f51 j)) (A := fun q => s.heap.size ≤ q) (by decide) (hF _ (lwF_at 13 (by decide +kernel))) (va_eqt (hF _ (lwF_at 14 (by decide +kernel)))) (fun j hj => va_eqv (hel j hj) (hf51 j hj)) hA
  obtain ⟨t55, h55⟩ : ∃ t : Nat, va_Z "jdk/internal/util/Preconditions" "SIOOBE_FORMATTER" "Ljava/util/function/BiFunction;" .null (fun q => s.heap.size ≤ q) s s.heap ∨ va_Z "jdk/internal/util/Preconditions" "SIOOBE_FORMATTER" "Ljava/util/function/BiFunction;" (.ref t) (fun q => s.heap.size ≤ q) s s.heap := by
    rcases va_Zqof (C := "jdk/internal/util/Preconditions") (n := "SIOOBE_FORMATTER") (d := "Ljava/util/function/BiFunction;") (A := fun q => s.heap.size ≤ q) (hts _ (lw_at 577 (by decide +kernel))) (hts _ (lw_at 103 (by decide +kernel))) (hF _ (lwF_at 5 (by decide +kernel))) hA with h | ⟨t, h⟩
    · exact ⟨0, Or.inl h⟩
    · exact ⟨t, Or.inr h⟩
  have hZall : va_Z RMn "ALL" "[LThumbLinker$Mnemonic;" (.ref t50) (fun q => s.heap.size ≤ q) s s.heap := va_Zof (hts _ (lw_at 785 (by decide +kernel))) (hts _ (lw_at 100 (by decide +kernel))) ht50 hA
  have hZc : va_Z "java/lang/String" "COMPACT_STRINGS" "Z" (.int 1) (fun q => s.heap.size ≤ q) s s.heap := va_Zof (hts _ (lw_at 561 (by decide +kernel))) (hts _ (lw_at 101 (by decide +kernel))) (va_eqi (hF _ (lwF_at 4 (by decide +kernel)))) hA
  refine ⟨t50, f51, fun i => (f52 i).1, fun i => (f52 i).2, t55, fun G hG hg => ?_⟩
  obtain ⟨e50, e51, e52, e53, e54, e55⟩ := hG
  refine ⟨⟨?_, ?_, ?_, ?_, ?_, ?_, ?_, hZc, ?_⟩, ⟨?_, ?_⟩, ?_, ?_⟩
  · rw [e50]; exact hZall
  · rw [e50, show (fun j => Value.ref (gA G 51 j)) = (fun j => Value.ref (f51 j)) from funext fun j => by rw [e51]]; exact hT50
  · intro j hj; rw [e51]; exact vk_OFof (hf51 j hj) (va_eqt (hmn j hj _ (List.mem_cons_of_mem _ (List.mem_cons_of_mem _ (List.mem_cons_of_mem _ List.mem_cons_self))))) hA
  · intro j hj; rw [e51]; exact vk_OFof (hf51 j hj) (va_eqt (hmn j hj _ (List.mem_cons_of_mem _ (List.mem_cons_of_mem _ (List.mem_cons_of_mem _ (List.mem_cons_of_mem _ List.mem_cons_self)))))) hA
  · intro j hj; rw [e51]; exact vk_OFof (hf51 j hj) (va_eqt (hmn j hj _ (List.mem_cons_of_mem _ (List.mem_cons_of_mem _ (List.mem_cons_of_mem _ (List.mem_cons_of_mem _ (List.mem_cons_of_mem _ List.mem_cons_self))))))) hA
  · intro j hj; rw [e51]; dsimp only; rw [e52]; exact vk_OFof (hf51 j hj) (va_eqv (hmn j hj _ (List.mem_cons_of_mem _ (List.mem_cons_of_mem _ List.mem_cons_self))) (hf52 j (by omega)).1) hA
  · intro i hi
    rw [e52, e53]
    exact (hf52 i hi).2
  · intro q hq
    have h := List.all_eq_true.mp strR_in q hq
    rw [Bool.and_eq_true, Bool.and_eq_true, decide_eq_true_eq, decide_eq_true_eq, beq_iff_eq] at h
    rw [e52]
    refine vk_R.of (hts _ h.2) (A := #[Value.ref b]) ?_
    have h9 := (hf52 _ h.1.1).1
    unfold tmS at h9
    rw [h.1.2] at h9
    exact h9
  · intro q hq
    exact va_Nw.of rfl (hts _ (of_decide_eq_true (List.all_eq_true.mp nmL_in q (List.mem_append_left _ hq))))
  · exact va_Nw.of rfl (hts _ (lw_at 784 (by decide +kernel)))
  · obtain ⟨scr, h1, h2, h3, h4, h5⟩ := hX
    show va_T .int (gA G 54 0) (gS G).1 (fun j => .int ((gS G).2 j)) _ _ _
    rw [e54, hg]
    exact ⟨scr, h1, h2, h3, Nat.le_of_eq h4.symm, by rw [h4], h5, hA b hbl⟩
  · rw [ROf, e55]; exact h55
set_option maxRecDepth 100000 in
theorem rox_entry {G : GX} {s : State} {b : Nat} (hl : G.1.stackTraces = false) (hts : ∀ w ∈ lw_tbl, w.before #[Value.ref b] s = true) (hgv : (Jvm.Cond.and given_1 narrow_1).before #[Value.ref b] s = true) : ROx G (fun q => s.heap.size ≤ q) s s.heap := by
  have hF : ∀ w ∈ lwF, w.before #[Value.ref b] s = true := flat_of_before _ hgv
  have hA : ∀ a : Nat, a < s.heap.size → ¬ (fun q => s.heap.size ≤ q) a := fun a h => Nat.not_le.mpr h
  refine ⟨hl, vx_Zqof (hts _ (lw_at 656 (by decide +kernel))) (hts _ (lw_at 94 (by decide +kernel))) (hF _ (lwF_at 9 (by decide +kernel))) hA, vx_Zqof (hts _ (lw_at 658 (by decide +kernel))) (hts _ (lw_at 94 (by decide +kernel))) (hF _ (lwF_at 10 (by decide +kernel))) hA, va_Nc.of (hF _ (lwF_at 385 (by decide +kernel))), fun x hx => va_Nw.of rfl (hts _ ?_), fun x hx => va_Nw.of rfl (hts _ ?_)⟩
  · have h : xwD.all (fun x => decide (Cond.declares x ∈ lw_tbl)) = true := by decide +kernel
    exact of_decide_eq_true (List.all_eq_true.mp h x hx)
  · have h : xwC.all (fun x => decide (Cond.castable x x ∈ lw_tbl)) = true := by decide +kernel
    exact of_decide_eq_true (List.all_eq_true.mp h x hx)
theorem roi_entry {s : State} {b : Nat} (hts : ∀ w ∈ lw_tbl, w.before #[Value.ref b] s = true) : ROi s := by
  refine ⟨fun q hq => va_Nw.of rfl (hts _ (of_decide_eq_true (List.all_eq_true.mp nmL_in q (List.mem_append_right _ hq)))), va_AO.of (hts _ (lw_at 133 (by decide +kernel))), va_AO.of (hts _ (lw_at 140 (by decide +kernel))), Jvm.Stand.arrayOver_alikeB (Vm.Alike.refl _) (hts _ (lw_at 328 (by decide +kernel)))⟩
set_option maxRecDepth 100000 in
theorem k_entry {s : State} {b : Nat} (hts : ∀ w ∈ lw_tbl, w.before #[Value.ref b] s = true) : ∃ (D : va_G) (gc : Nat → ClassId), ∀ G : GX, gD G = D → gC G = gc → va_K (gD G) vwCl (tysG G) s := by
  have hcl : ∀ k : Nat, ∃ d : ClassId × (Nat → Nat), ∀ q : vw_C, vwCl[k]? = some q → u_Kn s q.1 q.2.1 q.2.2 d.1 d.2 := by
    intro k
    match k with
    | 0 =>
      obtain ⟨cC, iS, h⟩ := u_known (C := RX0) (T := TX0) (N := 3) (n := 3) hts inX0 (hts _ (lw_at 283 (by decide +kernel)))
      exact ⟨(cC, iS), fun q hq => by cases hq; exact h⟩
    | 1 =>
      obtain ⟨cC, iS, h⟩ := u_known (C := RX1) (T := TX1) (N := 4) (n := 4) hts inX1 (hts _ (lw_at 260 (by decide +kernel)))
      exact ⟨(cC, iS), fun q hq => by cases hq; exact h⟩
    | 2 =>
      obtain ⟨cC, iS, h⟩ := u_known (C := RX2) (T := TX2) (N := 2) (n := 2) hts inX2 (hts _ (lw_at 348 (by decide +kernel)))
      exact ⟨(cC, iS), fun q hq => by cases hq; exact h⟩
    | 3 =>
      obtain ⟨cC, iS, h⟩ := u_known (C := RX3) (T := TX3) (N := 6) (n := 6) hts inX3 (hts _ (lw_at 289 (by decide +kernel)))
      exact ⟨(cC, iS), fun q hq => by cases hq; exact h⟩
    | 4 =>
      obtain ⟨cC, iS, h⟩ := u_known (C := RX4) (T := TX4) (N := 4) (n := 4) hts inX4 (hts _ (lw_at 322 (by decide +kernel)))
      exact ⟨(cC, iS), fun q hq => by cases hq; exact h⟩
    | 5 =>
      obtain ⟨cC, iS, h⟩ := u_known (C := RX6) (T := TX6) (N := 1) (n := 1) hts inX6 (hts _ (lw_at 223 (by decide +kernel)))
      exact ⟨(cC, iS), fun q hq => by cases hq; exact h⟩
    | 6 =>
      obtain ⟨cC, iS, h⟩ := u_known (C := RX7) (T := TX7) (N := 5) (n := 5) hts inX7 (hts _ (lw_at 229 (by decide +kernel)))
      exact ⟨(cC, iS), fun q hq => by cases hq; exact h⟩
    | 7 =>
      obtain ⟨cC, iS, h⟩ := u_known (C := RX8) (T := TX8) (N := 2) (n := 2) hts inX8 (hts _ (lw_at 134 (by decide +kernel)))
      exact ⟨(cC, iS), fun q hq => by cases hq; exact h⟩
    | 8 =>
      obtain ⟨cC, iS, h⟩ := u_known (C := RX9) (T := TX9) (N := 13) (n := 13) hts inX9 (hts _ (lw_at 141 (by decide +kernel)))
      exact ⟨(cC, iS), fun q hq => by cases hq; exact h⟩
    | 9 =>
      obtain ⟨cC, iS, h⟩ := u_known (C := RX10) (T := TX10) (N := 2) (n := 2) hts inX10 (hts _ (lw_at 116 (by decide +kernel)))
      exact ⟨(cC, iS), fun q hq => by cases hq; exact h⟩
    | 10 =>
      obtain ⟨cC, iS, h⟩ := u_known (C := RX11) (T := TX11) (N := 6) (n := 6) hts inX11 (hts _ (lw_at 108 (by decide +kernel)))
      exact ⟨(cC, iS), fun q hq => by cases hq; exact h⟩
    | 11 =>
      obtain ⟨cC, iS, h⟩ := u_known (C := RX12) (T := TX12) (N := 40) (n := 40) hts inX12 (hts _ (lw_at 920 (by decide +kernel)))
      exact ⟨(cC, iS), fun q hq => by cases hq; exact h⟩
    | k + 12 => exact ⟨(0, fun _ => 0), fun q hq => by cases hq⟩
  obtain ⟨fd, hfd⟩ := Classical.axiomOfChoice hcl
  obtain ⟨c0, k0, m0, f0, g0, h0⟩ := Cond.arrayClass_spec (hts (.arrayClass .byte) (lw_at 361 (by decide +kernel)))
  obtain ⟨c1, k1, m1, f1, g1, h1⟩ := Cond.arrayClass_spec (hts (.arrayClass .char) (lw_at 131 (by decide +kernel)))
  obtain ⟨c2, k2, m2, f2, g2, h2⟩ := Cond.arrayClass_spec (hts (.arrayClass .int) (lw_at 320 (by decide +kernel)))
  obtain ⟨c3, k3, m3, f3, g3, h3⟩ := Cond.arrayClass_spec (hts (.arrayClass .long) (lw_at 318 (by decide +kernel)))
  obtain ⟨c4, k4, m4, f4, g4, h4⟩ := Cond.arrayClass_spec (hts (.arrayClass .boolean) (lw_at 319 (by decide +kernel)))
  obtain ⟨m5, c5, k5, e5, -, g5, h5, f5⟩ := Cond.arrayOver_spec (hts (.arrayOver (.object "ThumbLinker$Source")) (lw_at 133 (by decide +kernel)))
  obtain ⟨m6, c6, k6, e6, -, g6, h6, f6⟩ := Cond.arrayOver_spec (hts (.arrayOver (.object "ThumbLinker$Statement")) (lw_at 140 (by decide +kernel)))
  obtain ⟨m7, c7, k7, e7, -, g7, h7, f7⟩ := Jvm.Stand.arrayOver_specB (hts (.arrayOver (.array .int)) (lw_at 328 (by decide +kernel)))
  refine ⟨(fun k => (fd k).1, fun k => (fd k).2), fun t => match t with | 0 => c0 | 1 => c1 | 2 => c2 | 3 => c3 | 4 => c4 | 5 => c5 | 6 => c6 | _ => c7, fun G hD hC => ?_⟩
  have har : ∀ t, t < 8 → ArrOfT s (gC G t) (tyT t) ∧ va_RA s (gC G t) (tyT t) := by
    intro t ht
    rw [hC]
    match t, ht with
    | 0, _ => exact ⟨fun N z => ⟨fun k h => (by cases h), k0, g0, m0, h0⟩, f0⟩
    | 1, _ => exact ⟨fun N z => ⟨fun k h => (by cases h), k1, g1, m1, h1⟩, f1⟩
    | 2, _ => exact ⟨fun N z => ⟨fun k h => (by cases h), k2, g2, m2, h2⟩, f2⟩
    | 3, _ => exact ⟨fun N z => ⟨fun k h => (by cases h), k3, g3, m3, h3⟩, f3⟩
    | 4, _ => exact ⟨fun N z => ⟨fun k h => (by cases h), k4, g4, m4, h4⟩, f4⟩
    | 5, _ => exact ⟨fun N z => ⟨fun k h => (by cases h), k5, g5, m5, h5⟩, k5, m5, g5, h5, e5, f5⟩
    | 6, _ => exact ⟨fun N z => ⟨fun k h => (by cases h), k6, g6, m6, h6⟩, k6, m6, g6, h6, e6, f6⟩
    | 7, _ => exact ⟨fun N z => ⟨fun k h => (by cases h), k7, g7, m7, h7⟩, f7⟩
  refine ⟨fun c q hq => by rw [hD]; exact hfd c q hq, fun k q hk => ?_⟩
  have hk8 : k < 8 := by
    have := (List.getElem?_eq_some_iff.mp hk).1
    unfold tysG at this
    rw [List.length_map, List.length_range] at this
    exact this
  rw [tysG_at G hk8] at hk
  cases hk
  exact har k hk8
theorem Rr0 : Rr mem0 := by
  refine ⟨(0, fun _ => 0), fun _ => 0, fun _ _ => (0, fun _ => 0), 0, ⟨⟨rfl, fun i h => absurd h (Nat.not_lt_zero _)⟩, ⟨rfl, fun i h => absurd h (Nat.not_lt_zero _)⟩, Nat.zero_le _, fun i h => absurd h (Nat.not_lt_zero _)⟩, fun m hm => ⟨rfl, rfl, Nat.zero_le _, fun n h => absurd h (Nat.not_lt_zero _)⟩, ⟨by decide, rfl, rfl⟩, Or.inl ⟨rfl, rfl, rfl, fun s _ => rfl, rfl, rfl, fun m s _ _ => rfl⟩, fun s _ => ?_⟩
  show (if (38 : Nat) = 38 ∨ ((38 : Nat) = 1 ∧ s ≠ 0) then (-1 : Int32) else 0) = (if (1 : Nat) = 38 ∨ ((1 : Nat) = 1 ∧ s + 1 ≠ 0) then (-1 : Int32) else 0)
  rw [if_pos (Or.inl rfl), if_pos (Or.inr ⟨rfl, Nat.succ_ne_zero s⟩)]
theorem RnA.toE {G : GX} {I : MIx} {z : MX} {cs : Nat × Nat} {Q : State → Prop} {pc : Nat} {ls : List (Option AV)} {st : List AV} {lo n : Nat} (hall : ∀ k j, (k, j) ∈ PL → lo ≤ gA G k j ∧ gA G k j < n) (k9 : RnE G I z cs Q pc ls st mem0) : RnA G I z cs Q pc ls st (lo, n, []) := by
  intro hc H locs lsA hW hS hL _ hLs hSt
  refine k9 hc H locs lsA ?_ ⟨hS.1, fun q h1 h2 => hS.2.1 q h1 (fun h => h2 h.2), fun l hl => (hS.2.2 l hl).2⟩ hL okM0 hLs hSt
  intro i q hi
  unfold wsM at hi
  rw [List.getElem?_map] at hi
  cases h1 : PL[i]? with
  | none => rw [h1] at hi; cases hi
  | some a =>
    rw [h1] at hi
    cases hi
    have hp : (a.1, a.2) ∈ PL := List.mem_of_getElem? h1
    exact hW.2.2.2 a.1 a.2 hp (hall _ _ hp).1 (hall _ _ hp).2 (fun x hx => nomatch hx)
set_option maxRecDepth 40000 in
set_option maxHeartbeats 4000000 in
theorem law_start {G : GX} {p : Program} {e : Env} {s : State} {m : MethodId} {below : List Frame} {meth : Method} {c : Code} {b : Nat} (hG : AdG G s.heap.size) (hx : zX G (p, e, s, m, #[Value.ref b], below, meth, c)) (hroi : ROi s) (hf : ∀ q, gPool G s.heap.size q → s.heap.size ≤ q) (hS : (gS G).1 ≤ 2560) : RnA G iL (p, e, s, m, #[Value.ref b], below, meth, c) (0, 0) (lw_Z below #[Value.ref b] s) 0 [some (vR 54 0), none, none, none, none, none, none] [] (s.heap.size, s.heap.size, []) := by
  have a0 := hG.at (k := 10) (j := 0) (0) (by decide) (by decide) rfl
  have a1 := hG.at (k := 11) (j := 0) (155) (by decide) (by decide) rfl
  have a2 := hG.at (k := 41) (j := 0) (175) (by decide) (by decide) rfl
  refine RnA.new (j := 0) nwL_8 (mem_PL.mpr ⟨by decide, by decide⟩) (by omega) ⟨by decide, by decide⟩ dL_law_0 ?_
  refine RnA.cst (cs' := (1, 6)) rfl ?_
  refine RnA.dupR (x := 0) (y := 0) dL_law_3 ?_
  refine RnA.init (nc := 154) (sl := 6624) hroi ciL_38 ⟨⟨by decide, by decide⟩, ⟨by decide, by decide⟩, rfl, rfl⟩ dL_law_4 (Nat.le_of_ble_eq_true rfl) (mem_PL.mpr ⟨by decide, by decide⟩) (by omega) (fun q h => nomatch h) (n_X11 hG) ?_
  refine RnA.cst (cs' := (155, 6630)) rfl ?_
  refine RnA.to (n' := s.heap.size + 155) (by omega) ?_
  refine RnA.astore_n dL_law_7 rfl (by decide) rfl st7_1 ?_
  refine RnA.new (j := 0) nwL_39 (mem_PL.mpr ⟨by decide, by decide⟩) (by omega) ⟨by decide, by decide⟩ dL_law_8 ?_
  refine RnA.cst (cs' := (156, 6670)) rfl ?_
  refine RnA.dupR (x := 0) (y := 0) dL_law_11 ?_
  refine RnA.init (nc := 19) (sl := 27487) hroi ciL_41 ⟨⟨by decide, by decide⟩, ⟨by decide, by decide⟩, rfl, rfl⟩ dL_law_12 (Nat.le_of_ble_eq_true rfl) (mem_PL.mpr ⟨by decide, by decide⟩) (by omega) (fun q h => nomatch h) (n_X12 hG) ?_
  refine RnA.cst (cs' := (175, 34157)) rfl ?_
  refine RnA.to (n' := s.heap.size + 175) (by omega) ?_
  refine RnA.astore_n dL_law_15 rfl (by decide) rfl st7_2 ?_
  refine RnA.iconst (v := nI 1) dL_law_16 (by decide) ?_
  refine RnA.newa (j := 0) na41 (by decide) (by omega) ⟨by decide, by decide⟩ dL_law_17 (fun _ => rfl) ?_
  refine RnA.cst (cs' := (176, 34158)) rfl ?_
  refine RnA.astore_n dL_law_19 rfl (by decide) rfl st7_3 ?_
  refine RnA.iconst (v := nI 0) dL_law_20 (by decide) ?_
  refine RnA.istore dL_law_21 (by decide) rfl st7_4 ?_
  refine RnA.toE (fun k j hp => ?_) ?_
  · have h1 := hG k j hp
    have h2 := pos_lt (k, j) hp
    dsimp only at h2
    omega
  exact law_loop hx hf hS 512 0 176 34158 mem0 none none Rr0 (by omega) (by decide) (by decide) (by decide)
set_option maxRecDepth 40000 in
/-- THE LAW, from its entry -/
theorem whole_start {p : Program} {e : Env} {s : State} {m : MethodId} {below : List Frame} {meth : Method} {c : Code} (l : Launch) (hl : l.stackTraces = false) {b L : Nat} {xs : Nat → Int32} (hL : L ≤ 2560) (C0 : lw_At p s m meth c b L xs) : W p l e room_1 s m #[Value.ref b] below meth c s.heap [] 0 0 (lw_Z below #[Value.ref b] s) (entryFrame m ([Value.ref b] : List Value).toArray 7) := by
  obtain ⟨hx, hb, hr, hml, hown, hts, hX, hbl, hlocks, hgv⟩ := C0
  obtain ⟨D, gc, hK⟩ := k_entry hts
  obtain ⟨a50, a51, a52, a53, a55, hRO⟩ := ro_entry hts hgv hX hbl
  obtain ⟨G, hG1, hG2, hG3, hG4, hG5⟩ : ∃ G : GX, G.1 = l ∧ gD G = D ∧ gC G = gc ∧ (∀ k j, gA G k j = if k < 42 then s.heap.size + pos k j else if k = 50 then a50 else if k = 51 then a51 j else if k = 52 then a52 j else if k = 53 then a53 j else if k = 54 then b else a55) ∧ gS G = (L, xs) := ⟨(l, D, gc, fun k j => if k < 42 then s.heap.size + pos k j else if k = 50 then a50 else if k = 51 then a51 j else if k = 52 then a52 j else if k = 53 then a53 j else if k = 54 then b else a55, (L, xs)), rfl, rfl, rfl, fun _ _ => rfl, rfl⟩
  subst hG1
  have hG : AdG G s.heap.size := fun k j hp => by rw [hG4, if_pos (mem_PL.mp hp).1]
  have hf : ∀ q, gPool G s.heap.size q → s.heap.size ≤ q := fun q h => h.elim (fun ⟨k, j, hp, e9⟩ => by rw [← e9, hG k j hp]; omega) id
  have hro := RO.narrow (hRO G ⟨by rw [hG4]; rfl, fun j => by rw [hG4]; rfl, fun j => by rw [hG4]; rfl, fun j => by rw [hG4]; rfl, by rw [hG4]; rfl, by rw [hG4]; rfl⟩ hG5) hf
  have hrx : zX G (p, e, s, m, #[Value.ref b], below, meth, c) := ROx.narrow (rox_entry hl hts hgv) hf
  have hcx : CxF G iL (p, e, s, m, #[Value.ref b], below, meth, c) := ⟨hx, hb, hml, hr, hown, fun w hw => hts w (List.mem_filter.mp hw).1, hK G hG2 hG3, hlocks, hG.inj, hro⟩
  have h54 : gA G 54 0 = b := by rw [hG4]; rfl
  have hl9 := lv_entry ([vR 54 0].map (cv (gA G))) (n := 7) (by rw [ent_len]; exact Nat.le_of_ble_eq_true rfl)
  have hls : entA [vR 54 0] ++ List.replicate (7 - (entA [vR 54 0]).length) none = [some (vR 54 0), none, none, none, none, none, none] := rfl
  rw [lg_entry_eq]
  rw [← lvL_ent (gA G) (7 - (entA [vR 54 0]).length), hls] at hl9
  have hcv : [vR 54 0].map (cv (gA G)) = [Value.ref b] := by rw [← h54]; rfl
  rw [hcv] at hl9
  have hok : okVs [vR 54 0] := fun v hv => by rw [List.mem_singleton.mp hv]; exact Nat.one_pos
  exact law_start hG hrx (roi_entry hts) hf (by rw [hG5]; exact hL) hcx s.heap [] _ ⟨rfl, Nat.le_refl _, (fun x h => nomatch h), fun k j hp h1 h2 => absurd h2 (Nat.not_lt.mpr h1)⟩ va_S.rf hl9 trivial (hls ▸ okLs_ent hok _) (fun v h => nomatch h)
