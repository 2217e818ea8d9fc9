/-! RnE: as Rn, on one machine z, with cells cs used, to any end Q -/
abbrev MX : Type := Program × Env × State × MethodId × Array Value × List Frame × Method × Code
def CxF (G : GX) (I : MIx) (z : MX) : Prop := Cx G I z.1 z.2.2.1 z.2.2.2.1 z.2.2.2.2.1 z.2.2.2.2.2.2.1 z.2.2.2.2.2.2.2
def RnE (G : GX) (I : MIx) (z : MX) (cs : Nat × Nat) (Q : State → Prop) (pc : Nat) (ls : List (Option AV)) (st : List AV) (M : Mem) : Prop :=
  CxF G I z → ∀ (H : Heap) (locs : List Loc) (lsA : Array Slot), Pw G M H → va_S (gPool G z.2.2.1.heap.size) z.2.2.1.heap H locs → lv_has lsA I.2.2.1 (lvL (gA G) 0 ls) → okM M → okLs ls → okVs st →
  W z.1 G.1 z.2.1 I.2.2.2.2 z.2.2.1 z.2.2.2.1 z.2.2.2.2.1 z.2.2.2.2.2.1 z.2.2.2.2.2.2.1 z.2.2.2.2.2.2.2 H locs cs.1 cs.2 Q (F0 z.2.2.2.1 pc lsA (st.map (cv (gA G))))
section ERULES
variable {G : GX} {I : MIx} {z : MX} {cs : Nat × Nat} {Q : State → Prop} {pc : Nat} {ls : List (Option AV)} {st : List AV} {M : Mem}
theorem RnE.iconst {n : Int} {v : Int32} (hd : decode I.1 pc = .ok (.iconst n, 1)) (hv : Int32.ofInt n = v) (k : RnE G I z cs Q (pc + 1) ls (vI v :: st) M) : RnE G I z cs Q pc ls (st) M :=
  fun hc H locs lsA hP hS hL hM hLs hSt => lv_iconst hc.1 hc.2.1 hd hv (k hc H locs lsA hP hS hL hM hLs (hSt.I _))
theorem RnE.bipush {n : Int} {v : Int32} (hd : decode I.1 pc = .ok (.bipush n, 2)) (hv : (Int8.ofInt n).toInt32 = v) (k : RnE G I z cs Q (pc + 2) ls (vI v :: st) M) : RnE G I z cs Q pc ls (st) M :=
  fun hc H locs lsA hP hS hL hM hLs hSt => lv_bipush hc.1 hc.2.1 hd hv (k hc H locs lsA hP hS hL hM hLs (hSt.I _))
theorem RnE.sipush {n : Int} {v : Int32} (hd : decode I.1 pc = .ok (.sipush n, 3)) (hv : (Int16.ofInt n).toInt32 = v) (k : RnE G I z cs Q (pc + 3) ls (vI v :: st) M) : RnE G I z cs Q pc ls (st) M :=
  fun hc H locs lsA hP hS hL hM hLs hSt => lv_sipush hc.1 hc.2.1 hd hv (k hc H locs lsA hP hS hL hM hLs (hSt.I _))
theorem RnE.lconst {n : Fin 2} {v : Int64} (hd : decode I.1 pc = .ok (.lconst n, 1)) (hv : Int64.ofNat (n : Nat) = v) (k : RnE G I z cs Q (pc + 1) ls (vJ v :: st) M) : RnE G I z cs Q pc ls (st) M :=
  fun hc H locs lsA hP hS hL hM hLs hSt => lv_lconst hc.1 hc.2.1 hd hv (k hc H locs lsA hP hS hL hM hLs (hSt.J _))
theorem RnE.iadd {x y : Int32} (hd : decode I.1 pc = .ok (.iadd, 1)) (k : RnE G I z cs Q (pc + 1) ls (vI (x + y) :: st) M) : RnE G I z cs Q pc ls (vI y :: vI x :: st) M :=
  fun hc H locs lsA hP hS hL hM hLs hSt => lv_iadd hc.1 hc.2.1 hd (k hc H locs lsA hP hS hL hM hLs (hSt.d.d.I _))
theorem RnE.isub {x y : Int32} (hd : decode I.1 pc = .ok (.isub, 1)) (k : RnE G I z cs Q (pc + 1) ls (vI (x - y) :: st) M) : RnE G I z cs Q pc ls (vI y :: vI x :: st) M :=
  fun hc H locs lsA hP hS hL hM hLs hSt => lv_isub hc.1 hc.2.1 hd (k hc H locs lsA hP hS hL hM hLs (hSt.d.d.I _))
theorem RnE.imul {x y : Int32} (hd : decode I.1 pc = .ok (.imul, 1)) (k : RnE G I z cs Q (pc + 1) ls (vI (x * y) :: st) M) : RnE G I z cs Q pc ls (vI y :: vI x :: st) M :=
  fun hc H locs lsA hP hS hL hM hLs hSt => lv_imul hc.1 hc.2.1 hd (k hc H locs lsA hP hS hL hM hLs (hSt.d.d.I _))
theorem RnE.iand {x y : Int32} (hd : decode I.1 pc = .ok (.iand, 1)) (k : RnE G I z cs Q (pc + 1) ls (vI (x &&& y) :: st) M) : RnE G I z cs Q pc ls (vI y :: vI x :: st) M :=
  fun hc H locs lsA hP hS hL hM hLs hSt => lv_iand hc.1 hc.2.1 hd (k hc H locs lsA hP hS hL hM hLs (hSt.d.d.I _))
theorem RnE.ior {x y : Int32} (hd : decode I.1 pc = .ok (.ior, 1)) (k : RnE G I z cs Q (pc + 1) ls (vI (x ||| y) :: st) M) : RnE G I z cs Q pc ls (vI y :: vI x :: st) M :=
  fun hc H locs lsA hP hS hL hM hLs hSt => lv_ior hc.1 hc.2.1 hd (k hc H locs lsA hP hS hL hM hLs (hSt.d.d.I _))
theorem RnE.ixor {x y : Int32} (hd : decode I.1 pc = .ok (.ixor, 1)) (k : RnE G I z cs Q (pc + 1) ls (vI (x ^^^ y) :: st) M) : RnE G I z cs Q pc ls (vI y :: vI x :: st) M :=
  fun hc H locs lsA hP hS hL hM hLs hSt => lv_ixor hc.1 hc.2.1 hd (k hc H locs lsA hP hS hL hM hLs (hSt.d.d.I _))
theorem RnE.ishl {x y : Int32} (hd : decode I.1 pc = .ok (.ishl, 1)) (k : RnE G I z cs Q (pc + 1) ls (vI (x <<< (y &&& 31)) :: st) M) : RnE G I z cs Q pc ls (vI y :: vI x :: st) M :=
  fun hc H locs lsA hP hS hL hM hLs hSt => lv_ishl hc.1 hc.2.1 hd (k hc H locs lsA hP hS hL hM hLs (hSt.d.d.I _))
theorem RnE.ishr {x y : Int32} (hd : decode I.1 pc = .ok (.ishr, 1)) (k : RnE G I z cs Q (pc + 1) ls (vI (x >>> (y &&& 31)) :: st) M) : RnE G I z cs Q pc ls (vI y :: vI x :: st) M :=
  fun hc H locs lsA hP hS hL hM hLs hSt => lv_ishr hc.1 hc.2.1 hd (k hc H locs lsA hP hS hL hM hLs (hSt.d.d.I _))
theorem RnE.idiv {x y : Int32} (hd : decode I.1 pc = .ok (.idiv, 1)) (hne : ¬ y = 0) (k : RnE G I z cs Q (pc + 1) ls (vI (x / y) :: st) M) : RnE G I z cs Q pc ls (vI y :: vI x :: st) M :=
  fun hc H locs lsA hP hS hL hM hLs hSt => lv_idiv hc.1 hc.2.1 hd hne (k hc H locs lsA hP hS hL hM hLs (hSt.d.d.I _))
theorem RnE.irem {x y : Int32} (hd : decode I.1 pc = .ok (.irem, 1)) (hne : ¬ y = 0) (k : RnE G I z cs Q (pc + 1) ls (vI (x - x / y * y) :: st) M) : RnE G I z cs Q pc ls (vI y :: vI x :: st) M :=
  fun hc H locs lsA hP hS hL hM hLs hSt => lv_irem hc.1 hc.2.1 hd hne (k hc H locs lsA hP hS hL hM hLs (hSt.d.d.I _))
theorem RnE.ineg {x : Int32} (hd : decode I.1 pc = .ok (.ineg, 1)) (k : RnE G I z cs Q (pc + 1) ls (vI (-x) :: st) M) : RnE G I z cs Q pc ls (vI x :: st) M :=
  fun hc H locs lsA hP hS hL hM hLs hSt => lv_ineg hc.1 hc.2.1 hd (k hc H locs lsA hP hS hL hM hLs (hSt.d.I _))
theorem RnE.iushr {x y : Int32} (hd : decode I.1 pc = .ok (.iushr, 1)) (k : RnE G I z cs Q (pc + 1) ls (vI ((x.toUInt32 >>> (y.toUInt32 &&& Int32.toUInt32 31)).toInt32) :: st) M) : RnE G I z cs Q pc ls (vI y :: vI x :: st) M :=
  fun hc H locs lsA hP hS hL hM hLs hSt => lv_iushr hc.1 hc.2.1 hd rfl (k hc H locs lsA hP hS hL hM hLs (hSt.d.d.I _))
theorem RnE.ladd {x y : Int64} (hd : decode I.1 pc = .ok (.ladd, 1)) (k : RnE G I z cs Q (pc + 1) ls (vJ (x + y) :: st) M) : RnE G I z cs Q pc ls (vJ y :: vJ x :: st) M :=
  fun hc H locs lsA hP hS hL hM hLs hSt => lv_ladd hc.1 hc.2.1 hd (k hc H locs lsA hP hS hL hM hLs (hSt.d.d.J _))
theorem RnE.lsub {x y : Int64} (hd : decode I.1 pc = .ok (.lsub, 1)) (k : RnE G I z cs Q (pc + 1) ls (vJ (x - y) :: st) M) : RnE G I z cs Q pc ls (vJ y :: vJ x :: st) M :=
  fun hc H locs lsA hP hS hL hM hLs hSt => lv_lsub hc.1 hc.2.1 hd (k hc H locs lsA hP hS hL hM hLs (hSt.d.d.J _))
theorem RnE.land {x y : Int64} (hd : decode I.1 pc = .ok (.land, 1)) (k : RnE G I z cs Q (pc + 1) ls (vJ (x &&& y) :: st) M) : RnE G I z cs Q pc ls (vJ y :: vJ x :: st) M :=
  fun hc H locs lsA hP hS hL hM hLs hSt => lv_land hc.1 hc.2.1 hd (k hc H locs lsA hP hS hL hM hLs (hSt.d.d.J _))
theorem RnE.lor {x y : Int64} (hd : decode I.1 pc = .ok (.lor, 1)) (k : RnE G I z cs Q (pc + 1) ls (vJ (x ||| y) :: st) M) : RnE G I z cs Q pc ls (vJ y :: vJ x :: st) M :=
  fun hc H locs lsA hP hS hL hM hLs hSt => lv_lor hc.1 hc.2.1 hd (k hc H locs lsA hP hS hL hM hLs (hSt.d.d.J _))
theorem RnE.lneg {x : Int64} (hd : decode I.1 pc = .ok (.lneg, 1)) (k : RnE G I z cs Q (pc + 1) ls (vJ (-x) :: st) M) : RnE G I z cs Q pc ls (vJ x :: st) M :=
  fun hc H locs lsA hP hS hL hM hLs hSt => lv_lneg hc.1 hc.2.1 hd (k hc H locs lsA hP hS hL hM hLs (hSt.d.J _))
theorem RnE.lshl {x : Int64} {y : Int32} (hd : decode I.1 pc = .ok (.lshl, 1)) (k : RnE G I z cs Q (pc + 1) ls (vJ (x <<< (y.toInt64 &&& 63)) :: st) M) : RnE G I z cs Q pc ls (vI y :: vJ x :: st) M :=
  fun hc H locs lsA hP hS hL hM hLs hSt => lv_lshl hc.1 hc.2.1 hd rfl (k hc H locs lsA hP hS hL hM hLs (hSt.d.d.J _))
theorem RnE.lshr {x : Int64} {y : Int32} (hd : decode I.1 pc = .ok (.lshr, 1)) (k : RnE G I z cs Q (pc + 1) ls (vJ (x >>> (y.toInt64 &&& 63)) :: st) M) : RnE G I z cs Q pc ls (vI y :: vJ x :: st) M :=
  fun hc H locs lsA hP hS hL hM hLs hSt => lv_lshr hc.1 hc.2.1 hd rfl (k hc H locs lsA hP hS hL hM hLs (hSt.d.d.J _))
theorem RnE.lcmp {x y : Int64} (hd : decode I.1 pc = .ok (.lcmp, 1)) (k : RnE G I z cs Q (pc + 1) ls (vI (lg_cmp x y) :: st) M) : RnE G I z cs Q pc ls (vJ y :: vJ x :: st) M :=
  fun hc H locs lsA hP hS hL hM hLs hSt => W.lcmp hc.1 hc.2.1 hd (k hc H locs lsA hP hS hL hM hLs (hSt.d.d.I _))
theorem RnE.i2l {x : Int32} (hd : decode I.1 pc = .ok (.i2l, 1)) (k : RnE G I z cs Q (pc + 1) ls (vJ x.toInt64 :: st) M) : RnE G I z cs Q pc ls (vI x :: st) M :=
  fun hc H locs lsA hP hS hL hM hLs hSt => lv_i2l hc.1 hc.2.1 hd rfl (k hc H locs lsA hP hS hL hM hLs (hSt.d.J _))
theorem RnE.l2i {x : Int64} (hd : decode I.1 pc = .ok (.l2i, 1)) (k : RnE G I z cs Q (pc + 1) ls (vI x.toInt32 :: st) M) : RnE G I z cs Q pc ls (vJ x :: st) M :=
  fun hc H locs lsA hP hS hL hM hLs hSt => lv_l2i hc.1 hc.2.1 hd rfl (k hc H locs lsA hP hS hL hM hLs (hSt.d.I _))
theorem RnE.i2b {x : Int32} (hd : decode I.1 pc = .ok (.i2b, 1)) (k : RnE G I z cs Q (pc + 1) ls (vI x.toInt8.toInt32 :: st) M) : RnE G I z cs Q pc ls (vI x :: st) M :=
  fun hc H locs lsA hP hS hL hM hLs hSt => lv_i2b hc.1 hc.2.1 hd rfl (k hc H locs lsA hP hS hL hM hLs (hSt.d.I _))
theorem RnE.i2c {x : Int32} (hd : decode I.1 pc = .ok (.i2c, 1)) (k : RnE G I z cs Q (pc + 1) ls (vI (x.toUInt32 % 65536).toInt32 :: st) M) : RnE G I z cs Q pc ls (vI x :: st) M :=
  fun hc H locs lsA hP hS hL hM hLs hSt => lv_i2c hc.1 hc.2.1 hd rfl (k hc H locs lsA hP hS hL hM hLs (hSt.d.I _))
theorem RnE.iload_n {x : Int32} {i : Nat} {k : Fin 4} (hd : decode I.1 pc = .ok (.iload_n k, 1)) (hi : (k : Nat) = i) (hl : ls[i]? = some (some (vI x))) (k9 : RnE G I z cs Q (pc + 1) ls (vI x :: st) M) : RnE G I z cs Q pc ls st M :=
  fun hc H locs lsA hP hS hL hM hLs hSt => lv_iload_n hc.1 hc.2.1 hd hi (lvAt hL hl) (k9 hc H locs lsA hP hS hL hM hLs (okVs.c (hLs _ _ hl) hSt))
theorem RnE.iload {x : Int32} {i : Nat} (hd : decode I.1 pc = .ok (.iload i, 2)) (hl : ls[i]? = some (some (vI x))) (k9 : RnE G I z cs Q (pc + 2) ls (vI x :: st) M) : RnE G I z cs Q pc ls st M :=
  fun hc H locs lsA hP hS hL hM hLs hSt => lv_iload hc.1 hc.2.1 hd (lvAt hL hl) (k9 hc H locs lsA hP hS hL hM hLs (okVs.c (hLs _ _ hl) hSt))
theorem RnE.lload_n {x : Int64} {i : Nat} {k : Fin 4} (hd : decode I.1 pc = .ok (.lload_n k, 1)) (hi : (k : Nat) = i) (hl : ls[i]? = some (some (vJ x))) (k9 : RnE G I z cs Q (pc + 1) ls (vJ x :: st) M) : RnE G I z cs Q pc ls st M :=
  fun hc H locs lsA hP hS hL hM hLs hSt => lv_lload_n hc.1 hc.2.1 hd hi (lvAt hL hl) (k9 hc H locs lsA hP hS hL hM hLs (okVs.c (hLs _ _ hl) hSt))
theorem RnE.lload {x : Int64} {i : Nat} (hd : decode I.1 pc = .ok (.lload i, 2)) (hl : ls[i]? = some (some (vJ x))) (k9 : RnE G I z cs Q (pc + 2) ls (vJ x :: st) M) : RnE G I z cs Q pc ls st M :=
  fun hc H locs lsA hP hS hL hM hLs hSt => lv_lload hc.1 hc.2.1 hd (lvAt hL hl) (k9 hc H locs lsA hP hS hL hM hLs (okVs.c (hLs _ _ hl) hSt))
theorem RnE.aload_n {r j : Nat} {i : Nat} {k : Fin 4} (hd : decode I.1 pc = .ok (.aload_n k, 1)) (hi : (k : Nat) = i) (hl : ls[i]? = some (some (vR r j))) (k9 : RnE G I z cs Q (pc + 1) ls (vR r j :: st) M) : RnE G I z cs Q pc ls st M :=
  fun hc H locs lsA hP hS hL hM hLs hSt => lv_aload_n hc.1 hc.2.1 hd hi (lvAt hL hl) (k9 hc H locs lsA hP hS hL hM hLs (okVs.c (hLs _ _ hl) hSt))
theorem RnE.aload_nN {i : Nat} {k : Fin 4} (hd : decode I.1 pc = .ok (.aload_n k, 1)) (hi : (k : Nat) = i) (hl : ls[i]? = some (some vN)) (k9 : RnE G I z cs Q (pc + 1) ls (vN :: st) M) : RnE G I z cs Q pc ls st M :=
  fun hc H locs lsA hP hS hL hM hLs hSt => lv_aload_nN hc.1 hc.2.1 hd hi (lvAt hL hl) (k9 hc H locs lsA hP hS hL hM hLs (okVs.c (hLs _ _ hl) hSt))
theorem RnE.aload {r j : Nat} {i : Nat} (hd : decode I.1 pc = .ok (.aload i, 2)) (hl : ls[i]? = some (some (vR r j))) (k9 : RnE G I z cs Q (pc + 2) ls (vR r j :: st) M) : RnE G I z cs Q pc ls st M :=
  fun hc H locs lsA hP hS hL hM hLs hSt => lv_aload hc.1 hc.2.1 hd (lvAt hL hl) (k9 hc H locs lsA hP hS hL hM hLs (okVs.c (hLs _ _ hl) hSt))
theorem RnE.aloadN {i : Nat} (hd : decode I.1 pc = .ok (.aload i, 2)) (hl : ls[i]? = some (some vN)) (k9 : RnE G I z cs Q (pc + 2) ls (vN :: st) M) : RnE G I z cs Q pc ls st M :=
  fun hc H locs lsA hP hS hL hM hLs hSt => lv_aloadN hc.1 hc.2.1 hd (lvAt hL hl) (k9 hc H locs lsA hP hS hL hM hLs (okVs.c (hLs _ _ hl) hSt))
theorem RnE.istore_n {x : Int32} {i : Nat} {ls' : List (Option AV)} {k : Fin 4} (hd : decode I.1 pc = .ok (.istore_n k, 1)) (hi : (k : Nat) = i) (hn : i < I.2.2.1) (hp : notL ls i = true) (hl : ls.set i (some (vI x)) = ls') (k9 : RnE G I z cs Q (pc + 1) ls' st M) : RnE G I z cs Q pc ls (vI x :: st) M :=
  fun hc H locs lsA hP hS hL hM hLs hSt => lv_istore_n hc.1 hc.2.1 hd hi hL hn rfl (fun lsB hB => k9 hc H locs lsB hP hS (hl ▸ lvSet1 (v := vI x) hp lsB hB) hM (hl ▸ hLs.set hSt.hd) hSt.d)
theorem RnE.istore {x : Int32} {i : Nat} {ls' : List (Option AV)} (hd : decode I.1 pc = .ok (.istore i, 2)) (hn : i < I.2.2.1) (hp : notL ls i = true) (hl : ls.set i (some (vI x)) = ls') (k9 : RnE G I z cs Q (pc + 2) ls' st M) : RnE G I z cs Q pc ls (vI x :: st) M :=
  fun hc H locs lsA hP hS hL hM hLs hSt => lv_istore hc.1 hc.2.1 hd hL hn rfl (fun lsB hB => k9 hc H locs lsB hP hS (hl ▸ lvSet1 (v := vI x) hp lsB hB) hM (hl ▸ hLs.set hSt.hd) hSt.d)
theorem RnE.astore_n {r j : Nat} {i : Nat} {ls' : List (Option AV)} {k : Fin 4} (hd : decode I.1 pc = .ok (.astore_n k, 1)) (hi : (k : Nat) = i) (hn : i < I.2.2.1) (hp : notL ls i = true) (hl : ls.set i (some (vR r j)) = ls') (k9 : RnE G I z cs Q (pc + 1) ls' st M) : RnE G I z cs Q pc ls (vR r j :: st) M :=
  fun hc H locs lsA hP hS hL hM hLs hSt => lv_astore_n hc.1 hc.2.1 hd hi hL hn rfl (fun lsB hB => k9 hc H locs lsB hP hS (hl ▸ lvSet1 (v := vR r j) hp lsB hB) hM (hl ▸ hLs.set hSt.hd) hSt.d)
theorem RnE.astore {r j : Nat} {i : Nat} {ls' : List (Option AV)} (hd : decode I.1 pc = .ok (.astore i, 2)) (hn : i < I.2.2.1) (hp : notL ls i = true) (hl : ls.set i (some (vR r j)) = ls') (k9 : RnE G I z cs Q (pc + 2) ls' st M) : RnE G I z cs Q pc ls (vR r j :: st) M :=
  fun hc H locs lsA hP hS hL hM hLs hSt => lv_astore hc.1 hc.2.1 hd hL hn rfl (fun lsB hB => k9 hc H locs lsB hP hS (hl ▸ lvSet1 (v := vR r j) hp lsB hB) hM (hl ▸ hLs.set hSt.hd) hSt.d)
theorem RnE.astore_nN {i : Nat} {ls' : List (Option AV)} {k : Fin 4} (hd : decode I.1 pc = .ok (.astore_n k, 1)) (hi : (k : Nat) = i) (hn : i < I.2.2.1) (hp : notL ls i = true) (hl : ls.set i (some vN) = ls') (k9 : RnE G I z cs Q (pc + 1) ls' st M) : RnE G I z cs Q pc ls (vN :: st) M :=
  fun hc H locs lsA hP hS hL hM hLs hSt => lv_astore_nN hc.1 hc.2.1 hd hi hL hn rfl (fun lsB hB => k9 hc H locs lsB hP hS (hl ▸ lvSet1 (v := vN) hp lsB hB) hM (hl ▸ hLs.set hSt.hd) hSt.d)
theorem RnE.astoreN {i : Nat} {ls' : List (Option AV)} (hd : decode I.1 pc = .ok (.astore i, 2)) (hn : i < I.2.2.1) (hp : notL ls i = true) (hl : ls.set i (some vN) = ls') (k9 : RnE G I z cs Q (pc + 2) ls' st M) : RnE G I z cs Q pc ls (vN :: st) M :=
  fun hc H locs lsA hP hS hL hM hLs hSt => lv_astoreN hc.1 hc.2.1 hd hL hn rfl (fun lsB hB => k9 hc H locs lsB hP hS (hl ▸ lvSet1 (v := vN) hp lsB hB) hM (hl ▸ hLs.set hSt.hd) hSt.d)
theorem RnE.lstore_n {x : Int64} {i : Nat} {ls' : List (Option AV)} {k : Fin 4} (hd : decode I.1 pc = .ok (.lstore_n k, 1)) (hi : (k : Nat) = i) (hn : i + 1 < I.2.2.1) (hp : notL ls i = true) (hl : (ls.set i (some (vJ x))).set (i + 1) none = ls') (k9 : RnE G I z cs Q (pc + 1) ls' st M) : RnE G I z cs Q pc ls (vJ x :: st) M :=
  fun hc H locs lsA hP hS hL hM hLs hSt => lv_lstore_n hc.1 hc.2.1 hd hi hL hn rfl (fun lsB hB => k9 hc H locs lsB hP hS (hl ▸ lvSet2 (v := vJ x) hp lsB hB) hM (hl ▸ (hLs.set hSt.hd).set0) hSt.d)
theorem RnE.lstore {x : Int64} {i : Nat} {ls' : List (Option AV)} (hd : decode I.1 pc = .ok (.lstore i, 2)) (hn : i + 1 < I.2.2.1) (hp : notL ls i = true) (hl : (ls.set i (some (vJ x))).set (i + 1) none = ls') (k9 : RnE G I z cs Q (pc + 2) ls' st M) : RnE G I z cs Q pc ls (vJ x :: st) M :=
  fun hc H locs lsA hP hS hL hM hLs hSt => lv_lstore hc.1 hc.2.1 hd hL hn rfl (fun lsB hB => k9 hc H locs lsB hP hS (hl ▸ lvSet2 (v := vJ x) hp lsB hB) hM (hl ▸ (hLs.set hSt.hd).set0) hSt.d)
theorem RnE.iaddN {x y : Nat} (hd : decode I.1 pc = .ok (.iadd, 1)) (k : RnE G I z cs Q (pc + 1) ls (vI (nI (x + y)) :: st) M) : RnE G I z cs Q pc ls (vI (nI y) :: vI (nI x) :: st) M := RnE.iadd hd (by rw [nI_add]; exact k)
theorem RnE.imulN {x y : Nat} (hd : decode I.1 pc = .ok (.imul, 1)) (k : RnE G I z cs Q (pc + 1) ls (vI (nI (x * y)) :: st) M) : RnE G I z cs Q pc ls (vI (nI y) :: vI (nI x) :: st) M := RnE.imul hd (by rw [pk_mul]; exact k)
theorem RnE.iinc {x v : Int32} {n : Int} {i : Nat} {ls' : List (Option AV)} (hd : decode I.1 pc = .ok (.iinc i n, 3)) (hx : ls[i]? = some (some (vI x))) (hv : x + Int32.ofInt n = v) (hn : i < I.2.2.1) (hp : notL ls i = true) (hl : ls.set i (some (vI v)) = ls') (k9 : RnE G I z cs Q (pc + 3) ls' st M) : RnE G I z cs Q pc ls st M := by
  obtain ⟨p, e, s, m, args, below, meth, c⟩ := z
  intro hc H locs lsA hP hS hL hM hLs hSt
  obtain ⟨q, hq⟩ := List.getElem?_of_mem (mem_lvL.mpr ⟨i, _, hx, by rw [Nat.zero_add]⟩ : (i, cv (gA G) (vI x)) ∈ lvL (gA G) 0 ls)
  exact lv_iinc (k := q) hc.1 hc.2.1 hd hL hq hv hn rfl (fun lsB hB => k9 hc H locs lsB hP hS (hl ▸ lvSet1 (v := vI v) hp lsB hB) hM (hl ▸ hLs.set (v := vI v) trivial) hSt)
theorem RnE.dupI {x y : Int32} {r j : Nat} (hd : decode I.1 pc = .ok (.dup, 1)) (k : RnE G I z cs Q (pc + 1) ls (vI x :: vI x :: st) M) : RnE G I z cs Q pc ls (vI x :: st) M :=
  fun hc H locs lsA hP hS hL hM hLs hSt => lv_dup hc.1 hc.2.1 hd rfl (k hc H locs lsA hP hS hL hM hLs (hSt.I _))
theorem RnE.dupR {x y : Int32} {r j : Nat} (hd : decode I.1 pc = .ok (.dup, 1)) (k : RnE G I z cs Q (pc + 1) ls (vR r j :: vR r j :: st) M) : RnE G I z cs Q pc ls (vR r j :: st) M :=
  fun hc H locs lsA hP hS hL hM hLs hSt => lv_dup hc.1 hc.2.1 hd rfl (k hc H locs lsA hP hS hL hM hLs (okVs.c hSt.hd hSt))
theorem RnE.popI {x y : Int32} {r j : Nat} (hd : decode I.1 pc = .ok (.pop, 1)) (k : RnE G I z cs Q (pc + 1) ls (st) M) : RnE G I z cs Q pc ls (vI x :: st) M :=
  fun hc H locs lsA hP hS hL hM hLs hSt => lv_pop hc.1 hc.2.1 hd rfl (k hc H locs lsA hP hS hL hM hLs hSt.d)
theorem RnE.dup_x1I {x y : Int32} {r j : Nat} (hd : decode I.1 pc = .ok (.dup_x1, 1)) (k : RnE G I z cs Q (pc + 1) ls (vI x :: vR r j :: vI x :: st) M) : RnE G I z cs Q pc ls (vI x :: vR r j :: st) M :=
  fun hc H locs lsA hP hS hL hM hLs hSt => lv_dup_x1 hc.1 hc.2.1 hd rfl rfl (k hc H locs lsA hP hS hL hM hLs ((okVs.c hSt.d.hd (hSt.d.d.I _)).I _))
theorem RnE.dup_x2I {x y : Int32} {r j : Nat} (hd : decode I.1 pc = .ok (.dup_x2, 1)) (k : RnE G I z cs Q (pc + 1) ls (vI x :: vI y :: vR r j :: vI x :: st) M) : RnE G I z cs Q pc ls (vI x :: vI y :: vR r j :: st) M :=
  fun hc H locs lsA hP hS hL hM hLs hSt => lv_dup_x2 hc.1 hc.2.1 hd rfl rfl rfl (k hc H locs lsA hP hS hL hM hLs (((okVs.c hSt.d.d.hd (hSt.d.d.d.I _)).I _).I _))
theorem RnE.dup2IR {x y : Int32} {r j : Nat} (hd : decode I.1 pc = .ok (.dup2, 1)) (k : RnE G I z cs Q (pc + 1) ls (vI x :: vR r j :: vI x :: vR r j :: st) M) : RnE G I z cs Q pc ls (vI x :: vR r j :: st) M :=
  fun hc H locs lsA hP hS hL hM hLs hSt => lv_dup2_11 hc.1 hc.2.1 hd rfl rfl (k hc H locs lsA hP hS hL hM hLs ((okVs.c hSt.d.hd hSt).I _))
theorem RnE.if_eq {x y : Int32} {off : Int} {tgt : Nat} (hd : decode I.1 pc = .ok (.ifCond .eq off, 3)) (ht : (pc : Int) + off = (tgt : Int)) (kt : x = 0 → RnE G I z cs Q tgt ls st M) (kf : ¬ x = 0 → RnE G I z cs Q (pc + 3) ls st M) : RnE G I z cs Q pc ls (vI x :: st) M :=
  fun hc H locs lsA hP hS hL hM hLs hSt => lv_if_eq hc.1 hc.2.1 hd ht (fun h9 => kt h9 hc H locs lsA hP hS hL hM hLs hSt.d) (fun h9 => kf h9 hc H locs lsA hP hS hL hM hLs hSt.d)
theorem RnE.icmp_eq {x y : Int32} {off : Int} {tgt : Nat} (hd : decode I.1 pc = .ok (.if_icmp .eq off, 3)) (ht : (pc : Int) + off = (tgt : Int)) (kt : x = y → RnE G I z cs Q tgt ls st M) (kf : ¬ x = y → RnE G I z cs Q (pc + 3) ls st M) : RnE G I z cs Q pc ls (vI y :: vI x :: st) M :=
  fun hc H locs lsA hP hS hL hM hLs hSt => lv_icmp_eq hc.1 hc.2.1 hd ht (fun h9 => kt h9 hc H locs lsA hP hS hL hM hLs hSt.d.d) (fun h9 => kf h9 hc H locs lsA hP hS hL hM hLs hSt.d.d)
theorem RnE.if_ne {x y : Int32} {off : Int} {tgt : Nat} (hd : decode I.1 pc = .ok (.ifCond .ne off, 3)) (ht : (pc : Int) + off = (tgt : Int)) (kt : ¬ x = 0 → RnE G I z cs Q tgt ls st M) (kf : x = 0 → RnE G I z cs Q (pc + 3) ls st M) : RnE G I z cs Q pc ls (vI x :: st) M :=
  fun hc H locs lsA hP hS hL hM hLs hSt => lv_if_ne hc.1 hc.2.1 hd ht (fun h9 => kt h9 hc H locs lsA hP hS hL hM hLs hSt.d) (fun h9 => kf h9 hc H locs lsA hP hS hL hM hLs hSt.d)
theorem RnE.icmp_ne {x y : Int32} {off : Int} {tgt : Nat} (hd : decode I.1 pc = .ok (.if_icmp .ne off, 3)) (ht : (pc : Int) + off = (tgt : Int)) (kt : ¬ x = y → RnE G I z cs Q tgt ls st M) (kf : x = y → RnE G I z cs Q (pc + 3) ls st M) : RnE G I z cs Q pc ls (vI y :: vI x :: st) M :=
  fun hc H locs lsA hP hS hL hM hLs hSt => lv_icmp_ne hc.1 hc.2.1 hd ht (fun h9 => kt h9 hc H locs lsA hP hS hL hM hLs hSt.d.d) (fun h9 => kf h9 hc H locs lsA hP hS hL hM hLs hSt.d.d)
theorem RnE.if_lt {x y : Int32} {off : Int} {tgt : Nat} (hd : decode I.1 pc = .ok (.ifCond .lt off, 3)) (ht : (pc : Int) + off = (tgt : Int)) (kt : x < 0 → RnE G I z cs Q tgt ls st M) (kf : ¬ x < 0 → RnE G I z cs Q (pc + 3) ls st M) : RnE G I z cs Q pc ls (vI x :: st) M :=
  fun hc H locs lsA hP hS hL hM hLs hSt => lv_if_lt hc.1 hc.2.1 hd ht (fun h9 => kt h9 hc H locs lsA hP hS hL hM hLs hSt.d) (fun h9 => kf h9 hc H locs lsA hP hS hL hM hLs hSt.d)
theorem RnE.icmp_lt {x y : Int32} {off : Int} {tgt : Nat} (hd : decode I.1 pc = .ok (.if_icmp .lt off, 3)) (ht : (pc : Int) + off = (tgt : Int)) (kt : x < y → RnE G I z cs Q tgt ls st M) (kf : ¬ x < y → RnE G I z cs Q (pc + 3) ls st M) : RnE G I z cs Q pc ls (vI y :: vI x :: st) M :=
  fun hc H locs lsA hP hS hL hM hLs hSt => lv_icmp_lt hc.1 hc.2.1 hd ht (fun h9 => kt h9 hc H locs lsA hP hS hL hM hLs hSt.d.d) (fun h9 => kf h9 hc H locs lsA hP hS hL hM hLs hSt.d.d)
theorem RnE.if_ge {x y : Int32} {off : Int} {tgt : Nat} (hd : decode I.1 pc = .ok (.ifCond .ge off, 3)) (ht : (pc : Int) + off = (tgt : Int)) (kt : 0 ≤ x → RnE G I z cs Q tgt ls st M) (kf : ¬ 0 ≤ x → RnE G I z cs Q (pc + 3) ls st M) : RnE G I z cs Q pc ls (vI x :: st) M :=
  fun hc H locs lsA hP hS hL hM hLs hSt => lv_if_ge hc.1 hc.2.1 hd ht (fun h9 => kt h9 hc H locs lsA hP hS hL hM hLs hSt.d) (fun h9 => kf h9 hc H locs lsA hP hS hL hM hLs hSt.d)
theorem RnE.icmp_ge {x y : Int32} {off : Int} {tgt : Nat} (hd : decode I.1 pc = .ok (.if_icmp .ge off, 3)) (ht : (pc : Int) + off = (tgt : Int)) (kt : y ≤ x → RnE G I z cs Q tgt ls st M) (kf : ¬ y ≤ x → RnE G I z cs Q (pc + 3) ls st M) : RnE G I z cs Q pc ls (vI y :: vI x :: st) M :=
  fun hc H locs lsA hP hS hL hM hLs hSt => lv_icmp_ge hc.1 hc.2.1 hd ht (fun h9 => kt h9 hc H locs lsA hP hS hL hM hLs hSt.d.d) (fun h9 => kf h9 hc H locs lsA hP hS hL hM hLs hSt.d.d)
theorem RnE.if_gt {x y : Int32} {off : Int} {tgt : Nat} (hd : decode I.1 pc = .ok (.ifCond .gt off, 3)) (ht : (pc : Int) + off = (tgt : Int)) (kt : 0 < x → RnE G I z cs Q tgt ls st M) (kf : ¬ 0 < x → RnE G I z cs Q (pc + 3) ls st M) : RnE G I z cs Q pc ls (vI x :: st) M :=
  fun hc H locs lsA hP hS hL hM hLs hSt => lv_if_gt hc.1 hc.2.1 hd ht (fun h9 => kt h9 hc H locs lsA hP hS hL hM hLs hSt.d) (fun h9 => kf h9 hc H locs lsA hP hS hL hM hLs hSt.d)
theorem RnE.icmp_gt {x y : Int32} {off : Int} {tgt : Nat} (hd : decode I.1 pc = .ok (.if_icmp .gt off, 3)) (ht : (pc : Int) + off = (tgt : Int)) (kt : y < x → RnE G I z cs Q tgt ls st M) (kf : ¬ y < x → RnE G I z cs Q (pc + 3) ls st M) : RnE G I z cs Q pc ls (vI y :: vI x :: st) M :=
  fun hc H locs lsA hP hS hL hM hLs hSt => lv_icmp_gt hc.1 hc.2.1 hd ht (fun h9 => kt h9 hc H locs lsA hP hS hL hM hLs hSt.d.d) (fun h9 => kf h9 hc H locs lsA hP hS hL hM hLs hSt.d.d)
theorem RnE.if_le {x y : Int32} {off : Int} {tgt : Nat} (hd : decode I.1 pc = .ok (.ifCond .le off, 3)) (ht : (pc : Int) + off = (tgt : Int)) (kt : x ≤ 0 → RnE G I z cs Q tgt ls st M) (kf : ¬ x ≤ 0 → RnE G I z cs Q (pc + 3) ls st M) : RnE G I z cs Q pc ls (vI x :: st) M :=
  fun hc H locs lsA hP hS hL hM hLs hSt => lv_if_le hc.1 hc.2.1 hd ht (fun h9 => kt h9 hc H locs lsA hP hS hL hM hLs hSt.d) (fun h9 => kf h9 hc H locs lsA hP hS hL hM hLs hSt.d)
theorem RnE.icmp_le {x y : Int32} {off : Int} {tgt : Nat} (hd : decode I.1 pc = .ok (.if_icmp .le off, 3)) (ht : (pc : Int) + off = (tgt : Int)) (kt : x ≤ y → RnE G I z cs Q tgt ls st M) (kf : ¬ x ≤ y → RnE G I z cs Q (pc + 3) ls st M) : RnE G I z cs Q pc ls (vI y :: vI x :: st) M :=
  fun hc H locs lsA hP hS hL hM hLs hSt => lv_icmp_le hc.1 hc.2.1 hd ht (fun h9 => kt h9 hc H locs lsA hP hS hL hM hLs hSt.d.d) (fun h9 => kf h9 hc H locs lsA hP hS hL hM hLs hSt.d.d)
theorem RnE.iincN {x n : Nat} {i : Nat} {ls' : List (Option AV)} (hd : decode I.1 pc = .ok (.iinc i (n : Int), 3)) (hx : ls[i]? = some (some (vI (nI x)))) (hv : Int32.ofInt (n : Int) = nI n) (hn : i < I.2.2.1) (hp : notL ls i = true) (hl : ls.set i (some (vI (nI (x + n)))) = ls') (k9 : RnE G I z cs Q (pc + 3) ls' st M) : RnE G I z cs Q pc ls st M := RnE.iinc hd hx (by rw [hv, nI_add]) hn hp hl k9
theorem RnE.icmp_eqN {x y : Nat} {off : Int} {tgt : Nat} (hd : decode I.1 pc = .ok (.if_icmp .eq off, 3)) (ht : (pc : Int) + off = (tgt : Int)) (hx : x < 2 ^ 31) (hy : y < 2 ^ 31) (kt : x = y → RnE G I z cs Q tgt ls st M) (kf : ¬ x = y → RnE G I z cs Q (pc + 3) ls st M) : RnE G I z cs Q pc ls (vI (nI y) :: vI (nI x) :: st) M := RnE.icmp_eq hd ht (fun h => kt ((nI_eq hx hy).mp h)) (fun h => kf (fun e => h ((nI_eq hx hy).mpr e)))
theorem RnE.icmp_neN {x y : Nat} {off : Int} {tgt : Nat} (hd : decode I.1 pc = .ok (.if_icmp .ne off, 3)) (ht : (pc : Int) + off = (tgt : Int)) (hx : x < 2 ^ 31) (hy : y < 2 ^ 31) (kt : ¬ x = y → RnE G I z cs Q tgt ls st M) (kf : x = y → RnE G I z cs Q (pc + 3) ls st M) : RnE G I z cs Q pc ls (vI (nI y) :: vI (nI x) :: st) M := RnE.icmp_ne hd ht (fun h => kt (fun e => h ((nI_eq hx hy).mpr e))) (fun h => kf ((nI_eq hx hy).mp h))
theorem RnE.icmp_ltN {x y : Nat} {off : Int} {tgt : Nat} (hd : decode I.1 pc = .ok (.if_icmp .lt off, 3)) (ht : (pc : Int) + off = (tgt : Int)) (hx : x < 2 ^ 31) (hy : y < 2 ^ 31) (kt : x < y → RnE G I z cs Q tgt ls st M) (kf : y ≤ x → RnE G I z cs Q (pc + 3) ls st M) : RnE G I z cs Q pc ls (vI (nI y) :: vI (nI x) :: st) M := RnE.icmp_lt hd ht (fun h => kt ((nI_ltI hx hy).mp h)) (fun h => kf (Nat.not_lt.mp fun e => h ((nI_ltI hx hy).mpr e)))
theorem RnE.icmp_geN {x y : Nat} {off : Int} {tgt : Nat} (hd : decode I.1 pc = .ok (.if_icmp .ge off, 3)) (ht : (pc : Int) + off = (tgt : Int)) (hx : x < 2 ^ 31) (hy : y < 2 ^ 31) (kt : y ≤ x → RnE G I z cs Q tgt ls st M) (kf : x < y → RnE G I z cs Q (pc + 3) ls st M) : RnE G I z cs Q pc ls (vI (nI y) :: vI (nI x) :: st) M := RnE.icmp_ge hd ht (fun h => kt ((nI_leI hy hx).mp h)) (fun h => kf (Nat.not_le.mp fun e => h ((nI_leI hy hx).mpr e)))
theorem RnE.icmp_gtN {x y : Nat} {off : Int} {tgt : Nat} (hd : decode I.1 pc = .ok (.if_icmp .gt off, 3)) (ht : (pc : Int) + off = (tgt : Int)) (hx : x < 2 ^ 31) (hy : y < 2 ^ 31) (kt : y < x → RnE G I z cs Q tgt ls st M) (kf : x ≤ y → RnE G I z cs Q (pc + 3) ls st M) : RnE G I z cs Q pc ls (vI (nI y) :: vI (nI x) :: st) M := RnE.icmp_gt hd ht (fun h => kt ((nI_ltI hy hx).mp h)) (fun h => kf (Nat.not_lt.mp fun e => h ((nI_ltI hy hx).mpr e)))
theorem RnE.icmp_leN {x y : Nat} {off : Int} {tgt : Nat} (hd : decode I.1 pc = .ok (.if_icmp .le off, 3)) (ht : (pc : Int) + off = (tgt : Int)) (hx : x < 2 ^ 31) (hy : y < 2 ^ 31) (kt : x ≤ y → RnE G I z cs Q tgt ls st M) (kf : y < x → RnE G I z cs Q (pc + 3) ls st M) : RnE G I z cs Q pc ls (vI (nI y) :: vI (nI x) :: st) M := RnE.icmp_le hd ht (fun h => kt ((nI_leI hx hy).mp h)) (fun h => kf (Nat.not_le.mp fun e => h ((nI_leI hx hy).mpr e)))
theorem RnE.goto {off : Int} {tgt : Nat} (hd : decode I.1 pc = .ok (.goto off, 3)) (ht : (pc : Int) + off = (tgt : Int)) (k : RnE G I z cs Q tgt ls st M) : RnE G I z cs Q pc ls st M :=
  fun hc H locs lsA hP hS hL hM hLs hSt => lv_goto hc.1 hc.2.1 hd ht (k hc H locs lsA hP hS hL hM hLs hSt)
theorem RnE.null (hd : decode I.1 pc = .ok (.aconst_null, 1)) (k : RnE G I z cs Q (pc + 1) ls (vN :: st) M) : RnE G I z cs Q pc ls st M :=
  fun hc H locs lsA hP hS hL hM hLs hSt => lv_null hc.1 hc.2.1 hd (k hc H locs lsA hP hS hL hM hLs (okVs.c trivial hSt))
theorem RnE.tableOut {dflt lo hi : Int} {offs : Array Int} {len : Nat} {x : Int32} {tgt : Nat} (hd : decode I.1 pc = .ok (.tableswitch dflt lo hi offs, len)) (h : x.toInt < lo ∨ hi < x.toInt) (ht : (pc : Int) + dflt = (tgt : Int)) (k : RnE G I z cs Q tgt ls st M) : RnE G I z cs Q pc ls (vI x :: st) M :=
  fun hc H locs lsA hP hS hL hM hLs hSt => lv_tableOut hc.1 hc.2.1 hd h ht (k hc H locs lsA hP hS hL hM hLs hSt.d)
theorem RnE.tableIn {dflt lo hi : Int} {offs : Array Int} {len : Nat} {x : Int32} {off : Int} {tgt : Nat} (hd : decode I.1 pc = .ok (.tableswitch dflt lo hi offs, len)) (h1 : ¬ x.toInt < lo) (h2 : ¬ hi < x.toInt) (ho : offs[(x.toInt - lo).toNat]? = some off) (ht : (pc : Int) + off = (tgt : Int)) (k : RnE G I z cs Q tgt ls st M) : RnE G I z cs Q pc ls (vI x :: st) M :=
  fun hc H locs lsA hP hS hL hM hLs hSt => lv_tableIn hc.1 hc.2.1 hd h1 h2 ho ht (k hc H locs lsA hP hS hL hM hLs hSt.d)
theorem RnE.ldc {index : Nat} {v : Int32} (hd : decode I.1 pc = .ok (.ldc index, 2)) (hw : Cond.constant I.2.1 index v ∈ gw_tbl) (k : RnE G I z cs Q (pc + 2) ls (vI v :: st) M) : RnE G I z cs Q pc ls st M :=
  fun hc H locs lsA hP hS hL hM hLs hSt => lv_ldc hc.1 hc.2.1 hc.2.2.2.2.1 (hc.2.2.2.2.2.1 _ hw) hd (k hc H locs lsA hP hS hL hM hLs (hSt.I _))
theorem RnE.ldc2 {index : Nat} {v : Int64} (hd : decode I.1 pc = .ok (.ldc2_w index, 3)) (hw : Cond.constantLong I.2.1 index v ∈ gw_tbl) (k : RnE G I z cs Q (pc + 3) ls (vJ v :: st) M) : RnE G I z cs Q pc ls st M :=
  fun hc H locs lsA hP hS hL hM hLs hSt => lv_ldc2 hc.1 hc.2.1 hc.2.2.2.2.1 (hc.2.2.2.2.2.1 _ hw) hd (k hc H locs lsA hP hS hL hM hLs (hSt.J _))
theorem RnE.ldcS {index j : Nat} {tx : String} (hd : decode I.1 pc = .ok (.ldc index, 2)) (hw : (I.2.1, index, tx, j) ∈ strR) (hj : j < 60) (k : RnE G I z cs Q (pc + 2) ls (vR 52 j :: st) M) : RnE G I z cs Q pc ls st M :=
  fun hc H locs lsA hP hS hL hM hLs hSt => va_ldcS hc.1 hc.2.1 hc.2.2.2.2.1 (hc.2.2.2.2.2.2.2.2.2.1.2.2.2.2.2.2.2.2 _ hw) hd (k hc H locs lsA hP hS hL hM hLs (okVs.c hj hSt))
variable {C : String} {T : u_T} {ty : Nat → FieldType} {N : Nat}
theorem RnE.getI {k j s t index : Nat} (hf : FL I.2.1 index k s (0) C T ty N) {x : Int32} (hv : mI M k j s = x) (hd : decode I.1 pc = .ok (.getfield index, 3)) (k9 : RnE G I z cs Q (pc + 3) ls (vI x :: st) M) : RnE G I z cs Q pc ls (vR k j :: st) M := by
  subst hv
  obtain ⟨p, e, s0, m, args, below, meth, c⟩ := z
  intro hc H locs lsA hP hS hL hM hLs hSt
  have hpl : (k, j) ∈ PL := mem_PL.mpr ⟨by have := hf.1.1; omega, hSt.hd⟩
  obtain ⟨i, -, hi⟩ := wsM_at (G := G) (M := M) hpl
  rw [cellE_o hf.1.1] at hi
  exact va_get (D := gD G) (ci := k) (C := C) (T := T) (N := N) hc.1 hc.2.1 hc.2.2.2.2.2.1 hf.2.2.1 hc.2.2.2.2.1 hc.2.2.2.2.2.2.1 hP i hi hf.2.1 s hf.1.2.1 (hc.2.2.2.2.2.1 _ hf.2.2.2.1) (fun _ h9 => h9) (flds_at hf.1) hd (k9 hc H locs lsA hP hS hL hM hLs (hSt.d.I _))
theorem RnE.getJ {k j s t index : Nat} (hf : FL I.2.1 index k s (1) C T ty N) {x : Int64} (hv : mJ M k j s = x) (hd : decode I.1 pc = .ok (.getfield index, 3)) (k9 : RnE G I z cs Q (pc + 3) ls (vJ x :: st) M) : RnE G I z cs Q pc ls (vR k j :: st) M := by
  subst hv
  obtain ⟨p, e, s0, m, args, below, meth, c⟩ := z
  intro hc H locs lsA hP hS hL hM hLs hSt
  have hpl : (k, j) ∈ PL := mem_PL.mpr ⟨by have := hf.1.1; omega, hSt.hd⟩
  obtain ⟨i, -, hi⟩ := wsM_at (G := G) (M := M) hpl
  rw [cellE_o hf.1.1] at hi
  exact va_get (D := gD G) (ci := k) (C := C) (T := T) (N := N) hc.1 hc.2.1 hc.2.2.2.2.2.1 hf.2.2.1 hc.2.2.2.2.1 hc.2.2.2.2.2.2.1 hP i hi hf.2.1 s hf.1.2.1 (hc.2.2.2.2.2.1 _ hf.2.2.2.1) (fun _ h9 => h9) (flds_at hf.1) hd (k9 hc H locs lsA hP hS hL hM hLs (hSt.d.J _))
theorem RnE.getRm {k j s t index : Nat} (hf : FL I.2.1 index k s (t + 2) C T ty N) {x : Nat} (hv : mR M k j s = x) (hd : decode I.1 pc = .ok (.getfield index, 3)) (k9 : RnE G I z cs Q (pc + 3) ls (vR t x :: st) M) : RnE G I z cs Q pc ls (vR k j :: st) M := by
  subst hv
  obtain ⟨p, e, s0, m, args, below, meth, c⟩ := z
  intro hc H locs lsA hP hS hL hM hLs hSt
  have hpl : (k, j) ∈ PL := mem_PL.mpr ⟨by have := hf.1.1; omega, hSt.hd⟩
  obtain ⟨i, -, hi⟩ := wsM_at (G := G) (M := M) hpl
  rw [cellE_o hf.1.1] at hi
  exact va_get (D := gD G) (ci := k) (C := C) (T := T) (N := N) hc.1 hc.2.1 hc.2.2.2.2.2.1 hf.2.2.1 hc.2.2.2.2.1 hc.2.2.2.2.2.2.1 hP i hi hf.2.1 s hf.1.2.1 (hc.2.2.2.2.2.1 _ hf.2.2.2.1) (fun _ h9 => h9) (flds_at hf.1) hd (k9 hc H locs lsA hP hS hL hM hLs (okVs.c (hM k j s t hpl (by unfold kLen; rw [if_pos hf.1.1, ← hf.1.2.2.1]; exact hf.1.2.1) (by unfold slotC; rw [if_pos hf.1.1]; exact hf.1.2.2.2)).1 hSt.d))
theorem RnE.getR {k j s t index r : Nat} (hf : FL I.2.1 index k s (t + 2) C T ty N) (hm : mutR k s = false) (hr : fixR k j s = r) (hd : decode I.1 pc = .ok (.getfield index, 3)) (k9 : RnE G I z cs Q (pc + 3) ls (vR t r :: st) M) : RnE G I z cs Q pc ls (vR k j :: st) M := by
  obtain ⟨p, e, s0, m, args, below, meth, c⟩ := z
  intro hc H locs lsA hP hS hL hM hLs hSt
  have hpl : (k, j) ∈ PL := mem_PL.mpr ⟨by have := hf.1.1; omega, hSt.hd⟩
  have hx := (hM k j s t hpl (by unfold kLen; rw [if_pos hf.1.1, ← hf.1.2.2.1]; exact hf.1.2.1) (by unfold slotC; rw [if_pos hf.1.1]; exact hf.1.2.2.2)).2 hm
  exact RnE.getRm hf (hx.trans hr) hd k9 hc H locs lsA hP hS hL hM hLs hSt
theorem RnE.putI {k j s t index : Nat} {x : Int32} (hf : FL I.2.1 index k s (0) C T ty N) (hfin : (T s).2.2.2 = false) (hty : ty s = .int) (hd : decode I.1 pc = .ok (.putfield index, 3)) (k9 : RnE G I z cs Q (pc + 3) ls st (sI M k j s x)) : RnE G I z cs Q pc ls (vI x :: vR k j :: st) M := by
  obtain ⟨p, e, s0, m, args, below, meth, c⟩ := z
  intro hc H locs lsA hP hS hL hM hLs hSt
  have hpl : (k, j) ∈ PL := mem_PL.mpr ⟨by have := hf.1.1; omega, hSt.d.hd⟩
  obtain ⟨i, hpi, hi⟩ := wsM_at (G := G) (M := M) hpl
  rw [cellE_o hf.1.1] at hi
  refine va_put (D := gD G) (ci := k) (C := C) (T := T) (N := N) (ty := .int) hc.1 hc.2.1 hc.2.2.2.2.2.1 hf.2.2.1 ty hf.2.2.2.2.1 hf.2.2.2.2.2 hc.2.2.2.2.1 hc.2.2.2.2.2.2.1 hP (gDis hc.2.2.2.2.2.2.2.2.1 M _) hS i hi hf.2.1 s hf.1.2.1 (hc.2.2.2.2.2.1 _ hf.2.2.2.1) (fun _ h9 => h9) hfin (by rw [hf.2.2.2.2.1 s hf.1.2.1, hty]) rfl rfl (by unfold flds; rw [List.length_map, List.length_range, ← hf.1.2.2.1]; exact hf.1.2.1) hd (fun H1 locs1 hP1 _ hS1 => ?_)
  have hset := flds_setI (G := G) (M := M) (k := k) (j := j) (s := s) (v := x) (cv (gA G) (vI x)) (by rw [hf.1.2.2.2]; show Value.int (mI _ _ _ _) = _; rw [mI_sI, if_pos ⟨rfl, rfl, rfl⟩]; rfl)
  have hw := wsM_set (G := G) (M := M) (M' := sI M k j s x) hpi cellE_sI
  rw [cellE_o hf.1.1, ← hset] at hw
  have hP2 : Pw G (sI M k j s x) H1 := by unfold Pw; rw [← hw]; exact hP1
  exact k9 hc H1 locs1 lsA hP2 hS1 hL hM hLs hSt.d.d
theorem RnE.putJ {k j s t index : Nat} {x : Int64} (hf : FL I.2.1 index k s (1) C T ty N) (hfin : (T s).2.2.2 = false) (hty : ty s = .long) (hd : decode I.1 pc = .ok (.putfield index, 3)) (k9 : RnE G I z cs Q (pc + 3) ls st (sJ M k j s x)) : RnE G I z cs Q pc ls (vJ x :: vR k j :: st) M := by
  obtain ⟨p, e, s0, m, args, below, meth, c⟩ := z
  intro hc H locs lsA hP hS hL hM hLs hSt
  have hpl : (k, j) ∈ PL := mem_PL.mpr ⟨by have := hf.1.1; omega, hSt.d.hd⟩
  obtain ⟨i, hpi, hi⟩ := wsM_at (G := G) (M := M) hpl
  rw [cellE_o hf.1.1] at hi
  refine va_put (D := gD G) (ci := k) (C := C) (T := T) (N := N) (ty := .long) hc.1 hc.2.1 hc.2.2.2.2.2.1 hf.2.2.1 ty hf.2.2.2.2.1 hf.2.2.2.2.2 hc.2.2.2.2.1 hc.2.2.2.2.2.2.1 hP (gDis hc.2.2.2.2.2.2.2.2.1 M _) hS i hi hf.2.1 s hf.1.2.1 (hc.2.2.2.2.2.1 _ hf.2.2.2.1) (fun _ h9 => h9) hfin (by rw [hf.2.2.2.2.1 s hf.1.2.1, hty]) rfl rfl (by unfold flds; rw [List.length_map, List.length_range, ← hf.1.2.2.1]; exact hf.1.2.1) hd (fun H1 locs1 hP1 _ hS1 => ?_)
  have hset := flds_setJ (G := G) (M := M) (k := k) (j := j) (s := s) (v := x) (cv (gA G) (vJ x)) (by rw [hf.1.2.2.2]; show Value.long (mJ _ _ _ _) = _; rw [mJ_sJ, if_pos ⟨rfl, rfl, rfl⟩]; rfl)
  have hw := wsM_set (G := G) (M := M) (M' := sJ M k j s x) hpi cellE_sJ
  rw [cellE_o hf.1.1, ← hset] at hw
  have hP2 : Pw G (sJ M k j s x) H1 := by unfold Pw; rw [← hw]; exact hP1
  exact k9 hc H1 locs1 lsA hP2 hS1 hL hM hLs hSt.d.d
theorem RnE.putR {k j s t index : Nat} {x : Nat} {C9 : String} (hmu : mutR k s = true) (hf : FL I.2.1 index k s (t + 2) C T ty N) (hfin : (T s).2.2.2 = false) (hty : ty s = .object C9) (hd : decode I.1 pc = .ok (.putfield index, 3)) (k9 : RnE G I z cs Q (pc + 3) ls st (sR M k j s x)) : RnE G I z cs Q pc ls (vR t x :: vR k j :: st) M := by
  obtain ⟨p, e, s0, m, args, below, meth, c⟩ := z
  intro hc H locs lsA hP hS hL hM hLs hSt
  have hpl : (k, j) ∈ PL := mem_PL.mpr ⟨by have := hf.1.1; omega, hSt.d.hd⟩
  obtain ⟨i, hpi, hi⟩ := wsM_at (G := G) (M := M) hpl
  rw [cellE_o hf.1.1] at hi
  refine va_put (D := gD G) (ci := k) (C := C) (T := T) (N := N) (ty := .object C9) hc.1 hc.2.1 hc.2.2.2.2.2.1 hf.2.2.1 ty hf.2.2.2.2.1 hf.2.2.2.2.2 hc.2.2.2.2.1 hc.2.2.2.2.2.2.1 hP (gDis hc.2.2.2.2.2.2.2.2.1 M _) hS i hi hf.2.1 s hf.1.2.1 (hc.2.2.2.2.2.1 _ hf.2.2.2.1) (fun _ h9 => h9) hfin (by rw [hf.2.2.2.2.1 s hf.1.2.1, hty]) rfl rfl (by unfold flds; rw [List.length_map, List.length_range, ← hf.1.2.2.1]; exact hf.1.2.1) hd (fun H1 locs1 hP1 _ hS1 => ?_)
  have hset := flds_setR (G := G) (M := M) (k := k) (j := j) (s := s) (v := x) (cv (gA G) (vR t x)) (by rw [hf.1.2.2.2]; show Value.ref (gA G t (mR _ _ _ _)) = _; rw [mR_sR, if_pos ⟨rfl, rfl, rfl⟩]; rfl)
  have hw := wsM_set (G := G) (M := M) (M' := sR M k j s x) hpi cellE_sR
  rw [cellE_o hf.1.1, ← hset] at hw
  have hP2 : Pw G (sR M k j s x) H1 := by unfold Pw; rw [← hw]; exact hP1
  exact k9 hc H1 locs1 lsA hP2 hS1 hL (hM.R (by unfold slotC; rw [if_pos hf.1.1]; exact hf.1.2.2.2) hmu hSt.hd) hLs hSt.d.d
theorem RnE.iald {k j n : Nat} {i : Int32} (hk : (12 ≤ k ∧ k < 42) ∧ kA k = (2, n, 0)) (hin : vp_in i n) (hd : decode I.1 pc = .ok (.iaload, 1)) (k9 : RnE G I z cs Q (pc + 1) ls (vI (mI M k j i.toNatClampNeg) :: st) M) : RnE G I z cs Q pc ls (vI i :: vR k j :: st) M := by
  obtain ⟨p, e, s0, m, args, below, meth, c⟩ := z
  intro hc H locs lsA hP hS hL hM hLs hSt
  obtain ⟨q, -, hq⟩ := wsM_at (G := G) (M := M) (mem_PL.mpr ⟨hk.1.2, hSt.d.hd⟩ : (k, j) ∈ PL)
  rw [cellE_a hk] at hq
  exact va_iald (f := fun i => mI M k j i) hc.1 hc.2.1 hc.2.2.2.2.2.2.1 hP q 2 hq (tysG_at G (by decide)) hin hd (k9 hc H locs lsA hP hS hL hM hLs (hSt.d.d.I _))
theorem RnE.bald {k j n : Nat} {i : Int32} (hk : (12 ≤ k ∧ k < 42) ∧ kA k = (0, n, 0)) (hin : vp_in i n) (hd : decode I.1 pc = .ok (.baload, 1)) (k9 : RnE G I z cs Q (pc + 1) ls (vI (mI M k j i.toNatClampNeg) :: st) M) : RnE G I z cs Q pc ls (vI i :: vR k j :: st) M := by
  obtain ⟨p, e, s0, m, args, below, meth, c⟩ := z
  intro hc H locs lsA hP hS hL hM hLs hSt
  obtain ⟨q, -, hq⟩ := wsM_at (G := G) (M := M) (mem_PL.mpr ⟨hk.1.2, hSt.d.hd⟩ : (k, j) ∈ PL)
  rw [cellE_a hk] at hq
  exact va_bald (f := fun i => mI M k j i) hc.1 hc.2.1 hc.2.2.2.2.2.2.1 hP q 0 hq (tysG_at G (by decide)) hin hd (k9 hc H locs lsA hP hS hL hM hLs (hSt.d.d.I _))
theorem RnE.zald {k j n : Nat} {i : Int32} (hk : (12 ≤ k ∧ k < 42) ∧ kA k = (4, n, 0)) (hin : vp_in i n) (hd : decode I.1 pc = .ok (.baload, 1)) (k9 : RnE G I z cs Q (pc + 1) ls (vI (mI M k j i.toNatClampNeg) :: st) M) : RnE G I z cs Q pc ls (vI i :: vR k j :: st) M := by
  obtain ⟨p, e, s0, m, args, below, meth, c⟩ := z
  intro hc H locs lsA hP hS hL hM hLs hSt
  obtain ⟨q, -, hq⟩ := wsM_at (G := G) (M := M) (mem_PL.mpr ⟨hk.1.2, hSt.d.hd⟩ : (k, j) ∈ PL)
  rw [cellE_a hk] at hq
  exact va_zald (f := fun i => mI M k j i) hc.1 hc.2.1 hc.2.2.2.2.2.2.1 hP q 4 hq (tysG_at G (by decide)) hin hd (k9 hc H locs lsA hP hS hL hM hLs (hSt.d.d.I _))
theorem RnE.cald {k j n : Nat} {i : Int32} (hk : (12 ≤ k ∧ k < 42) ∧ kA k = (1, n, 0)) (hin : vp_in i n) (hd : decode I.1 pc = .ok (.caload, 1)) (k9 : RnE G I z cs Q (pc + 1) ls (vI (mI M k j i.toNatClampNeg) :: st) M) : RnE G I z cs Q pc ls (vI i :: vR k j :: st) M := by
  obtain ⟨p, e, s0, m, args, below, meth, c⟩ := z
  intro hc H locs lsA hP hS hL hM hLs hSt
  obtain ⟨q, -, hq⟩ := wsM_at (G := G) (M := M) (mem_PL.mpr ⟨hk.1.2, hSt.d.hd⟩ : (k, j) ∈ PL)
  rw [cellE_a hk] at hq
  exact va_cald (f := fun i => mI M k j i) hc.1 hc.2.1 hc.2.2.2.2.2.2.1 hP q 1 hq (tysG_at G (by decide)) hin hd (k9 hc H locs lsA hP hS hL hM hLs (hSt.d.d.I _))
theorem RnE.lald {k j n : Nat} {i : Int32} (hk : (12 ≤ k ∧ k < 42) ∧ kA k = (3, n, 1)) (hin : vp_in i n) (hd : decode I.1 pc = .ok (.laload, 1)) (k9 : RnE G I z cs Q (pc + 1) ls (vJ (mJ M k j i.toNatClampNeg) :: st) M) : RnE G I z cs Q pc ls (vI i :: vR k j :: st) M := by
  obtain ⟨p, e, s0, m, args, below, meth, c⟩ := z
  intro hc H locs lsA hP hS hL hM hLs hSt
  obtain ⟨q, -, hq⟩ := wsM_at (G := G) (M := M) (mem_PL.mpr ⟨hk.1.2, hSt.d.hd⟩ : (k, j) ∈ PL)
  rw [cellE_a hk] at hq
  exact va_lald (f := fun i => mJ M k j i) hc.1 hc.2.1 hc.2.2.2.2.2.2.1 hP q 3 hq (tysG_at G (by decide)) hin hd (k9 hc H locs lsA hP hS hL hM hLs (hSt.d.d.J _))
theorem RnE.aald {k j n t t0 : Nat} {i : Int32} (hk : (12 ≤ k ∧ k < 42) ∧ kA k = (t0, n, t + 2)) (ht0 : t0 < 8) (hrf : (tyT t0).isReference = true) (hin : vp_in i n) (hd : decode I.1 pc = .ok (.aaload, 1)) (k9 : RnE G I z cs Q (pc + 1) ls (vR t (mR M k j i.toNatClampNeg) :: st) M) : RnE G I z cs Q pc ls (vI i :: vR k j :: st) M := by
  obtain ⟨p, e, s0, m, args, below, meth, c⟩ := z
  intro hc H locs lsA hP hS hL hM hLs hSt
  have hpl : (k, j) ∈ PL := mem_PL.mpr ⟨hk.1.2, hSt.d.hd⟩
  obtain ⟨q, -, hq⟩ := wsM_at (G := G) (M := M) hpl
  rw [cellE_a hk] at hq
  have hlt : i.toNatClampNeg < n := Nat.not_le.mp fun q => hin (Or.inr q)
  have hcell := hP q _ hq
  exact W.aald (v := .ref (gA G t (mR M k j i.toNatClampNeg))) (ty := tyT t0) hc.1 hc.2.1 hcell ((hc.2.2.2.2.2.2.1.2 t0 _ (tysG_at G ht0)).1 n (fun j9 => va_rf (some (gA G t (mR M k j j9))))) hrf (fun q => by cases q) (by show ¬ (i < 0 ∨ (arrV _ _ _).slots.size ≤ _); rw [arrV_size]; exact hin) (by show (arrV _ _ _).slots[_]? = _; rw [arrV_read _ _ hlt]; rfl) rfl rfl hd (k9 hc H locs lsA hP hS hL hM hLs (okVs.c (hM k j _ t hpl (by unfold kLen; rw [if_neg (by omega), hk.2]; exact hlt) (by unfold slotC; rw [if_neg (by omega), hk.2])).1 hSt.d.d))
theorem RnE.alen {k j n t cd : Nat} (hk : (12 ≤ k ∧ k < 42) ∧ kA k = (t, n, cd)) (ht : t < 8) (hd : decode I.1 pc = .ok (.arraylength, 1)) (k9 : RnE G I z cs Q (pc + 1) ls (vI (Int32.ofNat n) :: st) M) : RnE G I z cs Q pc ls (vR k j :: st) M := by
  obtain ⟨p, e, s0, m, args, below, meth, c⟩ := z
  intro hc H locs lsA hP hS hL hM hLs hSt
  obtain ⟨q, -, hq⟩ := wsM_at (G := G) (M := M) (mem_PL.mpr ⟨hk.1.2, hSt.hd⟩ : (k, j) ∈ PL)
  rw [cellE_a hk] at hq
  exact va_alen (v := Int32.ofNat n) hc.1 hc.2.1 hc.2.2.2.2.2.2.1 hP q t hq (tysG_at G ht) rfl hd (k9 hc H locs lsA hP hS hL hM hLs (hSt.d.I _))
theorem RnE.iast {k j n : Nat} {i x : Int32} (hk : (12 ≤ k ∧ k < 42) ∧ kA k = (2, n, 0)) (hin : vp_in i n) (hd : decode I.1 pc = .ok (.iastore, 1)) (k9 : RnE G I z cs Q (pc + 1) ls st (sI M k j i.toNatClampNeg x)) : RnE G I z cs Q pc ls (vI x :: vI i :: vR k j :: st) M := by
  obtain ⟨p, e, s0, m, args, below, meth, c⟩ := z
  intro hc H locs lsA hP hS hL hM hLs hSt
  obtain ⟨q, hpi, hq⟩ := wsM_at (G := G) (M := M) (mem_PL.mpr ⟨hk.1.2, hSt.d.d.hd⟩ : (k, j) ∈ PL)
  rw [cellE_a hk] at hq
  refine va_iast (f := fun i => mI M k j i) hc.1 hc.2.1 hc.2.2.2.2.2.2.1 hP (gDis hc.2.2.2.2.2.2.2.2.1 M _) hS q 2 hq (tysG_at G (by decide)) hin hd (fun H1 locs1 hP1 _ hS1 => ?_)
  have hw := wsM_set (G := G) (M := M) (M' := sI M k j i.toNatClampNeg x) hpi cellE_sI
  rw [cellE_a hk] at hw
  have hf : contC (gA G) (sI M k j i.toNatClampNeg x) k j 0 = .inl (upd (fun i => mI M k j i) i.toNatClampNeg x) := by
    show Sum.inl _ = Sum.inl _
    congr 1; funext a
    rw [mI_sI]
    unfold upd
    by_cases h : a = i.toNatClampNeg
    · rw [if_pos ⟨rfl, rfl, h⟩, if_pos h]
    · rw [if_neg (fun q => h q.2.2), if_neg h]
  rw [hf] at hw
  have hP2 : Pw G (sI M k j i.toNatClampNeg x) H1 := by unfold Pw; rw [← hw]; exact hP1
  exact k9 hc H1 locs1 lsA hP2 hS1 hL hM hLs hSt.d.d.d
theorem RnE.bast {k j n : Nat} {i x : Int32} (hk : (12 ≤ k ∧ k < 42) ∧ kA k = (0, n, 0)) (hin : vp_in i n) (hd : decode I.1 pc = .ok (.bastore, 1)) (k9 : RnE G I z cs Q (pc + 1) ls st (sI M k j i.toNatClampNeg (vp_nar .byte x))) : RnE G I z cs Q pc ls (vI x :: vI i :: vR k j :: st) M := by
  obtain ⟨p, e, s0, m, args, below, meth, c⟩ := z
  intro hc H locs lsA hP hS hL hM hLs hSt
  obtain ⟨q, hpi, hq⟩ := wsM_at (G := G) (M := M) (mem_PL.mpr ⟨hk.1.2, hSt.d.d.hd⟩ : (k, j) ∈ PL)
  rw [cellE_a hk] at hq
  refine va_bast (f := fun i => mI M k j i) hc.1 hc.2.1 hc.2.2.2.2.2.2.1 hP (gDis hc.2.2.2.2.2.2.2.2.1 M _) hS q 0 hq (tysG_at G (by decide)) hin hd (fun H1 locs1 hP1 _ hS1 => ?_)
  have hw := wsM_set (G := G) (M := M) (M' := sI M k j i.toNatClampNeg (vp_nar .byte x)) hpi cellE_sI
  rw [cellE_a hk] at hw
  have hf : contC (gA G) (sI M k j i.toNatClampNeg (vp_nar .byte x)) k j 0 = .inl (upd (fun i => mI M k j i) i.toNatClampNeg (vp_nar .byte x)) := by
    show Sum.inl _ = Sum.inl _
    congr 1; funext a
    rw [mI_sI]
    unfold upd
    by_cases h : a = i.toNatClampNeg
    · rw [if_pos ⟨rfl, rfl, h⟩, if_pos h]
    · rw [if_neg (fun q => h q.2.2), if_neg h]
  rw [hf] at hw
  have hP2 : Pw G (sI M k j i.toNatClampNeg (vp_nar .byte x)) H1 := by unfold Pw; rw [← hw]; exact hP1
  exact k9 hc H1 locs1 lsA hP2 hS1 hL hM hLs hSt.d.d.d
theorem RnE.zast {k j n : Nat} {i x : Int32} (hk : (12 ≤ k ∧ k < 42) ∧ kA k = (4, n, 0)) (hin : vp_in i n) (hd : decode I.1 pc = .ok (.bastore, 1)) (k9 : RnE G I z cs Q (pc + 1) ls st (sI M k j i.toNatClampNeg (vp_nar .boolean x))) : RnE G I z cs Q pc ls (vI x :: vI i :: vR k j :: st) M := by
  obtain ⟨p, e, s0, m, args, below, meth, c⟩ := z
  intro hc H locs lsA hP hS hL hM hLs hSt
  obtain ⟨q, hpi, hq⟩ := wsM_at (G := G) (M := M) (mem_PL.mpr ⟨hk.1.2, hSt.d.d.hd⟩ : (k, j) ∈ PL)
  rw [cellE_a hk] at hq
  refine va_zast (f := fun i => mI M k j i) hc.1 hc.2.1 hc.2.2.2.2.2.2.1 hP (gDis hc.2.2.2.2.2.2.2.2.1 M _) hS q 4 hq (tysG_at G (by decide)) hin hd (fun H1 locs1 hP1 _ hS1 => ?_)
  have hw := wsM_set (G := G) (M := M) (M' := sI M k j i.toNatClampNeg (vp_nar .boolean x)) hpi cellE_sI
  rw [cellE_a hk] at hw
  have hf : contC (gA G) (sI M k j i.toNatClampNeg (vp_nar .boolean x)) k j 0 = .inl (upd (fun i => mI M k j i) i.toNatClampNeg (vp_nar .boolean x)) := by
    show Sum.inl _ = Sum.inl _
    congr 1; funext a
    rw [mI_sI]
    unfold upd
    by_cases h : a = i.toNatClampNeg
    · rw [if_pos ⟨rfl, rfl, h⟩, if_pos h]
    · rw [if_neg (fun q => h q.2.2), if_neg h]
  rw [hf] at hw
  have hP2 : Pw G (sI M k j i.toNatClampNeg (vp_nar .boolean x)) H1 := by unfold Pw; rw [← hw]; exact hP1
  exact k9 hc H1 locs1 lsA hP2 hS1 hL hM hLs hSt.d.d.d
theorem RnE.cast {k j n : Nat} {i x : Int32} (hk : (12 ≤ k ∧ k < 42) ∧ kA k = (1, n, 0)) (hin : vp_in i n) (hd : decode I.1 pc = .ok (.castore, 1)) (k9 : RnE G I z cs Q (pc + 1) ls st (sI M k j i.toNatClampNeg (vp_nar .char x))) : RnE G I z cs Q pc ls (vI x :: vI i :: vR k j :: st) M := by
  obtain ⟨p, e, s0, m, args, below, meth, c⟩ := z
  intro hc H locs lsA hP hS hL hM hLs hSt
  obtain ⟨q, hpi, hq⟩ := wsM_at (G := G) (M := M) (mem_PL.mpr ⟨hk.1.2, hSt.d.d.hd⟩ : (k, j) ∈ PL)
  rw [cellE_a hk] at hq
  refine va_cast (f := fun i => mI M k j i) hc.1 hc.2.1 hc.2.2.2.2.2.2.1 hP (gDis hc.2.2.2.2.2.2.2.2.1 M _) hS q 1 hq (tysG_at G (by decide)) hin hd (fun H1 locs1 hP1 _ hS1 => ?_)
  have hw := wsM_set (G := G) (M := M) (M' := sI M k j i.toNatClampNeg (vp_nar .char x)) hpi cellE_sI
  rw [cellE_a hk] at hw
  have hf : contC (gA G) (sI M k j i.toNatClampNeg (vp_nar .char x)) k j 0 = .inl (upd (fun i => mI M k j i) i.toNatClampNeg (vp_nar .char x)) := by
    show Sum.inl _ = Sum.inl _
    congr 1; funext a
    rw [mI_sI]
    unfold upd
    by_cases h : a = i.toNatClampNeg
    · rw [if_pos ⟨rfl, rfl, h⟩, if_pos h]
    · rw [if_neg (fun q => h q.2.2), if_neg h]
  rw [hf] at hw
  have hP2 : Pw G (sI M k j i.toNatClampNeg (vp_nar .char x)) H1 := by unfold Pw; rw [← hw]; exact hP1
  exact k9 hc H1 locs1 lsA hP2 hS1 hL hM hLs hSt.d.d.d
theorem RnE.last {k j n : Nat} {i : Int32} {x : Int64} (hk : (12 ≤ k ∧ k < 42) ∧ kA k = (3, n, 1)) (hin : vp_in i n) (hd : decode I.1 pc = .ok (.lastore, 1)) (k9 : RnE G I z cs Q (pc + 1) ls st (sJ M k j i.toNatClampNeg x)) : RnE G I z cs Q pc ls (vJ x :: vI i :: vR k j :: st) M := by
  obtain ⟨p, e, s0, m, args, below, meth, c⟩ := z
  intro hc H locs lsA hP hS hL hM hLs hSt
  obtain ⟨q, hpi, hq⟩ := wsM_at (G := G) (M := M) (mem_PL.mpr ⟨hk.1.2, hSt.d.d.hd⟩ : (k, j) ∈ PL)
  rw [cellE_a hk] at hq
  refine va_last (f := fun i => mJ M k j i) hc.1 hc.2.1 hc.2.2.2.2.2.2.1 hP (gDis hc.2.2.2.2.2.2.2.2.1 M _) hS q 3 hq (tysG_at G (by decide)) hin hd (fun H1 locs1 hP1 _ hS1 => ?_)
  have hw := wsM_set (G := G) (M := M) (M' := sJ M k j i.toNatClampNeg x) hpi cellE_sJ
  rw [cellE_a hk] at hw
  have hf : contC (gA G) (sJ M k j i.toNatClampNeg x) k j 1 = .inr (.inl (vp_updL (fun i => mJ M k j i) i.toNatClampNeg x)) := by
    show Sum.inr (Sum.inl _) = Sum.inr (Sum.inl _)
    congr 2; funext a
    rw [mJ_sJ]
    unfold vp_updL
    by_cases h : a = i.toNatClampNeg
    · rw [if_pos ⟨rfl, rfl, h⟩, if_pos h]
    · rw [if_neg (fun q => h q.2.2), if_neg h]
  rw [hf] at hw
  have hP2 : Pw G (sJ M k j i.toNatClampNeg x) H1 := by unfold Pw; rw [← hw]; exact hP1
  exact k9 hc H1 locs1 lsA hP2 hS1 hL hM hLs hSt.d.d.d
/-! RETURNS -/
theorem RnE.ialdN {k j n e9 : Nat} {x : Int32} (hk : (12 ≤ k ∧ k < 42) ∧ kA k = (2, n, 0)) (he : e9 < n) (hn : n < 2 ^ 31) (hv : mI M k j e9 = x) (hd : decode I.1 pc = .ok (.iaload, 1)) (k9 : RnE G I z cs Q (pc + 1) ls (vI x :: st) M) : RnE G I z cs Q pc ls (vI (nI e9) :: vR k j :: st) M := RnE.iald hk (vp_in_nI he hn) hd (by rw [nI_clamp (by omega), hv]; exact k9)
theorem RnE.baldN {k j n e9 : Nat} {x : Int32} (hk : (12 ≤ k ∧ k < 42) ∧ kA k = (0, n, 0)) (he : e9 < n) (hn : n < 2 ^ 31) (hv : mI M k j e9 = x) (hd : decode I.1 pc = .ok (.baload, 1)) (k9 : RnE G I z cs Q (pc + 1) ls (vI x :: st) M) : RnE G I z cs Q pc ls (vI (nI e9) :: vR k j :: st) M := RnE.bald hk (vp_in_nI he hn) hd (by rw [nI_clamp (by omega), hv]; exact k9)
theorem RnE.zaldN {k j n e9 : Nat} {x : Int32} (hk : (12 ≤ k ∧ k < 42) ∧ kA k = (4, n, 0)) (he : e9 < n) (hn : n < 2 ^ 31) (hv : mI M k j e9 = x) (hd : decode I.1 pc = .ok (.baload, 1)) (k9 : RnE G I z cs Q (pc + 1) ls (vI x :: st) M) : RnE G I z cs Q pc ls (vI (nI e9) :: vR k j :: st) M := RnE.zald hk (vp_in_nI he hn) hd (by rw [nI_clamp (by omega), hv]; exact k9)
theorem RnE.caldN {k j n e9 : Nat} {x : Int32} (hk : (12 ≤ k ∧ k < 42) ∧ kA k = (1, n, 0)) (he : e9 < n) (hn : n < 2 ^ 31) (hv : mI M k j e9 = x) (hd : decode I.1 pc = .ok (.caload, 1)) (k9 : RnE G I z cs Q (pc + 1) ls (vI x :: st) M) : RnE G I z cs Q pc ls (vI (nI e9) :: vR k j :: st) M := RnE.cald hk (vp_in_nI he hn) hd (by rw [nI_clamp (by omega), hv]; exact k9)
theorem RnE.laldN {k j n e9 : Nat} {x : Int64} (hk : (12 ≤ k ∧ k < 42) ∧ kA k = (3, n, 1)) (he : e9 < n) (hn : n < 2 ^ 31) (hv : mJ M k j e9 = x) (hd : decode I.1 pc = .ok (.laload, 1)) (k9 : RnE G I z cs Q (pc + 1) ls (vJ x :: st) M) : RnE G I z cs Q pc ls (vI (nI e9) :: vR k j :: st) M := RnE.lald hk (vp_in_nI he hn) hd (by rw [nI_clamp (by omega), hv]; exact k9)
theorem RnE.aaldN {k j n t t0 e9 r : Nat} (hk : (12 ≤ k ∧ k < 42) ∧ kA k = (t0, n, t + 2)) (ht0 : t0 < 8) (hrf : (tyT t0).isReference = true) (he : e9 < n) (hn : n < 2 ^ 31) (hr : fixR k j e9 = r) (hd : decode I.1 pc = .ok (.aaload, 1)) (k9 : RnE G I z cs Q (pc + 1) ls (vR t r :: st) M) : RnE G I z cs Q pc ls (vI (nI e9) :: vR k j :: st) M := by
  obtain ⟨p, e, s0, m, args, below, meth, c⟩ := z
  intro hc H locs lsA hP hS hL hM hLs hSt
  have hpl : (k, j) ∈ PL := mem_PL.mpr ⟨hk.1.2, hSt.d.hd⟩
  have hmu : mutR k e9 = false := by
    have h1 : (k == 10) = false := by rw [beq_eq_false_iff_ne]; omega
    have h2 : (k == 6) = false := by rw [beq_eq_false_iff_ne]; omega
    unfold mutR; rw [h1, h2]; rfl
  have hx := (hM k j e9 t hpl (by unfold kLen; rw [if_neg (by omega), hk.2]; exact he) (by unfold slotC; rw [if_neg (by omega), hk.2])).2 hmu
  refine RnE.aald hk ht0 hrf (vp_in_nI he hn) hd ?_ hc H locs lsA hP hS hL hM hLs hSt
  rw [nI_clamp (by omega), hx, hr]
  exact k9
theorem RnE.iastN {k j n e9 : Nat} {x : Int32} (hk : (12 ≤ k ∧ k < 42) ∧ kA k = (2, n, 0)) (he : e9 < n) (hn : n < 2 ^ 31) (hd : decode I.1 pc = .ok (.iastore, 1)) (k9 : RnE G I z cs Q (pc + 1) ls st (sI M k j e9 x)) : RnE G I z cs Q pc ls (vI x :: vI (nI e9) :: vR k j :: st) M := RnE.iast hk (vp_in_nI he hn) hd (by rw [nI_clamp (by omega)]; exact k9)
theorem RnE.bastN {k j n e9 : Nat} {x z9 : Int32} (hk : (12 ≤ k ∧ k < 42) ∧ kA k = (0, n, 0)) (he : e9 < n) (hn : n < 2 ^ 31) (hz : vp_nar .byte x = z9) (hd : decode I.1 pc = .ok (.bastore, 1)) (k9 : RnE G I z cs Q (pc + 1) ls st (sI M k j e9 z9)) : RnE G I z cs Q pc ls (vI x :: vI (nI e9) :: vR k j :: st) M := RnE.bast hk (vp_in_nI he hn) hd (by rw [nI_clamp (by omega), hz]; exact k9)
theorem RnE.zastN {k j n e9 : Nat} {x z9 : Int32} (hk : (12 ≤ k ∧ k < 42) ∧ kA k = (4, n, 0)) (he : e9 < n) (hn : n < 2 ^ 31) (hz : vp_nar .boolean x = z9) (hd : decode I.1 pc = .ok (.bastore, 1)) (k9 : RnE G I z cs Q (pc + 1) ls st (sI M k j e9 z9)) : RnE G I z cs Q pc ls (vI x :: vI (nI e9) :: vR k j :: st) M := RnE.zast hk (vp_in_nI he hn) hd (by rw [nI_clamp (by omega), hz]; exact k9)
theorem RnE.castN {k j n e9 : Nat} {x z9 : Int32} (hk : (12 ≤ k ∧ k < 42) ∧ kA k = (1, n, 0)) (he : e9 < n) (hn : n < 2 ^ 31) (hz : vp_nar .char x = z9) (hd : decode I.1 pc = .ok (.castore, 1)) (k9 : RnE G I z cs Q (pc + 1) ls st (sI M k j e9 z9)) : RnE G I z cs Q pc ls (vI x :: vI (nI e9) :: vR k j :: st) M := RnE.cast hk (vp_in_nI he hn) hd (by rw [nI_clamp (by omega), hz]; exact k9)
theorem RnE.lastN {k j n e9 : Nat} {x : Int64} (hk : (12 ≤ k ∧ k < 42) ∧ kA k = (3, n, 1)) (he : e9 < n) (hn : n < 2 ^ 31) (hd : decode I.1 pc = .ok (.lastore, 1)) (k9 : RnE G I z cs Q (pc + 1) ls st (sJ M k j e9 x)) : RnE G I z cs Q pc ls (vJ x :: vI (nI e9) :: vR k j :: st) M := RnE.last hk (vp_in_nI he hn) hd (by rw [nI_clamp (by omega)]; exact k9)
theorem RnE.if_eqB {b : Bool} {off : Int} {tgt : Nat} (hd : decode I.1 pc = .ok (.ifCond .eq off, 3)) (ht : (pc : Int) + off = (tgt : Int)) (kt : b = false → RnE G I z cs Q tgt ls st M) (kf : b = true → RnE G I z cs Q (pc + 3) ls st M) : RnE G I z cs Q pc ls (vI (bI b) :: st) M :=
  RnE.if_eq (y := 0) hd ht (fun h => kt (bI_0.mp h)) (fun h => kf (by cases b; exact absurd rfl h; rfl))
theorem RnE.if_neB {b : Bool} {off : Int} {tgt : Nat} (hd : decode I.1 pc = .ok (.ifCond .ne off, 3)) (ht : (pc : Int) + off = (tgt : Int)) (kt : b = true → RnE G I z cs Q tgt ls st M) (kf : b = false → RnE G I z cs Q (pc + 3) ls st M) : RnE G I z cs Q pc ls (vI (bI b) :: st) M :=
  RnE.if_ne (y := 0) hd ht (fun h => kt (by cases b; exact absurd rfl h; rfl)) (fun h => kf (by cases b; rfl; exact absurd h (by decide)))
end ERULES
