theorem st1_0 {a v : Option AV} : [a].set 0 v = [v] := rfl
theorem st2_0 {a b v : Option AV} : [a, b].set 0 v = [v, b] := rfl
theorem sl2_0 {a b v : Option AV} : ([a, b].set 0 v).set (0 + 1) none = [v, none] := rfl
theorem st2_1 {a b v : Option AV} : [a, b].set 1 v = [a, v] := rfl
theorem st3_0 {a b c v : Option AV} : [a, b, c].set 0 v = [v, b, c] := rfl
theorem sl3_0 {a b c v : Option AV} : ([a, b, c].set 0 v).set (0 + 1) none = [v, none, c] := rfl
theorem st3_1 {a b c v : Option AV} : [a, b, c].set 1 v = [a, v, c] := rfl
theorem sl3_1 {a b c v : Option AV} : ([a, b, c].set 1 v).set (1 + 1) none = [a, v, none] := rfl
theorem st3_2 {a b c v : Option AV} : [a, b, c].set 2 v = [a, b, v] := rfl
theorem st4_0 {a b c d v : Option AV} : [a, b, c, d].set 0 v = [v, b, c, d] := rfl
theorem sl4_0 {a b c d v : Option AV} : ([a, b, c, d].set 0 v).set (0 + 1) none = [v, none, c, d] := rfl
theorem st4_1 {a b c d v : Option AV} : [a, b, c, d].set 1 v = [a, v, c, d] := rfl
theorem sl4_1 {a b c d v : Option AV} : ([a, b, c, d].set 1 v).set (1 + 1) none = [a, v, none, d] := rfl
theorem st4_2 {a b c d v : Option AV} : [a, b, c, d].set 2 v = [a, b, v, d] := rfl
theorem sl4_2 {a b c d v : Option AV} : ([a, b, c, d].set 2 v).set (2 + 1) none = [a, b, v, none] := rfl
theorem st4_3 {a b c d v : Option AV} : [a, b, c, d].set 3 v = [a, b, c, v] := rfl
theorem st5_0 {a b c d e v : Option AV} : [a, b, c, d, e].set 0 v = [v, b, c, d, e] := rfl
theorem sl5_0 {a b c d e v : Option AV} : ([a, b, c, d, e].set 0 v).set (0 + 1) none = [v, none, c, d, e] := rfl
theorem st5_1 {a b c d e v : Option AV} : [a, b, c, d, e].set 1 v = [a, v, c, d, e] := rfl
theorem sl5_1 {a b c d e v : Option AV} : ([a, b, c, d, e].set 1 v).set (1 + 1) none = [a, v, none, d, e] := rfl
theorem st5_2 {a b c d e v : Option AV} : [a, b, c, d, e].set 2 v = [a, b, v, d, e] := rfl
theorem sl5_2 {a b c d e v : Option AV} : ([a, b, c, d, e].set 2 v).set (2 + 1) none = [a, b, v, none, e] := rfl
theorem st5_3 {a b c d e v : Option AV} : [a, b, c, d, e].set 3 v = [a, b, c, v, e] := rfl
theorem sl5_3 {a b c d e v : Option AV} : ([a, b, c, d, e].set 3 v).set (3 + 1) none = [a, b, c, v, none] := rfl
theorem st5_4 {a b c d e v : Option AV} : [a, b, c, d, e].set 4 v = [a, b, c, d, v] := rfl
theorem st6_0 {a b c d e f v : Option AV} : [a, b, c, d, e, f].set 0 v = [v, b, c, d, e, f] := rfl
theorem sl6_0 {a b c d e f v : Option AV} : ([a, b, c, d, e, f].set 0 v).set (0 + 1) none = [v, none, c, d, e, f] := rfl
theorem st6_1 {a b c d e f v : Option AV} : [a, b, c, d, e, f].set 1 v = [a, v, c, d, e, f] := rfl
theorem sl6_1 {a b c d e f v : Option AV} : ([a, b, c, d, e, f].set 1 v).set (1 + 1) none = [a, v, none, d, e, f] := rfl
theorem st6_2 {a b c d e f v : Option AV} : [a, b, c, d, e, f].set 2 v = [a, b, v, d, e, f] := rfl
theorem sl6_2 {a b c d e f v : Option AV} : ([a, b, c, d, e, f].set 2 v).set (2 + 1) none = [a, b, v, none, e, f] := rfl
theorem st6_3 {a b c d e f v : Option AV} : [a, b, c, d, e, f].set 3 v = [a, b, c, v, e, f] := rfl
theorem sl6_3 {a b c d e f v : Option AV} : ([a, b, c, d, e, f].set 3 v).set (3 + 1) none = [a, b, c, v, none, f] := rfl
theorem st6_4 {a b c d e f v : Option AV} : [a, b, c, d, e, f].set 4 v = [a, b, c, d, v, f] := rfl
theorem sl6_4 {a b c d e f v : Option AV} : ([a, b, c, d, e, f].set 4 v).set (4 + 1) none = [a, b, c, d, v, none] := rfl
theorem st6_5 {a b c d e f v : Option AV} : [a, b, c, d, e, f].set 5 v = [a, b, c, d, e, v] := rfl
theorem st7_0 {a b c d e f g v : Option AV} : [a, b, c, d, e, f, g].set 0 v = [v, b, c, d, e, f, g] := rfl
theorem sl7_0 {a b c d e f g v : Option AV} : ([a, b, c, d, e, f, g].set 0 v).set (0 + 1) none = [v, none, c, d, e, f, g] := rfl
theorem st7_1 {a b c d e f g v : Option AV} : [a, b, c, d, e, f, g].set 1 v = [a, v, c, d, e, f, g] := rfl
theorem sl7_1 {a b c d e f g v : Option AV} : ([a, b, c, d, e, f, g].set 1 v).set (1 + 1) none = [a, v, none, d, e, f, g] := rfl
theorem st7_2 {a b c d e f g v : Option AV} : [a, b, c, d, e, f, g].set 2 v = [a, b, v, d, e, f, g] := rfl
theorem sl7_2 {a b c d e f g v : Option AV} : ([a, b, c, d, e, f, g].set 2 v).set (2 + 1) none = [a, b, v, none, e, f, g] := rfl
theorem st7_3 {a b c d e f g v : Option AV} : [a, b, c, d, e, f, g].set 3 v = [a, b, c, v, e, f, g] := rfl
theorem sl7_3 {a b c d e f g v : Option AV} : ([a, b, c, d, e, f, g].set 3 v).set (3 + 1) none = [a, b, c, v, none, f, g] := rfl
theorem st7_4 {a b c d e f g v : Option AV} : [a, b, c, d, e, f, g].set 4 v = [a, b, c, d, v, f, g] := rfl
theorem sl7_4 {a b c d e f g v : Option AV} : ([a, b, c, d, e, f, g].set 4 v).set (4 + 1) none = [a, b, c, d, v, none, g] := rfl
theorem st7_5 {a b c d e f g v : Option AV} : [a, b, c, d, e, f, g].set 5 v = [a, b, c, d, e, v, g] := rfl
theorem sl7_5 {a b c d e f g v : Option AV} : ([a, b, c, d, e, f, g].set 5 v).set (5 + 1) none = [a, b, c, d, e, v, none] := rfl
theorem st7_6 {a b c d e f g v : Option AV} : [a, b, c, d, e, f, g].set 6 v = [a, b, c, d, e, f, v] := rfl
theorem st8_0 {a b c d e f g h v : Option AV} : [a, b, c, d, e, f, g, h].set 0 v = [v, b, c, d, e, f, g, h] := rfl
theorem sl8_0 {a b c d e f g h v : Option AV} : ([a, b, c, d, e, f, g, h].set 0 v).set (0 + 1) none = [v, none, c, d, e, f, g, h] := rfl
theorem st8_1 {a b c d e f g h v : Option AV} : [a, b, c, d, e, f, g, h].set 1 v = [a, v, c, d, e, f, g, h] := rfl
theorem sl8_1 {a b c d e f g h v : Option AV} : ([a, b, c, d, e, f, g, h].set 1 v).set (1 + 1) none = [a, v, none, d, e, f, g, h] := rfl
theorem st8_2 {a b c d e f g h v : Option AV} : [a, b, c, d, e, f, g, h].set 2 v = [a, b, v, d, e, f, g, h] := rfl
theorem sl8_2 {a b c d e f g h v : Option AV} : ([a, b, c, d, e, f, g, h].set 2 v).set (2 + 1) none = [a, b, v, none, e, f, g, h] := rfl
theorem st8_3 {a b c d e f g h v : Option AV} : [a, b, c, d, e, f, g, h].set 3 v = [a, b, c, v, e, f, g, h] := rfl
theorem sl8_3 {a b c d e f g h v : Option AV} : ([a, b, c, d, e, f, g, h].set 3 v).set (3 + 1) none = [a, b, c, v, none, f, g, h] := rfl
theorem st8_4 {a b c d e f g h v : Option AV} : [a, b, c, d, e, f, g, h].set 4 v = [a, b, c, d, v, f, g, h] := rfl
theorem sl8_4 {a b c d e f g h v : Option AV} : ([a, b, c, d, e, f, g, h].set 4 v).set (4 + 1) none = [a, b, c, d, v, none, g, h] := rfl
theorem st8_5 {a b c d e f g h v : Option AV} : [a, b, c, d, e, f, g, h].set 5 v = [a, b, c, d, e, v, g, h] := rfl
theorem sl8_5 {a b c d e f g h v : Option AV} : ([a, b, c, d, e, f, g, h].set 5 v).set (5 + 1) none = [a, b, c, d, e, v, none, h] := rfl
theorem st8_6 {a b c d e f g h v : Option AV} : [a, b, c, d, e, f, g, h].set 6 v = [a, b, c, d, e, f, v, h] := rfl
theorem sl8_6 {a b c d e f g h v : Option AV} : ([a, b, c, d, e, f, g, h].set 6 v).set (6 + 1) none = [a, b, c, d, e, f, v, none] := rfl
theorem st8_7 {a b c d e f g h v : Option AV} : [a, b, c, d, e, f, g, h].set 7 v = [a, b, c, d, e, f, g, v] := rfl
theorem st9_0 {a b c d e f g h i v : Option AV} : [a, b, c, d, e, f, g, h, i].set 0 v = [v, b, c, d, e, f, g, h, i] := rfl
theorem sl9_0 {a b c d e f g h i v : Option AV} : ([a, b, c, d, e, f, g, h, i].set 0 v).set (0 + 1) none = [v, none, c, d, e, f, g, h, i] := rfl
theorem st9_1 {a b c d e f g h i v : Option AV} : [a, b, c, d, e, f, g, h, i].set 1 v = [a, v, c, d, e, f, g, h, i] := rfl
theorem sl9_1 {a b c d e f g h i v : Option AV} : ([a, b, c, d, e, f, g, h, i].set 1 v).set (1 + 1) none = [a, v, none, d, e, f, g, h, i] := rfl
theorem st9_2 {a b c d e f g h i v : Option AV} : [a, b, c, d, e, f, g, h, i].set 2 v = [a, b, v, d, e, f, g, h, i] := rfl
theorem sl9_2 {a b c d e f g h i v : Option AV} : ([a, b, c, d, e, f, g, h, i].set 2 v).set (2 + 1) none = [a, b, v, none, e, f, g, h, i] := rfl
theorem st9_3 {a b c d e f g h i v : Option AV} : [a, b, c, d, e, f, g, h, i].set 3 v = [a, b, c, v, e, f, g, h, i] := rfl
theorem sl9_3 {a b c d e f g h i v : Option AV} : ([a, b, c, d, e, f, g, h, i].set 3 v).set (3 + 1) none = [a, b, c, v, none, f, g, h, i] := rfl
theorem st9_4 {a b c d e f g h i v : Option AV} : [a, b, c, d, e, f, g, h, i].set 4 v = [a, b, c, d, v, f, g, h, i] := rfl
theorem sl9_4 {a b c d e f g h i v : Option AV} : ([a, b, c, d, e, f, g, h, i].set 4 v).set (4 + 1) none = [a, b, c, d, v, none, g, h, i] := rfl
theorem st9_5 {a b c d e f g h i v : Option AV} : [a, b, c, d, e, f, g, h, i].set 5 v = [a, b, c, d, e, v, g, h, i] := rfl
theorem sl9_5 {a b c d e f g h i v : Option AV} : ([a, b, c, d, e, f, g, h, i].set 5 v).set (5 + 1) none = [a, b, c, d, e, v, none, h, i] := rfl
theorem st9_6 {a b c d e f g h i v : Option AV} : [a, b, c, d, e, f, g, h, i].set 6 v = [a, b, c, d, e, f, v, h, i] := rfl
theorem sl9_6 {a b c d e f g h i v : Option AV} : ([a, b, c, d, e, f, g, h, i].set 6 v).set (6 + 1) none = [a, b, c, d, e, f, v, none, i] := rfl
theorem st9_7 {a b c d e f g h i v : Option AV} : [a, b, c, d, e, f, g, h, i].set 7 v = [a, b, c, d, e, f, g, v, i] := rfl
theorem sl9_7 {a b c d e f g h i v : Option AV} : ([a, b, c, d, e, f, g, h, i].set 7 v).set (7 + 1) none = [a, b, c, d, e, f, g, v, none] := rfl
theorem st9_8 {a b c d e f g h i v : Option AV} : [a, b, c, d, e, f, g, h, i].set 8 v = [a, b, c, d, e, f, g, h, v] := rfl
theorem st10_0 {a b c d e f g h i j v : Option AV} : [a, b, c, d, e, f, g, h, i, j].set 0 v = [v, b, c, d, e, f, g, h, i, j] := rfl
theorem st10_1 {a b c d e f g h i j v : Option AV} : [a, b, c, d, e, f, g, h, i, j].set 1 v = [a, v, c, d, e, f, g, h, i, j] := rfl
theorem st10_2 {a b c d e f g h i j v : Option AV} : [a, b, c, d, e, f, g, h, i, j].set 2 v = [a, b, v, d, e, f, g, h, i, j] := rfl
theorem st10_3 {a b c d e f g h i j v : Option AV} : [a, b, c, d, e, f, g, h, i, j].set 3 v = [a, b, c, v, e, f, g, h, i, j] := rfl
theorem st10_4 {a b c d e f g h i j v : Option AV} : [a, b, c, d, e, f, g, h, i, j].set 4 v = [a, b, c, d, v, f, g, h, i, j] := rfl
theorem st10_5 {a b c d e f g h i j v : Option AV} : [a, b, c, d, e, f, g, h, i, j].set 5 v = [a, b, c, d, e, v, g, h, i, j] := rfl
theorem st10_6 {a b c d e f g h i j v : Option AV} : [a, b, c, d, e, f, g, h, i, j].set 6 v = [a, b, c, d, e, f, v, h, i, j] := rfl
theorem st10_7 {a b c d e f g h i j v : Option AV} : [a, b, c, d, e, f, g, h, i, j].set 7 v = [a, b, c, d, e, f, g, v, i, j] := rfl
theorem st10_8 {a b c d e f g h i j v : Option AV} : [a, b, c, d, e, f, g, h, i, j].set 8 v = [a, b, c, d, e, f, g, h, v, j] := rfl
theorem st10_9 {a b c d e f g h i j v : Option AV} : [a, b, c, d, e, f, g, h, i, j].set 9 v = [a, b, c, d, e, f, g, h, i, v] := rfl
theorem st11_0 {a b c d e f g h i j k v : Option AV} : [a, b, c, d, e, f, g, h, i, j, k].set 0 v = [v, b, c, d, e, f, g, h, i, j, k] := rfl
theorem st11_1 {a b c d e f g h i j k v : Option AV} : [a, b, c, d, e, f, g, h, i, j, k].set 1 v = [a, v, c, d, e, f, g, h, i, j, k] := rfl
theorem st11_2 {a b c d e f g h i j k v : Option AV} : [a, b, c, d, e, f, g, h, i, j, k].set 2 v = [a, b, v, d, e, f, g, h, i, j, k] := rfl
theorem st11_3 {a b c d e f g h i j k v : Option AV} : [a, b, c, d, e, f, g, h, i, j, k].set 3 v = [a, b, c, v, e, f, g, h, i, j, k] := rfl
theorem st11_4 {a b c d e f g h i j k v : Option AV} : [a, b, c, d, e, f, g, h, i, j, k].set 4 v = [a, b, c, d, v, f, g, h, i, j, k] := rfl
theorem st11_5 {a b c d e f g h i j k v : Option AV} : [a, b, c, d, e, f, g, h, i, j, k].set 5 v = [a, b, c, d, e, v, g, h, i, j, k] := rfl
theorem st11_6 {a b c d e f g h i j k v : Option AV} : [a, b, c, d, e, f, g, h, i, j, k].set 6 v = [a, b, c, d, e, f, v, h, i, j, k] := rfl
theorem st11_7 {a b c d e f g h i j k v : Option AV} : [a, b, c, d, e, f, g, h, i, j, k].set 7 v = [a, b, c, d, e, f, g, v, i, j, k] := rfl
theorem st11_8 {a b c d e f g h i j k v : Option AV} : [a, b, c, d, e, f, g, h, i, j, k].set 8 v = [a, b, c, d, e, f, g, h, v, j, k] := rfl
theorem st11_9 {a b c d e f g h i j k v : Option AV} : [a, b, c, d, e, f, g, h, i, j, k].set 9 v = [a, b, c, d, e, f, g, h, i, v, k] := rfl
theorem st11_10 {a b c d e f g h i j k v : Option AV} : [a, b, c, d, e, f, g, h, i, j, k].set 10 v = [a, b, c, d, e, f, g, h, i, j, v] := rfl
theorem st12_0 {a b c d e f g h i j k l v : Option AV} : [a, b, c, d, e, f, g, h, i, j, k, l].set 0 v = [v, b, c, d, e, f, g, h, i, j, k, l] := rfl
theorem st12_1 {a b c d e f g h i j k l v : Option AV} : [a, b, c, d, e, f, g, h, i, j, k, l].set 1 v = [a, v, c, d, e, f, g, h, i, j, k, l] := rfl
theorem st12_2 {a b c d e f g h i j k l v : Option AV} : [a, b, c, d, e, f, g, h, i, j, k, l].set 2 v = [a, b, v, d, e, f, g, h, i, j, k, l] := rfl
theorem st12_3 {a b c d e f g h i j k l v : Option AV} : [a, b, c, d, e, f, g, h, i, j, k, l].set 3 v = [a, b, c, v, e, f, g, h, i, j, k, l] := rfl
theorem st12_4 {a b c d e f g h i j k l v : Option AV} : [a, b, c, d, e, f, g, h, i, j, k, l].set 4 v = [a, b, c, d, v, f, g, h, i, j, k, l] := rfl
theorem st12_5 {a b c d e f g h i j k l v : Option AV} : [a, b, c, d, e, f, g, h, i, j, k, l].set 5 v = [a, b, c, d, e, v, g, h, i, j, k, l] := rfl
theorem st12_6 {a b c d e f g h i j k l v : Option AV} : [a, b, c, d, e, f, g, h, i, j, k, l].set 6 v = [a, b, c, d, e, f, v, h, i, j, k, l] := rfl
theorem st12_7 {a b c d e f g h i j k l v : Option AV} : [a, b, c, d, e, f, g, h, i, j, k, l].set 7 v = [a, b, c, d, e, f, g, v, i, j, k, l] := rfl
theorem st12_8 {a b c d e f g h i j k l v : Option AV} : [a, b, c, d, e, f, g, h, i, j, k, l].set 8 v = [a, b, c, d, e, f, g, h, v, j, k, l] := rfl
theorem st12_9 {a b c d e f g h i j k l v : Option AV} : [a, b, c, d, e, f, g, h, i, j, k, l].set 9 v = [a, b, c, d, e, f, g, h, i, v, k, l] := rfl
theorem st12_10 {a b c d e f g h i j k l v : Option AV} : [a, b, c, d, e, f, g, h, i, j, k, l].set 10 v = [a, b, c, d, e, f, g, h, i, j, v, l] := rfl
theorem st12_11 {a b c d e f g h i j k l v : Option AV} : [a, b, c, d, e, f, g, h, i, j, k, l].set 11 v = [a, b, c, d, e, f, g, h, i, j, k, v] := rfl
theorem fx0_0 {j : Nat} : fixR 0 j 0 = j := rfl
theorem mu0_0 : mutR 0 0 = false := rfl
theorem fx0_1 {j : Nat} : fixR 0 j 1 = j := rfl
theorem mu0_1 : mutR 0 1 = false := rfl
theorem fx0_2 {j : Nat} : fixR 0 j 2 = j := rfl
theorem mu0_2 : mutR 0 2 = false := rfl
theorem fx2_0 {j : Nat} : fixR 2 j 0 = j := rfl
theorem mu2_0 : mutR 2 0 = false := rfl
theorem fx3_0 {j : Nat} : fixR 3 j 0 = j := rfl
theorem mu3_0 : mutR 3 0 = false := rfl
theorem fx3_1 {j : Nat} : fixR 3 j 1 = j := rfl
theorem mu3_1 : mutR 3 1 = false := rfl
theorem fx3_2 {j : Nat} : fixR 3 j 2 = 3 * j := rfl
theorem mu3_2 : mutR 3 2 = false := rfl
theorem fx3_3 {j : Nat} : fixR 3 j 3 = 3 * j + 1 := rfl
theorem mu3_3 : mutR 3 3 = false := rfl
theorem fx3_4 {j : Nat} : fixR 3 j 4 = 3 * j + 2 := rfl
theorem mu3_4 : mutR 3 4 = false := rfl
theorem fx4_0 {j : Nat} : fixR 4 j 0 = 2 * j := rfl
theorem mu4_0 : mutR 4 0 = false := rfl
theorem fx4_1 {j : Nat} : fixR 4 j 1 = 2 * j + 1 := rfl
theorem mu4_1 : mutR 4 1 = false := rfl
theorem fx4_2 {j : Nat} : fixR 4 j 2 = j := rfl
theorem mu4_2 : mutR 4 2 = false := rfl
theorem fx5_0 {j : Nat} : fixR 5 j 0 = 0 := rfl
theorem mu5_0 : mutR 5 0 = false := rfl
theorem fx7_0 {j : Nat} : fixR 7 j 0 = j := rfl
theorem mu7_0 : mutR 7 0 = false := rfl
theorem fx9_0 {j : Nat} : fixR 9 j 0 = j := rfl
theorem mu9_0 : mutR 9 0 = false := rfl
theorem fx10_0 {j : Nat} : fixR 10 j 0 = 0 := rfl
theorem mu10_0 : mutR 10 0 = false := rfl
theorem fx10_1 {j : Nat} : fixR 10 j 1 = 0 := rfl
theorem mu10_1 : mutR 10 1 = false := rfl
theorem fx10_2 {j : Nat} : fixR 10 j 2 = 0 := rfl
theorem mu10_2 : mutR 10 2 = false := rfl
theorem fx10_3 {j : Nat} : fixR 10 j 3 = 0 := rfl
theorem mu10_3 : mutR 10 3 = false := rfl
theorem fx11_1 {j : Nat} : fixR 11 j 1 = 0 := rfl
theorem mu11_1 : mutR 11 1 = false := rfl
theorem fx11_3 {j : Nat} : fixR 11 j 3 = 0 := rfl
theorem mu11_3 : mutR 11 3 = false := rfl
theorem fx11_4 {j : Nat} : fixR 11 j 4 = 0 := rfl
theorem mu11_4 : mutR 11 4 = false := rfl
theorem fx11_5 {j : Nat} : fixR 11 j 5 = 0 := rfl
theorem mu11_5 : mutR 11 5 = false := rfl
theorem fx11_21 {j : Nat} : fixR 11 j 21 = 0 := rfl
theorem mu11_21 : mutR 11 21 = false := rfl
theorem fx11_22 {j : Nat} : fixR 11 j 22 = 0 := rfl
theorem mu11_22 : mutR 11 22 = false := rfl
theorem fx11_23 {j : Nat} : fixR 11 j 23 = 0 := rfl
theorem mu11_23 : mutR 11 23 = false := rfl
theorem fx11_24 {j : Nat} : fixR 11 j 24 = 0 := rfl
theorem mu11_24 : mutR 11 24 = false := rfl
theorem fx11_25 {j : Nat} : fixR 11 j 25 = 0 := rfl
theorem mu11_25 : mutR 11 25 = false := rfl
theorem fx11_26 {j : Nat} : fixR 11 j 26 = 0 := rfl
theorem mu11_26 : mutR 11 26 = false := rfl
theorem fx11_27 {j : Nat} : fixR 11 j 27 = 0 := rfl
theorem mu11_27 : mutR 11 27 = false := rfl
theorem fx11_28 {j : Nat} : fixR 11 j 28 = 0 := rfl
theorem mu11_28 : mutR 11 28 = false := rfl
theorem fx11_29 {j : Nat} : fixR 11 j 29 = 0 := rfl
theorem mu11_29 : mutR 11 29 = false := rfl
theorem fx11_31 {j : Nat} : fixR 11 j 31 = 0 := rfl
theorem mu11_31 : mutR 11 31 = false := rfl
theorem fx11_32 {j : Nat} : fixR 11 j 32 = 0 := rfl
theorem mu11_32 : mutR 11 32 = false := rfl
theorem fx11_33 {j : Nat} : fixR 11 j 33 = 0 := rfl
theorem mu11_33 : mutR 11 33 = false := rfl
theorem fx11_35 {j : Nat} : fixR 11 j 35 = 0 := rfl
theorem mu11_35 : mutR 11 35 = false := rfl
theorem fx11_36 {j : Nat} : fixR 11 j 36 = 0 := rfl
theorem mu11_36 : mutR 11 36 = false := rfl
theorem fx11_38 {j : Nat} : fixR 11 j 38 = 0 := rfl
theorem mu11_38 : mutR 11 38 = false := rfl
theorem ak12 : (12 ≤ 12 ∧ 12 < 42) ∧ kA 12 = (1, 48, 0) := ⟨by decide, rfl⟩
theorem ak13 : (12 ≤ 13 ∧ 13 < 42) ∧ kA 13 = (5, 4, 7 + 2) := ⟨by decide, rfl⟩
theorem ak14 : (12 ≤ 14 ∧ 14 < 42) ∧ kA 14 = (6, 24, 8 + 2) := ⟨by decide, rfl⟩
theorem ak15 : (12 ≤ 15 ∧ 15 < 42) ∧ kA 15 = (3, 96, 1) := ⟨by decide, rfl⟩
theorem ak16 : (12 ≤ 16 ∧ 16 < 42) ∧ kA 16 = (4, 96, 0) := ⟨by decide, rfl⟩
theorem ak17 : (12 ≤ 17 ∧ 17 < 42) ∧ kA 17 = (2, 96, 0) := ⟨by decide, rfl⟩
theorem ak18 : (12 ≤ 18 ∧ 18 < 42) ∧ kA 18 = (7, 4, 19 + 2) := ⟨by decide, rfl⟩
theorem ak19 : (12 ≤ 19 ∧ 19 < 42) ∧ kA 19 = (2, 3, 0) := ⟨by decide, rfl⟩
theorem ak20 : (12 ≤ 20 ∧ 20 < 42) ∧ kA 20 = (2, 4, 0) := ⟨by decide, rfl⟩
theorem ak21 : (12 ≤ 21 ∧ 21 < 42) ∧ kA 21 = (0, 2048, 0) := ⟨by decide, rfl⟩
theorem ak22 : (12 ≤ 22 ∧ 22 < 42) ∧ kA 22 = (1, 48, 0) := ⟨by decide, rfl⟩
theorem ak23 : (12 ≤ 23 ∧ 23 < 42) ∧ kA 23 = (2, 4, 0) := ⟨by decide, rfl⟩
theorem ak24 : (12 ≤ 24 ∧ 24 < 42) ∧ kA 24 = (2, 96, 0) := ⟨by decide, rfl⟩
theorem ak25 : (12 ≤ 25 ∧ 25 < 42) ∧ kA 25 = (1, 4608, 0) := ⟨by decide, rfl⟩
theorem ak26 : (12 ≤ 26 ∧ 26 < 42) ∧ kA 26 = (1, 1152, 0) := ⟨by decide, rfl⟩
theorem ak27 : (12 ≤ 27 ∧ 27 < 42) ∧ kA 27 = (2, 192, 0) := ⟨by decide, rfl⟩
theorem ak28 : (12 ≤ 28 ∧ 28 < 42) ∧ kA 28 = (2, 192, 0) := ⟨by decide, rfl⟩
theorem ak29 : (12 ≤ 29 ∧ 29 < 42) ∧ kA 29 = (2, 192, 0) := ⟨by decide, rfl⟩
theorem ak30 : (12 ≤ 30 ∧ 30 < 42) ∧ kA 30 = (4, 192, 0) := ⟨by decide, rfl⟩
theorem ak31 : (12 ≤ 31 ∧ 31 < 42) ∧ kA 31 = (2, 12, 0) := ⟨by decide, rfl⟩
theorem ak32 : (12 ≤ 32 ∧ 32 < 42) ∧ kA 32 = (2, 12, 0) := ⟨by decide, rfl⟩
theorem ak33 : (12 ≤ 33 ∧ 33 < 42) ∧ kA 33 = (2, 12, 0) := ⟨by decide, rfl⟩
theorem ak34 : (12 ≤ 34 ∧ 34 < 42) ∧ kA 34 = (2, 12288, 0) := ⟨by decide, rfl⟩
theorem ak35 : (12 ≤ 35 ∧ 35 < 42) ∧ kA 35 = (2, 12, 0) := ⟨by decide, rfl⟩
theorem ak36 : (12 ≤ 36 ∧ 36 < 42) ∧ kA 36 = (2, 12, 0) := ⟨by decide, rfl⟩
theorem ak37 : (12 ≤ 37 ∧ 37 < 42) ∧ kA 37 = (2, 2048, 0) := ⟨by decide, rfl⟩
theorem ak38 : (12 ≤ 38 ∧ 38 < 42) ∧ kA 38 = (2, 3, 0) := ⟨by decide, rfl⟩
theorem ak39 : (12 ≤ 39 ∧ 39 < 42) ∧ kA 39 = (1, 6400, 0) := ⟨by decide, rfl⟩
theorem ak40 : (12 ≤ 40 ∧ 40 < 42) ∧ kA 40 = (2, 12, 0) := ⟨by decide, rfl⟩
theorem ak41 : (12 ≤ 41 ∧ 41 < 42) ∧ kA 41 = (3, 1, 1) := ⟨by decide, rfl⟩
theorem fx13 {j m : Nat} : fixR 13 j m = m := rfl
theorem fx14 {j m : Nat} : fixR 14 j m = 24 * j + m := rfl
theorem fx18 {j m : Nat} : fixR 18 j m = 4 * j + m := rfl
/-! booleans as the machine has them -/
def bI (b : Bool) : Int32 := if b then nI 1 else nI 0
theorem bI_0 {b : Bool} : bI b = 0 ↔ b = false := by cases b <;> decide
theorem bI_n {b : Bool} : narrow .boolean (.int (bI b)) = .int (bI b) := by cases b <;> rfl
section BOO
variable {G : GX} {I : MIx} {Post : Option AV → Mem → Prop} {pc : Nat} {ls : List (Option AV)} {st : List AV} {M : Mem}
theorem Rn.if_eqB {b : Bool} {off : Int} {tgt : Nat} (hd : decode I.1 pc = .ok (.ifCond .eq off, 3)) (ht : (pc : Int) + off = (tgt : Int)) (kt : b = false → Rn G I Post tgt ls st M) (kf : b = true → Rn G I Post (pc + 3) ls st M) : Rn G I Post pc ls (vI (bI b) :: st) M :=
  Rn.if_eq (y := 0) hd ht (fun h => kt (bI_0.mp h)) (fun h => kf (by cases b; exact absurd rfl h; rfl))
theorem Rn.if_neB {b : Bool} {off : Int} {tgt : Nat} (hd : decode I.1 pc = .ok (.ifCond .ne off, 3)) (ht : (pc : Int) + off = (tgt : Int)) (kt : b = true → Rn G I Post tgt ls st M) (kf : b = false → Rn G I Post (pc + 3) ls st M) : Rn G I Post pc ls (vI (bI b) :: st) M :=
  Rn.if_ne (y := 0) hd ht (fun h => kt (by cases b; exact absurd rfl h; rfl)) (fun h => kf (by cases b; rfl; exact absurd h (by decide)))
end BOO
theorem nI_ch {x : Nat} (h : x < 65536) : narrow .char (.int (nI x)) = .int (nI x) := (pk_charN h).1
theorem vnc {x : Nat} (h : x < 65536) : vp_nar .char (nI x) = nI x := by
  have := (pk_charN h).1
  unfold vp_nar
  rw [this]
/-! memory: writes in a row -/
theorem up3_up3 {α : Type} (f : Nat → Nat → Nat → α) (k j s : Nat) (v w : α) : up3 (up3 f k j s v) k j s w = up3 f k j s w := by
  funext a b c
  unfold up3
  split <;> rfl
theorem up3_comm {α : Type} (f : Nat → Nat → Nat → α) {k j s k' j' s' : Nat} (v w : α) (h : ¬ (k = k' ∧ j = j' ∧ s = s')) : up3 (up3 f k j s v) k' j' s' w = up3 (up3 f k' j' s' w) k j s v := by
  funext a b c
  unfold up3
  by_cases h1 : a = k ∧ b = j ∧ c = s
  · by_cases h2 : a = k' ∧ b = j' ∧ c = s'
    · exact absurd ⟨h1.1.symm.trans h2.1, h1.2.1.symm.trans h2.2.1, h1.2.2.symm.trans h2.2.2⟩ h
    · rw [if_neg h2, if_pos h1, if_pos h1]
  · by_cases h2 : a = k' ∧ b = j' ∧ c = s'
    · rw [if_pos h2, if_neg h1, if_pos h2]
    · rw [if_neg h2, if_neg h1, if_neg h1, if_neg h2]
theorem sI_sI {M : Mem} {k j s : Nat} {v w : Int32} : sI (sI M k j s v) k j s w = sI M k j s w := by
  unfold sI; rw [up3_up3]
theorem sI_comm {M : Mem} {k j s k' j' s' : Nat} {v w : Int32} (h : ¬ (k = k' ∧ j = j' ∧ s = s')) : sI (sI M k j s v) k' j' s' w = sI (sI M k' j' s' w) k j s v := by
  unfold sI; rw [up3_comm _ _ _ h]
theorem sI_self {M : Mem} {k j s : Nat} {v : Int32} (h : mI M k j s = v) : sI M k j s v = M := by
  unfold sI
  refine Prod.ext ?_ rfl
  funext a b c
  show (if _ then _ else _) = _
  split
  · rename_i q; obtain ⟨rfl, rfl, rfl⟩ := q; exact h.symm
  · rfl
/-! runs of characters -/
def runF (p : Nat → Bool) (L : Nat → Nat) : Nat → Nat → Nat
  | 0, a => a
  | f + 1, a => if p (L a) then runF p L f (a + 1) else a
def run (p : Nat → Bool) (L : Nat → Nat) (n a : Nat) : Nat := runF p L (n - a) a
theorem run_end {p : Nat → Bool} {L : Nat → Nat} {n a : Nat} (h : n ≤ a) : run p L n a = a := by
  unfold run; rw [Nat.sub_eq_zero_of_le h]; rfl
theorem run_yes {p : Nat → Bool} {L : Nat → Nat} {n a : Nat} (h : a < n) (hp : p (L a) = true) : run p L n a = run p L n (a + 1) := by
  unfold run
  obtain ⟨d, hd⟩ : ∃ d, n - a = d + 1 := ⟨n - a - 1, by omega⟩
  rw [hd, show n - (a + 1) = d by omega, runF, if_pos hp]
theorem run_no {p : Nat → Bool} {L : Nat → Nat} {n a : Nat} (h : a < n) (hp : p (L a) = false) : run p L n a = a := by
  unfold run
  obtain ⟨d, hd⟩ : ∃ d, n - a = d + 1 := ⟨n - a - 1, by omega⟩
  rw [hd, runF, if_neg (by rw [hp]; decide)]
theorem run_spec (p : Nat → Bool) (L : Nat → Nat) (n : Nat) : ∀ (d a : Nat), n - a = d → a ≤ n → a ≤ run p L n a ∧ run p L n a ≤ n ∧ (∀ i, a ≤ i → i < run p L n a → p (L i) = true) ∧ (run p L n a < n → p (L (run p L n a)) = false) := by
  intro d
  induction d with
  | zero =>
    intro a hd ha
    rw [run_end (by omega)]
    exact ⟨Nat.le_refl _, ha, fun i h1 h2 => by omega, fun h => by omega⟩
  | succ d ih =>
    intro a hd ha
    cases hp : p (L a) with
    | true =>
      rw [run_yes (by omega) hp]
      obtain ⟨h1, h2, h3, h4⟩ := ih (a + 1) (by omega) (by omega)
      refine ⟨by omega, h2, fun i h5 h6 => ?_, h4⟩
      rcases Nat.lt_or_ge a i with h | h
      · exact h3 i h h6
      · rw [show i = a by omega]; exact hp
    | false =>
      rw [run_no (by omega) hp]
      exact ⟨Nat.le_refl _, ha, fun i h1 h2 => by omega, fun _ => hp⟩
theorem run_ge {p : Nat → Bool} {L : Nat → Nat} {n a : Nat} (h : a ≤ n) : a ≤ run p L n a := (run_spec p L n _ a rfl h).1
theorem run_le {p : Nat → Bool} {L : Nat → Nat} {n a : Nat} (h : a ≤ n) : run p L n a ≤ n := (run_spec p L n _ a rfl h).2.1
theorem run_all {p : Nat → Bool} {L : Nat → Nat} {n a : Nat} (h : a ≤ n) : ∀ i, a ≤ i → i < run p L n a → p (L i) = true := (run_spec p L n _ a rfl h).2.2.1
theorem run_stop {p : Nat → Bool} {L : Nat → Nat} {n a : Nat} (h : a ≤ n) : run p L n a < n → p (L (run p L n a)) = false := (run_spec p L n _ a rfl h).2.2.2
def isLow (c : Nat) : Bool := decide (97 ≤ c) && decide (c ≤ 122)
def isDig (c : Nat) : Bool := decide (48 ≤ c) && decide (c ≤ 57)
def isWs (c : Nat) : Bool := isLow c || isDig c
def isBl (c : Nat) : Bool := decide (c = 32)
def skp (L : Nat → Nat) (n a : Nat) : Nat := run isBl L n a
def chA (L : Nat → Nat) (n a : Nat) : Nat := if a < n then L a else 0
/-- where the word ends that begins at a (blanks are behind) -/
def wEnd (L : Nat → Nat) (n a : Nat) : Nat := if a < n ∧ L a = 46 then run isLow L n (a + 1) else run isWs L n a
