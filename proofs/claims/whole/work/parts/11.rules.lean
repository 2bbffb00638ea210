section JG
variable {E : gT} {cc : ByteArray} {nL : Nat} {own : String} {ret : Option FieldType} {d : Nat} {K : Option Value → Mm → Prop} {pc : Nat} {lv : List (Option Value)} {st : List Value} {u : Mm}
theorem jg_iload_n {k : Fin 4} {i : Nat} {x : Int32} (hd : decode cc pc = .ok (.iload_n k, 1)) (hi : (k : Nat) = i) (hl : lv[i]? = some (some (.int x))) (kk : G E cc nL own ret d K (pc + 1) lv (.int x :: st) u) : G E cc nL own ret d K pc lv st u := by
  intro p l e s m args below meth c H locs ls hC hR
  exact lv_iload_n hC.1 hC.2.1 hd hi (hR.2.2.2.2.2 _ _ hl) (kk p l e s m args below meth c H locs ls hC hR)
theorem jg_iload {i : Nat} {x : Int32} (hd : decode cc pc = .ok (.iload i, 2)) (hl : lv[i]? = some (some (.int x))) (kk : G E cc nL own ret d K (pc + 2) lv (.int x :: st) u) : G E cc nL own ret d K pc lv st u := by
  intro p l e s m args below meth c H locs ls hC hR
  exact lv_iload hC.1 hC.2.1 hd (hR.2.2.2.2.2 _ _ hl) (kk p l e s m args below meth c H locs ls hC hR)
theorem jg_lload_n {k : Fin 4} {i : Nat} {x : Int64} (hd : decode cc pc = .ok (.lload_n k, 1)) (hi : (k : Nat) = i) (hl : lv[i]? = some (some (.long x))) (kk : G E cc nL own ret d K (pc + 1) lv (.long x :: st) u) : G E cc nL own ret d K pc lv st u := by
  intro p l e s m args below meth c H locs ls hC hR
  exact lv_lload_n hC.1 hC.2.1 hd hi (hR.2.2.2.2.2 _ _ hl) (kk p l e s m args below meth c H locs ls hC hR)
theorem jg_lload {i : Nat} {x : Int64} (hd : decode cc pc = .ok (.lload i, 2)) (hl : lv[i]? = some (some (.long x))) (kk : G E cc nL own ret d K (pc + 2) lv (.long x :: st) u) : G E cc nL own ret d K pc lv st u := by
  intro p l e s m args below meth c H locs ls hC hR
  exact lv_lload hC.1 hC.2.1 hd (hR.2.2.2.2.2 _ _ hl) (kk p l e s m args below meth c H locs ls hC hR)
theorem jg_aload_n {k : Fin 4} {i : Nat} {x : Nat} (hd : decode cc pc = .ok (.aload_n k, 1)) (hi : (k : Nat) = i) (hl : lv[i]? = some (some (.ref x))) (kk : G E cc nL own ret d K (pc + 1) lv (.ref x :: st) u) : G E cc nL own ret d K pc lv st u := by
  intro p l e s m args below meth c H locs ls hC hR
  exact lv_aload_n hC.1 hC.2.1 hd hi (hR.2.2.2.2.2 _ _ hl) (kk p l e s m args below meth c H locs ls hC hR)
theorem jg_aload {i : Nat} {x : Nat} (hd : decode cc pc = .ok (.aload i, 2)) (hl : lv[i]? = some (some (.ref x))) (kk : G E cc nL own ret d K (pc + 2) lv (.ref x :: st) u) : G E cc nL own ret d K pc lv st u := by
  intro p l e s m args below meth c H locs ls hC hR
  exact lv_aload hC.1 hC.2.1 hd (hR.2.2.2.2.2 _ _ hl) (kk p l e s m args below meth c H locs ls hC hR)
theorem jg_iconst {n : Int} {v : Int32} (hd : decode cc pc = .ok (.iconst n, 1)) (hv : Int32.ofInt n = v) (kk : G E cc nL own ret d K (pc + 1) lv (.int v :: st) u) : G E cc nL own ret d K pc lv st u := by
  intro p l e s m args below meth c H locs ls hC hR
  exact lv_iconst hC.1 hC.2.1 hd hv (kk p l e s m args below meth c H locs ls hC hR)
theorem jg_bipush {n : Int} {v : Int32} (hd : decode cc pc = .ok (.bipush n, 2)) (hv : (Int8.ofInt n).toInt32 = v) (kk : G E cc nL own ret d K (pc + 2) lv (.int v :: st) u) : G E cc nL own ret d K pc lv st u := by
  intro p l e s m args below meth c H locs ls hC hR
  exact lv_bipush hC.1 hC.2.1 hd hv (kk p l e s m args below meth c H locs ls hC hR)
theorem jg_sipush {n : Int} {v : Int32} (hd : decode cc pc = .ok (.sipush n, 3)) (hv : (Int16.ofInt n).toInt32 = v) (kk : G E cc nL own ret d K (pc + 3) lv (.int v :: st) u) : G E cc nL own ret d K pc lv st u := by
  intro p l e s m args below meth c H locs ls hC hR
  exact lv_sipush hC.1 hC.2.1 hd hv (kk p l e s m args below meth c H locs ls hC hR)
theorem jg_lconst {n : Fin 2} {v : Int64} (hd : decode cc pc = .ok (.lconst n, 1)) (hv : Int64.ofNat (n : Nat) = v) (kk : G E cc nL own ret d K (pc + 1) lv (.long v :: st) u) : G E cc nL own ret d K pc lv st u := by
  intro p l e s m args below meth c H locs ls hC hR
  exact lv_lconst hC.1 hC.2.1 hd hv (kk p l e s m args below meth c H locs ls hC hR)
theorem jg_iadd {x y : Int32} (hd : decode cc pc = .ok (.iadd, 1))  (kk : G E cc nL own ret d K (pc + 1) lv (.int (x + y) :: st) u) : G E cc nL own ret d K pc lv (.int y :: .int x :: st) u := by
  intro p l e s m args below meth c H locs ls hC hR
  exact lv_iadd hC.1 hC.2.1 hd (kk p l e s m args below meth c H locs ls hC hR)
theorem jg_iaddE {x y z : Int32} (hd : decode cc pc = .ok (.iadd, 1)) (hz : x + y = z) (kk : G E cc nL own ret d K (pc + 1) lv (.int z :: st) u) : G E cc nL own ret d K pc lv (.int y :: .int x :: st) u := by
  subst hz
  exact jg_iadd hd kk
theorem jg_isub {x y : Int32} (hd : decode cc pc = .ok (.isub, 1))  (kk : G E cc nL own ret d K (pc + 1) lv (.int (x - y) :: st) u) : G E cc nL own ret d K pc lv (.int y :: .int x :: st) u := by
  intro p l e s m args below meth c H locs ls hC hR
  exact lv_isub hC.1 hC.2.1 hd (kk p l e s m args below meth c H locs ls hC hR)
theorem jg_isubE {x y z : Int32} (hd : decode cc pc = .ok (.isub, 1)) (hz : x - y = z) (kk : G E cc nL own ret d K (pc + 1) lv (.int z :: st) u) : G E cc nL own ret d K pc lv (.int y :: .int x :: st) u := by
  subst hz
  exact jg_isub hd kk
theorem jg_imul {x y : Int32} (hd : decode cc pc = .ok (.imul, 1))  (kk : G E cc nL own ret d K (pc + 1) lv (.int (x * y) :: st) u) : G E cc nL own ret d K pc lv (.int y :: .int x :: st) u := by
  intro p l e s m args below meth c H locs ls hC hR
  exact lv_imul hC.1 hC.2.1 hd (kk p l e s m args below meth c H locs ls hC hR)
theorem jg_imulE {x y z : Int32} (hd : decode cc pc = .ok (.imul, 1)) (hz : x * y = z) (kk : G E cc nL own ret d K (pc + 1) lv (.int z :: st) u) : G E cc nL own ret d K pc lv (.int y :: .int x :: st) u := by
  subst hz
  exact jg_imul hd kk
theorem jg_iand {x y : Int32} (hd : decode cc pc = .ok (.iand, 1))  (kk : G E cc nL own ret d K (pc + 1) lv (.int (x &&& y) :: st) u) : G E cc nL own ret d K pc lv (.int y :: .int x :: st) u := by
  intro p l e s m args below meth c H locs ls hC hR
  exact lv_iand hC.1 hC.2.1 hd (kk p l e s m args below meth c H locs ls hC hR)
theorem jg_iandE {x y z : Int32} (hd : decode cc pc = .ok (.iand, 1)) (hz : x &&& y = z) (kk : G E cc nL own ret d K (pc + 1) lv (.int z :: st) u) : G E cc nL own ret d K pc lv (.int y :: .int x :: st) u := by
  subst hz
  exact jg_iand hd kk
theorem jg_ior {x y : Int32} (hd : decode cc pc = .ok (.ior, 1))  (kk : G E cc nL own ret d K (pc + 1) lv (.int (x ||| y) :: st) u) : G E cc nL own ret d K pc lv (.int y :: .int x :: st) u := by
  intro p l e s m args below meth c H locs ls hC hR
  exact lv_ior hC.1 hC.2.1 hd (kk p l e s m args below meth c H locs ls hC hR)
theorem jg_iorE {x y z : Int32} (hd : decode cc pc = .ok (.ior, 1)) (hz : x ||| y = z) (kk : G E cc nL own ret d K (pc + 1) lv (.int z :: st) u) : G E cc nL own ret d K pc lv (.int y :: .int x :: st) u := by
  subst hz
  exact jg_ior hd kk
theorem jg_ishl {x y : Int32} (hd : decode cc pc = .ok (.ishl, 1))  (kk : G E cc nL own ret d K (pc + 1) lv (.int (x <<< (y &&& 31)) :: st) u) : G E cc nL own ret d K pc lv (.int y :: .int x :: st) u := by
  intro p l e s m args below meth c H locs ls hC hR
  exact lv_ishl hC.1 hC.2.1 hd (kk p l e s m args below meth c H locs ls hC hR)
theorem jg_ishlE {x y z : Int32} (hd : decode cc pc = .ok (.ishl, 1)) (hz : x <<< (y &&& 31) = z) (kk : G E cc nL own ret d K (pc + 1) lv (.int z :: st) u) : G E cc nL own ret d K pc lv (.int y :: .int x :: st) u := by
  subst hz
  exact jg_ishl hd kk
theorem jg_ishr {x y : Int32} (hd : decode cc pc = .ok (.ishr, 1))  (kk : G E cc nL own ret d K (pc + 1) lv (.int (x >>> (y &&& 31)) :: st) u) : G E cc nL own ret d K pc lv (.int y :: .int x :: st) u := by
  intro p l e s m args below meth c H locs ls hC hR
  exact lv_ishr hC.1 hC.2.1 hd (kk p l e s m args below meth c H locs ls hC hR)
theorem jg_ishrE {x y z : Int32} (hd : decode cc pc = .ok (.ishr, 1)) (hz : x >>> (y &&& 31) = z) (kk : G E cc nL own ret d K (pc + 1) lv (.int z :: st) u) : G E cc nL own ret d K pc lv (.int y :: .int x :: st) u := by
  subst hz
  exact jg_ishr hd kk
theorem jg_idivE {x y z : Int32} (hd : decode cc pc = .ok (.idiv, 1)) (hne : ¬ y = 0) (hz : x / y = z) (kk : G E cc nL own ret d K (pc + 1) lv (.int z :: st) u) : G E cc nL own ret d K pc lv (.int y :: .int x :: st) u := by
  subst hz
  intro p l e s m args below meth c H locs ls hC hR
  exact lv_idiv hC.1 hC.2.1 hd hne (kk p l e s m args below meth c H locs ls hC hR)
theorem jg_iremE {x y z : Int32} (hd : decode cc pc = .ok (.irem, 1)) (hne : ¬ y = 0) (hz : x - x / y * y = z) (kk : G E cc nL own ret d K (pc + 1) lv (.int z :: st) u) : G E cc nL own ret d K pc lv (.int y :: .int x :: st) u := by
  subst hz
  intro p l e s m args below meth c H locs ls hC hR
  exact lv_irem hC.1 hC.2.1 hd hne (kk p l e s m args below meth c H locs ls hC hR)
theorem jg_ldivE {x y z : Int64} (hd : decode cc pc = .ok (.ldiv, 1)) (hne : ¬ y = 0) (hz : x / y = z) (kk : G E cc nL own ret d K (pc + 1) lv (.long z :: st) u) : G E cc nL own ret d K pc lv (.long y :: .long x :: st) u := by
  subst hz
  intro p l e s m args below meth c H locs ls hC hR
  exact lv_ldiv hC.1 hC.2.1 hd hne (kk p l e s m args below meth c H locs ls hC hR)
theorem jg_lremE {x y z : Int64} (hd : decode cc pc = .ok (.lrem, 1)) (hne : ¬ y = 0) (hz : x - x / y * y = z) (kk : G E cc nL own ret d K (pc + 1) lv (.long z :: st) u) : G E cc nL own ret d K pc lv (.long y :: .long x :: st) u := by
  subst hz
  intro p l e s m args below meth c H locs ls hC hR
  exact lv_lrem hC.1 hC.2.1 hd hne (kk p l e s m args below meth c H locs ls hC hR)
theorem jg_lcmp {x y : Int64} (hd : decode cc pc = .ok (.lcmp, 1))  (kk : G E cc nL own ret d K (pc + 1) lv (.int (lg_cmp x y) :: st) u) : G E cc nL own ret d K pc lv (.long y :: .long x :: st) u := by
  intro p l e s m args below meth c H locs ls hC hR
  exact W.lcmp hC.1 hC.2.1 hd (kk p l e s m args below meth c H locs ls hC hR)
theorem jg_iushr {x y v : Int32} (hd : decode cc pc = .ok (.iushr, 1)) (hv : (x.toUInt32 >>> (y.toUInt32 &&& Int32.toUInt32 31)).toInt32 = v) (kk : G E cc nL own ret d K (pc + 1) lv (.int v :: st) u) : G E cc nL own ret d K pc lv (.int y :: .int x :: st) u := by
  intro p l e s m args below meth c H locs ls hC hR
  exact lv_iushr hC.1 hC.2.1 hd hv (kk p l e s m args below meth c H locs ls hC hR)
theorem jg_i2l {x : Int32} {v : Int64} (hd : decode cc pc = .ok (.i2l, 1)) (hv : x.toInt64 = v) (kk : G E cc nL own ret d K (pc + 1) lv (.long v :: st) u) : G E cc nL own ret d K pc lv (.int x :: st) u := by
  intro p l e s m args below meth c H locs ls hC hR
  exact lv_i2l hC.1 hC.2.1 hd hv (kk p l e s m args below meth c H locs ls hC hR)
theorem jg_i2b {x : Int32} {v : Int32} (hd : decode cc pc = .ok (.i2b, 1)) (hv : x.toInt8.toInt32 = v) (kk : G E cc nL own ret d K (pc + 1) lv (.int v :: st) u) : G E cc nL own ret d K pc lv (.int x :: st) u := by
  intro p l e s m args below meth c H locs ls hC hR
  exact lv_i2b hC.1 hC.2.1 hd hv (kk p l e s m args below meth c H locs ls hC hR)
theorem jg_i2s {x : Int32} {v : Int32} (hd : decode cc pc = .ok (.i2s, 1)) (hv : x.toInt16.toInt32 = v) (kk : G E cc nL own ret d K (pc + 1) lv (.int v :: st) u) : G E cc nL own ret d K pc lv (.int x :: st) u := by
  intro p l e s m args below meth c H locs ls hC hR
  exact lv_i2s hC.1 hC.2.1 hd hv (kk p l e s m args below meth c H locs ls hC hR)
theorem jg_dup {va : Value} (hd : decode cc pc = .ok (.dup, 1)) (hva : va.category = 1) (kk : G E cc nL own ret d K (pc + 1) lv (va :: va :: st) u) : G E cc nL own ret d K pc lv (va :: st) u := by
  intro p l e s m args below meth c H locs ls hC hR
  exact lv_dup hC.1 hC.2.1 hd hva (kk p l e s m args below meth c H locs ls hC hR)
theorem jg_dup2 {va vb : Value} (hd : decode cc pc = .ok (.dup2, 1)) (hva : va.category = 1) (hvb : vb.category = 1) (kk : G E cc nL own ret d K (pc + 1) lv (va :: vb :: va :: vb :: st) u) : G E cc nL own ret d K pc lv (va :: vb :: st) u := by
  intro p l e s m args below meth c H locs ls hC hR
  exact lv_dup2_11 hC.1 hC.2.1 hd hva hvb (kk p l e s m args below meth c H locs ls hC hR)
theorem jg_if_eq {x : Int32} {off : Int} (tgt : Nat) (hd : decode cc pc = .ok (.ifCond .eq off, 3)) (ht : (pc : Int) + off = (tgt : Int)) (kt : x = 0 → G E cc nL own ret d K tgt lv st u) (kf : ¬ x = 0 → G E cc nL own ret d K (pc + 3) lv st u) : G E cc nL own ret d K pc lv (.int x :: st) u := by
  intro p l e s m args below meth c H locs ls hC hR
  exact lv_if_eq hC.1 hC.2.1 hd ht (fun h => kt h p l e s m args below meth c H locs ls hC hR) (fun h => kf h p l e s m args below meth c H locs ls hC hR)
theorem jg_if_ne {x : Int32} {off : Int} (tgt : Nat) (hd : decode cc pc = .ok (.ifCond .ne off, 3)) (ht : (pc : Int) + off = (tgt : Int)) (kt : ¬ x = 0 → G E cc nL own ret d K tgt lv st u) (kf : x = 0 → G E cc nL own ret d K (pc + 3) lv st u) : G E cc nL own ret d K pc lv (.int x :: st) u := by
  intro p l e s m args below meth c H locs ls hC hR
  exact lv_if_ne hC.1 hC.2.1 hd ht (fun h => kt h p l e s m args below meth c H locs ls hC hR) (fun h => kf h p l e s m args below meth c H locs ls hC hR)
theorem jg_if_lt {x : Int32} {off : Int} (tgt : Nat) (hd : decode cc pc = .ok (.ifCond .lt off, 3)) (ht : (pc : Int) + off = (tgt : Int)) (kt : x < 0 → G E cc nL own ret d K tgt lv st u) (kf : ¬ x < 0 → G E cc nL own ret d K (pc + 3) lv st u) : G E cc nL own ret d K pc lv (.int x :: st) u := by
  intro p l e s m args below meth c H locs ls hC hR
  exact lv_if_lt hC.1 hC.2.1 hd ht (fun h => kt h p l e s m args below meth c H locs ls hC hR) (fun h => kf h p l e s m args below meth c H locs ls hC hR)
theorem jg_if_ge {x : Int32} {off : Int} (tgt : Nat) (hd : decode cc pc = .ok (.ifCond .ge off, 3)) (ht : (pc : Int) + off = (tgt : Int)) (kt : 0 ≤ x → G E cc nL own ret d K tgt lv st u) (kf : ¬ 0 ≤ x → G E cc nL own ret d K (pc + 3) lv st u) : G E cc nL own ret d K pc lv (.int x :: st) u := by
  intro p l e s m args below meth c H locs ls hC hR
  exact lv_if_ge hC.1 hC.2.1 hd ht (fun h => kt h p l e s m args below meth c H locs ls hC hR) (fun h => kf h p l e s m args below meth c H locs ls hC hR)
theorem jg_if_gt {x : Int32} {off : Int} (tgt : Nat) (hd : decode cc pc = .ok (.ifCond .gt off, 3)) (ht : (pc : Int) + off = (tgt : Int)) (kt : 0 < x → G E cc nL own ret d K tgt lv st u) (kf : ¬ 0 < x → G E cc nL own ret d K (pc + 3) lv st u) : G E cc nL own ret d K pc lv (.int x :: st) u := by
  intro p l e s m args below meth c H locs ls hC hR
  exact lv_if_gt hC.1 hC.2.1 hd ht (fun h => kt h p l e s m args below meth c H locs ls hC hR) (fun h => kf h p l e s m args below meth c H locs ls hC hR)
theorem jg_if_le {x : Int32} {off : Int} (tgt : Nat) (hd : decode cc pc = .ok (.ifCond .le off, 3)) (ht : (pc : Int) + off = (tgt : Int)) (kt : x ≤ 0 → G E cc nL own ret d K tgt lv st u) (kf : ¬ x ≤ 0 → G E cc nL own ret d K (pc + 3) lv st u) : G E cc nL own ret d K pc lv (.int x :: st) u := by
  intro p l e s m args below meth c H locs ls hC hR
  exact lv_if_le hC.1 hC.2.1 hd ht (fun h => kt h p l e s m args below meth c H locs ls hC hR) (fun h => kf h p l e s m args below meth c H locs ls hC hR)
theorem jg_icmp_eq {x y : Int32} {off : Int} (tgt : Nat) (hd : decode cc pc = .ok (.if_icmp .eq off, 3)) (ht : (pc : Int) + off = (tgt : Int)) (kt : x = y → G E cc nL own ret d K tgt lv st u) (kf : ¬ x = y → G E cc nL own ret d K (pc + 3) lv st u) : G E cc nL own ret d K pc lv (.int y :: .int x :: st) u := by
  intro p l e s m args below meth c H locs ls hC hR
  exact lv_icmp_eq hC.1 hC.2.1 hd ht (fun h => kt h p l e s m args below meth c H locs ls hC hR) (fun h => kf h p l e s m args below meth c H locs ls hC hR)
theorem jg_icmp_ne {x y : Int32} {off : Int} (tgt : Nat) (hd : decode cc pc = .ok (.if_icmp .ne off, 3)) (ht : (pc : Int) + off = (tgt : Int)) (kt : ¬ x = y → G E cc nL own ret d K tgt lv st u) (kf : x = y → G E cc nL own ret d K (pc + 3) lv st u) : G E cc nL own ret d K pc lv (.int y :: .int x :: st) u := by
  intro p l e s m args below meth c H locs ls hC hR
  exact lv_icmp_ne hC.1 hC.2.1 hd ht (fun h => kt h p l e s m args below meth c H locs ls hC hR) (fun h => kf h p l e s m args below meth c H locs ls hC hR)
theorem jg_icmp_lt {x y : Int32} {off : Int} (tgt : Nat) (hd : decode cc pc = .ok (.if_icmp .lt off, 3)) (ht : (pc : Int) + off = (tgt : Int)) (kt : x < y → G E cc nL own ret d K tgt lv st u) (kf : ¬ x < y → G E cc nL own ret d K (pc + 3) lv st u) : G E cc nL own ret d K pc lv (.int y :: .int x :: st) u := by
  intro p l e s m args below meth c H locs ls hC hR
  exact lv_icmp_lt hC.1 hC.2.1 hd ht (fun h => kt h p l e s m args below meth c H locs ls hC hR) (fun h => kf h p l e s m args below meth c H locs ls hC hR)
theorem jg_icmp_ge {x y : Int32} {off : Int} (tgt : Nat) (hd : decode cc pc = .ok (.if_icmp .ge off, 3)) (ht : (pc : Int) + off = (tgt : Int)) (kt : y ≤ x → G E cc nL own ret d K tgt lv st u) (kf : ¬ y ≤ x → G E cc nL own ret d K (pc + 3) lv st u) : G E cc nL own ret d K pc lv (.int y :: .int x :: st) u := by
  intro p l e s m args below meth c H locs ls hC hR
  exact lv_icmp_ge hC.1 hC.2.1 hd ht (fun h => kt h p l e s m args below meth c H locs ls hC hR) (fun h => kf h p l e s m args below meth c H locs ls hC hR)
theorem jg_icmp_gt {x y : Int32} {off : Int} (tgt : Nat) (hd : decode cc pc = .ok (.if_icmp .gt off, 3)) (ht : (pc : Int) + off = (tgt : Int)) (kt : y < x → G E cc nL own ret d K tgt lv st u) (kf : ¬ y < x → G E cc nL own ret d K (pc + 3) lv st u) : G E cc nL own ret d K pc lv (.int y :: .int x :: st) u := by
  intro p l e s m args below meth c H locs ls hC hR
  exact lv_icmp_gt hC.1 hC.2.1 hd ht (fun h => kt h p l e s m args below meth c H locs ls hC hR) (fun h => kf h p l e s m args below meth c H locs ls hC hR)
theorem jg_icmp_le {x y : Int32} {off : Int} (tgt : Nat) (hd : decode cc pc = .ok (.if_icmp .le off, 3)) (ht : (pc : Int) + off = (tgt : Int)) (kt : x ≤ y → G E cc nL own ret d K tgt lv st u) (kf : ¬ x ≤ y → G E cc nL own ret d K (pc + 3) lv st u) : G E cc nL own ret d K pc lv (.int y :: .int x :: st) u := by
  intro p l e s m args below meth c H locs ls hC hR
  exact lv_icmp_le hC.1 hC.2.1 hd ht (fun h => kt h p l e s m args below meth c H locs ls hC hR) (fun h => kf h p l e s m args below meth c H locs ls hC hR)
theorem jg_goto {off : Int} (tgt : Nat) (hd : decode cc pc = .ok (.goto off, 3)) (ht : (pc : Int) + off = (tgt : Int)) (kk : G E cc nL own ret d K tgt lv st u) : G E cc nL own ret d K pc lv st u := by
  intro p l e s m args below meth c H locs ls hC hR
  exact lv_goto hC.1 hC.2.1 hd ht (kk p l e s m args below meth c H locs ls hC hR)
theorem jg_tableIn {dflt lo hi : Int} {offs : Array Int} {len : Nat} {x : Int32} {off : Int} (tgt : Nat) (hd : decode cc pc = .ok (.tableswitch dflt lo hi offs, len)) (h1 : ¬ x.toInt < lo) (h2 : ¬ hi < x.toInt) (ho : offs[(x.toInt - lo).toNat]? = some off) (ht : (pc : Int) + off = (tgt : Int)) (kk : G E cc nL own ret d K tgt lv st u) : G E cc nL own ret d K pc lv (.int x :: st) u := by
  intro p l e s m args below meth c H locs ls hC hR
  exact lv_tableIn hC.1 hC.2.1 hd h1 h2 ho ht (kk p l e s m args below meth c H locs ls hC hR)
theorem jg_tableOut {dflt lo hi : Int} {offs : Array Int} {len : Nat} {x : Int32} (tgt : Nat) (hd : decode cc pc = .ok (.tableswitch dflt lo hi offs, len)) (h : x.toInt < lo ∨ hi < x.toInt) (ht : (pc : Int) + dflt = (tgt : Int)) (kk : G E cc nL own ret d K tgt lv st u) : G E cc nL own ret d K pc lv (.int x :: st) u := by
  intro p l e s m args below meth c H locs ls hC hR
  exact lv_tableOut hC.1 hC.2.1 hd h ht (kk p l e s m args below meth c H locs ls hC hR)
theorem jg_lookup {dflt : Int} {ps : Array (Int × Int)} {len : Nat} {x : Int32} {off : Int} (tgt : Nat) (hd : decode cc pc = .ok (.lookupswitch dflt ps, len)) (hp : (ps.toList.zip (ps.toList.drop 1)).all (fun (a, next) => a.1 < next.1) = true) (ho : Op.lookupswitch.offset ps.toList dflt x.toInt = off) (ht : (pc : Int) + off = (tgt : Int)) (kk : G E cc nL own ret d K tgt lv st u) : G E cc nL own ret d K pc lv (.int x :: st) u := by
  intro p l e s m args below meth c H locs ls hC hR
  exact lv_lookup hC.1 hC.2.1 hd hp ho ht (kk p l e s m args below meth c H locs ls hC hR)
theorem jg_istore_n {k : Fin 4} {i : Nat} {x : Int32} (hd : decode cc pc = .ok (.istore_n k, 1)) (hi : (k : Nat) = i) (hn : i < nL) (ho : gOk lv i = true) (kk : G E cc nL own ret d K (pc + 1) (lv.set i (some (.int x))) st u) : G E cc nL own ret d K pc lv (.int x :: st) u := by
  intro p l e s m args below meth c H locs ls hC hR
  exact lv_istore_n hC.1 hC.2.1 hd hi hR.2.2.2.has hn rfl (fun ls' h' => (kk p l e s m args below meth c H locs ls' hC ⟨hR.1, hR.2.1, hR.2.2.1, gV_set ho h'⟩))
theorem jg_istore {i : Nat} {x : Int32} (hd : decode cc pc = .ok (.istore i, 2)) (hn : i < nL) (ho : gOk lv i = true) (kk : G E cc nL own ret d K (pc + 2) (lv.set i (some (.int x))) st u) : G E cc nL own ret d K pc lv (.int x :: st) u := by
  intro p l e s m args below meth c H locs ls hC hR
  exact lv_istore hC.1 hC.2.1 hd hR.2.2.2.has hn rfl (fun ls' h' => (kk p l e s m args below meth c H locs ls' hC ⟨hR.1, hR.2.1, hR.2.2.1, gV_set ho h'⟩))
theorem jg_astore_n {k : Fin 4} {i : Nat} {x : Nat} (hd : decode cc pc = .ok (.astore_n k, 1)) (hi : (k : Nat) = i) (hn : i < nL) (ho : gOk lv i = true) (kk : G E cc nL own ret d K (pc + 1) (lv.set i (some (.ref x))) st u) : G E cc nL own ret d K pc lv (.ref x :: st) u := by
  intro p l e s m args below meth c H locs ls hC hR
  exact lv_astore_n hC.1 hC.2.1 hd hi hR.2.2.2.has hn rfl (fun ls' h' => (kk p l e s m args below meth c H locs ls' hC ⟨hR.1, hR.2.1, hR.2.2.1, gV_set ho h'⟩))
theorem jg_astore {i : Nat} {x : Nat} (hd : decode cc pc = .ok (.astore i, 2)) (hn : i < nL) (ho : gOk lv i = true) (kk : G E cc nL own ret d K (pc + 2) (lv.set i (some (.ref x))) st u) : G E cc nL own ret d K pc lv (.ref x :: st) u := by
  intro p l e s m args below meth c H locs ls hC hR
  exact lv_astore hC.1 hC.2.1 hd hR.2.2.2.has hn rfl (fun ls' h' => (kk p l e s m args below meth c H locs ls' hC ⟨hR.1, hR.2.1, hR.2.2.1, gV_set ho h'⟩))
theorem jg_lstore_n {k : Fin 4} {i : Nat} {x : Int64} (hd : decode cc pc = .ok (.lstore_n k, 1)) (hi : (k : Nat) = i) (hn : i + 1 < nL) (ho : gOk lv i = true) (kk : G E cc nL own ret d K (pc + 1) ((lv.set i (some (.long x))).set (i + 1) none) st u) : G E cc nL own ret d K pc lv (.long x :: st) u := by
  intro p l e s m args below meth c H locs ls hC hR
  exact lv_lstore_n hC.1 hC.2.1 hd hi hR.2.2.2.has hn rfl (fun ls' h' => (kk p l e s m args below meth c H locs ls' hC ⟨hR.1, hR.2.1, hR.2.2.1, gV_set2 ho h'⟩))
theorem jg_lstore {i : Nat} {x : Int64} (hd : decode cc pc = .ok (.lstore i, 2)) (hn : i + 1 < nL) (ho : gOk lv i = true) (kk : G E cc nL own ret d K (pc + 2) ((lv.set i (some (.long x))).set (i + 1) none) st u) : G E cc nL own ret d K pc lv (.long x :: st) u := by
  intro p l e s m args below meth c H locs ls hC hR
  exact lv_lstore hC.1 hC.2.1 hd hR.2.2.2.has hn rfl (fun ls' h' => (kk p l e s m args below meth c H locs ls' hC ⟨hR.1, hR.2.1, hR.2.2.1, gV_set2 ho h'⟩))
theorem jg_iinc {i : Nat} {n : Int} {x v : Int32} (hd : decode cc pc = .ok (.iinc i n, 3)) (hl : lv[i]? = some (some (.int x))) (hv : x + Int32.ofInt n = v) (hn : i < nL) (ho : gOk lv i = true) (kk : G E cc nL own ret d K (pc + 3) (lv.set i (some (.int v))) st u) : G E cc nL own ret d K pc lv st u := by
  intro p l e s m args below meth c H locs ls hC hR
  obtain ⟨k, hk⟩ := List.getElem?_of_mem (gTo_mem.mpr hl)
  exact lv_iinc hC.1 hC.2.1 hd hR.2.2.2.has hk hv hn rfl (fun ls' h' => (kk p l e s m args below meth c H locs ls' hC ⟨hR.1, hR.2.1, hR.2.2.1, gV_set ho h'⟩))
theorem jg_weak {lw : List (Option Value)} (h : gLe lw lv) (kk : G E cc nL own ret d K pc lw st u) : G E cc nL own ret d K pc lv st u := by
  intro p l e s m args below meth c H locs ls hC hR
  exact kk p l e s m args below meth c H locs ls hC ⟨hR.1, hR.2.1, hR.2.2.1, hR.2.2.2.1, hR.2.2.2.2.1, fun i v hi => hR.2.2.2.2.2 i v (h i v hi)⟩
theorem jg_lv {lw : List (Option Value)} (h : lv = lw) (kk : G E cc nL own ret d K pc lw st u) : G E cc nL own ret d K pc lv st u := by
  subst h; exact kk
theorem jg_mem {u' : Mm} (h : u = u') (kk : G E cc nL own ret d K pc lv st u') : G E cc nL own ret d K pc lv st u := by
  subst h; exact kk
theorem jg_top {x y : Int32} (h : x = y) (kk : G E cc nL own ret d K pc lv (.int y :: st) u) : G E cc nL own ret d K pc lv (.int x :: st) u := by
  subst h; exact kk
theorem jg_stk {st' : List Value} (h : st = st') (kk : G E cc nL own ret d K pc lv st' u) : G E cc nL own ret d K pc lv st u := by
  subst h; exact kk
theorem jg_ldc2 {idx : Nat} {v : Int64} (hw : Cond.constantLong own idx v ∈ gWd) (hd : decode cc pc = .ok (.ldc2_w idx, 3)) (kk : G E cc nL own ret d K (pc + 3) lv (.long v :: st) u) : G E cc nL own ret d K pc lv st u := by
  intro p l e s m args below meth c H locs ls hC hR
  exact lv_ldc2 hC.1 hC.2.1 hC.2.2.2.1 (hC.2.2.2.2.1 _ hw) hd (kk p l e s m args below meth c H locs ls hC hR)
theorem jg_ldcw {idx : Nat} {v : Int32} (hw : Cond.constant own idx v ∈ gWd) (hd : decode cc pc = .ok (.ldc_w idx, 3)) (kk : G E cc nL own ret d K (pc + 3) lv (.int v :: st) u) : G E cc nL own ret d K pc lv st u := by
  intro p l e s m args below meth c H locs ls hC hR
  exact lv_ldcw hC.1 hC.2.1 hC.2.2.2.1 (hC.2.2.2.2.1 _ hw) hd (kk p l e s m args below meth c H locs ls hC hR)
/-! fields -/
/-- entry idx of own's pool is field j of class ci -/
def gF (own : String) (idx ci j : Nat) : Prop := ∃ q : vw_C, vwCl[ci]? = some q ∧ j < q.2.2 ∧ Cond.fieldLink own idx (q.2.1 j).1 (q.2.1 j).2.1 (q.2.1 j).2.2.1 ∈ gWd ∧ ∀ w ∈ u_ws q.1 q.2.1 q.2.2, w ∈ gWd
/-- .. and may be written, of type ty -/
def gP (own : String) (idx ci j : Nat) (ty : FieldType) : Prop := ∃ q : vw_C, vwCl[ci]? = some q ∧ j < q.2.2 ∧ Cond.fieldLink own idx (q.2.1 j).1 (q.2.1 j).2.1 (q.2.1 j).2.2.1 ∈ gWd ∧ (∀ w ∈ u_ws q.1 q.2.1 q.2.2, w ∈ gWd) ∧ (∃ ty0 : Nat → FieldType, ∀ k, k < q.2.2 → parseFieldDescriptor (q.2.1 k).2.2.1 = some (ty0 k)) ∧ (∀ a, a < q.2.2 → ∀ b, b < q.2.2 → a ≠ b → (q.2.1 a).2.1 ≠ (q.2.1 b).2.1) ∧ (q.2.1 j).2.2.2 = false ∧ parseFieldDescriptor (q.2.1 j).2.2.1 = some ty
theorem jg_geti {idx ci j k : Nat} {fs : List (Option Nat)} (hf : gF own idx ci j) (hs : sTb[k]? = some (.inl (ci, fs))) (hj : fs[j]? = some none) (hd : decode cc pc = .ok (.getfield idx, 3)) (kk : G E cc nL own ret d K (pc + 3) lv (.int (u k j) :: st) u) : G E cc nL own ret d K pc lv (.ref (E.2.1 k) :: st) u := by
  intro p l e s m args below meth c H locs ls hC hR
  obtain ⟨q, hq, hn, hw, hin⟩ := hf
  refine va_get (D := E.1) (cl := vwCl) (C := q.1) (T := q.2.1) (N := q.2.2) (ref := (q.2.1 j).1) hC.1 hC.2.1 hC.2.2.2.2.1 hin hC.2.2.2.1 hC.2.2.2.2.2.2.2.1 hR.1 k (gW_get hs) hq j hn (hC.2.2.2.2.1 _ hw) (fun _ h => h) ?_ hd (kk p l e s m args below meth c H locs ls hC hR)
  rw [List.getElem?_mapIdx, hj]
  rfl
theorem jg_getr {idx ci j k t : Nat} {fs : List (Option Nat)} (hf : gF own idx ci j) (hs : sTb[k]? = some (.inl (ci, fs))) (hj : fs[j]? = some (some t)) (hd : decode cc pc = .ok (.getfield idx, 3)) (kk : G E cc nL own ret d K (pc + 3) lv (.ref (E.2.1 t) :: st) u) : G E cc nL own ret d K pc lv (.ref (E.2.1 k) :: st) u := by
  intro p l e s m args below meth c H locs ls hC hR
  obtain ⟨q, hq, hn, hw, hin⟩ := hf
  refine va_get (D := E.1) (cl := vwCl) (C := q.1) (T := q.2.1) (N := q.2.2) (ref := (q.2.1 j).1) hC.1 hC.2.1 hC.2.2.2.2.1 hin hC.2.2.2.1 hC.2.2.2.2.2.2.2.1 hR.1 k (gW_get hs) hq j hn (hC.2.2.2.2.1 _ hw) (fun _ h => h) ?_ hd (kk p l e s m args below meth c H locs ls hC hR)
  rw [List.getElem?_mapIdx, hj]
  rfl
theorem jg_putT {ty : FieldType} {idx ci j k : Nat} {v : Int32} {fs : List (Option Nat)} (hf : gP own idx ci j ty) (hna : narrow ty (.int v) = .int v) (hfi : fits ty (.int v) = true) (hs : sTb[k]? = some (.inl (ci, fs))) (hj : fs[j]? = some none) (hd : decode cc pc = .ok (.putfield idx, 3)) (kk : G E cc nL own ret d K (pc + 3) lv st (s2 u k j v)) : G E cc nL own ret d K pc lv (.int v :: .ref (E.2.1 k) :: st) u := by
  intro p l e s m args below meth c H locs ls hC hR
  obtain ⟨q, hq, hn, hw, hin, ⟨ty0, hty⟩, hnm, hfin, hpd⟩ := hf
  refine va_put (D := E.1) (cl := vwCl) (C := q.1) (T := q.2.1) (N := q.2.2) (ref := (q.2.1 j).1) hC.1 hC.2.1 hC.2.2.2.2.1 hin ty0 hty hnm hC.2.2.2.1 hC.2.2.2.2.2.2.2.1 hR.1 hR.2.1 hR.2.2.1 k (gW_get hs) hq j hn (hC.2.2.2.2.1 _ hw) (fun _ h => h) hfin hpd hna hfi ?_ hd (fun H1 locs1 hP hD hS => ?_)
  · rw [List.length_mapIdx]
    exact (List.getElem?_eq_some_iff.mp hj).1
  · rw [gW_set (m' := s2 u k j v) hs (by rw [s2_at, gFd_set _ _ _ _ hj]; rfl) (fun a h => s2_row h)] at hP hD
    exact kk p l e s m args below meth c H1 locs1 ls hC ⟨hP, hD, hS, hR.2.2.2⟩
theorem jg_puti {idx ci j k : Nat} {v : Int32} {fs : List (Option Nat)} (hf : gP own idx ci j .int) (hs : sTb[k]? = some (.inl (ci, fs))) (hj : fs[j]? = some none) (hd : decode cc pc = .ok (.putfield idx, 3)) (kk : G E cc nL own ret d K (pc + 3) lv st (s2 u k j v)) : G E cc nL own ret d K pc lv (.int v :: .ref (E.2.1 k) :: st) u :=
  jg_putT hf (by first | rfl | exact vp_nar_int v) (by first | rfl | decide) hs hj hd kk
/-! rows -/
theorem jg_iald {k n : Nat} {i : Int32} (hs : sTb[k]? = some (.inr (.inl n))) (hin : vp_in i n) (hd : decode cc pc = .ok (.iaload, 1)) (kk : G E cc nL own ret d K (pc + 1) lv (.int (u k i.toNatClampNeg) :: st) u) : G E cc nL own ret d K pc lv (.int i :: .ref (E.2.1 k) :: st) u := by
  intro p l e s m args below meth c H locs ls hC hR
  exact va_iald hC.1 hC.2.1 hC.2.2.2.2.2.2.2.1 hR.1 k 0 (gW_get hs) rfl hin hd (kk p l e s m args below meth c H locs ls hC hR)
theorem sTb_small : ∀ x ∈ sTb, ∀ n, x = .inr (.inl n) → n < 2 ^ 31 := by
  intro x hx n hn
  have h : sTb.all (fun x => match x with | .inr (.inl n) => decide (n < 2 ^ 31) | _ => true) = true := by decide +kernel
  have h1 := List.all_eq_true.mp h x hx
  subst hn
  simpa using h1
theorem jg_ld {k n : Nat} (j : Nat) {i : Int32} (hs : sTb[k]? = some (.inr (.inl n))) (hj : j < n) (hi : i = nI j) (hd : decode cc pc = .ok (.iaload, 1)) (kk : G E cc nL own ret d K (pc + 1) lv (.int (u k j) :: st) u) : G E cc nL own ret d K pc lv (.int i :: .ref (E.2.1 k) :: st) u := by
  have hn := sTb_small _ (List.mem_of_getElem? hs) n rfl
  subst hi
  refine jg_iald hs (vp_in_nI hj hn) hd ?_
  rw [nI_clamp (by omega)]
  exact kk
theorem jg_st {k n : Nat} (j : Nat) {i x : Int32} (hs : sTb[k]? = some (.inr (.inl n))) (hj : j < n) (hi : i = nI j) (hd : decode cc pc = .ok (.iastore, 1)) (kk : G E cc nL own ret d K (pc + 1) lv st (s2 u k j x)) : G E cc nL own ret d K pc lv (.int x :: .int i :: .ref (E.2.1 k) :: st) u := by
  have hn := sTb_small _ (List.mem_of_getElem? hs) n rfl
  subst hi
  intro p l e s m args below meth c H locs ls hC hR
  refine va_iast hC.1 hC.2.1 hC.2.2.2.2.2.2.2.1 hR.1 hR.2.1 hR.2.2.1 k 0 (gW_get hs) rfl (vp_in_nI hj hn) hd (fun H1 locs1 hP hD hS => ?_)
  rw [nI_clamp (by omega)] at hP hD
  rw [gW_set (m' := s2 u k j x) hs (by rw [s2_at]; rfl) (fun a h => s2_row h)] at hP hD
  exact kk p l e s m args below meth c H1 locs1 ls hC ⟨hP, hD, hS, hR.2.2.2⟩
theorem jg_aald {k z q : Nat} (j : Nat) {i : Int32} {ts : List Nat} (hs : sTb[k]? = some (.inr (.inr (z, ts)))) (hj : ts[j]? = some q) (hl : ts.length < 2 ^ 31) (hi : i = nI j) (hd : decode cc pc = .ok (.aaload, 1)) (kk : G E cc nL own ret d K (pc + 1) lv (.ref (E.2.1 q) :: st) u) : G E cc nL own ret d K pc lv (.int i :: .ref (E.2.1 k) :: st) u := by
  subst hi
  intro p l e s m args below meth c H locs ls hC hR
  have hlt : j < ts.length := (List.getElem?_eq_some_iff.mp hj).1
  have hjc : (nI j).toNatClampNeg = j := nI_clamp (by omega)
  have hin := vp_in_nI hlt hl
  have hcell := hR.1 k _ (gW_get hs)
  have hread : (arrV (if z = 0 then E.2.2.1.2.1 else E.2.2.1.2.2) ts.length (fun i => va_rf ((ts[i]?).map E.2.1))).slots[(nI j).toNatClampNeg]? = some (.ref (E.2.1 q)) := by
    rw [hjc, arrV_read _ _ hlt, hj]
    rfl
  by_cases hz : z = 0
  · subst hz
    exact W.aald (v := .ref (E.2.1 q)) (ty := .object RX2) hC.1 hC.2.1 hcell ((hC.2.2.2.2.2.2.2.1.2 1 _ rfl).1 ts.length (fun i => va_rf ((ts[i]?).map E.2.1))) rfl (fun q => by cases q) (by show ¬ (_ ∨ (arrV _ _ _).slots.size ≤ _); rw [arrV_size]; exact hin) hread rfl rfl hd (kk p l e s m args below meth c H locs ls hC hR)
  · rw [if_neg hz] at hread
    have hcell' : H[E.2.1 k]? = some (arrV E.2.2.1.2.2 ts.length (fun i => va_rf ((ts[i]?).map E.2.1))) := by
      have h9 : H[E.2.1 k]? = some (arrV (if z = 0 then E.2.2.1.2.1 else E.2.2.1.2.2) ts.length (fun i => va_rf ((ts[i]?).map E.2.1))) := hcell
      rw [if_neg hz] at h9
      exact h9
    exact W.aald (v := .ref (E.2.1 q)) (ty := .array .int) hC.1 hC.2.1 hcell' ((hC.2.2.2.2.2.2.2.1.2 2 _ rfl).1 ts.length (fun i => va_rf ((ts[i]?).map E.2.1))) rfl (fun q => by cases q) (by show ¬ (_ ∨ (arrV _ _ _).slots.size ≤ _); rw [arrV_size]; exact hin) hread rfl rfl hd (kk p l e s m args below meth c H locs ls hC hR)
/-! the class's own static row -/
theorem jg_hmo {idx : Nat} (hw : Cond.fieldLink own idx "AreaOrders" "HOW_MANY_ORDERS" "[I" ∈ gWd) (hd : decode cc pc = .ok (.getstatic idx, 3)) (kk : G E cc nL own ret d K (pc + 3) lv (.ref E.2.2.2 :: st) u) : G E cc nL own ret d K pc lv st u := by
  intro p l e s m args below meth c H locs ls hC hR
  exact va_gets hC.1 hC.2.1 hC.2.2.2.2.2.2.2.2.1 hR.2.2.1 hC.2.2.2.1 (hC.2.2.2.2.1 _ hw) (fun _ h => h) hd (kk p l e s m args below meth c H locs ls hC hR)
theorem jg_hmoA (j : Nat) {i : Int32} (hj : j < 7) (hi : i = nI j) (hd : decode cc pc = .ok (.iaload, 1)) (kk : G E cc nL own ret d K (pc + 1) lv (.int (hmo j) :: st) u) : G E cc nL own ret d K pc lv (.int i :: .ref E.2.2.2 :: st) u := by
  subst hi
  intro p l e s m args below meth c H locs ls hC hR
  exact va_ti hC.1 hC.2.1 hC.2.2.2.2.2.2.2.2.2 hR.2.2.1 (vp_in_nI hj (by decide)) (by rw [nI_clamp (by omega)]) hd (kk p l e s m args below meth c H locs ls hC hR)
/-! Math.max, System.arraycopy -/
def gMax (own : String) (idx : Nat) : Prop := Cond.methodLink own idx Lib.Math.max.name ∈ gWd ∧ Cond.static Lib.Math.max.name ∈ gWd ∧ Cond.initialized "java/lang/Math" ∈ gWd ∧ Cond.code Lib.Math.max.name Lib.Math.max.code 2 (some .int) ∈ gWd
theorem jg_max {idx : Nat} {x y z : Int32} (hw : gMax own idx) (hdd : 1 ≤ d) (hst : (st.map fun v => v.category).sum ≤ 20) (hz : (if x < y then y else x) = z) (hd : decode cc pc = .ok (.invokestatic idx, 3)) (kk : G E cc nL own ret d K (pc + 3) lv (.int z :: st) u) : G E cc nL own ret d K pc lv (.int y :: .int x :: st) u := by
  subst hz
  intro p l e s m args below meth c H locs ls hC hR
  exact va_mmax hC.1 hC.2.1 (hC.2.2.1.trans hR.2.2.2.1.symm) hC.2.2.2.1 (hC.2.2.2.2.1 _ hw.1) (hC.2.2.2.2.1 _ hw.2.1) (hC.2.2.2.2.1 _ hw.2.2.1) (hC.2.2.2.2.1 _ hw.2.2.2) (by show 1 ≤ d; omega) (by show _ ≤ 35 * d; omega) (Nat.le_refl 0) (Nat.le_refl 0) hd (kk p l e s m args below meth c H locs ls hC hR)
def gCpy (own : String) (idx : Nat) : Prop := Cond.methodLink own idx arraycopyName ∈ gWd ∧ Cond.native arraycopyName ∈ gWd ∧ Cond.static arraycopyName ∈ gWd ∧ Cond.initialized "java/lang/System" ∈ gWd
theorem jg_copy {idx k0 k1 n0 n1 : Nat} (sp dp n : Nat) {a b x : Int32} (hw : gCpy own idx) (hs0 : sTb[k0]? = some (.inr (.inl n0))) (hs1 : sTb[k1]? = some (.inr (.inl n1))) (ha : a = nI sp) (hb : b = nI dp) (hx : x = nI n) (h0 : sp + n ≤ n0) (h1 : dp + n ≤ n1) (hdd : 1 ≤ d) (hst : (st.map fun v => v.category).sum ≤ 16) (hd : decode cc pc = .ok (.invokestatic idx, 3)) (kk : G E cc nL own ret d K (pc + 3) lv st (sR u k1 (va_cpy (u k0) (u k1) sp dp n))) : G E cc nL own ret d K pc lv (.int x :: .int b :: .ref (E.2.1 k1) :: .int a :: .ref (E.2.1 k0) :: st) u := by
  have hn0 := sTb_small _ (List.mem_of_getElem? hs0) n0 rfl
  have hn1 := sTb_small _ (List.mem_of_getElem? hs1) n1 rfl
  subst ha; subst hb; subst hx
  intro p l e s m args below meth c H locs ls hC hR
  have c1 : (nI sp).toNatClampNeg = sp := nI_clamp (by omega)
  have c2 : (nI dp).toNatClampNeg = dp := nI_clamp (by omega)
  have c3 : (nI n).toNatClampNeg = n := nI_clamp (by omega)
  refine va_copyi (ty := .int) hC.1 hC.2.1 (hC.2.2.1.trans hR.2.2.2.1.symm) hC.2.2.2.1 (hC.2.2.2.2.1 _ hw.1) (hC.2.2.2.2.1 _ hw.2.1) (hC.2.2.2.2.1 _ hw.2.2.1) (hC.2.2.2.2.1 _ hw.2.2.2) hC.2.2.2.2.2.2.2.1 hR.1 hR.2.1 hR.2.2.1 k0 k1 0 0 (gW_get hs0) (gW_get hs1) rfl rfl rfl (nI_pos (by omega)) (nI_pos (by omega)) (nI_pos (by omega)) (by rw [c1, c3]; exact h0) (by rw [c2, c3]; exact h1) (fun _ _ => rfl) (by show 1 ≤ d; omega) ?_ hd (fun H1 locs1 hP hD hS => ?_)
  · have e9 : nativeFrameWords "java/lang/System" "arraycopy" 5 = 7 := by decide +kernel
    show _ + (nativeFrameWords "java/lang/System" "arraycopy" 5 + 11) ≤ 35 * d
    rw [e9]
    omega
  · rw [c1, c2, c3] at hP hD
    rw [gW_set (m' := sR u k1 (va_cpy (u k0) (u k1) sp dp n)) hs1 (by rw [sR_at]; rfl) (fun a h => sR_row h)] at hP hD
    exact kk p l e s m args below meth c H1 locs1 ls hC ⟨hP, hD, hS, hR.2.2.2⟩
/-! ends -/
theorem jg_iret {v : Int32} {ty : FieldType} (hn : narrow ty (.int v) = .int v) (hd : decode cc pc = .ok (.ireturn, 1)) (hk : K (some (.int v)) u) : G E cc nL own (some ty) d K pc lv [.int v] u := by
  intro p l e s m args below meth c H locs ls hC hR
  exact W.zret hC.1 hC.2.1 hC.2.2.2.2.2.1 hn (fun t ht hW => ⟨⟨_, u, rfl, hk, by rw [ht]; exact hR.1, va_K.moved hW.alike hC.2.2.2.2.2.2.2.1, hR.2.1⟩, hR.2.2.1.F ht⟩) hR.2.2.1.2.2 hd hC.2.2.2.2.2.2.1
theorem jg_lret {v : Int64} (hd : decode cc pc = .ok (.lreturn, 1)) (hk : K (some (.long v)) u) : G E cc nL own (some .long) d K pc lv [.long v] u := by
  intro p l e s m args below meth c H locs ls hC hR
  exact W.lret hC.1 hC.2.1 hC.2.2.2.2.2.1 (fun t ht hW => ⟨⟨_, u, rfl, hk, by rw [ht]; exact hR.1, va_K.moved hW.alike hC.2.2.2.2.2.2.2.1, hR.2.1⟩, hR.2.2.1.F ht⟩) hR.2.2.1.2.2 hd hC.2.2.2.2.2.2.1
theorem jg_vret (hd : decode cc pc = .ok (.return_, 1)) (hk : K none u) : G E cc nL own none d K pc lv [] u := by
  intro p l e s m args below meth c H locs ls hC hR
  exact W.vret hC.1 hC.2.1 hC.2.2.2.2.2.1 (fun t ht hW => ⟨⟨_, u, rfl, hk, by rw [ht]; exact hR.1, va_K.moved hW.alike hC.2.2.2.2.2.2.2.1, hR.2.1⟩, hR.2.2.1.F ht⟩) hR.2.2.1.2.2 hd hC.2.2.2.2.2.2.1
/-! calls -/
/-- what the tables say of a method y -/
def mE (y : MethodName) (bytes : ByteArray) (maxL : Nat) (rt : Option FieldType) (n : Nat) : Prop := Cond.initialized y.cls ∈ gWd ∧ Cond.code y bytes maxL rt ∈ gWd ∧ y.cls ≠ "java/lang/invoke/MethodHandle" ∧ y.cls ≠ "java/lang/invoke/VarHandle" ∧ (parseMethodDescriptor y.desc).map (fun d => d.parameters.length) = some n
def mEV (y : MethodName) (bytes : ByteArray) (maxL : Nat) (rt : Option FieldType) (n : Nat) : Prop := mE y bytes maxL rt n ∧ Cond.instanceMethod y ∈ gWd ∧ Cond.selects y.cls y y ∈ gWd
def mES (y : MethodName) (bytes : ByteArray) (maxL : Nat) (rt : Option FieldType) (n : Nat) : Prop := mE y bytes maxL rt n ∧ Cond.static y ∈ gWd
theorem gCallB {R : Room} {s : State} {args : Array Value} {idx : Nat} {y : MethodName} {bytes : ByteArray} {maxL n d2 : Nat} {rt : Option FieldType} (ht : ∀ w ∈ gWd, w.before args s = true) (hy : mE y bytes maxL rt n) (hl : Cond.methodLink own idx y ∈ gWd) (hR : d2 + 1 ≤ R.frames ∧ 8 + (maxL + 11) + 35 * d2 ≤ R.locals) : CallB R s args own idx y bytes maxL rt (.code y bytes maxL rt :: gWd) (gRm d2) 0 0 n := by
  refine callB_of (Ts := gWd) n ht (fun w hw => ?_) rfl rfl rfl (ht _ hy.1) (ht _ hl) hy.2.2 hR
  rcases List.mem_cons.mp hw with h | h
  · subst h
    exact ⟨hy.2.1, good_of_word (List.mem_filter.mp hy.2.1).2⟩
  · exact ⟨h, good_of_word (List.mem_filter.mp h).2⟩
theorem gBlind {E : gT} {As : List Value} {u2 : Mm} {sz : Nat} : FrameBlind (va_Pc As (fun U => U.heap.size = sz ∧ va_P E.1 vwCl (gW E u2) U.heap ∧ va_K E.1 vwCl (gY E) U ∧ va_D (fun _ => True) (gW E u2) ∧ gZ E sz U)) := by
  intro a U g mk q
  obtain ⟨q0, q1, qP, qK, qD, qZ⟩ := q
  exact ⟨q0, q1, qP, va_K.moved (u := U) (U := U.calling g mk a) (Vm.Alike.refl U.vm) qK, qD, gZ.moved (u := U) (U := U.calling g mk a) qZ rfl (Vm.Alike.refl U.vm)⟩
theorem gAfter {p : Program} {l : Launch} {e : Env} {s : State} {m : MethodId} {args : Array Value} {below : List Frame} {meth : Method} {c : Code} {H : Heap} {locs : List Loc} {ls : Array Slot} {st0 rest : List Value} {a : Array Value} {K2 : Option Value → Mm → Prop} (hC : gC E cc nL own ret p s m args meth c) (hR : gR E u nL lv s H locs ls)
    (hr : va_Run p l e (gRm d) s m args below meth c H locs 0 0 0 0 (F0 m pc ls st0) rest (gQ E K2 H.size a) (gA E H.size))
    (kk : ∀ (v : Option Value) (u2 : Mm), K2 v u2 → G E cc nL own ret d K (pc + 3) lv (v.toList ++ rest) u2) : W p l e (gRm d) s m args below meth c H locs 0 0 (MQ below (gQ E K s.heap.size) args s 0 0 (gA E s.heap.size)) (F0 m pc ls st0) := by
  intro T hT X
  obtain ⟨v, st₀, t, T', L, h0, X', hL, e1, e2, ⟨⟨v', u2, hv, hp, hP1, hK1, hD1⟩, hz, hk⟩, step⟩ := hr T hT X
  cases hv
  rw [h0] at hz hk
  have hS := hR.2.2.1
  have hS1 : va_S (gA E s.heap.size) s.heap T'.heap (locs ++ L) := ⟨Nat.le_trans hS.1 (by rw [e1]; exact hz), fun q h1 h2 => by
      rw [e1, hk q (Nat.lt_of_lt_of_le h1 hS.1) (fun z => h2 (gA_mono hS.1 q z))]
      exact hS.2.1 q h1 h2, fun q hq => by
      rcases List.mem_append.mp hq with h | h
      · exact hS.2.2 q h
      · exact gA_mono hS.1 _ (hL q h)⟩
  obtain ⟨t2, a1, b1⟩ := kk v u2 hp p l e s m args below meth c T'.heap (locs ++ L) ls hC ⟨by rw [e1]; exact hP1, gD_self hD1, hS1, hR.2.2.2⟩ T' rfl X'
  exact ⟨t2, step t2 a1, b1⟩
theorem jg_callV {idx k ci : Nat} {y : MethodName} {bytes : ByteArray} {maxL n d2 : Nat} {rt : Option FieldType} {As : List Value} {fs : List (Option Nat)} {K2 : Option Value → Mm → Prop} (hc : Con E y bytes maxL rt d2 (.ref (E.2.1 k) :: As) u K2) (hy : mEV y bytes maxL rt n) (hl : Cond.methodLink own idx y ∈ gWd) (hs : sTb[k]? = some (.inl (ci, fs))) (hci : (vwCl[ci]?).map (fun q => q.1) = some y.cls) (hn : As.length = n) (hdd : d2 + 1 ≤ d) (hml : maxL ≤ 16) {st0 : List Value} (hst : st0 = As.reverse ++ .ref (E.2.1 k) :: st) (hcat : (st.map fun v => v.category).sum ≤ 8) (hd : decode cc pc = .ok (.invokevirtual idx, 3)) (kk : ∀ (v : Option Value) (u2 : Mm), K2 v u2 → G E cc nL own ret d K (pc + 3) lv (v.toList ++ st) u2) : G E cc nL own ret d K pc lv st0 u := by
  intro p l e s m args below meth c H locs ls hC hR
  obtain ⟨q, hq, hq1⟩ := Option.map_eq_some_iff.mp hci
  have hb := gCallB (R := gRm d) (own := own) (idx := idx) (d2 := d2) hC.2.2.2.2.1 hy.1 hl ⟨by show d2 + 1 ≤ d; omega, by show _ ≤ 35 * d; omega⟩
  refine gAfter hC hR (a := (Value.ref (E.2.1 k) :: As).toArray) (va_runV (Ts := gWd) (C := y.cls) (As := As) (rest := st) (b := E.2.1 k) ⟨hC.1, hC.2.1, hC.2.2.1, hC.2.2.2.1, hC.2.2.2.2.1⟩ (hc l H.size) ⟨hb, hC.2.2.2.2.1 _ hy.2.1, hC.2.2.2.2.1 _ hy.2.2⟩ ⟨gBlind, ?_, fun U hU hW => ⟨rfl, by rw [hU], by rw [hU]; exact hR.1, va_K.moved hW.alike hC.2.2.2.2.2.2.2.1, hR.2.1.weaken (fun _ _ _ _ => trivial), gZ.at hC.2.2.2.2.2.2.2.2 hR.2.2.1 hU hW.alike⟩⟩ rfl hn hR.2.2.2.1 hst (lv_room hcat) hd ⟨Nat.le_refl 0, Nat.le_refl 0⟩) kk
  have h9 := va_recv hC.2.2.2.2.2.2.2.1 hR.1 hq (gW_get hs)
  rw [hq1] at h9
  exact h9
theorem jg_callS {idx : Nat} {y : MethodName} {bytes : ByteArray} {maxL n d2 : Nat} {rt : Option FieldType} {As : List Value} {K2 : Option Value → Mm → Prop} (hc : Con E y bytes maxL rt d2 As u K2) (hy : mES y bytes maxL rt n) (hl : Cond.methodLink own idx y ∈ gWd) (hn : As.length = n) (hdd : d2 + 1 ≤ d) (hml : maxL ≤ 16) {st0 : List Value} (hst : st0 = As.reverse ++ st) (hcat : (st.map fun v => v.category).sum ≤ 8) (hd : decode cc pc = .ok (.invokestatic idx, 3)) (kk : ∀ (v : Option Value) (u2 : Mm), K2 v u2 → G E cc nL own ret d K (pc + 3) lv (v.toList ++ st) u2) : G E cc nL own ret d K pc lv st0 u := by
  intro p l e s m args below meth c H locs ls hC hR
  have hb := gCallB (R := gRm d) (own := own) (idx := idx) (d2 := d2) hC.2.2.2.2.1 hy.1 hl ⟨by show d2 + 1 ≤ d; omega, by show _ ≤ 35 * d; omega⟩
  exact gAfter hC hR (a := As.toArray) (va_runS (Ts := gWd) (As := As) (rest := st) ⟨hC.1, hC.2.1, hC.2.2.1, hC.2.2.2.1, hC.2.2.2.2.1⟩ (hc l H.size) ⟨hb, hC.2.2.2.2.1 _ hy.2⟩ ⟨gBlind, fun U hU hW => ⟨rfl, by rw [hU], by rw [hU]; exact hR.1, va_K.moved hW.alike hC.2.2.2.2.2.2.2.1, hR.2.1.weaken (fun _ _ _ _ => trivial), gZ.at hC.2.2.2.2.2.2.2.2 hR.2.2.1 hU hW.alike⟩⟩ rfl hn hR.2.2.2.1 hst (lv_room hcat) hd ⟨Nat.le_refl 0, Nat.le_refl 0⟩) kk
/-! ends by their kinds -/
def kI (P : Int32 → Mm → Prop) : Option Value → Mm → Prop := fun v u => ∃ r : Int32, v = some (.int r) ∧ P r u
def kL (P : Int64 → Mm → Prop) : Option Value → Mm → Prop := fun v u => ∃ r : Int64, v = some (.long r) ∧ P r u
def kV (P : Mm → Prop) : Option Value → Mm → Prop := fun v u => v = none ∧ P u
theorem kk_I {P : Int32 → Mm → Prop} (kk : ∀ (r : Int32) (u2 : Mm), P r u2 → G E cc nL own ret d K (pc + 3) lv (.int r :: st) u2) : ∀ (v : Option Value) (u2 : Mm), kI P v u2 → G E cc nL own ret d K (pc + 3) lv (v.toList ++ st) u2 := by
  rintro v u2 ⟨r, rfl, h⟩
  exact kk r u2 h
theorem kk_L {P : Int64 → Mm → Prop} (kk : ∀ (r : Int64) (u2 : Mm), P r u2 → G E cc nL own ret d K (pc + 3) lv (.long r :: st) u2) : ∀ (v : Option Value) (u2 : Mm), kL P v u2 → G E cc nL own ret d K (pc + 3) lv (v.toList ++ st) u2 := by
  rintro v u2 ⟨r, rfl, h⟩
  exact kk r u2 h
theorem kk_V {P : Mm → Prop} (kk : ∀ (u2 : Mm), P u2 → G E cc nL own ret d K (pc + 3) lv st u2) : ∀ (v : Option Value) (u2 : Mm), kV P v u2 → G E cc nL own ret d K (pc + 3) lv (v.toList ++ st) u2 := by
  rintro v u2 ⟨rfl, h⟩
  exact kk u2 h
end JG
