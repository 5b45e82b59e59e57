theorem dq_b {c : ByteArray} {k op n : Nat} {i : Instr} (f : Nat → Decoder Instr) (hf : Decoder.instr k = (Reader.u1 >>= f)) (h : (Reader.u1 : Decoder Nat) c k = .ok (op, k + 1)) (hr : f op c (k + 1) = .ok (i, k + n)) : decode c k = .ok (i, n) := by
  have e : (Decoder.instr k) c k = .ok (i, k + n) := by
    rw [hf]
    show (Except.bind ((Reader.u1 : Decoder Nat) c k) (fun p => f p.1 c p.2)) = _
    rw [h]
    exact hr
  have e2 : decode c k = Except.bind ((Decoder.instr k) c k) (fun p => Except.ok (p.1, p.2 - k)) := rfl
  rw [e2, e]
  show Except.ok (i, k + n - k) = _
  rw [Nat.add_sub_cancel_left]
theorem dq_u2 {c : ByteArray} {k a b : Nat} (h1 : (Reader.u1 : Decoder Nat) c k = .ok (a, k + 1)) (h2 : (Reader.u1 : Decoder Nat) c (k + 1) = .ok (b, k + 2)) : (Reader.u2 : Decoder Nat) c k = .ok (a * 256 + b, k + 2) := by
  show Except.bind ((Reader.u1 : Decoder Nat) c k) (fun p => Except.bind ((Reader.u1 : Decoder Nat) c p.2) (fun q => Except.ok (p.1 * 256 + q.1, q.2))) = _
  rw [h1]
  show Except.bind ((Reader.u1 : Decoder Nat) c (k + 1)) (fun q => Except.ok (a * 256 + q.1, q.2)) = _
  rw [h2]
  rfl
theorem dq_s2 {c : ByteArray} {k a b : Nat} (h1 : (Reader.u1 : Decoder Nat) c k = .ok (a, k + 1)) (h2 : (Reader.u1 : Decoder Nat) c (k + 1) = .ok (b, k + 2)) : (Reader.s2 : Decoder Int) c k = .ok (Reader.signed 16 (a * 256 + b), k + 2) := by
  have e : (Reader.s2 : Decoder Int) c k = Except.bind ((Reader.u2 : Decoder Nat) c k) (fun p => Except.ok (Reader.signed 16 p.1, p.2)) := rfl
  rw [e, dq_u2 h1 h2]
  rfl
theorem dq_s1 {c : ByteArray} {k a : Nat} (h1 : (Reader.u1 : Decoder Nat) c k = .ok (a, k + 1)) : (Reader.s1 : Decoder Int) c k = .ok (Reader.signed 8 a, k + 1) := by
  have e : (Reader.s1 : Decoder Int) c k = Except.bind ((Reader.u1 : Decoder Nat) c k) (fun p => Except.ok (Reader.signed 8 p.1, p.2)) := rfl
  rw [e, h1]
  rfl
def bat (c : ByteArray) : Nat → List Nat → Prop
  | _, [] => True
  | k, b :: l => (Reader.u1 : Decoder Nat) c k = .ok (b, k + 1) ∧ bat c (k + 1) l
def bqL (c : ByteArray) (k0 : Nat) (G : List (Nat × List Nat)) : Bool := G.all (fun p => (((c.data.toList.drop k0).drop p.1).take p.2.length).map UInt8.toNat == p.2)
theorem bat_of {c : ByteArray} : ∀ (l : List Nat) (k : Nat), ((c.data.toList.drop k).take l.length).map UInt8.toNat = l → bat c k l
  | [], _, _ => True.intro
  | b :: l, k, h => by
    cases hd : c.data.toList.drop k with
    | nil => rw [hd] at h; cases h
    | cons x r =>
      rw [hd] at h
      have h2 : x.toNat :: (r.take l.length).map UInt8.toNat = b :: l := h
      have h3 : r = c.data.toList.drop (k + 1) := by rw [← List.tail_drop, hd]; rfl
      have h4 : (c.data.toList.drop k)[0]? = c.data.toList[k + 0]? := List.getElem?_drop
      rw [hd] at h4
      refine ⟨dq_u1 (x := x) h4.symm (List.cons.inj h2).1, bat_of l (k + 1) ?_⟩
      rw [← h3]
      exact (List.cons.inj h2).2
theorem bat_get {c : ByteArray} {k0 : Nat} {G : List (Nat × List Nat)} (h : bqL c k0 G = true) (j : Nat) {k K : Nat} {l : List Nat} (hj : G[j]? = some (k, l)) (hk : k0 + k = K) : bat c K l := by
  subst hk
  have h0 : G.all (fun p => (((c.data.toList.drop k0).drop p.1).take p.2.length).map UInt8.toNat == p.2) = true := h
  have h1 := List.all_eq_true.mp h0 (k, l) (List.mem_of_getElem? hj)
  have h2 : (((c.data.toList.drop k0).drop k).take l.length).map UInt8.toNat = l := eq_of_beq h1
  rw [List.drop_drop] at h2
  exact bat_of l (k0 + k) h2
section DQ
variable {c : ByteArray} {k a b n d : Nat} {v : Int}
theorem q_iaload (h : bat c k [46]) : decode c k = .ok (.iaload, 1) := dq_b _ rfl h.1 rfl
theorem q_laload (h : bat c k [47]) : decode c k = .ok (.laload, 1) := dq_b _ rfl h.1 rfl
theorem q_aaload (h : bat c k [50]) : decode c k = .ok (.aaload, 1) := dq_b _ rfl h.1 rfl
theorem q_baload (h : bat c k [51]) : decode c k = .ok (.baload, 1) := dq_b _ rfl h.1 rfl
theorem q_caload (h : bat c k [52]) : decode c k = .ok (.caload, 1) := dq_b _ rfl h.1 rfl
theorem q_iastore (h : bat c k [79]) : decode c k = .ok (.iastore, 1) := dq_b _ rfl h.1 rfl
theorem q_lastore (h : bat c k [80]) : decode c k = .ok (.lastore, 1) := dq_b _ rfl h.1 rfl
theorem q_aastore (h : bat c k [83]) : decode c k = .ok (.aastore, 1) := dq_b _ rfl h.1 rfl
theorem q_bastore (h : bat c k [84]) : decode c k = .ok (.bastore, 1) := dq_b _ rfl h.1 rfl
theorem q_castore (h : bat c k [85]) : decode c k = .ok (.castore, 1) := dq_b _ rfl h.1 rfl
theorem q_pop (h : bat c k [87]) : decode c k = .ok (.pop, 1) := dq_b _ rfl h.1 rfl
theorem q_pop2 (h : bat c k [88]) : decode c k = .ok (.pop2, 1) := dq_b _ rfl h.1 rfl
theorem q_dup (h : bat c k [89]) : decode c k = .ok (.dup, 1) := dq_b _ rfl h.1 rfl
theorem q_dup2 (h : bat c k [92]) : decode c k = .ok (.dup2, 1) := dq_b _ rfl h.1 rfl
theorem q_iadd (h : bat c k [96]) : decode c k = .ok (.iadd, 1) := dq_b _ rfl h.1 rfl
theorem q_ladd (h : bat c k [97]) : decode c k = .ok (.ladd, 1) := dq_b _ rfl h.1 rfl
theorem q_isub (h : bat c k [100]) : decode c k = .ok (.isub, 1) := dq_b _ rfl h.1 rfl
theorem q_lsub (h : bat c k [101]) : decode c k = .ok (.lsub, 1) := dq_b _ rfl h.1 rfl
theorem q_imul (h : bat c k [104]) : decode c k = .ok (.imul, 1) := dq_b _ rfl h.1 rfl
theorem q_lmul (h : bat c k [105]) : decode c k = .ok (.lmul, 1) := dq_b _ rfl h.1 rfl
theorem q_idiv (h : bat c k [108]) : decode c k = .ok (.idiv, 1) := dq_b _ rfl h.1 rfl
theorem q_ldiv (h : bat c k [109]) : decode c k = .ok (.ldiv, 1) := dq_b _ rfl h.1 rfl
theorem q_irem (h : bat c k [112]) : decode c k = .ok (.irem, 1) := dq_b _ rfl h.1 rfl
theorem q_lrem (h : bat c k [113]) : decode c k = .ok (.lrem, 1) := dq_b _ rfl h.1 rfl
theorem q_ishl (h : bat c k [120]) : decode c k = .ok (.ishl, 1) := dq_b _ rfl h.1 rfl
theorem q_ishr (h : bat c k [122]) : decode c k = .ok (.ishr, 1) := dq_b _ rfl h.1 rfl
theorem q_iushr (h : bat c k [124]) : decode c k = .ok (.iushr, 1) := dq_b _ rfl h.1 rfl
theorem q_iand (h : bat c k [126]) : decode c k = .ok (.iand, 1) := dq_b _ rfl h.1 rfl
theorem q_land (h : bat c k [127]) : decode c k = .ok (.land, 1) := dq_b _ rfl h.1 rfl
theorem q_ior (h : bat c k [128]) : decode c k = .ok (.ior, 1) := dq_b _ rfl h.1 rfl
theorem q_ixor (h : bat c k [130]) : decode c k = .ok (.ixor, 1) := dq_b _ rfl h.1 rfl
theorem q_lxor (h : bat c k [131]) : decode c k = .ok (.lxor, 1) := dq_b _ rfl h.1 rfl
theorem q_i2l (h : bat c k [133]) : decode c k = .ok (.i2l, 1) := dq_b _ rfl h.1 rfl
theorem q_l2i (h : bat c k [136]) : decode c k = .ok (.l2i, 1) := dq_b _ rfl h.1 rfl
theorem q_i2c (h : bat c k [146]) : decode c k = .ok (.i2c, 1) := dq_b _ rfl h.1 rfl
theorem q_lcmp (h : bat c k [148]) : decode c k = .ok (.lcmp, 1) := dq_b _ rfl h.1 rfl
theorem q_ireturn (h : bat c k [172]) : decode c k = .ok (.ireturn, 1) := dq_b _ rfl h.1 rfl
theorem q_lreturn (h : bat c k [173]) : decode c k = .ok (.lreturn, 1) := dq_b _ rfl h.1 rfl
theorem q_return_ (h : bat c k [177]) : decode c k = .ok (.return_, 1) := dq_b _ rfl h.1 rfl
theorem q_arraylength (h : bat c k [190]) : decode c k = .ok (.arraylength, 1) := dq_b _ rfl h.1 rfl
theorem q_iload_n0 (h : bat c k [26]) : decode c k = .ok (.iload_n 0, 1) := dq_b _ rfl h.1 rfl
theorem q_iload_n1 (h : bat c k [27]) : decode c k = .ok (.iload_n 1, 1) := dq_b _ rfl h.1 rfl
theorem q_iload_n2 (h : bat c k [28]) : decode c k = .ok (.iload_n 2, 1) := dq_b _ rfl h.1 rfl
theorem q_iload_n3 (h : bat c k [29]) : decode c k = .ok (.iload_n 3, 1) := dq_b _ rfl h.1 rfl
theorem q_lload_n0 (h : bat c k [30]) : decode c k = .ok (.lload_n 0, 1) := dq_b _ rfl h.1 rfl
theorem q_lload_n1 (h : bat c k [31]) : decode c k = .ok (.lload_n 1, 1) := dq_b _ rfl h.1 rfl
theorem q_lload_n2 (h : bat c k [32]) : decode c k = .ok (.lload_n 2, 1) := dq_b _ rfl h.1 rfl
theorem q_lload_n3 (h : bat c k [33]) : decode c k = .ok (.lload_n 3, 1) := dq_b _ rfl h.1 rfl
theorem q_aload_n0 (h : bat c k [42]) : decode c k = .ok (.aload_n 0, 1) := dq_b _ rfl h.1 rfl
theorem q_aload_n1 (h : bat c k [43]) : decode c k = .ok (.aload_n 1, 1) := dq_b _ rfl h.1 rfl
theorem q_aload_n2 (h : bat c k [44]) : decode c k = .ok (.aload_n 2, 1) := dq_b _ rfl h.1 rfl
theorem q_aload_n3 (h : bat c k [45]) : decode c k = .ok (.aload_n 3, 1) := dq_b _ rfl h.1 rfl
theorem q_istore_n0 (h : bat c k [59]) : decode c k = .ok (.istore_n 0, 1) := dq_b _ rfl h.1 rfl
theorem q_istore_n1 (h : bat c k [60]) : decode c k = .ok (.istore_n 1, 1) := dq_b _ rfl h.1 rfl
theorem q_istore_n2 (h : bat c k [61]) : decode c k = .ok (.istore_n 2, 1) := dq_b _ rfl h.1 rfl
theorem q_istore_n3 (h : bat c k [62]) : decode c k = .ok (.istore_n 3, 1) := dq_b _ rfl h.1 rfl
theorem q_lstore_n1 (h : bat c k [64]) : decode c k = .ok (.lstore_n 1, 1) := dq_b _ rfl h.1 rfl
theorem q_lstore_n2 (h : bat c k [65]) : decode c k = .ok (.lstore_n 2, 1) := dq_b _ rfl h.1 rfl
theorem q_lstore_n3 (h : bat c k [66]) : decode c k = .ok (.lstore_n 3, 1) := dq_b _ rfl h.1 rfl
theorem q_astore_n1 (h : bat c k [76]) : decode c k = .ok (.astore_n 1, 1) := dq_b _ rfl h.1 rfl
theorem q_astore_n2 (h : bat c k [77]) : decode c k = .ok (.astore_n 2, 1) := dq_b _ rfl h.1 rfl
theorem q_astore_n3 (h : bat c k [78]) : decode c k = .ok (.astore_n 3, 1) := dq_b _ rfl h.1 rfl
theorem q_iconstm1 (h : bat c k [2]) : decode c k = .ok (.iconst (-1), 1) := dq_b _ rfl h.1 rfl
theorem q_iconst0 (h : bat c k [3]) : decode c k = .ok (.iconst (0), 1) := dq_b _ rfl h.1 rfl
theorem q_iconst1 (h : bat c k [4]) : decode c k = .ok (.iconst (1), 1) := dq_b _ rfl h.1 rfl
theorem q_iconst2 (h : bat c k [5]) : decode c k = .ok (.iconst (2), 1) := dq_b _ rfl h.1 rfl
theorem q_iconst3 (h : bat c k [6]) : decode c k = .ok (.iconst (3), 1) := dq_b _ rfl h.1 rfl
theorem q_iconst4 (h : bat c k [7]) : decode c k = .ok (.iconst (4), 1) := dq_b _ rfl h.1 rfl
theorem q_iconst5 (h : bat c k [8]) : decode c k = .ok (.iconst (5), 1) := dq_b _ rfl h.1 rfl
theorem q_lconst0 (h : bat c k [9]) : decode c k = .ok (.lconst 0, 1) := dq_b _ rfl h.1 rfl
theorem q_lconst1 (h : bat c k [10]) : decode c k = .ok (.lconst 1, 1) := dq_b _ rfl h.1 rfl
theorem q_ldc (h : bat c k [18, a]) : decode c k = .ok (Instr.ldc a, 2) := dq_b _ rfl h.1 (by
  show Except.bind ((Reader.u1 : Decoder Nat) c (k + 1)) (fun p => Except.ok (Instr.ldc p.1, p.2)) = _
  rw [h.2.1]
  rfl)
theorem q_iload (h : bat c k [21, a]) : decode c k = .ok (Instr.iload a, 2) := dq_b _ rfl h.1 (by
  show Except.bind ((Reader.u1 : Decoder Nat) c (k + 1)) (fun p => Except.ok (Instr.iload p.1, p.2)) = _
  rw [h.2.1]
  rfl)
theorem q_lload (h : bat c k [22, a]) : decode c k = .ok (Instr.lload a, 2) := dq_b _ rfl h.1 (by
  show Except.bind ((Reader.u1 : Decoder Nat) c (k + 1)) (fun p => Except.ok (Instr.lload p.1, p.2)) = _
  rw [h.2.1]
  rfl)
theorem q_istore (h : bat c k [54, a]) : decode c k = .ok (Instr.istore a, 2) := dq_b _ rfl h.1 (by
  show Except.bind ((Reader.u1 : Decoder Nat) c (k + 1)) (fun p => Except.ok (Instr.istore p.1, p.2)) = _
  rw [h.2.1]
  rfl)
theorem q_lstore (h : bat c k [55, a]) : decode c k = .ok (Instr.lstore a, 2) := dq_b _ rfl h.1 (by
  show Except.bind ((Reader.u1 : Decoder Nat) c (k + 1)) (fun p => Except.ok (Instr.lstore p.1, p.2)) = _
  rw [h.2.1]
  rfl)
theorem q_ldc_w (h : bat c k [19, a, b]) (hn : a * 256 + b = n) : decode c k = .ok (Instr.ldc_w n, 3) := dq_b _ rfl h.1 (by
  show Except.bind ((Reader.u2 : Decoder Nat) c (k + 1)) (fun p => Except.ok (Instr.ldc_w p.1, p.2)) = _
  rw [dq_u2 h.2.1 h.2.2.1, hn]
  rfl)
theorem q_ldc2_w (h : bat c k [20, a, b]) (hn : a * 256 + b = n) : decode c k = .ok (Instr.ldc2_w n, 3) := dq_b _ rfl h.1 (by
  show Except.bind ((Reader.u2 : Decoder Nat) c (k + 1)) (fun p => Except.ok (Instr.ldc2_w p.1, p.2)) = _
  rw [dq_u2 h.2.1 h.2.2.1, hn]
  rfl)
theorem q_getstatic (h : bat c k [178, a, b]) (hn : a * 256 + b = n) : decode c k = .ok (Instr.getstatic n, 3) := dq_b _ rfl h.1 (by
  show Except.bind ((Reader.u2 : Decoder Nat) c (k + 1)) (fun p => Except.ok (Instr.getstatic p.1, p.2)) = _
  rw [dq_u2 h.2.1 h.2.2.1, hn]
  rfl)
theorem q_getfield (h : bat c k [180, a, b]) (hn : a * 256 + b = n) : decode c k = .ok (Instr.getfield n, 3) := dq_b _ rfl h.1 (by
  show Except.bind ((Reader.u2 : Decoder Nat) c (k + 1)) (fun p => Except.ok (Instr.getfield p.1, p.2)) = _
  rw [dq_u2 h.2.1 h.2.2.1, hn]
  rfl)
theorem q_putfield (h : bat c k [181, a, b]) (hn : a * 256 + b = n) : decode c k = .ok (Instr.putfield n, 3) := dq_b _ rfl h.1 (by
  show Except.bind ((Reader.u2 : Decoder Nat) c (k + 1)) (fun p => Except.ok (Instr.putfield p.1, p.2)) = _
  rw [dq_u2 h.2.1 h.2.2.1, hn]
  rfl)
theorem q_invokevirtual (h : bat c k [182, a, b]) (hn : a * 256 + b = n) : decode c k = .ok (Instr.invokevirtual n, 3) := dq_b _ rfl h.1 (by
  show Except.bind ((Reader.u2 : Decoder Nat) c (k + 1)) (fun p => Except.ok (Instr.invokevirtual p.1, p.2)) = _
  rw [dq_u2 h.2.1 h.2.2.1, hn]
  rfl)
theorem q_invokespecial (h : bat c k [183, a, b]) (hn : a * 256 + b = n) : decode c k = .ok (Instr.invokespecial n, 3) := dq_b _ rfl h.1 (by
  show Except.bind ((Reader.u2 : Decoder Nat) c (k + 1)) (fun p => Except.ok (Instr.invokespecial p.1, p.2)) = _
  rw [dq_u2 h.2.1 h.2.2.1, hn]
  rfl)
theorem q_invokestatic (h : bat c k [184, a, b]) (hn : a * 256 + b = n) : decode c k = .ok (Instr.invokestatic n, 3) := dq_b _ rfl h.1 (by
  show Except.bind ((Reader.u2 : Decoder Nat) c (k + 1)) (fun p => Except.ok (Instr.invokestatic p.1, p.2)) = _
  rw [dq_u2 h.2.1 h.2.2.1, hn]
  rfl)
theorem q_new (h : bat c k [187, a, b]) (hn : a * 256 + b = n) : decode c k = .ok (Instr.new n, 3) := dq_b _ rfl h.1 (by
  show Except.bind ((Reader.u2 : Decoder Nat) c (k + 1)) (fun p => Except.ok (Instr.new p.1, p.2)) = _
  rw [dq_u2 h.2.1 h.2.2.1, hn]
  rfl)
theorem q_anewarray (h : bat c k [189, a, b]) (hn : a * 256 + b = n) : decode c k = .ok (Instr.anewarray n, 3) := dq_b _ rfl h.1 (by
  show Except.bind ((Reader.u2 : Decoder Nat) c (k + 1)) (fun p => Except.ok (Instr.anewarray p.1, p.2)) = _
  rw [dq_u2 h.2.1 h.2.2.1, hn]
  rfl)
theorem q_bipush (h : bat c k [16, a]) (hv : Reader.signed 8 a = v) : decode c k = .ok (Instr.bipush v, 2) := dq_b _ rfl h.1 (by
  show Except.bind ((Reader.s1 : Decoder Int) c (k + 1)) (fun p => Except.ok (Instr.bipush p.1, p.2)) = _
  rw [dq_s1 h.2.1, hv]
  rfl)
theorem q_sipush (h : bat c k [17, a, b]) (hv : Reader.signed 16 (a * 256 + b) = v) : decode c k = .ok (Instr.sipush v, 3) := dq_b _ rfl h.1 (by
  show Except.bind ((Reader.s2 : Decoder Int) c (k + 1)) (fun p => Except.ok (Instr.sipush p.1, p.2)) = _
  rw [dq_s2 h.2.1 h.2.2.1, hv]
  rfl)
theorem q_goto (h : bat c k [167, a, b]) (hv : Reader.signed 16 (a * 256 + b) = v) : decode c k = .ok (Instr.goto v, 3) := dq_b _ rfl h.1 (by
  show Except.bind ((Reader.s2 : Decoder Int) c (k + 1)) (fun p => Except.ok (Instr.goto p.1, p.2)) = _
  rw [dq_s2 h.2.1 h.2.2.1, hv]
  rfl)
theorem q_ifCond_eq (h : bat c k [153, a, b]) (hv : Reader.signed 16 (a * 256 + b) = v) : decode c k = .ok (Instr.ifCond .eq v, 3) := dq_b _ rfl h.1 (by
  show Except.bind ((Reader.s2 : Decoder Int) c (k + 1)) (fun p => Except.ok (Instr.ifCond .eq p.1, p.2)) = _
  rw [dq_s2 h.2.1 h.2.2.1, hv]
  rfl)
theorem q_if_icmp_eq (h : bat c k [159, a, b]) (hv : Reader.signed 16 (a * 256 + b) = v) : decode c k = .ok (Instr.if_icmp .eq v, 3) := dq_b _ rfl h.1 (by
  show Except.bind ((Reader.s2 : Decoder Int) c (k + 1)) (fun p => Except.ok (Instr.if_icmp .eq p.1, p.2)) = _
  rw [dq_s2 h.2.1 h.2.2.1, hv]
  rfl)
theorem q_ifCond_ne (h : bat c k [154, a, b]) (hv : Reader.signed 16 (a * 256 + b) = v) : decode c k = .ok (Instr.ifCond .ne v, 3) := dq_b _ rfl h.1 (by
  show Except.bind ((Reader.s2 : Decoder Int) c (k + 1)) (fun p => Except.ok (Instr.ifCond .ne p.1, p.2)) = _
  rw [dq_s2 h.2.1 h.2.2.1, hv]
  rfl)
theorem q_if_icmp_ne (h : bat c k [160, a, b]) (hv : Reader.signed 16 (a * 256 + b) = v) : decode c k = .ok (Instr.if_icmp .ne v, 3) := dq_b _ rfl h.1 (by
  show Except.bind ((Reader.s2 : Decoder Int) c (k + 1)) (fun p => Except.ok (Instr.if_icmp .ne p.1, p.2)) = _
  rw [dq_s2 h.2.1 h.2.2.1, hv]
  rfl)
theorem q_ifCond_lt (h : bat c k [155, a, b]) (hv : Reader.signed 16 (a * 256 + b) = v) : decode c k = .ok (Instr.ifCond .lt v, 3) := dq_b _ rfl h.1 (by
  show Except.bind ((Reader.s2 : Decoder Int) c (k + 1)) (fun p => Except.ok (Instr.ifCond .lt p.1, p.2)) = _
  rw [dq_s2 h.2.1 h.2.2.1, hv]
  rfl)
theorem q_if_icmp_lt (h : bat c k [161, a, b]) (hv : Reader.signed 16 (a * 256 + b) = v) : decode c k = .ok (Instr.if_icmp .lt v, 3) := dq_b _ rfl h.1 (by
  show Except.bind ((Reader.s2 : Decoder Int) c (k + 1)) (fun p => Except.ok (Instr.if_icmp .lt p.1, p.2)) = _
  rw [dq_s2 h.2.1 h.2.2.1, hv]
  rfl)
theorem q_ifCond_ge (h : bat c k [156, a, b]) (hv : Reader.signed 16 (a * 256 + b) = v) : decode c k = .ok (Instr.ifCond .ge v, 3) := dq_b _ rfl h.1 (by
  show Except.bind ((Reader.s2 : Decoder Int) c (k + 1)) (fun p => Except.ok (Instr.ifCond .ge p.1, p.2)) = _
  rw [dq_s2 h.2.1 h.2.2.1, hv]
  rfl)
theorem q_if_icmp_ge (h : bat c k [162, a, b]) (hv : Reader.signed 16 (a * 256 + b) = v) : decode c k = .ok (Instr.if_icmp .ge v, 3) := dq_b _ rfl h.1 (by
  show Except.bind ((Reader.s2 : Decoder Int) c (k + 1)) (fun p => Except.ok (Instr.if_icmp .ge p.1, p.2)) = _
  rw [dq_s2 h.2.1 h.2.2.1, hv]
  rfl)
theorem q_ifCond_gt (h : bat c k [157, a, b]) (hv : Reader.signed 16 (a * 256 + b) = v) : decode c k = .ok (Instr.ifCond .gt v, 3) := dq_b _ rfl h.1 (by
  show Except.bind ((Reader.s2 : Decoder Int) c (k + 1)) (fun p => Except.ok (Instr.ifCond .gt p.1, p.2)) = _
  rw [dq_s2 h.2.1 h.2.2.1, hv]
  rfl)
theorem q_if_icmp_gt (h : bat c k [163, a, b]) (hv : Reader.signed 16 (a * 256 + b) = v) : decode c k = .ok (Instr.if_icmp .gt v, 3) := dq_b _ rfl h.1 (by
  show Except.bind ((Reader.s2 : Decoder Int) c (k + 1)) (fun p => Except.ok (Instr.if_icmp .gt p.1, p.2)) = _
  rw [dq_s2 h.2.1 h.2.2.1, hv]
  rfl)
theorem q_ifCond_le (h : bat c k [158, a, b]) (hv : Reader.signed 16 (a * 256 + b) = v) : decode c k = .ok (Instr.ifCond .le v, 3) := dq_b _ rfl h.1 (by
  show Except.bind ((Reader.s2 : Decoder Int) c (k + 1)) (fun p => Except.ok (Instr.ifCond .le p.1, p.2)) = _
  rw [dq_s2 h.2.1 h.2.2.1, hv]
  rfl)
theorem q_if_icmp_le (h : bat c k [164, a, b]) (hv : Reader.signed 16 (a * 256 + b) = v) : decode c k = .ok (Instr.if_icmp .le v, 3) := dq_b _ rfl h.1 (by
  show Except.bind ((Reader.s2 : Decoder Int) c (k + 1)) (fun p => Except.ok (Instr.if_icmp .le p.1, p.2)) = _
  rw [dq_s2 h.2.1 h.2.2.1, hv]
  rfl)
theorem q_newarray_boolean (h : bat c k [188, 4]) : decode c k = .ok (.newarray .boolean, 2) := dq_b _ rfl h.1 (by
  show Except.bind ((Reader.u1 : Decoder Nat) c (k + 1)) _ = _
  rw [h.2.1]
  rfl)
theorem q_newarray_char (h : bat c k [188, 5]) : decode c k = .ok (.newarray .char, 2) := dq_b _ rfl h.1 (by
  show Except.bind ((Reader.u1 : Decoder Nat) c (k + 1)) _ = _
  rw [h.2.1]
  rfl)
theorem q_newarray_int (h : bat c k [188, 10]) : decode c k = .ok (.newarray .int, 2) := dq_b _ rfl h.1 (by
  show Except.bind ((Reader.u1 : Decoder Nat) c (k + 1)) _ = _
  rw [h.2.1]
  rfl)
theorem q_newarray_long (h : bat c k [188, 11]) : decode c k = .ok (.newarray .long, 2) := dq_b _ rfl h.1 (by
  show Except.bind ((Reader.u1 : Decoder Nat) c (k + 1)) _ = _
  rw [h.2.1]
  rfl)
theorem q_iinc (h : bat c k [132, a, b]) (hv : Reader.signed 8 b = v) : decode c k = .ok (.iinc a v, 3) := dq_b _ rfl h.1 (by
  show Except.bind ((Reader.u1 : Decoder Nat) c (k + 1)) (fun p => Except.bind ((Reader.s1 : Decoder Int) c p.2) (fun q => Except.ok (Instr.iinc p.1 q.1, q.2))) = _
  rw [h.2.1]
  show Except.bind ((Reader.s1 : Decoder Int) c (k + 2)) (fun q => Except.ok (Instr.iinc a q.1, q.2)) = _
  rw [dq_s1 h.2.2.1, hv]
  rfl)
end DQ

