/-! the class's own text constant, which lies in the heap that was there before -/
def skTx : String := "lock  from  barge wet   mute  says  does  wage  rain  mood  day   week  told  alone numberfirst weeks or    and   not   all   min   max   last  often total most  least "
def skBy : List Int32 := [108, 111, 99, 107, 32, 32, 102, 114, 111, 109, 32, 32, 98, 97, 114, 103, 101, 32, 119, 101, 116, 32, 32, 32, 109, 117, 116, 101, 32, 32, 115, 97, 121, 115, 32, 32, 100, 111, 101, 115, 32, 32, 119, 97, 103, 101, 32, 32, 114, 97, 105, 110, 32, 32, 109, 111, 111, 100, 32, 32, 100, 97, 121, 32, 32, 32, 119, 101, 101, 107, 32, 32, 116, 111, 108, 100, 32, 32, 97, 108, 111, 110, 101, 32, 110, 117, 109, 98, 101, 114, 102, 105, 114, 115, 116, 32, 119, 101, 101, 107, 115, 32, 111, 114, 32, 32, 32, 32, 97, 110, 100, 32, 32, 32, 110, 111, 116, 32, 32, 32, 97, 108, 108, 32, 32, 32, 109, 105, 110, 32, 32, 32, 109, 97, 120, 32, 32, 32, 108, 97, 115, 116, 32, 32, 111, 102, 116, 101, 110, 32, 116, 111, 116, 97, 108, 32, 109, 111, 115, 116, 32, 32, 108, 101, 97, 115, 116, 32]
def skStr (zk zv : Nat) (zf : Value) (A : Nat → Prop) (U : State) (H : Heap) : Prop :=
  vk_R RX6 59 skTx zk U ∧ va_O "java/lang/String" zk A U H ∧ va_OF "java/lang/String" "coder" "B" (.int 0) zk A U H ∧ va_OF "java/lang/String" "value" "[B" (.ref zv) zk A U H ∧ va_T .byte zv 168 (fun j => .int (skBy.getD j 0)) A U H ∧ va_Z "java/lang/String" "COMPACT_STRINGS" "Z" (.int 1) A U H ∧ va_Z "jdk/internal/util/Preconditions" "SIOOBE_FORMATTER" "Ljava/util/function/BiFunction;" zf A U H ∧ (zf = .null ∨ ∃ a : Nat, zf = .ref a)
theorem skStr.at {zk zv : Nat} {zf : Value} {A B : Nat → Prop} {s U : State} {H : Heap} {locs : List Loc} (h : skStr zk zv zf A s s.heap) (hS : va_S A s.heap H locs) (hF : ∀ q, B q → A q) (hU : U.heap = H) (hW : s.WarmedH U.vm) : skStr zk zv zf B U U.heap := by
  obtain ⟨h1, h2, h3, h4, h5, h6, h7, h8⟩ := h
  rw [hU]
  exact ⟨h1.warm hW, ((h2.kept hS.2.1).narrow hF).moved hW.alike, ((h3.kept hS.2.1).narrow hF).moved hW.alike, ((h4.kept hS.2.1).narrow hF).moved hW.alike, ((h5.kept hS.2.1).narrow hF).moved hW.alike, ((h6.kept hS.2.1).narrow hF).moved hW.alike, ((h7.kept hS.2.1).narrow hF).moved hW.alike, h8⟩
theorem skStr.same {zk zv : Nat} {zf : Value} {A : Nat → Prop} {u U : State} {H : Heap} (h : skStr zk zv zf A u H) (e : U.vm = u.vm) (ha : u.vm.Alike U.vm) : skStr zk zv zf A U H := by
  obtain ⟨h1, h2, h3, h4, h5, h6, h7, h8⟩ := h
  exact ⟨h1.same e, h2.moved ha, h3.moved ha, h4.moved ha, h5.moved ha, h6.moved ha, h7.moved ha, h8⟩
abbrev skPreZ (zk zv : Nat) (zf : Value) (D : va_G) (tys : List (ClassId × FieldType)) (av : List Value) (sz : Nat) (w : va_W) : Array Value → State → Prop := va_Pc av (fun U => U.heap.size = sz ∧ va_P D vwCl w U.heap ∧ skK D tys U ∧ va_D (fun _ => True) w ∧ skStr zk zv zf (va_A w sz) U U.heap)
def skMZ (zk zv : Nat) (zf : Value) (l : Launch) (y : MethodName) (cc : ByteArray) (maxL : Nat) (ret : Option FieldType) (fr lo mc ms : Nat) (D : va_G) (tys : List (ClassId × FieldType)) (av : List Value) (w : va_W) (Qc : (Nat → Prop) → Array Value → State → Outcome → State → Prop) : Prop :=
  ∀ sz : Nat, Met l y (skC y cc maxL ret) { frames := fr, cells := mc, slots := ms, locals := lo } (skPreZ zk zv zf D tys av sz w) (Qc (va_A w sz)) mc ms (va_A w sz)
theorem skMZ_of {zk zv : Nat} {zf : Value} {l : Launch} {y : MethodName} {cc : ByteArray} {maxL : Nat} {ret : Option FieldType} {fr lo mc ms : Nat} {D : va_G} {tys : List (ClassId × FieldType)} {av : List Value} {w : va_W} {Qc : (Nat → Prop) → Array Value → State → Outcome → State → Prop}
    (hy : plainFor y = true) (hlen : (lg_sl av).length ≤ maxL)
    (body : ∀ (p : Program) (e : Env) (s : State) (m : MethodId) (below : List Frame) (meth : Method) (c : Code) (A : Nat → Prop) (ls : Array Slot), skEnv p s m meth c cc ret maxL y av D tys A → va_P D vwCl w s.heap → va_D A w → skStr zk zv zf A s s.heap → lv_has ls maxL (lv_args 0 av) →
      W p l e { frames := fr, cells := mc, slots := ms, locals := lo } s m av.toArray below meth c s.heap [] 0 0 (MQ below (Qc A) av.toArray s mc ms A) (F0 m 0 ls [])) : skMZ zk zv zf l y cc maxL ret fr lo mc ms D tys av w Qc := by
  intro sz
  refine MetFree.of_bodySF (code := cc) (maxLocals := maxL) (ret := ret) hy ?_ ?_
  · intro args s m h hn
    obtain ⟨meth, c, h1, h2, h3, h4, h5, h6, -, -⟩ := Cond.code_spec hn (atoms_spec (ws := skC y cc maxL ret) h _ List.mem_cons_self)
    exact ⟨meth, c, h1, h2, h3, h4, h5, h6⟩
  · intro p e s m args below meth c s₁ B hml hv _
    have hh0 : s₁.heap = s.heap := by rw [B.state]; rfl
    obtain ⟨rfl, hsz, hP, hK, hD0, hZ⟩ := hv
    have hts := atoms_spec (ws := skC y cc maxL ret) B.pre
    subst hsz
    have hD := hD0.self (sz := s.heap.size)
    have hl := lv_entry av (n := maxL) hlen
    have hw : W p l e { frames := fr, cells := mc, slots := ms, locals := lo } s m av.toArray below meth c s.heap [] 0 0 (MQ below (Qc (va_A w s.heap.size)) av.toArray s mc ms (va_A w s.heap.size)) (entryFrame m av.toArray maxL) := by
      rw [lg_entry_eq]
      exact body p e s m below meth c _ _ ⟨B.exec, B.bytes, B.returns, hml, B.notSynchronized, (name_of_methodNamed B.named B.method).1, findClass_of_methodNamed B.named, fun w hw => hts w (List.mem_cons_of_mem _ hw), hK, fun q h => Or.inr h⟩ hP hD hZ hl
    obtain ⟨t, a1, o, b1, b2, b3⟩ := hw s₁ hh0 (Stand.of_body B)
    exact ⟨t, o, a1, b1, b2, ⟨b3.1, b3.2⟩⟩
section SkRowsZ
variable {p : Program} {l : Launch} {e : Env} {R : Room} {s : State} {m : MethodId} {args : Array Value} {below : List Frame} {meth : Method} {c : Code} {H : Heap} {locs : List Loc} {cells slots : Nat} {Q : State → Prop}
variable {cc : ByteArray} {pc : Nat} {ls : Array Slot} {rest : List Value} {D : va_G} {tys : List (ClassId × FieldType)} {ws ws' : va_W} {A : Nat → Prop} {H0 : Heap} {a : Nat}
theorem sk_blindZ (zk zv : Nat) (zf : Value) (D : va_G) (tys : List (ClassId × FieldType)) (av : List Value) (sz : Nat) (w : va_W) : FrameBlind (skPreZ zk zv zf D tys av sz w) := fun a U g mk q => by
  obtain ⟨q0, q1, qP, qK, qD, qZ⟩ := q
  exact ⟨q0, q1, qP, skK.same (u := U) (U := U.calling g mk a) qK rfl (Vm.Alike.refl U.vm), qD, skStr.same (u := U) (U := U.calling g mk a) qZ rfl (Vm.Alike.refl U.vm)⟩
section SkCallsZ
variable {zk zv : Nat} {zf : Value} {y : MethodName} {bytes : ByteArray} {maxL nL fr lo mc ms n index ci q0 N : Nat} {ret : Option FieldType} {own C : String} {b : Nat} {As st0 : List Value} {wc wr : va_W} {fs : List Value} {T : u_T}
theorem sk_preVZ (hZ : skStr zk zv zf A s s.heap) (hS : va_S A s.heap H locs) (hF : ∀ q, va_A wc H.size q → A q) (hK : skK D tys s) (hP : va_P D vwCl ws H) (hD : va_D A ws) (isC : List Nat) (hC : isC.map (fun i => ws[i]?) = wc.map some) (hnC : va_nd isC = true) (av : List Value) : PreS s H (skPreZ zk zv zf D tys av H.size wc) av := by
  have hPc : va_P D vwCl wc H := hP.sub isC (by
    have h9 : isC.filterMap (fun i => ws[i]?) = (isC.map (fun i => ws[i]?)).filterMap id := by rw [List.filterMap_map]; rfl
    rw [h9, hC]
    simp [List.filterMap_map])
  have hDc : va_D A wc := hD.sub isC hnC hC
  exact ⟨sk_blindZ zk zv zf D tys av H.size wc, fun U hU hW => ⟨rfl, by rw [hU], by rw [hU]; exact hPc, hK.warm hW, hDc.weaken (fun _ _ _ _ => trivial), hZ.at hS hF hU hW⟩⟩
theorem sk_ViZ {post : Int32 → va_W → Prop} (S : CallFix p m c cc nL s args wsL_law own) (hls : ls.size = nL) (hM : skMZ zk zv zf l y bytes maxL ret fr lo mc ms D tys (.ref b :: As) wc (skI D tys post))
    (h1 : Cond.methodLink own index y ∈ wsL_law) (h2 : Cond.instanceMethod y ∈ wsL_law) (h3 : Cond.selects C y y ∈ wsL_law) (h4 : Cond.initialized y.cls ∈ wsL_law) (h5 : Cond.code y bytes maxL ret ∈ wsL_law) (hd : skD y n) (hrm : skR R fr lo mc ms maxL cells slots)
    (hK : skK D tys s) (hP : va_P D vwCl ws H) (hD : va_D A ws) (hS : va_S A s.heap H locs) (hZ : skStr zk zv zf A s s.heap) (hA : ∀ q, s.heap.size ≤ q → A q) (isC isR : List Nat) (hC : isC.map (fun i => ws[i]?) = wc.map some) (hR : isR.map (fun i => ws[i]?) = wr.map some) (hnC : va_nd isC = true) (hn : va_nd isR = true) (hdis : ∀ i ∈ isR, i ∉ isC) (he : wc[q0]? = some (b, .inr (ci, fs))) (hc : vwCl[ci]? = some (C, T, N))
    (hlen : As.length = n) (hst : st0 = As.reverse ++ .ref b :: rest) (hcat : (rest.map fun v => v.category).sum ≤ 8) (hdg : decode cc pc = .ok (.invokevirtual index, 3))
    (kk : ∀ (r : Int32) (u : va_W) (H1 : Heap) (locs1 : List Loc), post r u → va_P D vwCl (wr ++ u) H1 → va_D A (wr ++ u) → va_S A s.heap H1 locs1 → W p l e R s m args below meth c H1 locs1 (cells + mc) (slots + ms) Q (F0 m (pc + 3) ls (.int r :: rest))) : W p l e R s m args below meth c H locs cells slots Q (F0 m pc ls st0) := by
  have hts := S.2.2.2.2
  have hFc := va_free (wc := wc) hD hS hA isC hC
  have hpre := sk_preVZ hZ hS hFc hK hP hD isC hC hnC (.ref b :: As)
  refine va_calli (va_runV (As := As) (rest := rest) S (hM H.size) ⟨callB_of n hts (sk_good h5) rfl rfl rfl (hts _ h4) (hts _ h1) hd hrm.1, hts _ h2, hts _ h3⟩ ⟨hpre.1, sk_recv hK hP isC hC he hc, hpre.2⟩ rfl hlen hls hst (lv_room hcat) hdg hrm.2) hS (fun q _ h => hFc q h) hFc (fun r u t H1 locs1 ht hvm hw hB hz1 hk1 hS1 => ?_)
  obtain ⟨hP1, -, hD1⟩ := hB
  rw [ht] at hP1
  obtain ⟨hP', hD'⟩ := va_join (wr := wr) (w1 := u) hP hD isC isR hC hR hn hdis hk1 hFc hP1 hD1
  exact kk r u H1 locs1 hw hP' hD' hS1
theorem sk_VlZ {post : Int64 → va_W → Prop} (S : CallFix p m c cc nL s args wsL_law own) (hls : ls.size = nL) (hM : skMZ zk zv zf l y bytes maxL ret fr lo mc ms D tys (.ref b :: As) wc (skL D tys post))
    (h1 : Cond.methodLink own index y ∈ wsL_law) (h2 : Cond.instanceMethod y ∈ wsL_law) (h3 : Cond.selects C y y ∈ wsL_law) (h4 : Cond.initialized y.cls ∈ wsL_law) (h5 : Cond.code y bytes maxL ret ∈ wsL_law) (hd : skD y n) (hrm : skR R fr lo mc ms maxL cells slots)
    (hK : skK D tys s) (hP : va_P D vwCl ws H) (hD : va_D A ws) (hS : va_S A s.heap H locs) (hZ : skStr zk zv zf A s s.heap) (hA : ∀ q, s.heap.size ≤ q → A q) (isC isR : List Nat) (hC : isC.map (fun i => ws[i]?) = wc.map some) (hR : isR.map (fun i => ws[i]?) = wr.map some) (hnC : va_nd isC = true) (hn : va_nd isR = true) (hdis : ∀ i ∈ isR, i ∉ isC) (he : wc[q0]? = some (b, .inr (ci, fs))) (hc : vwCl[ci]? = some (C, T, N))
    (hlen : As.length = n) (hst : st0 = As.reverse ++ .ref b :: rest) (hcat : (rest.map fun v => v.category).sum ≤ 8) (hdg : decode cc pc = .ok (.invokevirtual index, 3))
    (kk : ∀ (r : Int64) (u : va_W) (H1 : Heap) (locs1 : List Loc), post r u → va_P D vwCl (wr ++ u) H1 → va_D A (wr ++ u) → va_S A s.heap H1 locs1 → W p l e R s m args below meth c H1 locs1 (cells + mc) (slots + ms) Q (F0 m (pc + 3) ls (.long r :: rest))) : W p l e R s m args below meth c H locs cells slots Q (F0 m pc ls st0) := by
  have hts := S.2.2.2.2
  have hFc := va_free (wc := wc) hD hS hA isC hC
  have hpre := sk_preVZ hZ hS hFc hK hP hD isC hC hnC (.ref b :: As)
  refine va_calll (va_runV (As := As) (rest := rest) S (hM H.size) ⟨callB_of n hts (sk_good h5) rfl rfl rfl (hts _ h4) (hts _ h1) hd hrm.1, hts _ h2, hts _ h3⟩ ⟨hpre.1, sk_recv hK hP isC hC he hc, hpre.2⟩ rfl hlen hls hst (lv_room hcat) hdg hrm.2) hS (fun q _ h => hFc q h) hFc (fun r u t H1 locs1 ht hvm hw hB hz1 hk1 hS1 => ?_)
  obtain ⟨hP1, -, hD1⟩ := hB
  rw [ht] at hP1
  obtain ⟨hP', hD'⟩ := va_join (wr := wr) (w1 := u) hP hD isC isR hC hR hn hdis hk1 hFc hP1 hD1
  exact kk r u H1 locs1 hw hP' hD' hS1
theorem sk_VvZ {post : va_W → Prop} (S : CallFix p m c cc nL s args wsL_law own) (hls : ls.size = nL) (hM : skMZ zk zv zf l y bytes maxL ret fr lo mc ms D tys (.ref b :: As) wc (skV D tys post))
    (h1 : Cond.methodLink own index y ∈ wsL_law) (h2 : Cond.instanceMethod y ∈ wsL_law) (h3 : Cond.selects C y y ∈ wsL_law) (h4 : Cond.initialized y.cls ∈ wsL_law) (h5 : Cond.code y bytes maxL ret ∈ wsL_law) (hd : skD y n) (hrm : skR R fr lo mc ms maxL cells slots)
    (hK : skK D tys s) (hP : va_P D vwCl ws H) (hD : va_D A ws) (hS : va_S A s.heap H locs) (hZ : skStr zk zv zf A s s.heap) (hA : ∀ q, s.heap.size ≤ q → A q) (isC isR : List Nat) (hC : isC.map (fun i => ws[i]?) = wc.map some) (hR : isR.map (fun i => ws[i]?) = wr.map some) (hnC : va_nd isC = true) (hn : va_nd isR = true) (hdis : ∀ i ∈ isR, i ∉ isC) (he : wc[q0]? = some (b, .inr (ci, fs))) (hc : vwCl[ci]? = some (C, T, N))
    (hlen : As.length = n) (hst : st0 = As.reverse ++ .ref b :: rest) (hcat : (rest.map fun v => v.category).sum ≤ 8) (hdg : decode cc pc = .ok (.invokevirtual index, 3))
    (kk : ∀ (u : va_W) (H1 : Heap) (locs1 : List Loc), post u → va_P D vwCl (wr ++ u) H1 → va_D A (wr ++ u) → va_S A s.heap H1 locs1 → W p l e R s m args below meth c H1 locs1 (cells + mc) (slots + ms) Q (F0 m (pc + 3) ls rest)) : W p l e R s m args below meth c H locs cells slots Q (F0 m pc ls st0) := by
  have hts := S.2.2.2.2
  have hFc := va_free (wc := wc) hD hS hA isC hC
  have hpre := sk_preVZ hZ hS hFc hK hP hD isC hC hnC (.ref b :: As)
  refine va_callv (va_runV (As := As) (rest := rest) S (hM H.size) ⟨callB_of n hts (sk_good h5) rfl rfl rfl (hts _ h4) (hts _ h1) hd hrm.1, hts _ h2, hts _ h3⟩ ⟨hpre.1, sk_recv hK hP isC hC he hc, hpre.2⟩ rfl hlen hls hst (lv_room hcat) hdg hrm.2) hS (fun q _ h => hFc q h) hFc (fun u t H1 locs1 ht hvm hw hB hz1 hk1 hS1 => ?_)
  obtain ⟨hP1, -, hD1⟩ := hB
  rw [ht] at hP1
  obtain ⟨hP', hD'⟩ := va_join (wr := wr) (w1 := u) hP hD isC isR hC hR hn hdis hk1 hFc hP1 hD1
  exact kk u H1 locs1 hw hP' hD' hS1
theorem sk_SiZ {post : Int32 → va_W → Prop} (S : CallFix p m c cc nL s args wsL_law own) (hls : ls.size = nL) (hM : skMZ zk zv zf l y bytes maxL ret fr lo mc ms D tys As wc (skI D tys post))
    (h1 : Cond.methodLink own index y ∈ wsL_law) (h2 : Cond.static y ∈ wsL_law) (h4 : Cond.initialized y.cls ∈ wsL_law) (h5 : Cond.code y bytes maxL ret ∈ wsL_law) (hd : skD y n) (hrm : skR R fr lo mc ms maxL cells slots)
    (hK : skK D tys s) (hP : va_P D vwCl ws H) (hD : va_D A ws) (hS : va_S A s.heap H locs) (hZ : skStr zk zv zf A s s.heap) (hA : ∀ q, s.heap.size ≤ q → A q) (isC isR : List Nat) (hC : isC.map (fun i => ws[i]?) = wc.map some) (hR : isR.map (fun i => ws[i]?) = wr.map some) (hnC : va_nd isC = true) (hn : va_nd isR = true) (hdis : ∀ i ∈ isR, i ∉ isC)
    (hlen : As.length = n) (hst : st0 = As.reverse ++ rest) (hcat : (rest.map fun v => v.category).sum ≤ 8) (hdg : decode cc pc = .ok (.invokestatic index, 3))
    (kk : ∀ (r : Int32) (u : va_W) (H1 : Heap) (locs1 : List Loc), post r u → va_P D vwCl (wr ++ u) H1 → va_D A (wr ++ u) → va_S A s.heap H1 locs1 → W p l e R s m args below meth c H1 locs1 (cells + mc) (slots + ms) Q (F0 m (pc + 3) ls (.int r :: rest))) : W p l e R s m args below meth c H locs cells slots Q (F0 m pc ls st0) := by
  have hts := S.2.2.2.2
  have hFc := va_free (wc := wc) hD hS hA isC hC
  have hpre := sk_preVZ hZ hS hFc hK hP hD isC hC hnC As
  refine va_calli (va_runS (As := As) (rest := rest) S (hM H.size) ⟨callB_of n hts (sk_good h5) rfl rfl rfl (hts _ h4) (hts _ h1) hd hrm.1, hts _ h2⟩ hpre rfl hlen hls hst (lv_room hcat) hdg hrm.2) hS (fun q _ h => hFc q h) hFc (fun r u t H1 locs1 ht hvm hw hB hz1 hk1 hS1 => ?_)
  obtain ⟨hP1, -, hD1⟩ := hB
  rw [ht] at hP1
  obtain ⟨hP', hD'⟩ := va_join (wr := wr) (w1 := u) hP hD isC isR hC hR hn hdis hk1 hFc hP1 hD1
  exact kk r u H1 locs1 hw hP' hD' hS1
theorem sk_SvZ {post : va_W → Prop} (S : CallFix p m c cc nL s args wsL_law own) (hls : ls.size = nL) (hM : skMZ zk zv zf l y bytes maxL ret fr lo mc ms D tys As wc (skV D tys post))
    (h1 : Cond.methodLink own index y ∈ wsL_law) (h2 : Cond.static y ∈ wsL_law) (h4 : Cond.initialized y.cls ∈ wsL_law) (h5 : Cond.code y bytes maxL ret ∈ wsL_law) (hd : skD y n) (hrm : skR R fr lo mc ms maxL cells slots)
    (hK : skK D tys s) (hP : va_P D vwCl ws H) (hD : va_D A ws) (hS : va_S A s.heap H locs) (hZ : skStr zk zv zf A s s.heap) (hA : ∀ q, s.heap.size ≤ q → A q) (isC isR : List Nat) (hC : isC.map (fun i => ws[i]?) = wc.map some) (hR : isR.map (fun i => ws[i]?) = wr.map some) (hnC : va_nd isC = true) (hn : va_nd isR = true) (hdis : ∀ i ∈ isR, i ∉ isC)
    (hlen : As.length = n) (hst : st0 = As.reverse ++ rest) (hcat : (rest.map fun v => v.category).sum ≤ 8) (hdg : decode cc pc = .ok (.invokestatic index, 3))
    (kk : ∀ (u : va_W) (H1 : Heap) (locs1 : List Loc), post u → va_P D vwCl (wr ++ u) H1 → va_D A (wr ++ u) → va_S A s.heap H1 locs1 → W p l e R s m args below meth c H1 locs1 (cells + mc) (slots + ms) Q (F0 m (pc + 3) ls rest)) : W p l e R s m args below meth c H locs cells slots Q (F0 m pc ls st0) := by
  have hts := S.2.2.2.2
  have hFc := va_free (wc := wc) hD hS hA isC hC
  have hpre := sk_preVZ hZ hS hFc hK hP hD isC hC hnC As
  refine va_callv (va_runS (As := As) (rest := rest) S (hM H.size) ⟨callB_of n hts (sk_good h5) rfl rfl rfl (hts _ h4) (hts _ h1) hd hrm.1, hts _ h2⟩ hpre rfl hlen hls hst (lv_room hcat) hdg hrm.2) hS (fun q _ h => hFc q h) hFc (fun u t H1 locs1 ht hvm hw hB hz1 hk1 hS1 => ?_)
  obtain ⟨hP1, -, hD1⟩ := hB
  rw [ht] at hP1
  obtain ⟨hP', hD'⟩ := va_join (wr := wr) (w1 := u) hP hD isC isR hC hR hn hdis hk1 hFc hP1 hD1
  exact kk u H1 locs1 hw hP' hD' hS1
theorem sk_recvS {C : String} {b : Nat} (hZ : skStr zk zv zf A s s.heap) (hS : va_S A s.heap H locs) (hbz : b = zk) (hCs : C = "java/lang/String") : ∃ cell : Cell, H[b]? = some cell ∧ cell.vm.isStatics = false ∧ s.vm.findClass C = some cell.cls := by
  subst hbz; subst hCs
  obtain ⟨cell, h1, h2, h3, -⟩ := hZ.2.1.kept hS.2.1
  exact ⟨cell, h1, h2, h3⟩
theorem sk_ViS {post : Int32 → va_W → Prop} (S : CallFix p m c cc nL s args wsL_law own) (hls : ls.size = nL) (hM : skMZ zk zv zf l y bytes maxL ret fr lo mc ms D tys (.ref b :: As) wc (skI D tys post))
    (h1 : Cond.methodLink own index y ∈ wsL_law) (h2 : Cond.instanceMethod y ∈ wsL_law) (h3 : Cond.selects C y y ∈ wsL_law) (h4 : Cond.initialized y.cls ∈ wsL_law) (h5 : Cond.code y bytes maxL ret ∈ wsL_law) (hd : skD y n) (hrm : skR R fr lo mc ms maxL cells slots)
    (hK : skK D tys s) (hP : va_P D vwCl ws H) (hD : va_D A ws) (hS : va_S A s.heap H locs) (hZ : skStr zk zv zf A s s.heap) (hA : ∀ q, s.heap.size ≤ q → A q) (isC isR : List Nat) (hC : isC.map (fun i => ws[i]?) = wc.map some) (hR : isR.map (fun i => ws[i]?) = wr.map some) (hnC : va_nd isC = true) (hn : va_nd isR = true) (hdis : ∀ i ∈ isR, i ∉ isC) (hbz : b = zk) (hCs : C = "java/lang/String")
    (hlen : As.length = n) (hst : st0 = As.reverse ++ .ref b :: rest) (hcat : (rest.map fun v => v.category).sum ≤ 8) (hdg : decode cc pc = .ok (.invokevirtual index, 3))
    (kk : ∀ (r : Int32) (u : va_W) (H1 : Heap) (locs1 : List Loc), post r u → va_P D vwCl (wr ++ u) H1 → va_D A (wr ++ u) → va_S A s.heap H1 locs1 → W p l e R s m args below meth c H1 locs1 (cells + mc) (slots + ms) Q (F0 m (pc + 3) ls (.int r :: rest))) : W p l e R s m args below meth c H locs cells slots Q (F0 m pc ls st0) := by
  have hts := S.2.2.2.2
  have hFc := va_free (wc := wc) hD hS hA isC hC
  have hpre := sk_preVZ hZ hS hFc hK hP hD isC hC hnC (.ref b :: As)
  refine va_calli (va_runV (As := As) (rest := rest) S (hM H.size) ⟨callB_of n hts (sk_good h5) rfl rfl rfl (hts _ h4) (hts _ h1) hd hrm.1, hts _ h2, hts _ h3⟩ ⟨hpre.1, sk_recvS hZ hS hbz hCs, hpre.2⟩ rfl hlen hls hst (lv_room hcat) hdg hrm.2) hS (fun q _ h => hFc q h) hFc (fun r u t H1 locs1 ht hvm hw hB hz1 hk1 hS1 => ?_)
  obtain ⟨hP1, -, hD1⟩ := hB
  rw [ht] at hP1
  obtain ⟨hP', hD'⟩ := va_join (wr := wr) (w1 := u) hP hD isC isR hC hR hn hdis hk1 hFc hP1 hD1
  exact kk r u H1 locs1 hw hP' hD' hS1
end SkCallsZ
end SkRowsZ

