def nmO (kind : Nat) (t r : Int32) : Prop := (r = -1 ∧ nIx kind t = none) ∨ ∃ k, k < 10 ∧ nIx kind t = some k ∧ r = cm (40 + k)
theorem nIx_none {kind : Nat} {t : Int32} (h : ∀ k, k < 10 → t = nI (256 + pW.getD k 0) → allow kind k = false) : nIx kind t = none := by
  unfold nIx
  rw [List.find?_eq_none]
  intro k hk
  rw [Bool.and_eq_true, decide_eq_true_iff]
  intro q
  have := h k (List.mem_range.mp hk) q.1
  rw [this] at q
  cases q.2
theorem nl_def {kind : Nat} {t : Int32} (hk : kind ≤ 1) (h0 : ¬ t = 265) (h1 : ¬ t = 258) (h2 : ¬ t = 259) (h3 : ¬ t = 266) (h4 : ¬ t = 267) (h5 : ¬ t = 268) (h6 : ¬ t = 269) : nmO kind t (-1) := Or.inl ⟨rfl, nIx_none (fun k hk2 e => by
  match k, hk2 with
  | 0, _ => exact absurd e h0
  | 1, _ => exact absurd e h1
  | 2, _ => exact absurd e h2
  | 3, _ => exact absurd e h3
  | 4, _ => exact absurd e h4
  | 5, _ => exact absurd e h5
  | 6, _ => exact absurd e h6
  | 7, _ => unfold allow; split; rfl; split; rfl; omega
  | 8, _ => unfold allow; split; rfl; split; rfl; omega
  | 9, _ => unfold allow; split; rfl; split; rfl; omega
  | n + 10, h => exact absurd h (by omega))⟩
theorem nq_def {t : Int32} (h0 : ¬ t = 258) (h1 : ¬ t = 259) (h2 : ¬ t = 260) (h3 : ¬ t = 267) (h4 : ¬ t = 270) (h5 : ¬ t = 271) : nmO 2 t (-1) := Or.inl ⟨rfl, nIx_none (fun k hk2 e => by
  match k, hk2 with
  | 0, _ => rfl
  | 1, _ => exact absurd e h0
  | 2, _ => exact absurd e h1
  | 3, _ => rfl
  | 4, _ => exact absurd e h3
  | 5, _ => rfl
  | 6, _ => rfl
  | 7, _ => exact absurd e h4
  | 8, _ => exact absurd e h2
  | 9, _ => exact absurd e h5
  | n + 10, h => exact absurd h (by omega))⟩
theorem nl_258 {kind : Nat} (h : kind = 0 ∨ kind = 1) : nmO kind 258 10001 := by
  rcases (show kind = 0 ∨ kind = 1 by omega) with rfl | rfl
  · exact Or.inr ⟨1, by decide, by decide +kernel, by decide +kernel⟩
  · exact Or.inr ⟨1, by decide, by decide +kernel, by decide +kernel⟩
theorem nl_259 {kind : Nat} (h : kind = 0 ∨ kind = 1) : nmO kind 259 10002 := by
  rcases (show kind = 0 ∨ kind = 1 by omega) with rfl | rfl
  · exact Or.inr ⟨2, by decide, by decide +kernel, by decide +kernel⟩
  · exact Or.inr ⟨2, by decide, by decide +kernel, by decide +kernel⟩
theorem nl_260 {kind : Nat} (h : kind = 0 ∨ kind = 1) : nmO kind 260 (-1) := by
  rcases (show kind = 0 ∨ kind = 1 by omega) with rfl | rfl
  · exact Or.inl ⟨rfl, by decide +kernel⟩
  · exact Or.inl ⟨rfl, by decide +kernel⟩
theorem nl_261 {kind : Nat} (h : kind = 0 ∨ kind = 1) : nmO kind 261 (-1) := by
  rcases (show kind = 0 ∨ kind = 1 by omega) with rfl | rfl
  · exact Or.inl ⟨rfl, by decide +kernel⟩
  · exact Or.inl ⟨rfl, by decide +kernel⟩
theorem nl_262 {kind : Nat} (h : kind = 0 ∨ kind = 1) : nmO kind 262 (-1) := by
  rcases (show kind = 0 ∨ kind = 1 by omega) with rfl | rfl
  · exact Or.inl ⟨rfl, by decide +kernel⟩
  · exact Or.inl ⟨rfl, by decide +kernel⟩
theorem nl_263 {kind : Nat} (h : kind = 0 ∨ kind = 1) : nmO kind 263 (-1) := by
  rcases (show kind = 0 ∨ kind = 1 by omega) with rfl | rfl
  · exact Or.inl ⟨rfl, by decide +kernel⟩
  · exact Or.inl ⟨rfl, by decide +kernel⟩
theorem nl_264 {kind : Nat} (h : kind = 0 ∨ kind = 1) : nmO kind 264 (-1) := by
  rcases (show kind = 0 ∨ kind = 1 by omega) with rfl | rfl
  · exact Or.inl ⟨rfl, by decide +kernel⟩
  · exact Or.inl ⟨rfl, by decide +kernel⟩
theorem nl_265 {kind : Nat} (h : kind = 0 ∨ kind = 1) : nmO kind 265 10000 := by
  rcases (show kind = 0 ∨ kind = 1 by omega) with rfl | rfl
  · exact Or.inr ⟨0, by decide, by decide +kernel, by decide +kernel⟩
  · exact Or.inr ⟨0, by decide, by decide +kernel, by decide +kernel⟩
theorem nl_266 {kind : Nat} (h : kind = 0 ∨ kind = 1) : nmO kind 266 10003 := by
  rcases (show kind = 0 ∨ kind = 1 by omega) with rfl | rfl
  · exact Or.inr ⟨3, by decide, by decide +kernel, by decide +kernel⟩
  · exact Or.inr ⟨3, by decide, by decide +kernel, by decide +kernel⟩
theorem nl_267 {kind : Nat} (h : kind = 0 ∨ kind = 1) : nmO kind 267 10004 := by
  rcases (show kind = 0 ∨ kind = 1 by omega) with rfl | rfl
  · exact Or.inr ⟨4, by decide, by decide +kernel, by decide +kernel⟩
  · exact Or.inr ⟨4, by decide, by decide +kernel, by decide +kernel⟩
theorem nl_268y {kind : Nat} (h : kind = 1) : nmO kind 268 10005 := by
  rcases (show kind = 1 by omega) with rfl
  · exact Or.inr ⟨5, by decide, by decide +kernel, by decide +kernel⟩
theorem nl_268n {kind : Nat} (h : kind = 0) : nmO kind 268 (-1) := by
  rcases (show kind = 0 by omega) with rfl
  · exact Or.inl ⟨rfl, by decide +kernel⟩
theorem nl_269y {kind : Nat} (h : kind = 1) : nmO kind 269 10006 := by
  rcases (show kind = 1 by omega) with rfl
  · exact Or.inr ⟨6, by decide, by decide +kernel, by decide +kernel⟩
theorem nl_269n {kind : Nat} (h : kind = 0) : nmO kind 269 (-1) := by
  rcases (show kind = 0 by omega) with rfl
  · exact Or.inl ⟨rfl, by decide +kernel⟩
theorem nq_258 {kind : Nat} (h : kind = 2) : nmO kind 258 10001 := by
  rcases (show kind = 2 by omega) with rfl
  · exact Or.inr ⟨1, by decide, by decide +kernel, by decide +kernel⟩
theorem nq_259 {kind : Nat} (h : kind = 2) : nmO kind 259 10002 := by
  rcases (show kind = 2 by omega) with rfl
  · exact Or.inr ⟨2, by decide, by decide +kernel, by decide +kernel⟩
theorem nq_260 {kind : Nat} (h : kind = 2) : nmO kind 260 10007 := by
  rcases (show kind = 2 by omega) with rfl
  · exact Or.inr ⟨8, by decide, by decide +kernel, by decide +kernel⟩
theorem nq_261 {kind : Nat} (h : kind = 2) : nmO kind 261 (-1) := by
  rcases (show kind = 2 by omega) with rfl
  · exact Or.inl ⟨rfl, by decide +kernel⟩
theorem nq_262 {kind : Nat} (h : kind = 2) : nmO kind 262 (-1) := by
  rcases (show kind = 2 by omega) with rfl
  · exact Or.inl ⟨rfl, by decide +kernel⟩
theorem nq_263 {kind : Nat} (h : kind = 2) : nmO kind 263 (-1) := by
  rcases (show kind = 2 by omega) with rfl
  · exact Or.inl ⟨rfl, by decide +kernel⟩
theorem nq_264 {kind : Nat} (h : kind = 2) : nmO kind 264 (-1) := by
  rcases (show kind = 2 by omega) with rfl
  · exact Or.inl ⟨rfl, by decide +kernel⟩
theorem nq_265 {kind : Nat} (h : kind = 2) : nmO kind 265 (-1) := by
  rcases (show kind = 2 by omega) with rfl
  · exact Or.inl ⟨rfl, by decide +kernel⟩
theorem nq_266 {kind : Nat} (h : kind = 2) : nmO kind 266 (-1) := by
  rcases (show kind = 2 by omega) with rfl
  · exact Or.inl ⟨rfl, by decide +kernel⟩
theorem nq_267 {kind : Nat} (h : kind = 2) : nmO kind 267 10004 := by
  rcases (show kind = 2 by omega) with rfl
  · exact Or.inr ⟨4, by decide, by decide +kernel, by decide +kernel⟩
theorem nq_268 {kind : Nat} (h : kind = 2) : nmO kind 268 (-1) := by
  rcases (show kind = 2 by omega) with rfl
  · exact Or.inl ⟨rfl, by decide +kernel⟩
theorem nq_269 {kind : Nat} (h : kind = 2) : nmO kind 269 (-1) := by
  rcases (show kind = 2 by omega) with rfl
  · exact Or.inl ⟨rfl, by decide +kernel⟩
theorem nq_270 {kind : Nat} (h : kind = 2) : nmO kind 270 10003 := by
  rcases (show kind = 2 by omega) with rfl
  · exact Or.inr ⟨7, by decide, by decide +kernel, by decide +kernel⟩
theorem nq_271 {kind : Nat} (h : kind = 2) : nmO kind 271 10008 := by
  rcases (show kind = 2 by omega) with rfl
  · exact Or.inr ⟨9, by decide, by decide +kernel, by decide +kernel⟩
/-! a part, by its token -/
theorem tok40 {tb : Nat → Nat} {n : Nat} {c : Cur} (htb : ∀ j, tb j ≤ 255) : tokOf tb n c = 40 ↔ isS tb n 40 c = true := tok_S (b := 40) htb (by decide)
theorem tok277 {tb : Nat → Nat} {n : Nat} {c : Cur} (htb : ∀ j, tb j ≤ 255) : tokOf tb n c = 277 ↔ isW tb n wMin c = true := tok_W (k := 21) htb (by decide)
theorem tok278 {tb : Nat → Nat} {n : Nat} {c : Cur} (htb : ∀ j, tb j ≤ 255) : tokOf tb n c = 278 ↔ isW tb n wMax c = true := tok_W (k := 22) htb (by decide)
theorem tok272 {tb : Nat → Nat} {n : Nat} {c : Cur} (htb : ∀ j, tb j ≤ 255) : tokOf tb n c = 272 ↔ isW tb n wWeeks c = true := tok_W (k := 16) htb (by decide)
theorem tkF_sign {tb : Nat → Nat} {n b : Nat} (htb : ∀ j, tb j ≤ 255) (hb : b < 256 ∧ ¬ (97 ≤ b ∧ b ≤ 122) ∧ ¬ (48 ≤ b ∧ b ≤ 57)) : tkF tb n (nI b) = signP tb n b := by
  funext c
  unfold tkF signP
  by_cases h : isS tb n b c = true
  · rw [if_pos h, if_pos ((tok_S htb hb).mpr h)]
  · rw [if_neg h, if_neg (fun q => h ((tok_S htb hb).mp q))]
theorem tk41 {tb : Nat → Nat} {n : Nat} (htb : ∀ j, tb j ≤ 255) : tkF tb n 41 = signP tb n 41 := tkF_sign (b := 41) htb (by decide)
theorem tk44 {tb : Nat → Nat} {n : Nat} (htb : ∀ j, tb j ≤ 255) : tkF tb n 44 = signP tb n 44 := tkF_sign (b := 44) htb (by decide)
theorem rdPart_B (tb : Nat → Nat) (n kind d : Nat) (c : Cur) : ∃ Q, (∀ P, Q = some P → ∃ d', d = d' + 1 ∧ P = rdPart tb n kind d') ∧ rdPart tb n kind d c = partB tb n kind Q c := by
  cases d with
  | zero => exact ⟨none, fun P h => (by cases h), rfl⟩
  | succ d => exact ⟨some (rdPart tb n kind d), fun P h => ⟨d, rfl, by cases h; rfl⟩, rfl⟩
theorem pB_num {tb : Nat → Nat} {n kind d : Nat} {c : Cur} (htb : ∀ j, tb j ≤ 255) (h : tokOf tb n c = -3) : rdPart tb n kind d c = bindR (numP tb n 0 9999 c) (fun r => .ok (r.2, [1000 + r.1])) := by
  obtain ⟨Q, -, e⟩ := rdPart_B tb n kind d c
  rw [e]
  have a := (tok_N htb).mp h
  have b := qD_t.mp a.2.1
  unfold partB
  rw [if_neg (fun q => by have := (isS_lt q).2; omega), if_neg (fun q => by rcases q with q | q <;> (have := qL_t.mp (isW_qL q).1; omega)), if_neg (fun q => by have := qL_t.mp (isW_qL q.2).1; omega), partIx_tok htb]
  cases hx : nIx kind (tokOf tb n c) with
  | none => rfl
  | some k =>
    have h1 := (nIx_some hx)
    have h2 := (pW_ok k h1.1).1
    have h3 := i_eq (h.symm.trans h1.2)
    rw [i_m3, i_nI (by omega)] at h3
    omega
theorem pB_round {tb : Nat → Nat} {n kind d : Nat} {c : Cur} (htb : ∀ j, tb j ≤ 255) (h : tokOf tb n c = 40) : rdPart tb n kind (d + 1) c = bindR (sumOf tb n (rdPart tb n kind d) (nx tb n c.1)) (fun r => bindR (signP tb n 41 r.1) (fun c1 => .ok (c1, r.2))) := by
  rw [rdPart, partB, if_pos ((tok40 htb).mp h)]
theorem pB_round0 {tb : Nat → Nat} {n kind : Nat} {c : Cur} (htb : ∀ j, tb j ≤ 255) (h : tokOf tb n c = 40) : rdPart tb n kind 0 c = .error (4, c.1) := by
  rw [rdPart, partB, if_pos ((tok40 htb).mp h)]
/-- what stands behind min or max -/
def pairP (tb : Nat → Nat) (n kind v : Nat) : Nat → Cur → Res
  | 0, c => if isS tb n 40 c = true then .error (4, c.1) else .error (1, c.1)
  | d + 1, c => if isS tb n 40 c = true then bindR (sumOf tb n (rdPart tb n kind d) (nx tb n c.1)) (fun r => bindR (signP tb n 44 r.1) (fun c2 => bindR (sumOf tb n (rdPart tb n kind d) c2) (fun q => bindR (signP tb n 41 q.1) (fun c3 => .ok (c3, r.2 ++ q.2 ++ [v]))))) else .error (1, c.1)
theorem pB_pair {tb : Nat → Nat} {n kind d v : Nat} {c : Cur} (htb : ∀ j, tb j ≤ 255) (h : (tokOf tb n c = 277 ∧ v = 5) ∨ (tokOf tb n c = 278 ∧ v = 6)) : rdPart tb n kind d c = pairP tb n kind v d (nx tb n c.1) := by
  have hw : (isW tb n wMin c = true ∧ v = 5) ∨ (isW tb n wMax c = true ∧ v = 6) := by
    rcases h with ⟨h, e⟩ | ⟨h, e⟩
    · exact Or.inl ⟨(tok277 htb).mp h, e⟩
    · exact Or.inr ⟨(tok278 htb).mp h, e⟩
  have hs : ¬ isS tb n 40 c = true := by
    rcases hw with ⟨hw, -⟩ | ⟨hw, -⟩
    · exact isW_noS hw (by decide)
    · exact isW_noS hw (by decide)
  have hv : (if isW tb n wMin c = true then 5 else 6) = v := by
    rcases hw with ⟨hw, e⟩ | ⟨hw, e⟩
    · rw [if_pos hw, e]
    · rw [if_neg (isW_one hw (by decide)), e]
  have hw2 : isW tb n wMin c = true ∨ isW tb n wMax c = true := by
    rcases hw with ⟨hw, -⟩ | ⟨hw, -⟩
    · exact Or.inl hw
    · exact Or.inr hw
  cases d with
  | zero =>
    rw [rdPart, partB, if_neg hs, if_pos hw2, pairP]
  | succ d =>
    rw [rdPart, partB, if_neg hs, if_pos hw2, pairP, hv]
theorem pB_weeks {tb : Nat → Nat} {n d : Nat} {c : Cur} (htb : ∀ j, tb j ≤ 255) (h : tokOf tb n c = 272) : rdPart tb n 2 (d + 1) c = bindR (rdPart tb n 2 d (nx tb n c.1)) (fun r => .ok (r.1, r.2 ++ [60])) := by
  have hw := (tok272 htb).mp h
  rw [rdPart, partB, if_neg (isW_noS hw (by decide)), if_neg (fun q => Or.elim q (isW_one hw (by decide)) (isW_one hw (by decide))), if_pos ⟨rfl, hw⟩]
theorem pB_weeks0 {tb : Nat → Nat} {n : Nat} {c : Cur} (htb : ∀ j, tb j ≤ 255) (h : tokOf tb n c = 272) : rdPart tb n 2 0 c = .error (4, c.1) := by
  have hw := (tok272 htb).mp h
  rw [rdPart, partB, if_neg (isW_noS hw (by decide)), if_neg (fun q => Or.elim q (isW_one hw (by decide)) (isW_one hw (by decide))), if_pos ⟨rfl, hw⟩]
theorem pB_rest {tb : Nat → Nat} {n kind d : Nat} {c : Cur} (htb : ∀ j, tb j ≤ 255) (h1 : ¬ tokOf tb n c = 40) (h2 : ¬ tokOf tb n c = 277) (h3 : ¬ tokOf tb n c = 278) (h4 : ¬ (kind = 2 ∧ tokOf tb n c = 272)) : rdPart tb n kind d c = (match nIx kind (tokOf tb n c) with | some k => .ok (nx tb n c.1, [40 + k]) | none => bindR (numP tb n 0 9999 c) (fun r => .ok (r.2, [1000 + r.1]))) := by
  obtain ⟨Q, -, e⟩ := rdPart_B tb n kind d c
  rw [e]
  unfold partB
  rw [if_neg (fun q => h1 ((tok40 htb).mpr q)), if_neg (fun q => q.elim (fun q => h2 ((tok277 htb).mpr q)) (fun q => h3 ((tok278 htb).mpr q))), if_neg (fun q => h4 ⟨q.1, (tok272 htb).mpr q.2⟩), partIx_tok htb]
  all_goals (cases nIx kind (tokOf tb n c) <;> rfl)
/-! what the class does with a part is the part -/
theorem p_num {tb : Nat → Nat} {n kind d v : Nat} {o : Res} {xa : Nat} {xv xt : Int32} {xz : Nat} {xf xp : Int32} {cl mw : Nat} {f : Nat → Int32} (htb : ∀ j, tb j ≤ 255) (h : rsO tb n o xa xv xt xz xf xp cl mw f) (e : xt = -3) (hv : nvO tb n 0 9999 (rc o) v) : ad (bd o (nmF tb n 0 9999)) (1000 + v) = bindR o (apF (rdPart tb n kind d)) := by
  cases o with
  | error e => rfl
  | ok r =>
    show bindR (bindR (bindR (numP tb n 0 9999 r.1) (fun r => .ok r.2)) (fun c => .ok (c, r.2))) (fun q => .ok (q.1, q.2 ++ [1000 + v])) = bindR (rdPart tb n kind d r.1) (fun q => .ok (q.1, r.2 ++ q.2))
    rw [pB_num htb ((rs_t h rfl).symm.trans e)]
    cases hq : numP tb n 0 9999 r.1 with
    | error e => rfl
    | ok z =>
      have := hv r.1 z rfl hq
      subst this
      rfl
theorem p_round {tb : Nat → Nat} {n kind d xo : Nat} {o : Res} {xa : Nat} {xv xt : Int32} {xz : Nat} {xf xp : Int32} {cl mw : Nat} {f : Nat → Int32} (htb : ∀ j, tb j ≤ 255) (h : rsO tb n o xa xv xt xz xf xp cl mw f) (e : xt = 40) (hx : xo < 6) (hd : 1 ≤ d) : bd (bindR (bd o (opF tb n 40 xo)) (apF (sumOf tb n (rdPart tb n kind (d - 1))))) (tkF tb n 41) = bindR o (apF (rdPart tb n kind d)) := by
  obtain ⟨d, rfl⟩ : ∃ m, d = m + 1 := ⟨d - 1, by omega⟩
  rw [Nat.add_sub_cancel]
  cases o with
  | error e => rfl
  | ok r =>
    have ht := (rs_t h rfl).symm.trans e
    have h1 : bd (.ok r) (opF tb n 40 xo) = .ok (nx tb n r.1.1, r.2) := by
      show bindR (opF tb n 40 xo r.1) _ = _
      unfold opF; rw [if_pos ht, if_pos hx]; rfl
    rw [h1, tk41 htb]
    show bindR (bindR (sumOf tb n (rdPart tb n kind d) (nx tb n r.1.1)) _) _ = bindR (rdPart tb n kind (d + 1) r.1) _
    rw [pB_round htb ht, bindR_assoc, bindR_assoc]
    refine bindR_congr _ (fun a _ => ?_)
    show bindR (signP tb n 41 a.1) _ = bindR (bindR (signP tb n 41 a.1) _) _
    rw [bindR_assoc]
    rfl
theorem p_round0 {tb : Nat → Nat} {n kind d xo : Nat} {o : Res} {xa : Nat} {xv xt : Int32} {xz : Nat} {xf xp : Int32} {cl mw : Nat} {f : Nat → Int32} (htb : ∀ j, tb j ≤ 255) (h : rsO tb n o xa xv xt xz xf xp cl mw f) (e : xt = 40) (hx : xo = 6) (hd : d = 0) : bd o (opF tb n 40 xo) = bindR o (apF (rdPart tb n kind d)) := by
  subst hd
  cases o with
  | error e => rfl
  | ok r =>
    have ht := (rs_t h rfl).symm.trans e
    show bindR (opF tb n 40 xo r.1) _ = bindR (rdPart tb n kind 0 r.1) _
    unfold opF; rw [if_pos ht, if_neg (by omega), pB_round0 htb ht]; rfl
theorem p_pair1 {tb : Nat → Nat} {n kind d v xo : Nat} {o : Res} {xa : Nat} {xv xt : Int32} {xz : Nat} {xf xp : Int32} {cl mw : Nat} {f : Nat → Int32} (htb : ∀ j, tb j ≤ 255) (h : rsO tb n o xa xv xt xz xf xp cl mw f) (e : xt = 40) (hx : xo < 6) (hd : 1 ≤ d) : ad (bd (bindR (bd (bindR (bd o (opF tb n 40 xo)) (apF (sumOf tb n (rdPart tb n kind (d - 1))))) (tkF tb n 44)) (apF (sumOf tb n (rdPart tb n kind (d - 1))))) (tkF tb n 41)) v = bindR o (apF (pairP tb n kind v d)) := by
  obtain ⟨d, rfl⟩ : ∃ m, d = m + 1 := ⟨d - 1, by omega⟩
  rw [Nat.add_sub_cancel]
  cases o with
  | error e => rfl
  | ok r =>
    have ht := (rs_t h rfl).symm.trans e
    have h1 : bd (.ok r) (opF tb n 40 xo) = .ok (nx tb n r.1.1, r.2) := by
      show bindR (opF tb n 40 xo r.1) _ = _
      unfold opF; rw [if_pos ht, if_pos hx]; rfl
    rw [h1, tk41 htb, tk44 htb]
    show _ = bindR (pairP tb n kind v (d + 1) r.1) _
    rw [pairP, if_pos ((tok40 htb).mp ht)]
    show ad (bd (bindR (bd (bindR (sumOf tb n (rdPart tb n kind d) (nx tb n r.1.1)) (fun q => .ok (q.1, r.2 ++ q.2))) _) _) _) v = _
    cases h2 : sumOf tb n (rdPart tb n kind d) (nx tb n r.1.1) with
    | error e => rfl
    | ok a =>
      show ad (bd (bindR (bindR (signP tb n 44 a.1) (fun c => .ok (c, r.2 ++ a.2))) _) _) v = bindR (bindR (signP tb n 44 a.1) _) _
      cases h3 : signP tb n 44 a.1 with
      | error e => rfl
      | ok c2 =>
        show ad (bd (bindR (sumOf tb n (rdPart tb n kind d) c2) (fun q => .ok (q.1, (r.2 ++ a.2) ++ q.2))) _) v = bindR (bindR (sumOf tb n (rdPart tb n kind d) c2) _) _
        cases h4 : sumOf tb n (rdPart tb n kind d) c2 with
        | error e => rfl
        | ok b =>
          show ad (bindR (signP tb n 41 b.1) (fun c => .ok (c, (r.2 ++ a.2) ++ b.2))) v = bindR (bindR (signP tb n 41 b.1) _) _
          cases h5 : signP tb n 41 b.1 with
          | error e => rfl
          | ok c3 =>
            show Except.ok (c3, ((r.2 ++ a.2) ++ b.2) ++ [v]) = Except.ok (c3, r.2 ++ (a.2 ++ b.2 ++ [v]))
            rw [List.append_assoc, List.append_assoc, List.append_assoc]
