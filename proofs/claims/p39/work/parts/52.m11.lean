set_option maxHeartbeats 4000000 in
set_option maxRecDepth 100000 in
theorem c_m_laysWaysS (l : Launch) (D : va_G) (cI cJ cC cZ cS : ClassId) (mm : Nat) (g : Nat → Nat) (ta : Nat) (pa : Nat) (pe : Nat) (pd : Int32) (pb : Nat) (pp : Int32) (pf : Int32) (pg : Int32) (pn : Int32) (rt : Int32) (rn : Int32) (cd : Nat) (sn : Int32) (il : Nat) (tk : Int32) (am : Int32) (at_ : Int32) (aa : Int32) (mt_ : Int32) (bh : Nat) (wd : Int32) (wt : Int32) (wy : Int64) (it_ : Nat) (rm : Nat) (ud : Nat) (nu : Nat) (sd : Int64) (qn : Nat) (qw : Nat) (qo : Int32) (qb : Nat) (qp : Nat) (qa : Int64) (qi : Nat) (oc : Nat) (l0 : Nat) (l1 : Nat) (dm : Nat) (l3 : Nat) (nw : Nat → Int32) (ws_ : Nat → Int32) (rw_ : Nat → Int32) (yo : Nat → Int32) (yw : Nat → Int32) (be : Nat → Int64) (bf : Nat → Int64) (hdm : dm ≤ 9) (hdm1 : 1 ≤ dm) (hrm : rm ≤ 16) (hbh : bh ≤ 1) (hnw : nowOk nw) : skM l yX12_laysWays cX12_laysWays 7 none 3 68 0 0 D (skT cI cJ cC cZ cS) [.ref mm] [(mm, .inr (12, mo g (nI ta) (nI pa) (nI pe) pd (nI pb) pp pf pg pn rt rn (nI cd) sn (nI il) tk am at_ aa mt_ (nI bh) wd wt wy (nI it_) (nI rm) (nI ud) (nI nu) sd (nI qn) (nI qw) qo (nI qb) (nI qp) qa (nI qi) (nI oc))), (g 20, .inl (cI, 4, .inl (l4 (nI l0) (nI l1) (nI dm) (nI l3)))), (g 31, .inl (cI, 120, .inl nw)), (g 38, .inl (cI, 90, .inl ws_)), (g 53, .inl (cI, 32, .inl rw_)), (g 37, .inl (cZ, 900, .inl yo)), (g 36, .inl (cZ, 900, .inl yw)), (g 43, .inl (cJ, 90, .inr (.inl be))), (g 44, .inl (cJ, 90, .inr (.inl bf)))] (skV D (skT cI cJ cC cZ cS) (fun (u : va_W) => ∃ (wy2 : Int64), ∃ (be2 : Nat → Int64), ∃ (bf2 : Nat → Int64), u = [(mm, .inr (12, mo g (nI ta) (nI pa) (nI pe) pd (nI pb) pp pf pg pn rt rn (nI cd) sn (nI il) tk am at_ aa mt_ (nI bh) wd wt wy2 (nI it_) (nI rm) (nI ud) (nI nu) sd (nI qn) (nI qw) qo (nI qb) (nI qp) qa (nI qi) (nI oc))), (g 20, .inl (cI, 4, .inl (l4 (nI l0) (nI l1) (nI dm) (nI l3)))), (g 31, .inl (cI, 120, .inl nw)), (g 38, .inl (cI, 90, .inl ws_)), (g 53, .inl (cI, 32, .inl rw_)), (g 37, .inl (cZ, 900, .inl yo)), (g 36, .inl (cZ, 900, .inl yw)), (g 43, .inl (cJ, 90, .inr (.inl be2))), (g 44, .inl (cJ, 90, .inr (.inl bf2)))])) := by
  refine skM_of (by decide +kernel) (Nat.le_of_ble_eq_true rfl) ?_
  intro p e s m below meth c A ls E hP hD hl
  obtain ⟨hx, hb, hr, hml, hlocks, hin, hown, hts, hK, hA⟩ := E
  have hown : s.vm.findClass RX12 = some m.cls := hown
  have hS : va_S A s.heap s.heap [] := va_S.rf
  have hl : lv_has ls 7 [(0, .ref mm)] := hl
  refine lv_aload_n hx hb dX12_laysWays_0 rfl (lv_at hl 0 rfl) ?_
  refine sk_Vi (q0 := 0) (n := 0) (rest := []) (wr := [(g 31, .inl (cI, 120, .inl nw)), (g 38, .inl (cI, 90, .inl ws_)), (g 53, .inl (cI, 32, .inl rw_)), (g 37, .inl (cZ, 900, .inl yo)), (g 36, .inl (cZ, 900, .inl yw)), (g 43, .inl (cJ, 90, .inr (.inl be))), (g 44, .inl (cJ, 90, .inr (.inl bf)))]) ⟨hx, hb, hml, hown, hts⟩ hl.1 (c_m_dayMany l D cI cJ cC cZ cS mm g ta pa pe pd pb pp pf pg pn rt rn cd sn il tk am at_ aa mt_ bh wd wt wy it_ rm ud nu sd qn qw qo qb qp qa qi oc l0 l1 dm l3) w_7_98 w_7_100 w_0_69 w_1_14 w_7_101 (by decide +kernel) ⟨⟨(Nat.le_of_ble_eq_true rfl), (Nat.le_of_ble_eq_true rfl)⟩, (Nat.le_of_ble_eq_true rfl), (Nat.le_of_ble_eq_true rfl)⟩ hK hP hD hS hA [0, 1] [2, 3, 4, 5, 6, 7, 8] rfl rfl (by decide +kernel) (by decide +kernel) (by decide +kernel) rfl rfl rfl rfl (Nat.le_of_ble_eq_true rfl) dX12_laysWays_1 (fun r_1 u H locs hw hP hD hS => ?_)
  obtain ⟨rfl, rfl⟩ := hw
  have hP : va_P D vwCl [(g 31, .inl (cI, 120, .inl nw)), (g 38, .inl (cI, 90, .inl ws_)), (g 53, .inl (cI, 32, .inl rw_)), (g 37, .inl (cZ, 900, .inl yo)), (g 36, .inl (cZ, 900, .inl yw)), (g 43, .inl (cJ, 90, .inr (.inl be))), (g 44, .inl (cJ, 90, .inr (.inl bf))), (mm, .inr (12, mo g (nI ta) (nI pa) (nI pe) pd (nI pb) pp pf pg pn rt rn (nI cd) sn (nI il) tk am at_ aa mt_ (nI bh) wd wt wy (nI it_) (nI rm) (nI ud) (nI nu) sd (nI qn) (nI qw) qo (nI qb) (nI qp) qa (nI qi) (nI oc))), (g 20, .inl (cI, 4, .inl (l4 (nI l0) (nI l1) (nI dm) (nI l3))))] H := hP
  have hD : va_D A [(g 31, .inl (cI, 120, .inl nw)), (g 38, .inl (cI, 90, .inl ws_)), (g 53, .inl (cI, 32, .inl rw_)), (g 37, .inl (cZ, 900, .inl yo)), (g 36, .inl (cZ, 900, .inl yw)), (g 43, .inl (cJ, 90, .inr (.inl be))), (g 44, .inl (cJ, 90, .inr (.inl bf))), (mm, .inr (12, mo g (nI ta) (nI pa) (nI pe) pd (nI pb) pp pf pg pn rt rn (nI cd) sn (nI il) tk am at_ aa mt_ (nI bh) wd wt wy (nI it_) (nI rm) (nI ud) (nI nu) sd (nI qn) (nI qw) qo (nI qb) (nI qp) qa (nI qi) (nI oc))), (g 20, .inl (cI, 4, .inl (l4 (nI l0) (nI l1) (nI dm) (nI l3))))] := hD
  refine lv_iconst (v := 1) hx hb dX12_laysWays_4 (by decide) ?_
  refine lv_isub hx hb dX12_laysWays_5 ?_
  refine lv_istore_n (lv' := [(1, .int (nI dm - 1)), (0, .ref mm)]) hx hb dX12_laysWays_6 rfl hl (by decide) rfl (fun ls hl => ?_)
  refine lv_iload_n hx hb dX12_laysWays_7 rfl (lv_at hl 0 rfl) ?_
  refine lv_istore_n (lv' := [(2, .int (nI dm - 1)), (1, .int (nI dm - 1)), (0, .ref mm)]) hx hb dX12_laysWays_8 rfl hl (by decide) rfl (fun ls hl => ?_)
  have lp_2 : ∀ (n_3 : Nat) (dd : Nat) (zb : Nat → Int64) (H : Heap) (locs : List Loc) (ls : Array Slot), dd < n_3 → (dd ≤ dm) → va_P D vwCl [(g 31, .inl (cI, 120, .inl nw)), (g 38, .inl (cI, 90, .inl ws_)), (g 53, .inl (cI, 32, .inl rw_)), (g 37, .inl (cZ, 900, .inl yo)), (g 36, .inl (cZ, 900, .inl yw)), (g 43, .inl (cJ, 90, .inr (.inl zb))), (g 44, .inl (cJ, 90, .inr (.inl bf))), (mm, .inr (12, mo g (nI ta) (nI pa) (nI pe) pd (nI pb) pp pf pg pn rt rn (nI cd) sn (nI il) tk am at_ aa mt_ (nI bh) wd wt wy (nI it_) (nI rm) (nI ud) (nI nu) sd (nI qn) (nI qw) qo (nI qb) (nI qp) qa (nI qi) (nI oc))), (g 20, .inl (cI, 4, .inl (l4 (nI l0) (nI l1) (nI dm) (nI l3))))] H → va_D A [(g 31, .inl (cI, 120, .inl nw)), (g 38, .inl (cI, 90, .inl ws_)), (g 53, .inl (cI, 32, .inl rw_)), (g 37, .inl (cZ, 900, .inl yo)), (g 36, .inl (cZ, 900, .inl yw)), (g 43, .inl (cJ, 90, .inr (.inl zb))), (g 44, .inl (cJ, 90, .inr (.inl bf))), (mm, .inr (12, mo g (nI ta) (nI pa) (nI pe) pd (nI pb) pp pf pg pn rt rn (nI cd) sn (nI il) tk am at_ aa mt_ (nI bh) wd wt wy (nI it_) (nI rm) (nI ud) (nI nu) sd (nI qn) (nI qw) qo (nI qb) (nI qp) qa (nI qi) (nI oc))), (g 20, .inl (cI, 4, .inl (l4 (nI l0) (nI l1) (nI dm) (nI l3))))] → va_S A s.heap H locs → lv_has ls 7 [(2, .int (nI dd - 1)), (1, .int (nI dm - 1)), (0, .ref mm)] → W p l e { frames := 3, cells := 0, slots := 0, locals := 68 } s m ([.ref mm] : List Value).toArray below meth c H locs 0 0 (MQ below (skV D (skT cI cJ cC cZ cS) (fun (u : va_W) => ∃ (wy2 : Int64), ∃ (be2 : Nat → Int64), ∃ (bf2 : Nat → Int64), u = [(mm, .inr (12, mo g (nI ta) (nI pa) (nI pe) pd (nI pb) pp pf pg pn rt rn (nI cd) sn (nI il) tk am at_ aa mt_ (nI bh) wd wt wy2 (nI it_) (nI rm) (nI ud) (nI nu) sd (nI qn) (nI qw) qo (nI qb) (nI qp) qa (nI qi) (nI oc))), (g 20, .inl (cI, 4, .inl (l4 (nI l0) (nI l1) (nI dm) (nI l3)))), (g 31, .inl (cI, 120, .inl nw)), (g 38, .inl (cI, 90, .inl ws_)), (g 53, .inl (cI, 32, .inl rw_)), (g 37, .inl (cZ, 900, .inl yo)), (g 36, .inl (cZ, 900, .inl yw)), (g 43, .inl (cJ, 90, .inr (.inl be2))), (g 44, .inl (cJ, 90, .inr (.inl bf2)))]) A) ([.ref mm] : List Value).toArray s 0 0 A) (F0 m 9 ls []) := by
    intro n_3
    induction n_3 with
    | zero => intro dd zb H locs ls hm; exact absurd hm (Nat.not_lt_zero _)
    | succ n_3 ih_lp_2 =>
      intro dd zb H locs ls hm hdd hP hD hS hl
      refine lv_iload_n hx hb dX12_laysWays_9 rfl (lv_at hl 0 rfl) ?_
      refine lv_if_lt (tgt := 111) hx hb dX12_laysWays_10 (by decide) (fun c_4 => ?_) (fun c_4 => ?_)
      · have c_4 : dd = 0 := npm0 dd (by omega) c_4
        refine lv_aload_n hx hb dX12_laysWays_111 rfl (lv_at hl 2 rfl) ?_
        refine lv_lconst (v := 0) hx hb dX12_laysWays_112 (by decide) ?_
        refine sk_put (ws' := [(g 31, .inl (cI, 120, .inl nw)), (g 38, .inl (cI, 90, .inl ws_)), (g 53, .inl (cI, 32, .inl rw_)), (g 37, .inl (cZ, 900, .inl yo)), (g 36, .inl (cZ, 900, .inl yw)), (g 43, .inl (cJ, 90, .inr (.inl zb))), (g 44, .inl (cJ, 90, .inr (.inl bf))), (mm, .inr (12, mo g (nI ta) (nI pa) (nI pe) pd (nI pb) pp pf pg pn rt rn (nI cd) sn (nI il) tk am at_ aa mt_ (nI bh) wd wt 0 (nI it_) (nI rm) (nI ud) (nI nu) sd (nI qn) (nI qw) qo (nI qb) (nI qp) qa (nI qi) (nI oc))), (g 20, .inl (cI, 4, .inl (l4 (nI l0) (nI l1) (nI dm) (nI l3))))]) (C := RX12) (T := TX12) (N := 92) (v := .long 0) hx hb hts inlX12 tyX12 tyX12_ok nmX12 hown hK hP hD hS 7 rfl rfl 45 (by decide) w_5_200 rfl rfl rfl (Nat.le_of_ble_eq_true rfl) rfl dX12_laysWays_113 (fun H locs hP hD hS => ?_)
        refine lv_iconst (v := 0) hx hb dX12_laysWays_116 (by decide) ?_
        refine lv_istore_n (lv' := [(2, .int 0), (1, .int (nI dm - 1)), (0, .ref mm)]) hx hb dX12_laysWays_117 rfl hl (by decide) rfl (fun ls hl => ?_)
        have lp_5 : ∀ (n_6 : Nat) (i : Nat) (zf : Nat → Int64) (zy : Int64) (H : Heap) (locs : List Loc) (ls : Array Slot), dm - i < n_6 → (i ≤ dm) → va_P D vwCl [(g 31, .inl (cI, 120, .inl nw)), (g 38, .inl (cI, 90, .inl ws_)), (g 53, .inl (cI, 32, .inl rw_)), (g 37, .inl (cZ, 900, .inl yo)), (g 36, .inl (cZ, 900, .inl yw)), (g 43, .inl (cJ, 90, .inr (.inl zb))), (g 44, .inl (cJ, 90, .inr (.inl zf))), (mm, .inr (12, mo g (nI ta) (nI pa) (nI pe) pd (nI pb) pp pf pg pn rt rn (nI cd) sn (nI il) tk am at_ aa mt_ (nI bh) wd wt zy (nI it_) (nI rm) (nI ud) (nI nu) sd (nI qn) (nI qw) qo (nI qb) (nI qp) qa (nI qi) (nI oc))), (g 20, .inl (cI, 4, .inl (l4 (nI l0) (nI l1) (nI dm) (nI l3))))] H → va_D A [(g 31, .inl (cI, 120, .inl nw)), (g 38, .inl (cI, 90, .inl ws_)), (g 53, .inl (cI, 32, .inl rw_)), (g 37, .inl (cZ, 900, .inl yo)), (g 36, .inl (cZ, 900, .inl yw)), (g 43, .inl (cJ, 90, .inr (.inl zb))), (g 44, .inl (cJ, 90, .inr (.inl zf))), (mm, .inr (12, mo g (nI ta) (nI pa) (nI pe) pd (nI pb) pp pf pg pn rt rn (nI cd) sn (nI il) tk am at_ aa mt_ (nI bh) wd wt zy (nI it_) (nI rm) (nI ud) (nI nu) sd (nI qn) (nI qw) qo (nI qb) (nI qp) qa (nI qi) (nI oc))), (g 20, .inl (cI, 4, .inl (l4 (nI l0) (nI l1) (nI dm) (nI l3))))] → va_S A s.heap H locs → lv_has ls 7 [(2, .int (nI i)), (1, .int (nI dm - 1)), (0, .ref mm)] → W p l e { frames := 3, cells := 0, slots := 0, locals := 68 } s m ([.ref mm] : List Value).toArray below meth c H locs 0 0 (MQ below (skV D (skT cI cJ cC cZ cS) (fun (u : va_W) => ∃ (wy2 : Int64), ∃ (be2 : Nat → Int64), ∃ (bf2 : Nat → Int64), u = [(mm, .inr (12, mo g (nI ta) (nI pa) (nI pe) pd (nI pb) pp pf pg pn rt rn (nI cd) sn (nI il) tk am at_ aa mt_ (nI bh) wd wt wy2 (nI it_) (nI rm) (nI ud) (nI nu) sd (nI qn) (nI qw) qo (nI qb) (nI qp) qa (nI qi) (nI oc))), (g 20, .inl (cI, 4, .inl (l4 (nI l0) (nI l1) (nI dm) (nI l3)))), (g 31, .inl (cI, 120, .inl nw)), (g 38, .inl (cI, 90, .inl ws_)), (g 53, .inl (cI, 32, .inl rw_)), (g 37, .inl (cZ, 900, .inl yo)), (g 36, .inl (cZ, 900, .inl yw)), (g 43, .inl (cJ, 90, .inr (.inl be2))), (g 44, .inl (cJ, 90, .inr (.inl bf2)))]) A) ([.ref mm] : List Value).toArray s 0 0 A) (F0 m 118 ls []) := by
          intro n_6
          induction n_6 with
          | zero => intro i zf zy H locs ls hm; exact absurd hm (Nat.not_lt_zero _)
          | succ n_6 ih_lp_5 =>
            intro i zf zy H locs ls hm hi hP hD hS hl
            refine lv_iload_n hx hb dX12_laysWays_118 rfl (lv_at hl 0 rfl) ?_
            refine lv_iload_n hx hb dX12_laysWays_119 rfl (lv_at hl 1 rfl) ?_
            refine lv_icmp_gt (tgt := 248) hx hb dX12_laysWays_120 (by decide) (fun c_7 => ?_) (fun c_7 => ?_)
            · have c_7 : ((dm : Nat) : Int) - 1 < ((i : Nat) : Int) := (ilt (ivp dm (by omega)) (ivn i (by omega))).mp c_7
              have hP := hP.sub (ws' := [(mm, .inr (12, mo g (nI ta) (nI pa) (nI pe) pd (nI pb) pp pf pg pn rt rn (nI cd) sn (nI il) tk am at_ aa mt_ (nI bh) wd wt zy (nI it_) (nI rm) (nI ud) (nI nu) sd (nI qn) (nI qw) qo (nI qb) (nI qp) qa (nI qi) (nI oc))), (g 20, .inl (cI, 4, .inl (l4 (nI l0) (nI l1) (nI dm) (nI l3)))), (g 31, .inl (cI, 120, .inl nw)), (g 38, .inl (cI, 90, .inl ws_)), (g 53, .inl (cI, 32, .inl rw_)), (g 37, .inl (cZ, 900, .inl yo)), (g 36, .inl (cZ, 900, .inl yw)), (g 43, .inl (cJ, 90, .inr (.inl zb))), (g 44, .inl (cJ, 90, .inr (.inl zf)))]) [7, 8, 0, 1, 2, 3, 4, 5, 6] rfl
              have hD := hD.sub (ws' := [(mm, .inr (12, mo g (nI ta) (nI pa) (nI pe) pd (nI pb) pp pf pg pn rt rn (nI cd) sn (nI il) tk am at_ aa mt_ (nI bh) wd wt zy (nI it_) (nI rm) (nI ud) (nI nu) sd (nI qn) (nI qw) qo (nI qb) (nI qp) qa (nI qi) (nI oc))), (g 20, .inl (cI, 4, .inl (l4 (nI l0) (nI l1) (nI dm) (nI l3)))), (g 31, .inl (cI, 120, .inl nw)), (g 38, .inl (cI, 90, .inl ws_)), (g 53, .inl (cI, 32, .inl rw_)), (g 37, .inl (cZ, 900, .inl yo)), (g 36, .inl (cZ, 900, .inl yw)), (g 43, .inl (cJ, 90, .inr (.inl zb))), (g 44, .inl (cJ, 90, .inr (.inl zf)))]) [7, 8, 0, 1, 2, 3, 4, 5, 6] (by decide +kernel) rfl
              exact sk_vret hx hb hr hlocks hK hP hD hS (⟨zy, zb, zf, rfl⟩) (Nat.le_of_ble_eq_true rfl) (Nat.le_of_ble_eq_true rfl) dX12_laysWays_248
            · have c_7 : ¬ (((dm : Nat) : Int) - 1 < ((i : Nat) : Int)) := fun h => c_7 ((ilt (ivp dm (by omega)) (ivn i (by omega))).mpr h)
              refine lv_iconst (v := 0) hx hb dX12_laysWays_123 (by decide) ?_
              refine lv_istore_n (lv' := [(3, .int 0), (2, .int (nI i)), (1, .int (nI dm - 1)), (0, .ref mm)]) hx hb dX12_laysWays_124 rfl hl (by decide) rfl (fun ls hl => ?_)
              have lp_8 : ∀ (n_9 : Nat) (jm : Nat) (zg : Nat → Int64) (zyb : Int64) (H : Heap) (locs : List Loc) (ls : Array Slot), 10 - jm < n_9 → (jm ≤ 10) → va_P D vwCl [(g 31, .inl (cI, 120, .inl nw)), (g 38, .inl (cI, 90, .inl ws_)), (g 53, .inl (cI, 32, .inl rw_)), (g 37, .inl (cZ, 900, .inl yo)), (g 36, .inl (cZ, 900, .inl yw)), (g 43, .inl (cJ, 90, .inr (.inl zb))), (g 44, .inl (cJ, 90, .inr (.inl zg))), (mm, .inr (12, mo g (nI ta) (nI pa) (nI pe) pd (nI pb) pp pf pg pn rt rn (nI cd) sn (nI il) tk am at_ aa mt_ (nI bh) wd wt zyb (nI it_) (nI rm) (nI ud) (nI nu) sd (nI qn) (nI qw) qo (nI qb) (nI qp) qa (nI qi) (nI oc))), (g 20, .inl (cI, 4, .inl (l4 (nI l0) (nI l1) (nI dm) (nI l3))))] H → va_D A [(g 31, .inl (cI, 120, .inl nw)), (g 38, .inl (cI, 90, .inl ws_)), (g 53, .inl (cI, 32, .inl rw_)), (g 37, .inl (cZ, 900, .inl yo)), (g 36, .inl (cZ, 900, .inl yw)), (g 43, .inl (cJ, 90, .inr (.inl zb))), (g 44, .inl (cJ, 90, .inr (.inl zg))), (mm, .inr (12, mo g (nI ta) (nI pa) (nI pe) pd (nI pb) pp pf pg pn rt rn (nI cd) sn (nI il) tk am at_ aa mt_ (nI bh) wd wt zyb (nI it_) (nI rm) (nI ud) (nI nu) sd (nI qn) (nI qw) qo (nI qb) (nI qp) qa (nI qi) (nI oc))), (g 20, .inl (cI, 4, .inl (l4 (nI l0) (nI l1) (nI dm) (nI l3))))] → va_S A s.heap H locs → lv_has ls 7 [(3, .int (nI jm)), (2, .int (nI i)), (1, .int (nI dm - 1)), (0, .ref mm)] → W p l e { frames := 3, cells := 0, slots := 0, locals := 68 } s m ([.ref mm] : List Value).toArray below meth c H locs 0 0 (MQ below (skV D (skT cI cJ cC cZ cS) (fun (u : va_W) => ∃ (wy2 : Int64), ∃ (be2 : Nat → Int64), ∃ (bf2 : Nat → Int64), u = [(mm, .inr (12, mo g (nI ta) (nI pa) (nI pe) pd (nI pb) pp pf pg pn rt rn (nI cd) sn (nI il) tk am at_ aa mt_ (nI bh) wd wt wy2 (nI it_) (nI rm) (nI ud) (nI nu) sd (nI qn) (nI qw) qo (nI qb) (nI qp) qa (nI qi) (nI oc))), (g 20, .inl (cI, 4, .inl (l4 (nI l0) (nI l1) (nI dm) (nI l3)))), (g 31, .inl (cI, 120, .inl nw)), (g 38, .inl (cI, 90, .inl ws_)), (g 53, .inl (cI, 32, .inl rw_)), (g 37, .inl (cZ, 900, .inl yo)), (g 36, .inl (cZ, 900, .inl yw)), (g 43, .inl (cJ, 90, .inr (.inl be2))), (g 44, .inl (cJ, 90, .inr (.inl bf2)))]) A) ([.ref mm] : List Value).toArray s 0 0 A) (F0 m 125 ls []) := by
                intro n_9
                induction n_9 with
                | zero => intro jm zg zyb H locs ls hm; exact absurd hm (Nat.not_lt_zero _)
                | succ n_9 ih_lp_8 =>
                  intro jm zg zyb H locs ls hm hjm hP hD hS hl
                  refine lv_iload_n hx hb dX12_laysWays_125 rfl (lv_at hl 0 rfl) ?_
                  refine lv_bipush (v := 10) hx hb dX12_laysWays_126 (by decide) ?_
                  refine lv_icmp_ge (tgt := 242) hx hb dX12_laysWays_128 (by decide) (fun c_10 => ?_) (fun c_10 => ?_)
                  · have c_10 : 10 ≤ jm := (nle 10 jm (by omega) (by omega)).mp c_10
                    refine lv_iinc (v := nI (i + 1)) (lv' := [(2, .int (nI (i + 1))), (3, .int (nI jm)), (1, .int (nI dm - 1)), (0, .ref mm)]) hx hb dX12_laysWays_242 hl (k := 1) rfl (ninc i 1 (by decide)) (by decide) rfl (fun ls hl => ?_)
                    refine lv_goto (tgt := 118) hx hb dX12_laysWays_245 (by decide) ?_
                    exact ih_lp_5 (i + 1) zg zyb _ _ _ (by omega) (by omega) hP hD hS (lv_sub hl [0, 2, 3] rfl)
                  · have c_10 : ¬ (10 ≤ jm) := fun h => c_10 ((nle 10 jm (by omega) (by omega)).mpr h)
                    refine lv_iload_n hx hb dX12_laysWays_131 rfl (lv_at hl 1 rfl) ?_
                    refine lv_if_ne (tgt := 154) hx hb dX12_laysWays_132 (by decide) (fun c_11 => ?_) (fun c_11 => ?_)
                    · have c_11 : ¬ (i = 0) := fun h => c_11 ((neq i 0 (by omega) (by omega)).mpr h)
                      refine lv_lconst (v := 0) hx hb dX12_laysWays_154 (by decide) ?_
                      refine lv_lstore (lv' := [(4, .long 0), (3, .int (nI jm)), (2, .int (nI i)), (1, .int (nI dm - 1)), (0, .ref mm)]) hx hb dX12_laysWays_155 hl (by decide) rfl (fun ls hl => ?_)
                      refine lv_iconst (v := 0) hx hb dX12_laysWays_157 (by decide) ?_
                      refine lv_istore (lv' := [(6, .int 0), (4, .long 0), (3, .int (nI jm)), (2, .int (nI i)), (1, .int (nI dm - 1)), (0, .ref mm)]) hx hb dX12_laysWays_158 hl (by decide) rfl (fun ls hl => ?_)
                      have lp_12 : ∀ (n_13 : Nat) (kk : Nat) (xn : Int64) (H : Heap) (locs : List Loc) (ls : Array Slot), 10 - kk < n_13 → (kk ≤ 10) → va_P D vwCl [(g 31, .inl (cI, 120, .inl nw)), (g 38, .inl (cI, 90, .inl ws_)), (g 53, .inl (cI, 32, .inl rw_)), (g 37, .inl (cZ, 900, .inl yo)), (g 36, .inl (cZ, 900, .inl yw)), (g 43, .inl (cJ, 90, .inr (.inl zb))), (g 44, .inl (cJ, 90, .inr (.inl zg))), (mm, .inr (12, mo g (nI ta) (nI pa) (nI pe) pd (nI pb) pp pf pg pn rt rn (nI cd) sn (nI il) tk am at_ aa mt_ (nI bh) wd wt zyb (nI it_) (nI rm) (nI ud) (nI nu) sd (nI qn) (nI qw) qo (nI qb) (nI qp) qa (nI qi) (nI oc))), (g 20, .inl (cI, 4, .inl (l4 (nI l0) (nI l1) (nI dm) (nI l3))))] H → va_D A [(g 31, .inl (cI, 120, .inl nw)), (g 38, .inl (cI, 90, .inl ws_)), (g 53, .inl (cI, 32, .inl rw_)), (g 37, .inl (cZ, 900, .inl yo)), (g 36, .inl (cZ, 900, .inl yw)), (g 43, .inl (cJ, 90, .inr (.inl zb))), (g 44, .inl (cJ, 90, .inr (.inl zg))), (mm, .inr (12, mo g (nI ta) (nI pa) (nI pe) pd (nI pb) pp pf pg pn rt rn (nI cd) sn (nI il) tk am at_ aa mt_ (nI bh) wd wt zyb (nI it_) (nI rm) (nI ud) (nI nu) sd (nI qn) (nI qw) qo (nI qb) (nI qp) qa (nI qi) (nI oc))), (g 20, .inl (cI, 4, .inl (l4 (nI l0) (nI l1) (nI dm) (nI l3))))] → va_S A s.heap H locs → lv_has ls 7 [(6, .int (nI kk)), (4, .long xn), (3, .int (nI jm)), (2, .int (nI i)), (1, .int (nI dm - 1)), (0, .ref mm)] → W p l e { frames := 3, cells := 0, slots := 0, locals := 68 } s m ([.ref mm] : List Value).toArray below meth c H locs 0 0 (MQ below (skV D (skT cI cJ cC cZ cS) (fun (u : va_W) => ∃ (wy2 : Int64), ∃ (be2 : Nat → Int64), ∃ (bf2 : Nat → Int64), u = [(mm, .inr (12, mo g (nI ta) (nI pa) (nI pe) pd (nI pb) pp pf pg pn rt rn (nI cd) sn (nI il) tk am at_ aa mt_ (nI bh) wd wt wy2 (nI it_) (nI rm) (nI ud) (nI nu) sd (nI qn) (nI qw) qo (nI qb) (nI qp) qa (nI qi) (nI oc))), (g 20, .inl (cI, 4, .inl (l4 (nI l0) (nI l1) (nI dm) (nI l3)))), (g 31, .inl (cI, 120, .inl nw)), (g 38, .inl (cI, 90, .inl ws_)), (g 53, .inl (cI, 32, .inl rw_)), (g 37, .inl (cZ, 900, .inl yo)), (g 36, .inl (cZ, 900, .inl yw)), (g 43, .inl (cJ, 90, .inr (.inl be2))), (g 44, .inl (cJ, 90, .inr (.inl bf2)))]) A) ([.ref mm] : List Value).toArray s 0 0 A) (F0 m 160 ls []) := by
                        intro n_13
                        induction n_13 with
                        | zero => intro kk xn H locs ls hm; exact absurd hm (Nat.not_lt_zero _)
                        | succ n_13 ih_lp_12 =>
                          intro kk xn H locs ls hm hkk hP hD hS hl
                          refine lv_iload hx hb dX12_laysWays_160 (lv_at hl 0 rfl) ?_
                          refine lv_bipush (v := 10) hx hb dX12_laysWays_162 (by decide) ?_
                          refine lv_icmp_ge (tgt := 207) hx hb dX12_laysWays_164 (by decide) (fun c_14 => ?_) (fun c_14 => ?_)
                          · have c_14 : 10 ≤ kk := (nle 10 kk (by omega) (by omega)).mp c_14
                            refine lv_aload_n hx hb dX12_laysWays_207 rfl (lv_at hl 5 rfl) ?_
                            refine sk_get (v := .ref (g 44)) (C := RX12) (T := TX12) (N := 92) hx hb hts inlX12 hown hK hP 7 rfl rfl 44 (by decide) w_5_199 rfl dX12_laysWays_208 ?_
                            refine lv_bipush (v := 10) hx hb dX12_laysWays_211 (by decide) ?_
                            refine lv_iload_n hx hb dX12_laysWays_213 rfl (lv_at hl 3 rfl) ?_
                            refine lv_imul hx hb dX12_laysWays_214 ?_
                            refine sk_top (nI (10 * i)) (nmul 10 i) ?_
                            refine lv_iload_n hx hb dX12_laysWays_215 rfl (lv_at hl 2 rfl) ?_
                            refine lv_iadd hx hb dX12_laysWays_216 ?_
                            refine sk_top (nI (10 * i + jm)) (nI_add (10 * i) jm) ?_
                            refine lv_lload hx hb dX12_laysWays_217 (lv_at hl 1 rfl) ?_
                            refine sk_lastO (ws' := fun f_15 => [(g 31, .inl (cI, 120, .inl nw)), (g 38, .inl (cI, 90, .inl ws_)), (g 53, .inl (cI, 32, .inl rw_)), (g 37, .inl (cZ, 900, .inl yo)), (g 36, .inl (cZ, 900, .inl yw)), (g 43, .inl (cJ, 90, .inr (.inl zb))), (g 44, .inl (cJ, 90, .inr (.inl f_15))), (mm, .inr (12, mo g (nI ta) (nI pa) (nI pe) pd (nI pb) pp pf pg pn rt rn (nI cd) sn (nI il) tk am at_ aa mt_ (nI bh) wd wt zyb (nI it_) (nI rm) (nI ud) (nI nu) sd (nI qn) (nI qw) qo (nI qb) (nI qp) qa (nI qi) (nI oc))), (g 20, .inl (cI, 4, .inl (l4 (nI l0) (nI l1) (nI dm) (nI l3))))]) hx hb hK hP hD hS 6 1 rfl rfl (vin (10 * i + jm) 90 (by omega) (by omega)) (fun _ => rfl) dX12_laysWays_219 (fun f_15 H locs hP hD hS => ?_)
                            refine lv_iload_n hx hb dX12_laysWays_220 rfl (lv_at hl 3 rfl) ?_
                            refine lv_iload_n hx hb dX12_laysWays_221 rfl (lv_at hl 4 rfl) ?_
                            refine lv_icmp_ne (tgt := 236) hx hb dX12_laysWays_222 (by decide) (fun c_16 => ?_) (fun c_16 => ?_)
                            · have c_16 : ¬ (((i : Nat) : Int) = ((dm : Nat) : Int) - 1) := fun h => c_16 ((ieq (ivn i (by omega)) (ivp dm (by omega))).mpr h)
                              refine lv_iinc (v := nI (jm + 1)) (lv' := [(3, .int (nI (jm + 1))), (6, .int (nI kk)), (4, .long xn), (2, .int (nI i)), (1, .int (nI dm - 1)), (0, .ref mm)]) hx hb dX12_laysWays_236 hl (k := 2) rfl (ninc jm 1 (by decide)) (by decide) rfl (fun ls hl => ?_)
                              refine lv_goto (tgt := 125) hx hb dX12_laysWays_239 (by decide) ?_
                              exact ih_lp_8 (jm + 1) f_15 zyb _ _ _ (by omega) (by omega) hP hD hS (lv_sub hl [0, 3, 4, 5] rfl)
                            · have c_16 : ((i : Nat) : Int) = ((dm : Nat) : Int) - 1 := (ieq (ivn i (by omega)) (ivp dm (by omega))).mp c_16
                              refine lv_aload_n hx hb dX12_laysWays_225 rfl (lv_at hl 5 rfl) ?_
                              refine lv_dup hx hb dX12_laysWays_226 rfl ?_
                              refine sk_get (v := .long zyb) (C := RX12) (T := TX12) (N := 92) hx hb hts inlX12 hown hK hP 7 rfl rfl 45 (by decide) w_5_200 rfl dX12_laysWays_227 ?_
                              refine lv_lload hx hb dX12_laysWays_230 (lv_at hl 1 rfl) ?_
                              refine lv_ladd hx hb dX12_laysWays_232 ?_
                              refine lv_topl (fun v_17 ev_17 => ?_)
                              refine sk_put (ws' := [(g 31, .inl (cI, 120, .inl nw)), (g 38, .inl (cI, 90, .inl ws_)), (g 53, .inl (cI, 32, .inl rw_)), (g 37, .inl (cZ, 900, .inl yo)), (g 36, .inl (cZ, 900, .inl yw)), (g 43, .inl (cJ, 90, .inr (.inl zb))), (g 44, .inl (cJ, 90, .inr (.inl f_15))), (mm, .inr (12, mo g (nI ta) (nI pa) (nI pe) pd (nI pb) pp pf pg pn rt rn (nI cd) sn (nI il) tk am at_ aa mt_ (nI bh) wd wt v_17 (nI it_) (nI rm) (nI ud) (nI nu) sd (nI qn) (nI qw) qo (nI qb) (nI qp) qa (nI qi) (nI oc))), (g 20, .inl (cI, 4, .inl (l4 (nI l0) (nI l1) (nI dm) (nI l3))))]) (C := RX12) (T := TX12) (N := 92) (v := .long v_17) hx hb hts inlX12 tyX12 tyX12_ok nmX12 hown hK hP hD hS 7 rfl rfl 45 (by decide) w_5_200 rfl rfl rfl (Nat.le_of_ble_eq_true rfl) rfl dX12_laysWays_233 (fun H locs hP hD hS => ?_)
                              refine lv_iinc (v := nI (jm + 1)) (lv' := [(3, .int (nI (jm + 1))), (6, .int (nI kk)), (4, .long xn), (2, .int (nI i)), (1, .int (nI dm - 1)), (0, .ref mm)]) hx hb dX12_laysWays_236 hl (k := 2) rfl (ninc jm 1 (by decide)) (by decide) rfl (fun ls hl => ?_)
                              refine lv_goto (tgt := 125) hx hb dX12_laysWays_239 (by decide) ?_
                              exact ih_lp_8 (jm + 1) f_15 v_17 _ _ _ (by omega) (by omega) hP hD hS (lv_sub hl [0, 3, 4, 5] rfl)
                          · have c_14 : ¬ (10 ≤ kk) := fun h => c_14 ((nle 10 kk (by omega) (by omega)).mpr h)
                            refine lv_iload_n hx hb dX12_laysWays_167 rfl (lv_at hl 3 rfl) ?_
                            refine lv_if_le (tgt := 207) hx hb dX12_laysWays_168 (by decide) (fun c_18 => ?_) (fun c_18 => ?_)
                            · have c_18 : i ≤ 0 := (nle i 0 (by omega) (by omega)).mp c_18
                              refine lv_aload_n hx hb dX12_laysWays_207 rfl (lv_at hl 5 rfl) ?_
                              refine sk_get (v := .ref (g 44)) (C := RX12) (T := TX12) (N := 92) hx hb hts inlX12 hown hK hP 7 rfl rfl 44 (by decide) w_5_199 rfl dX12_laysWays_208 ?_
                              refine lv_bipush (v := 10) hx hb dX12_laysWays_211 (by decide) ?_
                              refine lv_iload_n hx hb dX12_laysWays_213 rfl (lv_at hl 3 rfl) ?_
                              refine lv_imul hx hb dX12_laysWays_214 ?_
                              refine sk_top (nI (10 * i)) (nmul 10 i) ?_
                              refine lv_iload_n hx hb dX12_laysWays_215 rfl (lv_at hl 2 rfl) ?_
                              refine lv_iadd hx hb dX12_laysWays_216 ?_
                              refine sk_top (nI (10 * i + jm)) (nI_add (10 * i) jm) ?_
                              refine lv_lload hx hb dX12_laysWays_217 (lv_at hl 1 rfl) ?_
                              refine sk_lastO (ws' := fun f_19 => [(g 31, .inl (cI, 120, .inl nw)), (g 38, .inl (cI, 90, .inl ws_)), (g 53, .inl (cI, 32, .inl rw_)), (g 37, .inl (cZ, 900, .inl yo)), (g 36, .inl (cZ, 900, .inl yw)), (g 43, .inl (cJ, 90, .inr (.inl zb))), (g 44, .inl (cJ, 90, .inr (.inl f_19))), (mm, .inr (12, mo g (nI ta) (nI pa) (nI pe) pd (nI pb) pp pf pg pn rt rn (nI cd) sn (nI il) tk am at_ aa mt_ (nI bh) wd wt zyb (nI it_) (nI rm) (nI ud) (nI nu) sd (nI qn) (nI qw) qo (nI qb) (nI qp) qa (nI qi) (nI oc))), (g 20, .inl (cI, 4, .inl (l4 (nI l0) (nI l1) (nI dm) (nI l3))))]) hx hb hK hP hD hS 6 1 rfl rfl (vin (10 * i + jm) 90 (by omega) (by omega)) (fun _ => rfl) dX12_laysWays_219 (fun f_19 H locs hP hD hS => ?_)
                              refine lv_iload_n hx hb dX12_laysWays_220 rfl (lv_at hl 3 rfl) ?_
                              refine lv_iload_n hx hb dX12_laysWays_221 rfl (lv_at hl 4 rfl) ?_
                              refine lv_icmp_ne (tgt := 236) hx hb dX12_laysWays_222 (by decide) (fun c_20 => ?_) (fun c_20 => ?_)
                              · have c_20 : ¬ (((i : Nat) : Int) = ((dm : Nat) : Int) - 1) := fun h => c_20 ((ieq (ivn i (by omega)) (ivp dm (by omega))).mpr h)
                                refine lv_iinc (v := nI (jm + 1)) (lv' := [(3, .int (nI (jm + 1))), (6, .int (nI kk)), (4, .long xn), (2, .int (nI i)), (1, .int (nI dm - 1)), (0, .ref mm)]) hx hb dX12_laysWays_236 hl (k := 2) rfl (ninc jm 1 (by decide)) (by decide) rfl (fun ls hl => ?_)
                                refine lv_goto (tgt := 125) hx hb dX12_laysWays_239 (by decide) ?_
                                exact ih_lp_8 (jm + 1) f_19 zyb _ _ _ (by omega) (by omega) hP hD hS (lv_sub hl [0, 3, 4, 5] rfl)
                              · have c_20 : ((i : Nat) : Int) = ((dm : Nat) : Int) - 1 := (ieq (ivn i (by omega)) (ivp dm (by omega))).mp c_20
                                refine lv_aload_n hx hb dX12_laysWays_225 rfl (lv_at hl 5 rfl) ?_
                                refine lv_dup hx hb dX12_laysWays_226 rfl ?_
                                refine sk_get (v := .long zyb) (C := RX12) (T := TX12) (N := 92) hx hb hts inlX12 hown hK hP 7 rfl rfl 45 (by decide) w_5_200 rfl dX12_laysWays_227 ?_
                                refine lv_lload hx hb dX12_laysWays_230 (lv_at hl 1 rfl) ?_
                                refine lv_ladd hx hb dX12_laysWays_232 ?_
                                refine lv_topl (fun v_21 ev_21 => ?_)
                                refine sk_put (ws' := [(g 31, .inl (cI, 120, .inl nw)), (g 38, .inl (cI, 90, .inl ws_)), (g 53, .inl (cI, 32, .inl rw_)), (g 37, .inl (cZ, 900, .inl yo)), (g 36, .inl (cZ, 900, .inl yw)), (g 43, .inl (cJ, 90, .inr (.inl zb))), (g 44, .inl (cJ, 90, .inr (.inl f_19))), (mm, .inr (12, mo g (nI ta) (nI pa) (nI pe) pd (nI pb) pp pf pg pn rt rn (nI cd) sn (nI il) tk am at_ aa mt_ (nI bh) wd wt v_21 (nI it_) (nI rm) (nI ud) (nI nu) sd (nI qn) (nI qw) qo (nI qb) (nI qp) qa (nI qi) (nI oc))), (g 20, .inl (cI, 4, .inl (l4 (nI l0) (nI l1) (nI dm) (nI l3))))]) (C := RX12) (T := TX12) (N := 92) (v := .long v_21) hx hb hts inlX12 tyX12 tyX12_ok nmX12 hown hK hP hD hS 7 rfl rfl 45 (by decide) w_5_200 rfl rfl rfl (Nat.le_of_ble_eq_true rfl) rfl dX12_laysWays_233 (fun H locs hP hD hS => ?_)
                                refine lv_iinc (v := nI (jm + 1)) (lv' := [(3, .int (nI (jm + 1))), (6, .int (nI kk)), (4, .long xn), (2, .int (nI i)), (1, .int (nI dm - 1)), (0, .ref mm)]) hx hb dX12_laysWays_236 hl (k := 2) rfl (ninc jm 1 (by decide)) (by decide) rfl (fun ls hl => ?_)
                                refine lv_goto (tgt := 125) hx hb dX12_laysWays_239 (by decide) ?_
                                exact ih_lp_8 (jm + 1) f_19 v_21 _ _ _ (by omega) (by omega) hP hD hS (lv_sub hl [0, 3, 4, 5] rfl)
                            · have c_18 : ¬ (i ≤ 0) := fun h => c_18 ((nle i 0 (by omega) (by omega)).mpr h)
                              refine lv_aload_n hx hb dX12_laysWays_171 rfl (lv_at hl 5 rfl) ?_
                              refine lv_iload_n hx hb dX12_laysWays_172 rfl (lv_at hl 3 rfl) ?_
                              refine lv_iload hx hb dX12_laysWays_173 (lv_at hl 0 rfl) ?_
                              refine lv_iload_n hx hb dX12_laysWays_175 rfl (lv_at hl 2 rfl) ?_
                              refine sk_Vi (q0 := 0) (n := 3) (rest := []) (wr := [(g 43, .inl (cJ, 90, .inr (.inl zb))), (g 44, .inl (cJ, 90, .inr (.inl zg))), (g 20, .inl (cI, 4, .inl (l4 (nI l0) (nI l1) (nI dm) (nI l3))))]) ⟨hx, hb, hml, hown, hts⟩ hl.1 (c_m_canFollowS l D cI cJ cC cZ cS mm g ta pa pe pd pb pp pf pg pn rt rn cd sn il tk am at_ aa mt_ bh wd wt zyb it_ rm ud nu sd qn qw qo qb qp qa qi oc i kk jm nw ws_ rw_ yo yw (by omega) (by omega) (by omega) (by omega) (by omega) hnw) w_7_201 w_7_203 w_0_85 w_1_14 w_7_204 (by decide +kernel) ⟨⟨(Nat.le_of_ble_eq_true rfl), (Nat.le_of_ble_eq_true rfl)⟩, (Nat.le_of_ble_eq_true rfl), (Nat.le_of_ble_eq_true rfl)⟩ hK hP hD hS hA [7, 0, 1, 2, 3, 4] [5, 6, 8] rfl rfl (by decide +kernel) (by decide +kernel) (by decide +kernel) rfl rfl rfl rfl (Nat.le_of_ble_eq_true rfl) dX12_laysWays_176 (fun r_23 u H locs hw hP hD hS => ?_)
                              obtain ⟨b_22, hb1_24, rfl, rfl⟩ := hw
                              have hP : va_P D vwCl [(g 43, .inl (cJ, 90, .inr (.inl zb))), (g 44, .inl (cJ, 90, .inr (.inl zg))), (g 20, .inl (cI, 4, .inl (l4 (nI l0) (nI l1) (nI dm) (nI l3)))), (mm, .inr (12, mo g (nI ta) (nI pa) (nI pe) pd (nI pb) pp pf pg pn rt rn (nI cd) sn (nI il) tk am at_ aa mt_ (nI bh) wd wt zyb (nI it_) (nI rm) (nI ud) (nI nu) sd (nI qn) (nI qw) qo (nI qb) (nI qp) qa (nI qi) (nI oc))), (g 31, .inl (cI, 120, .inl nw)), (g 38, .inl (cI, 90, .inl ws_)), (g 53, .inl (cI, 32, .inl rw_)), (g 37, .inl (cZ, 900, .inl yo)), (g 36, .inl (cZ, 900, .inl yw))] H := hP
                              have hD : va_D A [(g 43, .inl (cJ, 90, .inr (.inl zb))), (g 44, .inl (cJ, 90, .inr (.inl zg))), (g 20, .inl (cI, 4, .inl (l4 (nI l0) (nI l1) (nI dm) (nI l3)))), (mm, .inr (12, mo g (nI ta) (nI pa) (nI pe) pd (nI pb) pp pf pg pn rt rn (nI cd) sn (nI il) tk am at_ aa mt_ (nI bh) wd wt zyb (nI it_) (nI rm) (nI ud) (nI nu) sd (nI qn) (nI qw) qo (nI qb) (nI qp) qa (nI qi) (nI oc))), (g 31, .inl (cI, 120, .inl nw)), (g 38, .inl (cI, 90, .inl ws_)), (g 53, .inl (cI, 32, .inl rw_)), (g 37, .inl (cZ, 900, .inl yo)), (g 36, .inl (cZ, 900, .inl yw))] := hD
                              refine lv_if_eq (tgt := 201) hx hb dX12_laysWays_179 (by decide) (fun c_25 => ?_) (fun c_25 => ?_)
                              · have c_25 : b_22 = 0 := (neq b_22 0 (by omega) (by omega)).mp c_25
                                refine lv_iinc (v := nI (kk + 1)) (lv' := [(6, .int (nI (kk + 1))), (4, .long xn), (3, .int (nI jm)), (2, .int (nI i)), (1, .int (nI dm - 1)), (0, .ref mm)]) hx hb dX12_laysWays_201 hl (k := 0) rfl (ninc kk 1 (by decide)) (by decide) rfl (fun ls hl => ?_)
                                refine lv_goto (tgt := 160) hx hb dX12_laysWays_204 (by decide) ?_
                                have hP := hP.sub (ws' := [(g 31, .inl (cI, 120, .inl nw)), (g 38, .inl (cI, 90, .inl ws_)), (g 53, .inl (cI, 32, .inl rw_)), (g 37, .inl (cZ, 900, .inl yo)), (g 36, .inl (cZ, 900, .inl yw)), (g 43, .inl (cJ, 90, .inr (.inl zb))), (g 44, .inl (cJ, 90, .inr (.inl zg))), (mm, .inr (12, mo g (nI ta) (nI pa) (nI pe) pd (nI pb) pp pf pg pn rt rn (nI cd) sn (nI il) tk am at_ aa mt_ (nI bh) wd wt zyb (nI it_) (nI rm) (nI ud) (nI nu) sd (nI qn) (nI qw) qo (nI qb) (nI qp) qa (nI qi) (nI oc))), (g 20, .inl (cI, 4, .inl (l4 (nI l0) (nI l1) (nI dm) (nI l3))))]) [4, 5, 6, 7, 8, 0, 1, 3, 2] rfl
                                have hD := hD.sub (ws' := [(g 31, .inl (cI, 120, .inl nw)), (g 38, .inl (cI, 90, .inl ws_)), (g 53, .inl (cI, 32, .inl rw_)), (g 37, .inl (cZ, 900, .inl yo)), (g 36, .inl (cZ, 900, .inl yw)), (g 43, .inl (cJ, 90, .inr (.inl zb))), (g 44, .inl (cJ, 90, .inr (.inl zg))), (mm, .inr (12, mo g (nI ta) (nI pa) (nI pe) pd (nI pb) pp pf pg pn rt rn (nI cd) sn (nI il) tk am at_ aa mt_ (nI bh) wd wt zyb (nI it_) (nI rm) (nI ud) (nI nu) sd (nI qn) (nI qw) qo (nI qb) (nI qp) qa (nI qi) (nI oc))), (g 20, .inl (cI, 4, .inl (l4 (nI l0) (nI l1) (nI dm) (nI l3))))]) [4, 5, 6, 7, 8, 0, 1, 3, 2] (by decide +kernel) rfl
                                exact ih_lp_12 (kk + 1) xn _ _ _ (by omega) (by omega) hP hD hS (lv_sub hl [0, 1, 2, 3, 4, 5] rfl)
                              · have c_25 : ¬ (b_22 = 0) := fun h => c_25 ((neq b_22 0 (by omega) (by omega)).mpr h)
                                refine lv_lload hx hb dX12_laysWays_182 (lv_at hl 1 rfl) ?_
                                refine lv_aload_n hx hb dX12_laysWays_184 rfl (lv_at hl 5 rfl) ?_
                                refine sk_get (v := .ref (g 44)) (C := RX12) (T := TX12) (N := 92) hx hb hts inlX12 hown hK hP 3 rfl rfl 44 (by decide) w_5_199 rfl dX12_laysWays_185 ?_
                                refine lv_bipush (v := 10) hx hb dX12_laysWays_188 (by decide) ?_
                                refine lv_iload_n hx hb dX12_laysWays_190 rfl (lv_at hl 3 rfl) ?_
                                refine lv_iconst (v := 1) hx hb dX12_laysWays_191 (by decide) ?_
                                refine lv_isub hx hb dX12_laysWays_192 ?_
                                refine sk_top (nI (i - 1)) (nsub i 1 (by omega)) ?_
                                refine lv_imul hx hb dX12_laysWays_193 ?_
                                refine sk_top (nI (10 * (i - 1))) (nmul 10 (i - 1)) ?_
                                refine lv_iload hx hb dX12_laysWays_194 (lv_at hl 0 rfl) ?_
                                refine lv_iadd hx hb dX12_laysWays_196 ?_
                                refine sk_top (nI (10 * (i - 1) + kk)) (nI_add (10 * (i - 1)) kk) ?_
                                refine va_lald hx hb hK.1 hP 1 1 rfl rfl (vin (10 * (i - 1) + kk) 90 (by omega) (by omega)) dX12_laysWays_197 ?_
                                refine lv_topl (fun v_26 ev_26 => ?_)
                                refine lv_ladd hx hb dX12_laysWays_198 ?_
                                refine lv_topl (fun v_27 ev_27 => ?_)
                                refine lv_lstore (lv' := [(4, .long v_27), (6, .int (nI kk)), (3, .int (nI jm)), (2, .int (nI i)), (1, .int (nI dm - 1)), (0, .ref mm)]) hx hb dX12_laysWays_199 hl (by decide) rfl (fun ls hl => ?_)
                                refine lv_iinc (v := nI (kk + 1)) (lv' := [(6, .int (nI (kk + 1))), (4, .long v_27), (3, .int (nI jm)), (2, .int (nI i)), (1, .int (nI dm - 1)), (0, .ref mm)]) hx hb dX12_laysWays_201 hl (k := 1) rfl (ninc kk 1 (by decide)) (by decide) rfl (fun ls hl => ?_)
                                refine lv_goto (tgt := 160) hx hb dX12_laysWays_204 (by decide) ?_
                                have hP := hP.sub (ws' := [(g 31, .inl (cI, 120, .inl nw)), (g 38, .inl (cI, 90, .inl ws_)), (g 53, .inl (cI, 32, .inl rw_)), (g 37, .inl (cZ, 900, .inl yo)), (g 36, .inl (cZ, 900, .inl yw)), (g 43, .inl (cJ, 90, .inr (.inl zb))), (g 44, .inl (cJ, 90, .inr (.inl zg))), (mm, .inr (12, mo g (nI ta) (nI pa) (nI pe) pd (nI pb) pp pf pg pn rt rn (nI cd) sn (nI il) tk am at_ aa mt_ (nI bh) wd wt zyb (nI it_) (nI rm) (nI ud) (nI nu) sd (nI qn) (nI qw) qo (nI qb) (nI qp) qa (nI qi) (nI oc))), (g 20, .inl (cI, 4, .inl (l4 (nI l0) (nI l1) (nI dm) (nI l3))))]) [4, 5, 6, 7, 8, 0, 1, 3, 2] rfl
                                have hD := hD.sub (ws' := [(g 31, .inl (cI, 120, .inl nw)), (g 38, .inl (cI, 90, .inl ws_)), (g 53, .inl (cI, 32, .inl rw_)), (g 37, .inl (cZ, 900, .inl yo)), (g 36, .inl (cZ, 900, .inl yw)), (g 43, .inl (cJ, 90, .inr (.inl zb))), (g 44, .inl (cJ, 90, .inr (.inl zg))), (mm, .inr (12, mo g (nI ta) (nI pa) (nI pe) pd (nI pb) pp pf pg pn rt rn (nI cd) sn (nI il) tk am at_ aa mt_ (nI bh) wd wt zyb (nI it_) (nI rm) (nI ud) (nI nu) sd (nI qn) (nI qw) qo (nI qb) (nI qp) qa (nI qi) (nI oc))), (g 20, .inl (cI, 4, .inl (l4 (nI l0) (nI l1) (nI dm) (nI l3))))]) [4, 5, 6, 7, 8, 0, 1, 3, 2] (by decide +kernel) rfl
                                exact ih_lp_12 (kk + 1) v_27 _ _ _ (by omega) (by omega) hP hD hS (lv_sub hl [0, 1, 2, 3, 4, 5] rfl)
                      exact lp_12 (10 - 0 + 1) 0 0 _ _ _ (Nat.lt_succ_self _) (by omega) hP hD hS (lv_sub hl [0, 1, 2, 3, 4, 5] rfl)
                    · have c_11 : i = 0 := (neq i 0 (by omega) (by omega)).mp c_11
                      refine lv_aload_n hx hb dX12_laysWays_135 rfl (lv_at hl 3 rfl) ?_
                      refine lv_iconst (v := 0) hx hb dX12_laysWays_136 (by decide) ?_
                      refine lv_aload_n hx hb dX12_laysWays_137 rfl (lv_at hl 3 rfl) ?_
                      refine sk_get (v := .ref (g 31)) (C := RX12) (T := TX12) (N := 92) hx hb hts inlX12 hown hK hP 7 rfl rfl 31 (by decide) w_5_186 rfl dX12_laysWays_138 ?_
                      refine lv_iconst (v := 1) hx hb dX12_laysWays_141 (by decide) ?_
                      refine va_iald hx hb hK.1 hP 0 0 rfl rfl (by unfold vp_in; decide) dX12_laysWays_142 ?_
                      obtain ⟨k_28, hk_28, ek_28⟩ := nowOk_1 hnw
                      refine sk_top (nI k_28) ek_28 ?_
                      refine lv_iload_n hx hb dX12_laysWays_143 rfl (lv_at hl 0 rfl) ?_
                      refine sk_Vi (q0 := 0) (n := 3) (rest := []) (wr := [(g 43, .inl (cJ, 90, .inr (.inl zb))), (g 44, .inl (cJ, 90, .inr (.inl zg))), (g 20, .inl (cI, 4, .inl (l4 (nI l0) (nI l1) (nI dm) (nI l3))))]) ⟨hx, hb, hml, hown, hts⟩ hl.1 (c_m_canFollowS l D cI cJ cC cZ cS mm g ta pa pe pd pb pp pf pg pn rt rn cd sn il tk am at_ aa mt_ bh wd wt zyb it_ rm ud nu sd qn qw qo qb qp qa qi oc 0 k_28 jm nw ws_ rw_ yo yw (by omega) (by omega) (by omega) (by omega) (by omega) hnw) w_7_201 w_7_203 w_0_85 w_1_14 w_7_204 (by decide +kernel) ⟨⟨(Nat.le_of_ble_eq_true rfl), (Nat.le_of_ble_eq_true rfl)⟩, (Nat.le_of_ble_eq_true rfl), (Nat.le_of_ble_eq_true rfl)⟩ hK hP hD hS hA [7, 0, 1, 2, 3, 4] [5, 6, 8] rfl rfl (by decide +kernel) (by decide +kernel) (by decide +kernel) rfl rfl rfl rfl (Nat.le_of_ble_eq_true rfl) dX12_laysWays_144 (fun r_30 u H locs hw hP hD hS => ?_)
                      obtain ⟨b_29, hb1_31, rfl, rfl⟩ := hw
                      have hP : va_P D vwCl [(g 43, .inl (cJ, 90, .inr (.inl zb))), (g 44, .inl (cJ, 90, .inr (.inl zg))), (g 20, .inl (cI, 4, .inl (l4 (nI l0) (nI l1) (nI dm) (nI l3)))), (mm, .inr (12, mo g (nI ta) (nI pa) (nI pe) pd (nI pb) pp pf pg pn rt rn (nI cd) sn (nI il) tk am at_ aa mt_ (nI bh) wd wt zyb (nI it_) (nI rm) (nI ud) (nI nu) sd (nI qn) (nI qw) qo (nI qb) (nI qp) qa (nI qi) (nI oc))), (g 31, .inl (cI, 120, .inl nw)), (g 38, .inl (cI, 90, .inl ws_)), (g 53, .inl (cI, 32, .inl rw_)), (g 37, .inl (cZ, 900, .inl yo)), (g 36, .inl (cZ, 900, .inl yw))] H := hP
                      have hD : va_D A [(g 43, .inl (cJ, 90, .inr (.inl zb))), (g 44, .inl (cJ, 90, .inr (.inl zg))), (g 20, .inl (cI, 4, .inl (l4 (nI l0) (nI l1) (nI dm) (nI l3)))), (mm, .inr (12, mo g (nI ta) (nI pa) (nI pe) pd (nI pb) pp pf pg pn rt rn (nI cd) sn (nI il) tk am at_ aa mt_ (nI bh) wd wt zyb (nI it_) (nI rm) (nI ud) (nI nu) sd (nI qn) (nI qw) qo (nI qb) (nI qp) qa (nI qi) (nI oc))), (g 31, .inl (cI, 120, .inl nw)), (g 38, .inl (cI, 90, .inl ws_)), (g 53, .inl (cI, 32, .inl rw_)), (g 37, .inl (cZ, 900, .inl yo)), (g 36, .inl (cZ, 900, .inl yw))] := hD
                      refine lv_if_eq (tgt := 154) hx hb dX12_laysWays_147 (by decide) (fun c_32 => ?_) (fun c_32 => ?_)
                      · have c_32 : b_29 = 0 := (neq b_29 0 (by omega) (by omega)).mp c_32
                        refine lv_lconst (v := 0) hx hb dX12_laysWays_154 (by decide) ?_
                        refine lv_lstore (lv' := [(4, .long 0), (3, .int (nI jm)), (2, .int (nI i)), (1, .int (nI dm - 1)), (0, .ref mm)]) hx hb dX12_laysWays_155 hl (by decide) rfl (fun ls hl => ?_)
                        refine lv_iconst (v := 0) hx hb dX12_laysWays_157 (by decide) ?_
                        refine lv_istore (lv' := [(6, .int 0), (4, .long 0), (3, .int (nI jm)), (2, .int (nI i)), (1, .int (nI dm - 1)), (0, .ref mm)]) hx hb dX12_laysWays_158 hl (by decide) rfl (fun ls hl => ?_)
                        have lp_33 : ∀ (n_34 : Nat) (kk : Nat) (xn : Int64) (H : Heap) (locs : List Loc) (ls : Array Slot), 10 - kk < n_34 → (kk ≤ 10) → va_P D vwCl [(g 43, .inl (cJ, 90, .inr (.inl zb))), (g 44, .inl (cJ, 90, .inr (.inl zg))), (g 20, .inl (cI, 4, .inl (l4 (nI l0) (nI l1) (nI dm) (nI l3)))), (mm, .inr (12, mo g (nI ta) (nI pa) (nI pe) pd (nI pb) pp pf pg pn rt rn (nI cd) sn (nI il) tk am at_ aa mt_ (nI bh) wd wt zyb (nI it_) (nI rm) (nI ud) (nI nu) sd (nI qn) (nI qw) qo (nI qb) (nI qp) qa (nI qi) (nI oc))), (g 31, .inl (cI, 120, .inl nw)), (g 38, .inl (cI, 90, .inl ws_)), (g 53, .inl (cI, 32, .inl rw_)), (g 37, .inl (cZ, 900, .inl yo)), (g 36, .inl (cZ, 900, .inl yw))] H → va_D A [(g 43, .inl (cJ, 90, .inr (.inl zb))), (g 44, .inl (cJ, 90, .inr (.inl zg))), (g 20, .inl (cI, 4, .inl (l4 (nI l0) (nI l1) (nI dm) (nI l3)))), (mm, .inr (12, mo g (nI ta) (nI pa) (nI pe) pd (nI pb) pp pf pg pn rt rn (nI cd) sn (nI il) tk am at_ aa mt_ (nI bh) wd wt zyb (nI it_) (nI rm) (nI ud) (nI nu) sd (nI qn) (nI qw) qo (nI qb) (nI qp) qa (nI qi) (nI oc))), (g 31, .inl (cI, 120, .inl nw)), (g 38, .inl (cI, 90, .inl ws_)), (g 53, .inl (cI, 32, .inl rw_)), (g 37, .inl (cZ, 900, .inl yo)), (g 36, .inl (cZ, 900, .inl yw))] → va_S A s.heap H locs → lv_has ls 7 [(6, .int (nI kk)), (4, .long xn), (3, .int (nI jm)), (2, .int (nI i)), (1, .int (nI dm - 1)), (0, .ref mm)] → W p l e { frames := 3, cells := 0, slots := 0, locals := 68 } s m ([.ref mm] : List Value).toArray below meth c H locs 0 0 (MQ below (skV D (skT cI cJ cC cZ cS) (fun (u : va_W) => ∃ (wy2 : Int64), ∃ (be2 : Nat → Int64), ∃ (bf2 : Nat → Int64), u = [(mm, .inr (12, mo g (nI ta) (nI pa) (nI pe) pd (nI pb) pp pf pg pn rt rn (nI cd) sn (nI il) tk am at_ aa mt_ (nI bh) wd wt wy2 (nI it_) (nI rm) (nI ud) (nI nu) sd (nI qn) (nI qw) qo (nI qb) (nI qp) qa (nI qi) (nI oc))), (g 20, .inl (cI, 4, .inl (l4 (nI l0) (nI l1) (nI dm) (nI l3)))), (g 31, .inl (cI, 120, .inl nw)), (g 38, .inl (cI, 90, .inl ws_)), (g 53, .inl (cI, 32, .inl rw_)), (g 37, .inl (cZ, 900, .inl yo)), (g 36, .inl (cZ, 900, .inl yw)), (g 43, .inl (cJ, 90, .inr (.inl be2))), (g 44, .inl (cJ, 90, .inr (.inl bf2)))]) A) ([.ref mm] : List Value).toArray s 0 0 A) (F0 m 160 ls []) := by
                          intro n_34
                          induction n_34 with
                          | zero => intro kk xn H locs ls hm; exact absurd hm (Nat.not_lt_zero _)
                          | succ n_34 ih_lp_33 =>
                            intro kk xn H locs ls hm hkk hP hD hS hl
                            refine lv_iload hx hb dX12_laysWays_160 (lv_at hl 0 rfl) ?_
                            refine lv_bipush (v := 10) hx hb dX12_laysWays_162 (by decide) ?_
                            refine lv_icmp_ge (tgt := 207) hx hb dX12_laysWays_164 (by decide) (fun c_35 => ?_) (fun c_35 => ?_)
                            · have c_35 : 10 ≤ kk := (nle 10 kk (by omega) (by omega)).mp c_35
                              refine lv_aload_n hx hb dX12_laysWays_207 rfl (lv_at hl 5 rfl) ?_
                              refine sk_get (v := .ref (g 44)) (C := RX12) (T := TX12) (N := 92) hx hb hts inlX12 hown hK hP 3 rfl rfl 44 (by decide) w_5_199 rfl dX12_laysWays_208 ?_
                              refine lv_bipush (v := 10) hx hb dX12_laysWays_211 (by decide) ?_
                              refine lv_iload_n hx hb dX12_laysWays_213 rfl (lv_at hl 3 rfl) ?_
                              refine lv_imul hx hb dX12_laysWays_214 ?_
                              refine sk_top (nI (10 * i)) (nmul 10 i) ?_
                              refine lv_iload_n hx hb dX12_laysWays_215 rfl (lv_at hl 2 rfl) ?_
                              refine lv_iadd hx hb dX12_laysWays_216 ?_
                              refine sk_top (nI (10 * i + jm)) (nI_add (10 * i) jm) ?_
                              refine lv_lload hx hb dX12_laysWays_217 (lv_at hl 1 rfl) ?_
                              refine sk_lastO (ws' := fun f_36 => [(g 43, .inl (cJ, 90, .inr (.inl zb))), (g 44, .inl (cJ, 90, .inr (.inl f_36))), (g 20, .inl (cI, 4, .inl (l4 (nI l0) (nI l1) (nI dm) (nI l3)))), (mm, .inr (12, mo g (nI ta) (nI pa) (nI pe) pd (nI pb) pp pf pg pn rt rn (nI cd) sn (nI il) tk am at_ aa mt_ (nI bh) wd wt zyb (nI it_) (nI rm) (nI ud) (nI nu) sd (nI qn) (nI qw) qo (nI qb) (nI qp) qa (nI qi) (nI oc))), (g 31, .inl (cI, 120, .inl nw)), (g 38, .inl (cI, 90, .inl ws_)), (g 53, .inl (cI, 32, .inl rw_)), (g 37, .inl (cZ, 900, .inl yo)), (g 36, .inl (cZ, 900, .inl yw))]) hx hb hK hP hD hS 1 1 rfl rfl (vin (10 * i + jm) 90 (by omega) (by omega)) (fun _ => rfl) dX12_laysWays_219 (fun f_36 H locs hP hD hS => ?_)
                              refine lv_iload_n hx hb dX12_laysWays_220 rfl (lv_at hl 3 rfl) ?_
                              refine lv_iload_n hx hb dX12_laysWays_221 rfl (lv_at hl 4 rfl) ?_
                              refine lv_icmp_ne (tgt := 236) hx hb dX12_laysWays_222 (by decide) (fun c_37 => ?_) (fun c_37 => ?_)
                              · have c_37 : ¬ (((i : Nat) : Int) = ((dm : Nat) : Int) - 1) := fun h => c_37 ((ieq (ivn i (by omega)) (ivp dm (by omega))).mpr h)
                                refine lv_iinc (v := nI (jm + 1)) (lv' := [(3, .int (nI (jm + 1))), (6, .int (nI kk)), (4, .long xn), (2, .int (nI i)), (1, .int (nI dm - 1)), (0, .ref mm)]) hx hb dX12_laysWays_236 hl (k := 2) rfl (ninc jm 1 (by decide)) (by decide) rfl (fun ls hl => ?_)
                                refine lv_goto (tgt := 125) hx hb dX12_laysWays_239 (by decide) ?_
                                have hP := hP.sub (ws' := [(g 31, .inl (cI, 120, .inl nw)), (g 38, .inl (cI, 90, .inl ws_)), (g 53, .inl (cI, 32, .inl rw_)), (g 37, .inl (cZ, 900, .inl yo)), (g 36, .inl (cZ, 900, .inl yw)), (g 43, .inl (cJ, 90, .inr (.inl zb))), (g 44, .inl (cJ, 90, .inr (.inl f_36))), (mm, .inr (12, mo g (nI ta) (nI pa) (nI pe) pd (nI pb) pp pf pg pn rt rn (nI cd) sn (nI il) tk am at_ aa mt_ (nI bh) wd wt zyb (nI it_) (nI rm) (nI ud) (nI nu) sd (nI qn) (nI qw) qo (nI qb) (nI qp) qa (nI qi) (nI oc))), (g 20, .inl (cI, 4, .inl (l4 (nI l0) (nI l1) (nI dm) (nI l3))))]) [4, 5, 6, 7, 8, 0, 1, 3, 2] rfl
                                have hD := hD.sub (ws' := [(g 31, .inl (cI, 120, .inl nw)), (g 38, .inl (cI, 90, .inl ws_)), (g 53, .inl (cI, 32, .inl rw_)), (g 37, .inl (cZ, 900, .inl yo)), (g 36, .inl (cZ, 900, .inl yw)), (g 43, .inl (cJ, 90, .inr (.inl zb))), (g 44, .inl (cJ, 90, .inr (.inl f_36))), (mm, .inr (12, mo g (nI ta) (nI pa) (nI pe) pd (nI pb) pp pf pg pn rt rn (nI cd) sn (nI il) tk am at_ aa mt_ (nI bh) wd wt zyb (nI it_) (nI rm) (nI ud) (nI nu) sd (nI qn) (nI qw) qo (nI qb) (nI qp) qa (nI qi) (nI oc))), (g 20, .inl (cI, 4, .inl (l4 (nI l0) (nI l1) (nI dm) (nI l3))))]) [4, 5, 6, 7, 8, 0, 1, 3, 2] (by decide +kernel) rfl
                                exact ih_lp_8 (jm + 1) f_36 zyb _ _ _ (by omega) (by omega) hP hD hS (lv_sub hl [0, 3, 4, 5] rfl)
                              · have c_37 : ((i : Nat) : Int) = ((dm : Nat) : Int) - 1 := (ieq (ivn i (by omega)) (ivp dm (by omega))).mp c_37
                                refine lv_aload_n hx hb dX12_laysWays_225 rfl (lv_at hl 5 rfl) ?_
                                refine lv_dup hx hb dX12_laysWays_226 rfl ?_
                                refine sk_get (v := .long zyb) (C := RX12) (T := TX12) (N := 92) hx hb hts inlX12 hown hK hP 3 rfl rfl 45 (by decide) w_5_200 rfl dX12_laysWays_227 ?_
                                refine lv_lload hx hb dX12_laysWays_230 (lv_at hl 1 rfl) ?_
                                refine lv_ladd hx hb dX12_laysWays_232 ?_
                                refine lv_topl (fun v_38 ev_38 => ?_)
                                refine sk_put (ws' := [(g 43, .inl (cJ, 90, .inr (.inl zb))), (g 44, .inl (cJ, 90, .inr (.inl f_36))), (g 20, .inl (cI, 4, .inl (l4 (nI l0) (nI l1) (nI dm) (nI l3)))), (mm, .inr (12, mo g (nI ta) (nI pa) (nI pe) pd (nI pb) pp pf pg pn rt rn (nI cd) sn (nI il) tk am at_ aa mt_ (nI bh) wd wt v_38 (nI it_) (nI rm) (nI ud) (nI nu) sd (nI qn) (nI qw) qo (nI qb) (nI qp) qa (nI qi) (nI oc))), (g 31, .inl (cI, 120, .inl nw)), (g 38, .inl (cI, 90, .inl ws_)), (g 53, .inl (cI, 32, .inl rw_)), (g 37, .inl (cZ, 900, .inl yo)), (g 36, .inl (cZ, 900, .inl yw))]) (C := RX12) (T := TX12) (N := 92) (v := .long v_38) hx hb hts inlX12 tyX12 tyX12_ok nmX12 hown hK hP hD hS 3 rfl rfl 45 (by decide) w_5_200 rfl rfl rfl (Nat.le_of_ble_eq_true rfl) rfl dX12_laysWays_233 (fun H locs hP hD hS => ?_)
                                refine lv_iinc (v := nI (jm + 1)) (lv' := [(3, .int (nI (jm + 1))), (6, .int (nI kk)), (4, .long xn), (2, .int (nI i)), (1, .int (nI dm - 1)), (0, .ref mm)]) hx hb dX12_laysWays_236 hl (k := 2) rfl (ninc jm 1 (by decide)) (by decide) rfl (fun ls hl => ?_)
                                refine lv_goto (tgt := 125) hx hb dX12_laysWays_239 (by decide) ?_
                                have hP := hP.sub (ws' := [(g 31, .inl (cI, 120, .inl nw)), (g 38, .inl (cI, 90, .inl ws_)), (g 53, .inl (cI, 32, .inl rw_)), (g 37, .inl (cZ, 900, .inl yo)), (g 36, .inl (cZ, 900, .inl yw)), (g 43, .inl (cJ, 90, .inr (.inl zb))), (g 44, .inl (cJ, 90, .inr (.inl f_36))), (mm, .inr (12, mo g (nI ta) (nI pa) (nI pe) pd (nI pb) pp pf pg pn rt rn (nI cd) sn (nI il) tk am at_ aa mt_ (nI bh) wd wt v_38 (nI it_) (nI rm) (nI ud) (nI nu) sd (nI qn) (nI qw) qo (nI qb) (nI qp) qa (nI qi) (nI oc))), (g 20, .inl (cI, 4, .inl (l4 (nI l0) (nI l1) (nI dm) (nI l3))))]) [4, 5, 6, 7, 8, 0, 1, 3, 2] rfl
                                have hD := hD.sub (ws' := [(g 31, .inl (cI, 120, .inl nw)), (g 38, .inl (cI, 90, .inl ws_)), (g 53, .inl (cI, 32, .inl rw_)), (g 37, .inl (cZ, 900, .inl yo)), (g 36, .inl (cZ, 900, .inl yw)), (g 43, .inl (cJ, 90, .inr (.inl zb))), (g 44, .inl (cJ, 90, .inr (.inl f_36))), (mm, .inr (12, mo g (nI ta) (nI pa) (nI pe) pd (nI pb) pp pf pg pn rt rn (nI cd) sn (nI il) tk am at_ aa mt_ (nI bh) wd wt v_38 (nI it_) (nI rm) (nI ud) (nI nu) sd (nI qn) (nI qw) qo (nI qb) (nI qp) qa (nI qi) (nI oc))), (g 20, .inl (cI, 4, .inl (l4 (nI l0) (nI l1) (nI dm) (nI l3))))]) [4, 5, 6, 7, 8, 0, 1, 3, 2] (by decide +kernel) rfl
                                exact ih_lp_8 (jm + 1) f_36 v_38 _ _ _ (by omega) (by omega) hP hD hS (lv_sub hl [0, 3, 4, 5] rfl)
                            · have c_35 : ¬ (10 ≤ kk) := fun h => c_35 ((nle 10 kk (by omega) (by omega)).mpr h)
                              refine lv_iload_n hx hb dX12_laysWays_167 rfl (lv_at hl 3 rfl) ?_
                              refine lv_if_le (tgt := 207) hx hb dX12_laysWays_168 (by decide) (fun c_39 => ?_) (fun c_39 => ?_)
                              · have c_39 : i ≤ 0 := (nle i 0 (by omega) (by omega)).mp c_39
                                refine lv_aload_n hx hb dX12_laysWays_207 rfl (lv_at hl 5 rfl) ?_
                                refine sk_get (v := .ref (g 44)) (C := RX12) (T := TX12) (N := 92) hx hb hts inlX12 hown hK hP 3 rfl rfl 44 (by decide) w_5_199 rfl dX12_laysWays_208 ?_
                                refine lv_bipush (v := 10) hx hb dX12_laysWays_211 (by decide) ?_
                                refine lv_iload_n hx hb dX12_laysWays_213 rfl (lv_at hl 3 rfl) ?_
                                refine lv_imul hx hb dX12_laysWays_214 ?_
                                refine sk_top (nI (10 * i)) (nmul 10 i) ?_
                                refine lv_iload_n hx hb dX12_laysWays_215 rfl (lv_at hl 2 rfl) ?_
                                refine lv_iadd hx hb dX12_laysWays_216 ?_
                                refine sk_top (nI (10 * i + jm)) (nI_add (10 * i) jm) ?_
                                refine lv_lload hx hb dX12_laysWays_217 (lv_at hl 1 rfl) ?_
                                refine sk_lastO (ws' := fun f_40 => [(g 43, .inl (cJ, 90, .inr (.inl zb))), (g 44, .inl (cJ, 90, .inr (.inl f_40))), (g 20, .inl (cI, 4, .inl (l4 (nI l0) (nI l1) (nI dm) (nI l3)))), (mm, .inr (12, mo g (nI ta) (nI pa) (nI pe) pd (nI pb) pp pf pg pn rt rn (nI cd) sn (nI il) tk am at_ aa mt_ (nI bh) wd wt zyb (nI it_) (nI rm) (nI ud) (nI nu) sd (nI qn) (nI qw) qo (nI qb) (nI qp) qa (nI qi) (nI oc))), (g 31, .inl (cI, 120, .inl nw)), (g 38, .inl (cI, 90, .inl ws_)), (g 53, .inl (cI, 32, .inl rw_)), (g 37, .inl (cZ, 900, .inl yo)), (g 36, .inl (cZ, 900, .inl yw))]) hx hb hK hP hD hS 1 1 rfl rfl (vin (10 * i + jm) 90 (by omega) (by omega)) (fun _ => rfl) dX12_laysWays_219 (fun f_40 H locs hP hD hS => ?_)
                                refine lv_iload_n hx hb dX12_laysWays_220 rfl (lv_at hl 3 rfl) ?_
                                refine lv_iload_n hx hb dX12_laysWays_221 rfl (lv_at hl 4 rfl) ?_
                                refine lv_icmp_ne (tgt := 236) hx hb dX12_laysWays_222 (by decide) (fun c_41 => ?_) (fun c_41 => ?_)
                                · have c_41 : ¬ (((i : Nat) : Int) = ((dm : Nat) : Int) - 1) := fun h => c_41 ((ieq (ivn i (by omega)) (ivp dm (by omega))).mpr h)
                                  refine lv_iinc (v := nI (jm + 1)) (lv' := [(3, .int (nI (jm + 1))), (6, .int (nI kk)), (4, .long xn), (2, .int (nI i)), (1, .int (nI dm - 1)), (0, .ref mm)]) hx hb dX12_laysWays_236 hl (k := 2) rfl (ninc jm 1 (by decide)) (by decide) rfl (fun ls hl => ?_)
                                  refine lv_goto (tgt := 125) hx hb dX12_laysWays_239 (by decide) ?_
                                  have hP := hP.sub (ws' := [(g 31, .inl (cI, 120, .inl nw)), (g 38, .inl (cI, 90, .inl ws_)), (g 53, .inl (cI, 32, .inl rw_)), (g 37, .inl (cZ, 900, .inl yo)), (g 36, .inl (cZ, 900, .inl yw)), (g 43, .inl (cJ, 90, .inr (.inl zb))), (g 44, .inl (cJ, 90, .inr (.inl f_40))), (mm, .inr (12, mo g (nI ta) (nI pa) (nI pe) pd (nI pb) pp pf pg pn rt rn (nI cd) sn (nI il) tk am at_ aa mt_ (nI bh) wd wt zyb (nI it_) (nI rm) (nI ud) (nI nu) sd (nI qn) (nI qw) qo (nI qb) (nI qp) qa (nI qi) (nI oc))), (g 20, .inl (cI, 4, .inl (l4 (nI l0) (nI l1) (nI dm) (nI l3))))]) [4, 5, 6, 7, 8, 0, 1, 3, 2] rfl
                                  have hD := hD.sub (ws' := [(g 31, .inl (cI, 120, .inl nw)), (g 38, .inl (cI, 90, .inl ws_)), (g 53, .inl (cI, 32, .inl rw_)), (g 37, .inl (cZ, 900, .inl yo)), (g 36, .inl (cZ, 900, .inl yw)), (g 43, .inl (cJ, 90, .inr (.inl zb))), (g 44, .inl (cJ, 90, .inr (.inl f_40))), (mm, .inr (12, mo g (nI ta) (nI pa) (nI pe) pd (nI pb) pp pf pg pn rt rn (nI cd) sn (nI il) tk am at_ aa mt_ (nI bh) wd wt zyb (nI it_) (nI rm) (nI ud) (nI nu) sd (nI qn) (nI qw) qo (nI qb) (nI qp) qa (nI qi) (nI oc))), (g 20, .inl (cI, 4, .inl (l4 (nI l0) (nI l1) (nI dm) (nI l3))))]) [4, 5, 6, 7, 8, 0, 1, 3, 2] (by decide +kernel) rfl
                                  exact ih_lp_8 (jm + 1) f_40 zyb _ _ _ (by omega) (by omega) hP hD hS (lv_sub hl [0, 3, 4, 5] rfl)
                                · have c_41 : ((i : Nat) : Int) = ((dm : Nat) : Int) - 1 := (ieq (ivn i (by omega)) (ivp dm (by omega))).mp c_41
                                  refine lv_aload_n hx hb dX12_laysWays_225 rfl (lv_at hl 5 rfl) ?_
                                  refine lv_dup hx hb dX12_laysWays_226 rfl ?_
                                  refine sk_get (v := .long zyb) (C := RX12) (T := TX12) (N := 92) hx hb hts inlX12 hown hK hP 3 rfl rfl 45 (by decide) w_5_200 rfl dX12_laysWays_227 ?_
                                  refine lv_lload hx hb dX12_laysWays_230 (lv_at hl 1 rfl) ?_
                                  refine lv_ladd hx hb dX12_laysWays_232 ?_
                                  refine lv_topl (fun v_42 ev_42 => ?_)
                                  refine sk_put (ws' := [(g 43, .inl (cJ, 90, .inr (.inl zb))), (g 44, .inl (cJ, 90, .inr (.inl f_40))), (g 20, .inl (cI, 4, .inl (l4 (nI l0) (nI l1) (nI dm) (nI l3)))), (mm, .inr (12, mo g (nI ta) (nI pa) (nI pe) pd (nI pb) pp pf pg pn rt rn (nI cd) sn (nI il) tk am at_ aa mt_ (nI bh) wd wt v_42 (nI it_) (nI rm) (nI ud) (nI nu) sd (nI qn) (nI qw) qo (nI qb) (nI qp) qa (nI qi) (nI oc))), (g 31, .inl (cI, 120, .inl nw)), (g 38, .inl (cI, 90, .inl ws_)), (g 53, .inl (cI, 32, .inl rw_)), (g 37, .inl (cZ, 900, .inl yo)), (g 36, .inl (cZ, 900, .inl yw))]) (C := RX12) (T := TX12) (N := 92) (v := .long v_42) hx hb hts inlX12 tyX12 tyX12_ok nmX12 hown hK hP hD hS 3 rfl rfl 45 (by decide) w_5_200 rfl rfl rfl (Nat.le_of_ble_eq_true rfl) rfl dX12_laysWays_233 (fun H locs hP hD hS => ?_)
                                  refine lv_iinc (v := nI (jm + 1)) (lv' := [(3, .int (nI (jm + 1))), (6, .int (nI kk)), (4, .long xn), (2, .int (nI i)), (1, .int (nI dm - 1)), (0, .ref mm)]) hx hb dX12_laysWays_236 hl (k := 2) rfl (ninc jm 1 (by decide)) (by decide) rfl (fun ls hl => ?_)
                                  refine lv_goto (tgt := 125) hx hb dX12_laysWays_239 (by decide) ?_
                                  have hP := hP.sub (ws' := [(g 31, .inl (cI, 120, .inl nw)), (g 38, .inl (cI, 90, .inl ws_)), (g 53, .inl (cI, 32, .inl rw_)), (g 37, .inl (cZ, 900, .inl yo)), (g 36, .inl (cZ, 900, .inl yw)), (g 43, .inl (cJ, 90, .inr (.inl zb))), (g 44, .inl (cJ, 90, .inr (.inl f_40))), (mm, .inr (12, mo g (nI ta) (nI pa) (nI pe) pd (nI pb) pp pf pg pn rt rn (nI cd) sn (nI il) tk am at_ aa mt_ (nI bh) wd wt v_42 (nI it_) (nI rm) (nI ud) (nI nu) sd (nI qn) (nI qw) qo (nI qb) (nI qp) qa (nI qi) (nI oc))), (g 20, .inl (cI, 4, .inl (l4 (nI l0) (nI l1) (nI dm) (nI l3))))]) [4, 5, 6, 7, 8, 0, 1, 3, 2] rfl
                                  have hD := hD.sub (ws' := [(g 31, .inl (cI, 120, .inl nw)), (g 38, .inl (cI, 90, .inl ws_)), (g 53, .inl (cI, 32, .inl rw_)), (g 37, .inl (cZ, 900, .inl yo)), (g 36, .inl (cZ, 900, .inl yw)), (g 43, .inl (cJ, 90, .inr (.inl zb))), (g 44, .inl (cJ, 90, .inr (.inl f_40))), (mm, .inr (12, mo g (nI ta) (nI pa) (nI pe) pd (nI pb) pp pf pg pn rt rn (nI cd) sn (nI il) tk am at_ aa mt_ (nI bh) wd wt v_42 (nI it_) (nI rm) (nI ud) (nI nu) sd (nI qn) (nI qw) qo (nI qb) (nI qp) qa (nI qi) (nI oc))), (g 20, .inl (cI, 4, .inl (l4 (nI l0) (nI l1) (nI dm) (nI l3))))]) [4, 5, 6, 7, 8, 0, 1, 3, 2] (by decide +kernel) rfl
                                  exact ih_lp_8 (jm + 1) f_40 v_42 _ _ _ (by omega) (by omega) hP hD hS (lv_sub hl [0, 3, 4, 5] rfl)
                              · have c_39 : ¬ (i ≤ 0) := fun h => c_39 ((nle i 0 (by omega) (by omega)).mpr h)
                                refine lv_aload_n hx hb dX12_laysWays_171 rfl (lv_at hl 5 rfl) ?_
                                refine lv_iload_n hx hb dX12_laysWays_172 rfl (lv_at hl 3 rfl) ?_
                                refine lv_iload hx hb dX12_laysWays_173 (lv_at hl 0 rfl) ?_
                                refine lv_iload_n hx hb dX12_laysWays_175 rfl (lv_at hl 2 rfl) ?_
                                refine sk_Vi (q0 := 0) (n := 3) (rest := []) (wr := [(g 43, .inl (cJ, 90, .inr (.inl zb))), (g 44, .inl (cJ, 90, .inr (.inl zg))), (g 20, .inl (cI, 4, .inl (l4 (nI l0) (nI l1) (nI dm) (nI l3))))]) ⟨hx, hb, hml, hown, hts⟩ hl.1 (c_m_canFollowS l D cI cJ cC cZ cS mm g ta pa pe pd pb pp pf pg pn rt rn cd sn il tk am at_ aa mt_ bh wd wt zyb it_ rm ud nu sd qn qw qo qb qp qa qi oc i kk jm nw ws_ rw_ yo yw (by omega) (by omega) (by omega) (by omega) (by omega) hnw) w_7_201 w_7_203 w_0_85 w_1_14 w_7_204 (by decide +kernel) ⟨⟨(Nat.le_of_ble_eq_true rfl), (Nat.le_of_ble_eq_true rfl)⟩, (Nat.le_of_ble_eq_true rfl), (Nat.le_of_ble_eq_true rfl)⟩ hK hP hD hS hA [3, 4, 5, 6, 7, 8] [0, 1, 2] rfl rfl (by decide +kernel) (by decide +kernel) (by decide +kernel) rfl rfl rfl rfl (Nat.le_of_ble_eq_true rfl) dX12_laysWays_176 (fun r_44 u H locs hw hP hD hS => ?_)
                                obtain ⟨b_43, hb1_45, rfl, rfl⟩ := hw
                                have hP : va_P D vwCl [(g 43, .inl (cJ, 90, .inr (.inl zb))), (g 44, .inl (cJ, 90, .inr (.inl zg))), (g 20, .inl (cI, 4, .inl (l4 (nI l0) (nI l1) (nI dm) (nI l3)))), (mm, .inr (12, mo g (nI ta) (nI pa) (nI pe) pd (nI pb) pp pf pg pn rt rn (nI cd) sn (nI il) tk am at_ aa mt_ (nI bh) wd wt zyb (nI it_) (nI rm) (nI ud) (nI nu) sd (nI qn) (nI qw) qo (nI qb) (nI qp) qa (nI qi) (nI oc))), (g 31, .inl (cI, 120, .inl nw)), (g 38, .inl (cI, 90, .inl ws_)), (g 53, .inl (cI, 32, .inl rw_)), (g 37, .inl (cZ, 900, .inl yo)), (g 36, .inl (cZ, 900, .inl yw))] H := hP
                                have hD : va_D A [(g 43, .inl (cJ, 90, .inr (.inl zb))), (g 44, .inl (cJ, 90, .inr (.inl zg))), (g 20, .inl (cI, 4, .inl (l4 (nI l0) (nI l1) (nI dm) (nI l3)))), (mm, .inr (12, mo g (nI ta) (nI pa) (nI pe) pd (nI pb) pp pf pg pn rt rn (nI cd) sn (nI il) tk am at_ aa mt_ (nI bh) wd wt zyb (nI it_) (nI rm) (nI ud) (nI nu) sd (nI qn) (nI qw) qo (nI qb) (nI qp) qa (nI qi) (nI oc))), (g 31, .inl (cI, 120, .inl nw)), (g 38, .inl (cI, 90, .inl ws_)), (g 53, .inl (cI, 32, .inl rw_)), (g 37, .inl (cZ, 900, .inl yo)), (g 36, .inl (cZ, 900, .inl yw))] := hD
                                refine lv_if_eq (tgt := 201) hx hb dX12_laysWays_179 (by decide) (fun c_46 => ?_) (fun c_46 => ?_)
                                · have c_46 : b_43 = 0 := (neq b_43 0 (by omega) (by omega)).mp c_46
                                  refine lv_iinc (v := nI (kk + 1)) (lv' := [(6, .int (nI (kk + 1))), (4, .long xn), (3, .int (nI jm)), (2, .int (nI i)), (1, .int (nI dm - 1)), (0, .ref mm)]) hx hb dX12_laysWays_201 hl (k := 0) rfl (ninc kk 1 (by decide)) (by decide) rfl (fun ls hl => ?_)
                                  refine lv_goto (tgt := 160) hx hb dX12_laysWays_204 (by decide) ?_
                                  exact ih_lp_33 (kk + 1) xn _ _ _ (by omega) (by omega) hP hD hS (lv_sub hl [0, 1, 2, 3, 4, 5] rfl)
                                · have c_46 : ¬ (b_43 = 0) := fun h => c_46 ((neq b_43 0 (by omega) (by omega)).mpr h)
                                  refine lv_lload hx hb dX12_laysWays_182 (lv_at hl 1 rfl) ?_
                                  refine lv_aload_n hx hb dX12_laysWays_184 rfl (lv_at hl 5 rfl) ?_
                                  refine sk_get (v := .ref (g 44)) (C := RX12) (T := TX12) (N := 92) hx hb hts inlX12 hown hK hP 3 rfl rfl 44 (by decide) w_5_199 rfl dX12_laysWays_185 ?_
                                  refine lv_bipush (v := 10) hx hb dX12_laysWays_188 (by decide) ?_
                                  refine lv_iload_n hx hb dX12_laysWays_190 rfl (lv_at hl 3 rfl) ?_
                                  refine lv_iconst (v := 1) hx hb dX12_laysWays_191 (by decide) ?_
                                  refine lv_isub hx hb dX12_laysWays_192 ?_
                                  refine sk_top (nI (i - 1)) (nsub i 1 (by omega)) ?_
                                  refine lv_imul hx hb dX12_laysWays_193 ?_
                                  refine sk_top (nI (10 * (i - 1))) (nmul 10 (i - 1)) ?_
                                  refine lv_iload hx hb dX12_laysWays_194 (lv_at hl 0 rfl) ?_
                                  refine lv_iadd hx hb dX12_laysWays_196 ?_
                                  refine sk_top (nI (10 * (i - 1) + kk)) (nI_add (10 * (i - 1)) kk) ?_
                                  refine va_lald hx hb hK.1 hP 1 1 rfl rfl (vin (10 * (i - 1) + kk) 90 (by omega) (by omega)) dX12_laysWays_197 ?_
                                  refine lv_topl (fun v_47 ev_47 => ?_)
                                  refine lv_ladd hx hb dX12_laysWays_198 ?_
                                  refine lv_topl (fun v_48 ev_48 => ?_)
                                  refine lv_lstore (lv' := [(4, .long v_48), (6, .int (nI kk)), (3, .int (nI jm)), (2, .int (nI i)), (1, .int (nI dm - 1)), (0, .ref mm)]) hx hb dX12_laysWays_199 hl (by decide) rfl (fun ls hl => ?_)
                                  refine lv_iinc (v := nI (kk + 1)) (lv' := [(6, .int (nI (kk + 1))), (4, .long v_48), (3, .int (nI jm)), (2, .int (nI i)), (1, .int (nI dm - 1)), (0, .ref mm)]) hx hb dX12_laysWays_201 hl (k := 1) rfl (ninc kk 1 (by decide)) (by decide) rfl (fun ls hl => ?_)
                                  refine lv_goto (tgt := 160) hx hb dX12_laysWays_204 (by decide) ?_
                                  exact ih_lp_33 (kk + 1) v_48 _ _ _ (by omega) (by omega) hP hD hS (lv_sub hl [0, 1, 2, 3, 4, 5] rfl)
                        exact lp_33 (10 - 0 + 1) 0 0 _ _ _ (Nat.lt_succ_self _) (by omega) hP hD hS (lv_sub hl [0, 1, 2, 3, 4, 5] rfl)
                      · have c_32 : ¬ (b_29 = 0) := fun h => c_32 ((neq b_29 0 (by omega) (by omega)).mpr h)
                        refine lv_lconst (v := 1) hx hb dX12_laysWays_150 (by decide) ?_
                        refine lv_goto (tgt := 155) hx hb dX12_laysWays_151 (by decide) ?_
                        refine lv_lstore (lv' := [(4, .long 1), (3, .int (nI jm)), (2, .int (nI i)), (1, .int (nI dm - 1)), (0, .ref mm)]) hx hb dX12_laysWays_155 hl (by decide) rfl (fun ls hl => ?_)
                        refine lv_iconst (v := 0) hx hb dX12_laysWays_157 (by decide) ?_
                        refine lv_istore (lv' := [(6, .int 0), (4, .long 1), (3, .int (nI jm)), (2, .int (nI i)), (1, .int (nI dm - 1)), (0, .ref mm)]) hx hb dX12_laysWays_158 hl (by decide) rfl (fun ls hl => ?_)
                        have lp_49 : ∀ (n_50 : Nat) (kk : Nat) (xn : Int64) (H : Heap) (locs : List Loc) (ls : Array Slot), 10 - kk < n_50 → (kk ≤ 10) → va_P D vwCl [(g 43, .inl (cJ, 90, .inr (.inl zb))), (g 44, .inl (cJ, 90, .inr (.inl zg))), (g 20, .inl (cI, 4, .inl (l4 (nI l0) (nI l1) (nI dm) (nI l3)))), (mm, .inr (12, mo g (nI ta) (nI pa) (nI pe) pd (nI pb) pp pf pg pn rt rn (nI cd) sn (nI il) tk am at_ aa mt_ (nI bh) wd wt zyb (nI it_) (nI rm) (nI ud) (nI nu) sd (nI qn) (nI qw) qo (nI qb) (nI qp) qa (nI qi) (nI oc))), (g 31, .inl (cI, 120, .inl nw)), (g 38, .inl (cI, 90, .inl ws_)), (g 53, .inl (cI, 32, .inl rw_)), (g 37, .inl (cZ, 900, .inl yo)), (g 36, .inl (cZ, 900, .inl yw))] H → va_D A [(g 43, .inl (cJ, 90, .inr (.inl zb))), (g 44, .inl (cJ, 90, .inr (.inl zg))), (g 20, .inl (cI, 4, .inl (l4 (nI l0) (nI l1) (nI dm) (nI l3)))), (mm, .inr (12, mo g (nI ta) (nI pa) (nI pe) pd (nI pb) pp pf pg pn rt rn (nI cd) sn (nI il) tk am at_ aa mt_ (nI bh) wd wt zyb (nI it_) (nI rm) (nI ud) (nI nu) sd (nI qn) (nI qw) qo (nI qb) (nI qp) qa (nI qi) (nI oc))), (g 31, .inl (cI, 120, .inl nw)), (g 38, .inl (cI, 90, .inl ws_)), (g 53, .inl (cI, 32, .inl rw_)), (g 37, .inl (cZ, 900, .inl yo)), (g 36, .inl (cZ, 900, .inl yw))] → va_S A s.heap H locs → lv_has ls 7 [(6, .int (nI kk)), (4, .long xn), (3, .int (nI jm)), (2, .int (nI i)), (1, .int (nI dm - 1)), (0, .ref mm)] → W p l e { frames := 3, cells := 0, slots := 0, locals := 68 } s m ([.ref mm] : List Value).toArray below meth c H locs 0 0 (MQ below (skV D (skT cI cJ cC cZ cS) (fun (u : va_W) => ∃ (wy2 : Int64), ∃ (be2 : Nat → Int64), ∃ (bf2 : Nat → Int64), u = [(mm, .inr (12, mo g (nI ta) (nI pa) (nI pe) pd (nI pb) pp pf pg pn rt rn (nI cd) sn (nI il) tk am at_ aa mt_ (nI bh) wd wt wy2 (nI it_) (nI rm) (nI ud) (nI nu) sd (nI qn) (nI qw) qo (nI qb) (nI qp) qa (nI qi) (nI oc))), (g 20, .inl (cI, 4, .inl (l4 (nI l0) (nI l1) (nI dm) (nI l3)))), (g 31, .inl (cI, 120, .inl nw)), (g 38, .inl (cI, 90, .inl ws_)), (g 53, .inl (cI, 32, .inl rw_)), (g 37, .inl (cZ, 900, .inl yo)), (g 36, .inl (cZ, 900, .inl yw)), (g 43, .inl (cJ, 90, .inr (.inl be2))), (g 44, .inl (cJ, 90, .inr (.inl bf2)))]) A) ([.ref mm] : List Value).toArray s 0 0 A) (F0 m 160 ls []) := by
                          intro n_50
                          induction n_50 with
                          | zero => intro kk xn H locs ls hm; exact absurd hm (Nat.not_lt_zero _)
                          | succ n_50 ih_lp_49 =>
                            intro kk xn H locs ls hm hkk hP hD hS hl
                            refine lv_iload hx hb dX12_laysWays_160 (lv_at hl 0 rfl) ?_
                            refine lv_bipush (v := 10) hx hb dX12_laysWays_162 (by decide) ?_
                            refine lv_icmp_ge (tgt := 207) hx hb dX12_laysWays_164 (by decide) (fun c_51 => ?_) (fun c_51 => ?_)
                            · have c_51 : 10 ≤ kk := (nle 10 kk (by omega) (by omega)).mp c_51
                              refine lv_aload_n hx hb dX12_laysWays_207 rfl (lv_at hl 5 rfl) ?_
                              refine sk_get (v := .ref (g 44)) (C := RX12) (T := TX12) (N := 92) hx hb hts inlX12 hown hK hP 3 rfl rfl 44 (by decide) w_5_199 rfl dX12_laysWays_208 ?_
                              refine lv_bipush (v := 10) hx hb dX12_laysWays_211 (by decide) ?_
                              refine lv_iload_n hx hb dX12_laysWays_213 rfl (lv_at hl 3 rfl) ?_
                              refine lv_imul hx hb dX12_laysWays_214 ?_
                              refine sk_top (nI (10 * i)) (nmul 10 i) ?_
                              refine lv_iload_n hx hb dX12_laysWays_215 rfl (lv_at hl 2 rfl) ?_
                              refine lv_iadd hx hb dX12_laysWays_216 ?_
                              refine sk_top (nI (10 * i + jm)) (nI_add (10 * i) jm) ?_
                              refine lv_lload hx hb dX12_laysWays_217 (lv_at hl 1 rfl) ?_
                              refine sk_lastO (ws' := fun f_52 => [(g 43, .inl (cJ, 90, .inr (.inl zb))), (g 44, .inl (cJ, 90, .inr (.inl f_52))), (g 20, .inl (cI, 4, .inl (l4 (nI l0) (nI l1) (nI dm) (nI l3)))), (mm, .inr (12, mo g (nI ta) (nI pa) (nI pe) pd (nI pb) pp pf pg pn rt rn (nI cd) sn (nI il) tk am at_ aa mt_ (nI bh) wd wt zyb (nI it_) (nI rm) (nI ud) (nI nu) sd (nI qn) (nI qw) qo (nI qb) (nI qp) qa (nI qi) (nI oc))), (g 31, .inl (cI, 120, .inl nw)), (g 38, .inl (cI, 90, .inl ws_)), (g 53, .inl (cI, 32, .inl rw_)), (g 37, .inl (cZ, 900, .inl yo)), (g 36, .inl (cZ, 900, .inl yw))]) hx hb hK hP hD hS 1 1 rfl rfl (vin (10 * i + jm) 90 (by omega) (by omega)) (fun _ => rfl) dX12_laysWays_219 (fun f_52 H locs hP hD hS => ?_)
                              refine lv_iload_n hx hb dX12_laysWays_220 rfl (lv_at hl 3 rfl) ?_
                              refine lv_iload_n hx hb dX12_laysWays_221 rfl (lv_at hl 4 rfl) ?_
                              refine lv_icmp_ne (tgt := 236) hx hb dX12_laysWays_222 (by decide) (fun c_53 => ?_) (fun c_53 => ?_)
                              · have c_53 : ¬ (((i : Nat) : Int) = ((dm : Nat) : Int) - 1) := fun h => c_53 ((ieq (ivn i (by omega)) (ivp dm (by omega))).mpr h)
                                refine lv_iinc (v := nI (jm + 1)) (lv' := [(3, .int (nI (jm + 1))), (6, .int (nI kk)), (4, .long xn), (2, .int (nI i)), (1, .int (nI dm - 1)), (0, .ref mm)]) hx hb dX12_laysWays_236 hl (k := 2) rfl (ninc jm 1 (by decide)) (by decide) rfl (fun ls hl => ?_)
                                refine lv_goto (tgt := 125) hx hb dX12_laysWays_239 (by decide) ?_
                                have hP := hP.sub (ws' := [(g 31, .inl (cI, 120, .inl nw)), (g 38, .inl (cI, 90, .inl ws_)), (g 53, .inl (cI, 32, .inl rw_)), (g 37, .inl (cZ, 900, .inl yo)), (g 36, .inl (cZ, 900, .inl yw)), (g 43, .inl (cJ, 90, .inr (.inl zb))), (g 44, .inl (cJ, 90, .inr (.inl f_52))), (mm, .inr (12, mo g (nI ta) (nI pa) (nI pe) pd (nI pb) pp pf pg pn rt rn (nI cd) sn (nI il) tk am at_ aa mt_ (nI bh) wd wt zyb (nI it_) (nI rm) (nI ud) (nI nu) sd (nI qn) (nI qw) qo (nI qb) (nI qp) qa (nI qi) (nI oc))), (g 20, .inl (cI, 4, .inl (l4 (nI l0) (nI l1) (nI dm) (nI l3))))]) [4, 5, 6, 7, 8, 0, 1, 3, 2] rfl
                                have hD := hD.sub (ws' := [(g 31, .inl (cI, 120, .inl nw)), (g 38, .inl (cI, 90, .inl ws_)), (g 53, .inl (cI, 32, .inl rw_)), (g 37, .inl (cZ, 900, .inl yo)), (g 36, .inl (cZ, 900, .inl yw)), (g 43, .inl (cJ, 90, .inr (.inl zb))), (g 44, .inl (cJ, 90, .inr (.inl f_52))), (mm, .inr (12, mo g (nI ta) (nI pa) (nI pe) pd (nI pb) pp pf pg pn rt rn (nI cd) sn (nI il) tk am at_ aa mt_ (nI bh) wd wt zyb (nI it_) (nI rm) (nI ud) (nI nu) sd (nI qn) (nI qw) qo (nI qb) (nI qp) qa (nI qi) (nI oc))), (g 20, .inl (cI, 4, .inl (l4 (nI l0) (nI l1) (nI dm) (nI l3))))]) [4, 5, 6, 7, 8, 0, 1, 3, 2] (by decide +kernel) rfl
                                exact ih_lp_8 (jm + 1) f_52 zyb _ _ _ (by omega) (by omega) hP hD hS (lv_sub hl [0, 3, 4, 5] rfl)
                              · have c_53 : ((i : Nat) : Int) = ((dm : Nat) : Int) - 1 := (ieq (ivn i (by omega)) (ivp dm (by omega))).mp c_53
                                refine lv_aload_n hx hb dX12_laysWays_225 rfl (lv_at hl 5 rfl) ?_
                                refine lv_dup hx hb dX12_laysWays_226 rfl ?_
                                refine sk_get (v := .long zyb) (C := RX12) (T := TX12) (N := 92) hx hb hts inlX12 hown hK hP 3 rfl rfl 45 (by decide) w_5_200 rfl dX12_laysWays_227 ?_
                                refine lv_lload hx hb dX12_laysWays_230 (lv_at hl 1 rfl) ?_
                                refine lv_ladd hx hb dX12_laysWays_232 ?_
                                refine lv_topl (fun v_54 ev_54 => ?_)
                                refine sk_put (ws' := [(g 43, .inl (cJ, 90, .inr (.inl zb))), (g 44, .inl (cJ, 90, .inr (.inl f_52))), (g 20, .inl (cI, 4, .inl (l4 (nI l0) (nI l1) (nI dm) (nI l3)))), (mm, .inr (12, mo g (nI ta) (nI pa) (nI pe) pd (nI pb) pp pf pg pn rt rn (nI cd) sn (nI il) tk am at_ aa mt_ (nI bh) wd wt v_54 (nI it_) (nI rm) (nI ud) (nI nu) sd (nI qn) (nI qw) qo (nI qb) (nI qp) qa (nI qi) (nI oc))), (g 31, .inl (cI, 120, .inl nw)), (g 38, .inl (cI, 90, .inl ws_)), (g 53, .inl (cI, 32, .inl rw_)), (g 37, .inl (cZ, 900, .inl yo)), (g 36, .inl (cZ, 900, .inl yw))]) (C := RX12) (T := TX12) (N := 92) (v := .long v_54) hx hb hts inlX12 tyX12 tyX12_ok nmX12 hown hK hP hD hS 3 rfl rfl 45 (by decide) w_5_200 rfl rfl rfl (Nat.le_of_ble_eq_true rfl) rfl dX12_laysWays_233 (fun H locs hP hD hS => ?_)
                                refine lv_iinc (v := nI (jm + 1)) (lv' := [(3, .int (nI (jm + 1))), (6, .int (nI kk)), (4, .long xn), (2, .int (nI i)), (1, .int (nI dm - 1)), (0, .ref mm)]) hx hb dX12_laysWays_236 hl (k := 2) rfl (ninc jm 1 (by decide)) (by decide) rfl (fun ls hl => ?_)
                                refine lv_goto (tgt := 125) hx hb dX12_laysWays_239 (by decide) ?_
                                have hP := hP.sub (ws' := [(g 31, .inl (cI, 120, .inl nw)), (g 38, .inl (cI, 90, .inl ws_)), (g 53, .inl (cI, 32, .inl rw_)), (g 37, .inl (cZ, 900, .inl yo)), (g 36, .inl (cZ, 900, .inl yw)), (g 43, .inl (cJ, 90, .inr (.inl zb))), (g 44, .inl (cJ, 90, .inr (.inl f_52))), (mm, .inr (12, mo g (nI ta) (nI pa) (nI pe) pd (nI pb) pp pf pg pn rt rn (nI cd) sn (nI il) tk am at_ aa mt_ (nI bh) wd wt v_54 (nI it_) (nI rm) (nI ud) (nI nu) sd (nI qn) (nI qw) qo (nI qb) (nI qp) qa (nI qi) (nI oc))), (g 20, .inl (cI, 4, .inl (l4 (nI l0) (nI l1) (nI dm) (nI l3))))]) [4, 5, 6, 7, 8, 0, 1, 3, 2] rfl
                                have hD := hD.sub (ws' := [(g 31, .inl (cI, 120, .inl nw)), (g 38, .inl (cI, 90, .inl ws_)), (g 53, .inl (cI, 32, .inl rw_)), (g 37, .inl (cZ, 900, .inl yo)), (g 36, .inl (cZ, 900, .inl yw)), (g 43, .inl (cJ, 90, .inr (.inl zb))), (g 44, .inl (cJ, 90, .inr (.inl f_52))), (mm, .inr (12, mo g (nI ta) (nI pa) (nI pe) pd (nI pb) pp pf pg pn rt rn (nI cd) sn (nI il) tk am at_ aa mt_ (nI bh) wd wt v_54 (nI it_) (nI rm) (nI ud) (nI nu) sd (nI qn) (nI qw) qo (nI qb) (nI qp) qa (nI qi) (nI oc))), (g 20, .inl (cI, 4, .inl (l4 (nI l0) (nI l1) (nI dm) (nI l3))))]) [4, 5, 6, 7, 8, 0, 1, 3, 2] (by decide +kernel) rfl
                                exact ih_lp_8 (jm + 1) f_52 v_54 _ _ _ (by omega) (by omega) hP hD hS (lv_sub hl [0, 3, 4, 5] rfl)
                            · have c_51 : ¬ (10 ≤ kk) := fun h => c_51 ((nle 10 kk (by omega) (by omega)).mpr h)
                              refine lv_iload_n hx hb dX12_laysWays_167 rfl (lv_at hl 3 rfl) ?_
                              refine lv_if_le (tgt := 207) hx hb dX12_laysWays_168 (by decide) (fun c_55 => ?_) (fun c_55 => ?_)
                              · have c_55 : i ≤ 0 := (nle i 0 (by omega) (by omega)).mp c_55
                                refine lv_aload_n hx hb dX12_laysWays_207 rfl (lv_at hl 5 rfl) ?_
                                refine sk_get (v := .ref (g 44)) (C := RX12) (T := TX12) (N := 92) hx hb hts inlX12 hown hK hP 3 rfl rfl 44 (by decide) w_5_199 rfl dX12_laysWays_208 ?_
                                refine lv_bipush (v := 10) hx hb dX12_laysWays_211 (by decide) ?_
                                refine lv_iload_n hx hb dX12_laysWays_213 rfl (lv_at hl 3 rfl) ?_
                                refine lv_imul hx hb dX12_laysWays_214 ?_
                                refine sk_top (nI (10 * i)) (nmul 10 i) ?_
                                refine lv_iload_n hx hb dX12_laysWays_215 rfl (lv_at hl 2 rfl) ?_
                                refine lv_iadd hx hb dX12_laysWays_216 ?_
                                refine sk_top (nI (10 * i + jm)) (nI_add (10 * i) jm) ?_
                                refine lv_lload hx hb dX12_laysWays_217 (lv_at hl 1 rfl) ?_
                                refine sk_lastO (ws' := fun f_56 => [(g 43, .inl (cJ, 90, .inr (.inl zb))), (g 44, .inl (cJ, 90, .inr (.inl f_56))), (g 20, .inl (cI, 4, .inl (l4 (nI l0) (nI l1) (nI dm) (nI l3)))), (mm, .inr (12, mo g (nI ta) (nI pa) (nI pe) pd (nI pb) pp pf pg pn rt rn (nI cd) sn (nI il) tk am at_ aa mt_ (nI bh) wd wt zyb (nI it_) (nI rm) (nI ud) (nI nu) sd (nI qn) (nI qw) qo (nI qb) (nI qp) qa (nI qi) (nI oc))), (g 31, .inl (cI, 120, .inl nw)), (g 38, .inl (cI, 90, .inl ws_)), (g 53, .inl (cI, 32, .inl rw_)), (g 37, .inl (cZ, 900, .inl yo)), (g 36, .inl (cZ, 900, .inl yw))]) hx hb hK hP hD hS 1 1 rfl rfl (vin (10 * i + jm) 90 (by omega) (by omega)) (fun _ => rfl) dX12_laysWays_219 (fun f_56 H locs hP hD hS => ?_)
                                refine lv_iload_n hx hb dX12_laysWays_220 rfl (lv_at hl 3 rfl) ?_
                                refine lv_iload_n hx hb dX12_laysWays_221 rfl (lv_at hl 4 rfl) ?_
                                refine lv_icmp_ne (tgt := 236) hx hb dX12_laysWays_222 (by decide) (fun c_57 => ?_) (fun c_57 => ?_)
                                · have c_57 : ¬ (((i : Nat) : Int) = ((dm : Nat) : Int) - 1) := fun h => c_57 ((ieq (ivn i (by omega)) (ivp dm (by omega))).mpr h)
                                  refine lv_iinc (v := nI (jm + 1)) (lv' := [(3, .int (nI (jm + 1))), (6, .int (nI kk)), (4, .long xn), (2, .int (nI i)), (1, .int (nI dm - 1)), (0, .ref mm)]) hx hb dX12_laysWays_236 hl (k := 2) rfl (ninc jm 1 (by decide)) (by decide) rfl (fun ls hl => ?_)
                                  refine lv_goto (tgt := 125) hx hb dX12_laysWays_239 (by decide) ?_
                                  have hP := hP.sub (ws' := [(g 31, .inl (cI, 120, .inl nw)), (g 38, .inl (cI, 90, .inl ws_)), (g 53, .inl (cI, 32, .inl rw_)), (g 37, .inl (cZ, 900, .inl yo)), (g 36, .inl (cZ, 900, .inl yw)), (g 43, .inl (cJ, 90, .inr (.inl zb))), (g 44, .inl (cJ, 90, .inr (.inl f_56))), (mm, .inr (12, mo g (nI ta) (nI pa) (nI pe) pd (nI pb) pp pf pg pn rt rn (nI cd) sn (nI il) tk am at_ aa mt_ (nI bh) wd wt zyb (nI it_) (nI rm) (nI ud) (nI nu) sd (nI qn) (nI qw) qo (nI qb) (nI qp) qa (nI qi) (nI oc))), (g 20, .inl (cI, 4, .inl (l4 (nI l0) (nI l1) (nI dm) (nI l3))))]) [4, 5, 6, 7, 8, 0, 1, 3, 2] rfl
                                  have hD := hD.sub (ws' := [(g 31, .inl (cI, 120, .inl nw)), (g 38, .inl (cI, 90, .inl ws_)), (g 53, .inl (cI, 32, .inl rw_)), (g 37, .inl (cZ, 900, .inl yo)), (g 36, .inl (cZ, 900, .inl yw)), (g 43, .inl (cJ, 90, .inr (.inl zb))), (g 44, .inl (cJ, 90, .inr (.inl f_56))), (mm, .inr (12, mo g (nI ta) (nI pa) (nI pe) pd (nI pb) pp pf pg pn rt rn (nI cd) sn (nI il) tk am at_ aa mt_ (nI bh) wd wt zyb (nI it_) (nI rm) (nI ud) (nI nu) sd (nI qn) (nI qw) qo (nI qb) (nI qp) qa (nI qi) (nI oc))), (g 20, .inl (cI, 4, .inl (l4 (nI l0) (nI l1) (nI dm) (nI l3))))]) [4, 5, 6, 7, 8, 0, 1, 3, 2] (by decide +kernel) rfl
                                  exact ih_lp_8 (jm + 1) f_56 zyb _ _ _ (by omega) (by omega) hP hD hS (lv_sub hl [0, 3, 4, 5] rfl)
                                · have c_57 : ((i : Nat) : Int) = ((dm : Nat) : Int) - 1 := (ieq (ivn i (by omega)) (ivp dm (by omega))).mp c_57
                                  refine lv_aload_n hx hb dX12_laysWays_225 rfl (lv_at hl 5 rfl) ?_
                                  refine lv_dup hx hb dX12_laysWays_226 rfl ?_
                                  refine sk_get (v := .long zyb) (C := RX12) (T := TX12) (N := 92) hx hb hts inlX12 hown hK hP 3 rfl rfl 45 (by decide) w_5_200 rfl dX12_laysWays_227 ?_
                                  refine lv_lload hx hb dX12_laysWays_230 (lv_at hl 1 rfl) ?_
                                  refine lv_ladd hx hb dX12_laysWays_232 ?_
                                  refine lv_topl (fun v_58 ev_58 => ?_)
                                  refine sk_put (ws' := [(g 43, .inl (cJ, 90, .inr (.inl zb))), (g 44, .inl (cJ, 90, .inr (.inl f_56))), (g 20, .inl (cI, 4, .inl (l4 (nI l0) (nI l1) (nI dm) (nI l3)))), (mm, .inr (12, mo g (nI ta) (nI pa) (nI pe) pd (nI pb) pp pf pg pn rt rn (nI cd) sn (nI il) tk am at_ aa mt_ (nI bh) wd wt v_58 (nI it_) (nI rm) (nI ud) (nI nu) sd (nI qn) (nI qw) qo (nI qb) (nI qp) qa (nI qi) (nI oc))), (g 31, .inl (cI, 120, .inl nw)), (g 38, .inl (cI, 90, .inl ws_)), (g 53, .inl (cI, 32, .inl rw_)), (g 37, .inl (cZ, 900, .inl yo)), (g 36, .inl (cZ, 900, .inl yw))]) (C := RX12) (T := TX12) (N := 92) (v := .long v_58) hx hb hts inlX12 tyX12 tyX12_ok nmX12 hown hK hP hD hS 3 rfl rfl 45 (by decide) w_5_200 rfl rfl rfl (Nat.le_of_ble_eq_true rfl) rfl dX12_laysWays_233 (fun H locs hP hD hS => ?_)
                                  refine lv_iinc (v := nI (jm + 1)) (lv' := [(3, .int (nI (jm + 1))), (6, .int (nI kk)), (4, .long xn), (2, .int (nI i)), (1, .int (nI dm - 1)), (0, .ref mm)]) hx hb dX12_laysWays_236 hl (k := 2) rfl (ninc jm 1 (by decide)) (by decide) rfl (fun ls hl => ?_)
                                  refine lv_goto (tgt := 125) hx hb dX12_laysWays_239 (by decide) ?_
                                  have hP := hP.sub (ws' := [(g 31, .inl (cI, 120, .inl nw)), (g 38, .inl (cI, 90, .inl ws_)), (g 53, .inl (cI, 32, .inl rw_)), (g 37, .inl (cZ, 900, .inl yo)), (g 36, .inl (cZ, 900, .inl yw)), (g 43, .inl (cJ, 90, .inr (.inl zb))), (g 44, .inl (cJ, 90, .inr (.inl f_56))), (mm, .inr (12, mo g (nI ta) (nI pa) (nI pe) pd (nI pb) pp pf pg pn rt rn (nI cd) sn (nI il) tk am at_ aa mt_ (nI bh) wd wt v_58 (nI it_) (nI rm) (nI ud) (nI nu) sd (nI qn) (nI qw) qo (nI qb) (nI qp) qa (nI qi) (nI oc))), (g 20, .inl (cI, 4, .inl (l4 (nI l0) (nI l1) (nI dm) (nI l3))))]) [4, 5, 6, 7, 8, 0, 1, 3, 2] rfl
                                  have hD := hD.sub (ws' := [(g 31, .inl (cI, 120, .inl nw)), (g 38, .inl (cI, 90, .inl ws_)), (g 53, .inl (cI, 32, .inl rw_)), (g 37, .inl (cZ, 900, .inl yo)), (g 36, .inl (cZ, 900, .inl yw)), (g 43, .inl (cJ, 90, .inr (.inl zb))), (g 44, .inl (cJ, 90, .inr (.inl f_56))), (mm, .inr (12, mo g (nI ta) (nI pa) (nI pe) pd (nI pb) pp pf pg pn rt rn (nI cd) sn (nI il) tk am at_ aa mt_ (nI bh) wd wt v_58 (nI it_) (nI rm) (nI ud) (nI nu) sd (nI qn) (nI qw) qo (nI qb) (nI qp) qa (nI qi) (nI oc))), (g 20, .inl (cI, 4, .inl (l4 (nI l0) (nI l1) (nI dm) (nI l3))))]) [4, 5, 6, 7, 8, 0, 1, 3, 2] (by decide +kernel) rfl
                                  exact ih_lp_8 (jm + 1) f_56 v_58 _ _ _ (by omega) (by omega) hP hD hS (lv_sub hl [0, 3, 4, 5] rfl)
                              · have c_55 : ¬ (i ≤ 0) := fun h => c_55 ((nle i 0 (by omega) (by omega)).mpr h)
                                refine lv_aload_n hx hb dX12_laysWays_171 rfl (lv_at hl 5 rfl) ?_
                                refine lv_iload_n hx hb dX12_laysWays_172 rfl (lv_at hl 3 rfl) ?_
                                refine lv_iload hx hb dX12_laysWays_173 (lv_at hl 0 rfl) ?_
                                refine lv_iload_n hx hb dX12_laysWays_175 rfl (lv_at hl 2 rfl) ?_
                                refine sk_Vi (q0 := 0) (n := 3) (rest := []) (wr := [(g 43, .inl (cJ, 90, .inr (.inl zb))), (g 44, .inl (cJ, 90, .inr (.inl zg))), (g 20, .inl (cI, 4, .inl (l4 (nI l0) (nI l1) (nI dm) (nI l3))))]) ⟨hx, hb, hml, hown, hts⟩ hl.1 (c_m_canFollowS l D cI cJ cC cZ cS mm g ta pa pe pd pb pp pf pg pn rt rn cd sn il tk am at_ aa mt_ bh wd wt zyb it_ rm ud nu sd qn qw qo qb qp qa qi oc i kk jm nw ws_ rw_ yo yw (by omega) (by omega) (by omega) (by omega) (by omega) hnw) w_7_201 w_7_203 w_0_85 w_1_14 w_7_204 (by decide +kernel) ⟨⟨(Nat.le_of_ble_eq_true rfl), (Nat.le_of_ble_eq_true rfl)⟩, (Nat.le_of_ble_eq_true rfl), (Nat.le_of_ble_eq_true rfl)⟩ hK hP hD hS hA [3, 4, 5, 6, 7, 8] [0, 1, 2] rfl rfl (by decide +kernel) (by decide +kernel) (by decide +kernel) rfl rfl rfl rfl (Nat.le_of_ble_eq_true rfl) dX12_laysWays_176 (fun r_60 u H locs hw hP hD hS => ?_)
                                obtain ⟨b_59, hb1_61, rfl, rfl⟩ := hw
                                have hP : va_P D vwCl [(g 43, .inl (cJ, 90, .inr (.inl zb))), (g 44, .inl (cJ, 90, .inr (.inl zg))), (g 20, .inl (cI, 4, .inl (l4 (nI l0) (nI l1) (nI dm) (nI l3)))), (mm, .inr (12, mo g (nI ta) (nI pa) (nI pe) pd (nI pb) pp pf pg pn rt rn (nI cd) sn (nI il) tk am at_ aa mt_ (nI bh) wd wt zyb (nI it_) (nI rm) (nI ud) (nI nu) sd (nI qn) (nI qw) qo (nI qb) (nI qp) qa (nI qi) (nI oc))), (g 31, .inl (cI, 120, .inl nw)), (g 38, .inl (cI, 90, .inl ws_)), (g 53, .inl (cI, 32, .inl rw_)), (g 37, .inl (cZ, 900, .inl yo)), (g 36, .inl (cZ, 900, .inl yw))] H := hP
                                have hD : va_D A [(g 43, .inl (cJ, 90, .inr (.inl zb))), (g 44, .inl (cJ, 90, .inr (.inl zg))), (g 20, .inl (cI, 4, .inl (l4 (nI l0) (nI l1) (nI dm) (nI l3)))), (mm, .inr (12, mo g (nI ta) (nI pa) (nI pe) pd (nI pb) pp pf pg pn rt rn (nI cd) sn (nI il) tk am at_ aa mt_ (nI bh) wd wt zyb (nI it_) (nI rm) (nI ud) (nI nu) sd (nI qn) (nI qw) qo (nI qb) (nI qp) qa (nI qi) (nI oc))), (g 31, .inl (cI, 120, .inl nw)), (g 38, .inl (cI, 90, .inl ws_)), (g 53, .inl (cI, 32, .inl rw_)), (g 37, .inl (cZ, 900, .inl yo)), (g 36, .inl (cZ, 900, .inl yw))] := hD
                                refine lv_if_eq (tgt := 201) hx hb dX12_laysWays_179 (by decide) (fun c_62 => ?_) (fun c_62 => ?_)
                                · have c_62 : b_59 = 0 := (neq b_59 0 (by omega) (by omega)).mp c_62
                                  refine lv_iinc (v := nI (kk + 1)) (lv' := [(6, .int (nI (kk + 1))), (4, .long xn), (3, .int (nI jm)), (2, .int (nI i)), (1, .int (nI dm - 1)), (0, .ref mm)]) hx hb dX12_laysWays_201 hl (k := 0) rfl (ninc kk 1 (by decide)) (by decide) rfl (fun ls hl => ?_)
                                  refine lv_goto (tgt := 160) hx hb dX12_laysWays_204 (by decide) ?_
                                  exact ih_lp_49 (kk + 1) xn _ _ _ (by omega) (by omega) hP hD hS (lv_sub hl [0, 1, 2, 3, 4, 5] rfl)
                                · have c_62 : ¬ (b_59 = 0) := fun h => c_62 ((neq b_59 0 (by omega) (by omega)).mpr h)
                                  refine lv_lload hx hb dX12_laysWays_182 (lv_at hl 1 rfl) ?_
                                  refine lv_aload_n hx hb dX12_laysWays_184 rfl (lv_at hl 5 rfl) ?_
                                  refine sk_get (v := .ref (g 44)) (C := RX12) (T := TX12) (N := 92) hx hb hts inlX12 hown hK hP 3 rfl rfl 44 (by decide) w_5_199 rfl dX12_laysWays_185 ?_
                                  refine lv_bipush (v := 10) hx hb dX12_laysWays_188 (by decide) ?_
                                  refine lv_iload_n hx hb dX12_laysWays_190 rfl (lv_at hl 3 rfl) ?_
                                  refine lv_iconst (v := 1) hx hb dX12_laysWays_191 (by decide) ?_
                                  refine lv_isub hx hb dX12_laysWays_192 ?_
                                  refine sk_top (nI (i - 1)) (nsub i 1 (by omega)) ?_
                                  refine lv_imul hx hb dX12_laysWays_193 ?_
                                  refine sk_top (nI (10 * (i - 1))) (nmul 10 (i - 1)) ?_
                                  refine lv_iload hx hb dX12_laysWays_194 (lv_at hl 0 rfl) ?_
                                  refine lv_iadd hx hb dX12_laysWays_196 ?_
                                  refine sk_top (nI (10 * (i - 1) + kk)) (nI_add (10 * (i - 1)) kk) ?_
                                  refine va_lald hx hb hK.1 hP 1 1 rfl rfl (vin (10 * (i - 1) + kk) 90 (by omega) (by omega)) dX12_laysWays_197 ?_
                                  refine lv_topl (fun v_63 ev_63 => ?_)
                                  refine lv_ladd hx hb dX12_laysWays_198 ?_
                                  refine lv_topl (fun v_64 ev_64 => ?_)
                                  refine lv_lstore (lv' := [(4, .long v_64), (6, .int (nI kk)), (3, .int (nI jm)), (2, .int (nI i)), (1, .int (nI dm - 1)), (0, .ref mm)]) hx hb dX12_laysWays_199 hl (by decide) rfl (fun ls hl => ?_)
                                  refine lv_iinc (v := nI (kk + 1)) (lv' := [(6, .int (nI (kk + 1))), (4, .long v_64), (3, .int (nI jm)), (2, .int (nI i)), (1, .int (nI dm - 1)), (0, .ref mm)]) hx hb dX12_laysWays_201 hl (k := 1) rfl (ninc kk 1 (by decide)) (by decide) rfl (fun ls hl => ?_)
                                  refine lv_goto (tgt := 160) hx hb dX12_laysWays_204 (by decide) ?_
                                  exact ih_lp_49 (kk + 1) v_64 _ _ _ (by omega) (by omega) hP hD hS (lv_sub hl [0, 1, 2, 3, 4, 5] rfl)
                        exact lp_49 (10 - 0 + 1) 0 1 _ _ _ (Nat.lt_succ_self _) (by omega) hP hD hS (lv_sub hl [0, 1, 2, 3, 4, 5] rfl)
              exact lp_8 (10 - 0 + 1) 0 zf zy _ _ _ (Nat.lt_succ_self _) (by omega) hP hD hS (lv_sub hl [0, 1, 2, 3] rfl)
        exact lp_5 (dm - 0 + 1) 0 bf 0 _ _ _ (Nat.lt_succ_self _) (by omega) hP hD hS (lv_sub hl [0, 1, 2] rfl)
      · have c_4 : 1 ≤ dd := npm1 dd c_4
        rw [npred dd (by omega)] at hl
        refine lv_iconst (v := 0) hx hb dX12_laysWays_13 (by decide) ?_
        refine lv_istore_n (lv' := [(3, .int 0), (2, .int (nI (dd - 1))), (1, .int (nI dm - 1)), (0, .ref mm)]) hx hb dX12_laysWays_14 rfl hl (by decide) rfl (fun ls hl => ?_)
        have lp_65 : ∀ (n_66 : Nat) (jm : Nat) (zc : Nat → Int64) (H : Heap) (locs : List Loc) (ls : Array Slot), 10 - jm < n_66 → (jm ≤ 10) → va_P D vwCl [(g 31, .inl (cI, 120, .inl nw)), (g 38, .inl (cI, 90, .inl ws_)), (g 53, .inl (cI, 32, .inl rw_)), (g 37, .inl (cZ, 900, .inl yo)), (g 36, .inl (cZ, 900, .inl yw)), (g 43, .inl (cJ, 90, .inr (.inl zc))), (g 44, .inl (cJ, 90, .inr (.inl bf))), (mm, .inr (12, mo g (nI ta) (nI pa) (nI pe) pd (nI pb) pp pf pg pn rt rn (nI cd) sn (nI il) tk am at_ aa mt_ (nI bh) wd wt wy (nI it_) (nI rm) (nI ud) (nI nu) sd (nI qn) (nI qw) qo (nI qb) (nI qp) qa (nI qi) (nI oc))), (g 20, .inl (cI, 4, .inl (l4 (nI l0) (nI l1) (nI dm) (nI l3))))] H → va_D A [(g 31, .inl (cI, 120, .inl nw)), (g 38, .inl (cI, 90, .inl ws_)), (g 53, .inl (cI, 32, .inl rw_)), (g 37, .inl (cZ, 900, .inl yo)), (g 36, .inl (cZ, 900, .inl yw)), (g 43, .inl (cJ, 90, .inr (.inl zc))), (g 44, .inl (cJ, 90, .inr (.inl bf))), (mm, .inr (12, mo g (nI ta) (nI pa) (nI pe) pd (nI pb) pp pf pg pn rt rn (nI cd) sn (nI il) tk am at_ aa mt_ (nI bh) wd wt wy (nI it_) (nI rm) (nI ud) (nI nu) sd (nI qn) (nI qw) qo (nI qb) (nI qp) qa (nI qi) (nI oc))), (g 20, .inl (cI, 4, .inl (l4 (nI l0) (nI l1) (nI dm) (nI l3))))] → va_S A s.heap H locs → lv_has ls 7 [(3, .int (nI jm)), (2, .int (nI (dd - 1))), (1, .int (nI dm - 1)), (0, .ref mm)] → W p l e { frames := 3, cells := 0, slots := 0, locals := 68 } s m ([.ref mm] : List Value).toArray below meth c H locs 0 0 (MQ below (skV D (skT cI cJ cC cZ cS) (fun (u : va_W) => ∃ (wy2 : Int64), ∃ (be2 : Nat → Int64), ∃ (bf2 : Nat → Int64), u = [(mm, .inr (12, mo g (nI ta) (nI pa) (nI pe) pd (nI pb) pp pf pg pn rt rn (nI cd) sn (nI il) tk am at_ aa mt_ (nI bh) wd wt wy2 (nI it_) (nI rm) (nI ud) (nI nu) sd (nI qn) (nI qw) qo (nI qb) (nI qp) qa (nI qi) (nI oc))), (g 20, .inl (cI, 4, .inl (l4 (nI l0) (nI l1) (nI dm) (nI l3)))), (g 31, .inl (cI, 120, .inl nw)), (g 38, .inl (cI, 90, .inl ws_)), (g 53, .inl (cI, 32, .inl rw_)), (g 37, .inl (cZ, 900, .inl yo)), (g 36, .inl (cZ, 900, .inl yw)), (g 43, .inl (cJ, 90, .inr (.inl be2))), (g 44, .inl (cJ, 90, .inr (.inl bf2)))]) A) ([.ref mm] : List Value).toArray s 0 0 A) (F0 m 15 ls []) := by
          intro n_66
          induction n_66 with
          | zero => intro jm zc H locs ls hm; exact absurd hm (Nat.not_lt_zero _)
          | succ n_66 ih_lp_65 =>
            intro jm zc H locs ls hm hjm hP hD hS hl
            refine lv_iload_n hx hb dX12_laysWays_15 rfl (lv_at hl 0 rfl) ?_
            refine lv_bipush (v := 10) hx hb dX12_laysWays_16 (by decide) ?_
            refine lv_icmp_ge (tgt := 105) hx hb dX12_laysWays_18 (by decide) (fun c_67 => ?_) (fun c_67 => ?_)
            · have c_67 : 10 ≤ jm := (nle 10 jm (by omega) (by omega)).mp c_67
              refine lv_iinc (v := nI (dd - 1) - 1) (lv' := [(2, .int (nI (dd - 1) - 1)), (3, .int (nI jm)), (1, .int (nI dm - 1)), (0, .ref mm)]) hx hb dX12_laysWays_105 hl (k := 1) rfl (ndn _) (by decide) rfl (fun ls hl => ?_)
              refine lv_goto (tgt := 9) hx hb dX12_laysWays_108 (by decide) ?_
              exact ih_lp_2 (dd - 1) zc _ _ _ (by omega) (by omega) hP hD hS (lv_sub hl [0, 2, 3] rfl)
            · have c_67 : ¬ (10 ≤ jm) := fun h => c_67 ((nle 10 jm (by omega) (by omega)).mpr h)
              refine lv_iload_n hx hb dX12_laysWays_21 rfl (lv_at hl 1 rfl) ?_
              refine lv_iload_n hx hb dX12_laysWays_22 rfl (lv_at hl 2 rfl) ?_
              refine lv_icmp_ne (tgt := 30) hx hb dX12_laysWays_23 (by decide) (fun c_68 => ?_) (fun c_68 => ?_)
              · have c_68 : ¬ (((dd - 1 : Nat) : Int) = ((dm : Nat) : Int) - 1) := fun h => c_68 ((ieq (ivn (dd - 1) (by omega)) (ivp dm (by omega))).mpr h)
                refine lv_lconst (v := 0) hx hb dX12_laysWays_30 (by decide) ?_
                refine lv_lstore (lv' := [(4, .long 0), (3, .int (nI jm)), (2, .int (nI (dd - 1))), (1, .int (nI dm - 1)), (0, .ref mm)]) hx hb dX12_laysWays_31 hl (by decide) rfl (fun ls hl => ?_)
                refine lv_iconst (v := 0) hx hb dX12_laysWays_33 (by decide) ?_
                refine lv_istore (lv' := [(6, .int 0), (4, .long 0), (3, .int (nI jm)), (2, .int (nI (dd - 1))), (1, .int (nI dm - 1)), (0, .ref mm)]) hx hb dX12_laysWays_34 hl (by decide) rfl (fun ls hl => ?_)
                have lp_69 : ∀ (n_70 : Nat) (kk : Nat) (xn : Int64) (H : Heap) (locs : List Loc) (ls : Array Slot), 10 - kk < n_70 → (kk ≤ 10) → va_P D vwCl [(g 31, .inl (cI, 120, .inl nw)), (g 38, .inl (cI, 90, .inl ws_)), (g 53, .inl (cI, 32, .inl rw_)), (g 37, .inl (cZ, 900, .inl yo)), (g 36, .inl (cZ, 900, .inl yw)), (g 43, .inl (cJ, 90, .inr (.inl zc))), (g 44, .inl (cJ, 90, .inr (.inl bf))), (mm, .inr (12, mo g (nI ta) (nI pa) (nI pe) pd (nI pb) pp pf pg pn rt rn (nI cd) sn (nI il) tk am at_ aa mt_ (nI bh) wd wt wy (nI it_) (nI rm) (nI ud) (nI nu) sd (nI qn) (nI qw) qo (nI qb) (nI qp) qa (nI qi) (nI oc))), (g 20, .inl (cI, 4, .inl (l4 (nI l0) (nI l1) (nI dm) (nI l3))))] H → va_D A [(g 31, .inl (cI, 120, .inl nw)), (g 38, .inl (cI, 90, .inl ws_)), (g 53, .inl (cI, 32, .inl rw_)), (g 37, .inl (cZ, 900, .inl yo)), (g 36, .inl (cZ, 900, .inl yw)), (g 43, .inl (cJ, 90, .inr (.inl zc))), (g 44, .inl (cJ, 90, .inr (.inl bf))), (mm, .inr (12, mo g (nI ta) (nI pa) (nI pe) pd (nI pb) pp pf pg pn rt rn (nI cd) sn (nI il) tk am at_ aa mt_ (nI bh) wd wt wy (nI it_) (nI rm) (nI ud) (nI nu) sd (nI qn) (nI qw) qo (nI qb) (nI qp) qa (nI qi) (nI oc))), (g 20, .inl (cI, 4, .inl (l4 (nI l0) (nI l1) (nI dm) (nI l3))))] → va_S A s.heap H locs → lv_has ls 7 [(6, .int (nI kk)), (4, .long xn), (3, .int (nI jm)), (2, .int (nI (dd - 1))), (1, .int (nI dm - 1)), (0, .ref mm)] → W p l e { frames := 3, cells := 0, slots := 0, locals := 68 } s m ([.ref mm] : List Value).toArray below meth c H locs 0 0 (MQ below (skV D (skT cI cJ cC cZ cS) (fun (u : va_W) => ∃ (wy2 : Int64), ∃ (be2 : Nat → Int64), ∃ (bf2 : Nat → Int64), u = [(mm, .inr (12, mo g (nI ta) (nI pa) (nI pe) pd (nI pb) pp pf pg pn rt rn (nI cd) sn (nI il) tk am at_ aa mt_ (nI bh) wd wt wy2 (nI it_) (nI rm) (nI ud) (nI nu) sd (nI qn) (nI qw) qo (nI qb) (nI qp) qa (nI qi) (nI oc))), (g 20, .inl (cI, 4, .inl (l4 (nI l0) (nI l1) (nI dm) (nI l3)))), (g 31, .inl (cI, 120, .inl nw)), (g 38, .inl (cI, 90, .inl ws_)), (g 53, .inl (cI, 32, .inl rw_)), (g 37, .inl (cZ, 900, .inl yo)), (g 36, .inl (cZ, 900, .inl yw)), (g 43, .inl (cJ, 90, .inr (.inl be2))), (g 44, .inl (cJ, 90, .inr (.inl bf2)))]) A) ([.ref mm] : List Value).toArray s 0 0 A) (F0 m 36 ls []) := by
                  intro n_70
                  induction n_70 with
                  | zero => intro kk xn H locs ls hm; exact absurd hm (Nat.not_lt_zero _)
                  | succ n_70 ih_lp_69 =>
                    intro kk xn H locs ls hm hkk hP hD hS hl
                    refine lv_iload hx hb dX12_laysWays_36 (lv_at hl 0 rfl) ?_
                    refine lv_bipush (v := 10) hx hb dX12_laysWays_38 (by decide) ?_
                    refine lv_icmp_ge (tgt := 86) hx hb dX12_laysWays_40 (by decide) (fun c_71 => ?_) (fun c_71 => ?_)
                    · have c_71 : 10 ≤ kk := (nle 10 kk (by omega) (by omega)).mp c_71
                      refine lv_aload_n hx hb dX12_laysWays_86 rfl (lv_at hl 5 rfl) ?_
                      refine sk_get (v := .ref (g 43)) (C := RX12) (T := TX12) (N := 92) hx hb hts inlX12 hown hK hP 7 rfl rfl 43 (by decide) w_5_198 rfl dX12_laysWays_87 ?_
                      refine lv_bipush (v := 10) hx hb dX12_laysWays_90 (by decide) ?_
                      refine lv_iload_n hx hb dX12_laysWays_92 rfl (lv_at hl 3 rfl) ?_
                      refine lv_imul hx hb dX12_laysWays_93 ?_
                      refine sk_top (nI (10 * (dd - 1))) (nmul 10 (dd - 1)) ?_
                      refine lv_iload_n hx hb dX12_laysWays_94 rfl (lv_at hl 2 rfl) ?_
                      refine lv_iadd hx hb dX12_laysWays_95 ?_
                      refine sk_top (nI (10 * (dd - 1) + jm)) (nI_add (10 * (dd - 1)) jm) ?_
                      refine lv_lload hx hb dX12_laysWays_96 (lv_at hl 1 rfl) ?_
                      refine sk_lastO (ws' := fun f_72 => [(g 31, .inl (cI, 120, .inl nw)), (g 38, .inl (cI, 90, .inl ws_)), (g 53, .inl (cI, 32, .inl rw_)), (g 37, .inl (cZ, 900, .inl yo)), (g 36, .inl (cZ, 900, .inl yw)), (g 43, .inl (cJ, 90, .inr (.inl f_72))), (g 44, .inl (cJ, 90, .inr (.inl bf))), (mm, .inr (12, mo g (nI ta) (nI pa) (nI pe) pd (nI pb) pp pf pg pn rt rn (nI cd) sn (nI il) tk am at_ aa mt_ (nI bh) wd wt wy (nI it_) (nI rm) (nI ud) (nI nu) sd (nI qn) (nI qw) qo (nI qb) (nI qp) qa (nI qi) (nI oc))), (g 20, .inl (cI, 4, .inl (l4 (nI l0) (nI l1) (nI dm) (nI l3))))]) hx hb hK hP hD hS 5 1 rfl rfl (vin (10 * (dd - 1) + jm) 90 (by omega) (by omega)) (fun _ => rfl) dX12_laysWays_98 (fun f_72 H locs hP hD hS => ?_)
                      refine lv_iinc (v := nI (jm + 1)) (lv' := [(3, .int (nI (jm + 1))), (6, .int (nI kk)), (4, .long xn), (2, .int (nI (dd - 1))), (1, .int (nI dm - 1)), (0, .ref mm)]) hx hb dX12_laysWays_99 hl (k := 2) rfl (ninc jm 1 (by decide)) (by decide) rfl (fun ls hl => ?_)
                      refine lv_goto (tgt := 15) hx hb dX12_laysWays_102 (by decide) ?_
                      exact ih_lp_65 (jm + 1) f_72 _ _ _ (by omega) (by omega) hP hD hS (lv_sub hl [0, 3, 4, 5] rfl)
                    · have c_71 : ¬ (10 ≤ kk) := fun h => c_71 ((nle 10 kk (by omega) (by omega)).mpr h)
                      refine lv_iload_n hx hb dX12_laysWays_43 rfl (lv_at hl 3 rfl) ?_
                      refine lv_iload_n hx hb dX12_laysWays_44 rfl (lv_at hl 4 rfl) ?_
                      refine lv_icmp_ge (tgt := 86) hx hb dX12_laysWays_45 (by decide) (fun c_73 => ?_) (fun c_73 => ?_)
                      · have c_73 : ((dm : Nat) : Int) - 1 ≤ ((dd - 1 : Nat) : Int) := (ile (ivp dm (by omega)) (ivn (dd - 1) (by omega))).mp c_73
                        refine lv_aload_n hx hb dX12_laysWays_86 rfl (lv_at hl 5 rfl) ?_
                        refine sk_get (v := .ref (g 43)) (C := RX12) (T := TX12) (N := 92) hx hb hts inlX12 hown hK hP 7 rfl rfl 43 (by decide) w_5_198 rfl dX12_laysWays_87 ?_
                        refine lv_bipush (v := 10) hx hb dX12_laysWays_90 (by decide) ?_
                        refine lv_iload_n hx hb dX12_laysWays_92 rfl (lv_at hl 3 rfl) ?_
                        refine lv_imul hx hb dX12_laysWays_93 ?_
                        refine sk_top (nI (10 * (dd - 1))) (nmul 10 (dd - 1)) ?_
                        refine lv_iload_n hx hb dX12_laysWays_94 rfl (lv_at hl 2 rfl) ?_
                        refine lv_iadd hx hb dX12_laysWays_95 ?_
                        refine sk_top (nI (10 * (dd - 1) + jm)) (nI_add (10 * (dd - 1)) jm) ?_
                        refine lv_lload hx hb dX12_laysWays_96 (lv_at hl 1 rfl) ?_
                        refine sk_lastO (ws' := fun f_74 => [(g 31, .inl (cI, 120, .inl nw)), (g 38, .inl (cI, 90, .inl ws_)), (g 53, .inl (cI, 32, .inl rw_)), (g 37, .inl (cZ, 900, .inl yo)), (g 36, .inl (cZ, 900, .inl yw)), (g 43, .inl (cJ, 90, .inr (.inl f_74))), (g 44, .inl (cJ, 90, .inr (.inl bf))), (mm, .inr (12, mo g (nI ta) (nI pa) (nI pe) pd (nI pb) pp pf pg pn rt rn (nI cd) sn (nI il) tk am at_ aa mt_ (nI bh) wd wt wy (nI it_) (nI rm) (nI ud) (nI nu) sd (nI qn) (nI qw) qo (nI qb) (nI qp) qa (nI qi) (nI oc))), (g 20, .inl (cI, 4, .inl (l4 (nI l0) (nI l1) (nI dm) (nI l3))))]) hx hb hK hP hD hS 5 1 rfl rfl (vin (10 * (dd - 1) + jm) 90 (by omega) (by omega)) (fun _ => rfl) dX12_laysWays_98 (fun f_74 H locs hP hD hS => ?_)
                        refine lv_iinc (v := nI (jm + 1)) (lv' := [(3, .int (nI (jm + 1))), (6, .int (nI kk)), (4, .long xn), (2, .int (nI (dd - 1))), (1, .int (nI dm - 1)), (0, .ref mm)]) hx hb dX12_laysWays_99 hl (k := 2) rfl (ninc jm 1 (by decide)) (by decide) rfl (fun ls hl => ?_)
                        refine lv_goto (tgt := 15) hx hb dX12_laysWays_102 (by decide) ?_
                        exact ih_lp_65 (jm + 1) f_74 _ _ _ (by omega) (by omega) hP hD hS (lv_sub hl [0, 3, 4, 5] rfl)
                      · have c_73 : ¬ (((dm : Nat) : Int) - 1 ≤ ((dd - 1 : Nat) : Int)) := fun h => c_73 ((ile (ivp dm (by omega)) (ivn (dd - 1) (by omega))).mpr h)
                        refine lv_aload_n hx hb dX12_laysWays_48 rfl (lv_at hl 5 rfl) ?_
                        refine lv_iload_n hx hb dX12_laysWays_49 rfl (lv_at hl 3 rfl) ?_
                        refine lv_iconst (v := 1) hx hb dX12_laysWays_50 (by decide) ?_
                        refine lv_iadd hx hb dX12_laysWays_51 ?_
                        refine sk_top (nI (dd - 1 + 1)) (nI_add (dd - 1) 1) ?_
                        refine lv_iload_n hx hb dX12_laysWays_52 rfl (lv_at hl 2 rfl) ?_
                        refine lv_iload hx hb dX12_laysWays_53 (lv_at hl 0 rfl) ?_
                        refine sk_Vi (q0 := 0) (n := 3) (rest := []) (wr := [(g 43, .inl (cJ, 90, .inr (.inl zc))), (g 44, .inl (cJ, 90, .inr (.inl bf))), (g 20, .inl (cI, 4, .inl (l4 (nI l0) (nI l1) (nI dm) (nI l3))))]) ⟨hx, hb, hml, hown, hts⟩ hl.1 (c_m_canFollowS l D cI cJ cC cZ cS mm g ta pa pe pd pb pp pf pg pn rt rn cd sn il tk am at_ aa mt_ bh wd wt wy it_ rm ud nu sd qn qw qo qb qp qa qi oc (dd - 1 + 1) jm kk nw ws_ rw_ yo yw (by omega) (by omega) (by omega) (by omega) (by omega) hnw) w_7_201 w_7_203 w_0_85 w_1_14 w_7_204 (by decide +kernel) ⟨⟨(Nat.le_of_ble_eq_true rfl), (Nat.le_of_ble_eq_true rfl)⟩, (Nat.le_of_ble_eq_true rfl), (Nat.le_of_ble_eq_true rfl)⟩ hK hP hD hS hA [7, 0, 1, 2, 3, 4] [5, 6, 8] rfl rfl (by decide +kernel) (by decide +kernel) (by decide +kernel) rfl rfl rfl rfl (Nat.le_of_ble_eq_true rfl) dX12_laysWays_55 (fun r_76 u H locs hw hP hD hS => ?_)
                        obtain ⟨b_75, hb1_77, rfl, rfl⟩ := hw
                        have hP : va_P D vwCl [(g 43, .inl (cJ, 90, .inr (.inl zc))), (g 44, .inl (cJ, 90, .inr (.inl bf))), (g 20, .inl (cI, 4, .inl (l4 (nI l0) (nI l1) (nI dm) (nI l3)))), (mm, .inr (12, mo g (nI ta) (nI pa) (nI pe) pd (nI pb) pp pf pg pn rt rn (nI cd) sn (nI il) tk am at_ aa mt_ (nI bh) wd wt wy (nI it_) (nI rm) (nI ud) (nI nu) sd (nI qn) (nI qw) qo (nI qb) (nI qp) qa (nI qi) (nI oc))), (g 31, .inl (cI, 120, .inl nw)), (g 38, .inl (cI, 90, .inl ws_)), (g 53, .inl (cI, 32, .inl rw_)), (g 37, .inl (cZ, 900, .inl yo)), (g 36, .inl (cZ, 900, .inl yw))] H := hP
                        have hD : va_D A [(g 43, .inl (cJ, 90, .inr (.inl zc))), (g 44, .inl (cJ, 90, .inr (.inl bf))), (g 20, .inl (cI, 4, .inl (l4 (nI l0) (nI l1) (nI dm) (nI l3)))), (mm, .inr (12, mo g (nI ta) (nI pa) (nI pe) pd (nI pb) pp pf pg pn rt rn (nI cd) sn (nI il) tk am at_ aa mt_ (nI bh) wd wt wy (nI it_) (nI rm) (nI ud) (nI nu) sd (nI qn) (nI qw) qo (nI qb) (nI qp) qa (nI qi) (nI oc))), (g 31, .inl (cI, 120, .inl nw)), (g 38, .inl (cI, 90, .inl ws_)), (g 53, .inl (cI, 32, .inl rw_)), (g 37, .inl (cZ, 900, .inl yo)), (g 36, .inl (cZ, 900, .inl yw))] := hD
                        refine lv_if_eq (tgt := 80) hx hb dX12_laysWays_58 (by decide) (fun c_78 => ?_) (fun c_78 => ?_)
                        · have c_78 : b_75 = 0 := (neq b_75 0 (by omega) (by omega)).mp c_78
                          refine lv_iinc (v := nI (kk + 1)) (lv' := [(6, .int (nI (kk + 1))), (4, .long xn), (3, .int (nI jm)), (2, .int (nI (dd - 1))), (1, .int (nI dm - 1)), (0, .ref mm)]) hx hb dX12_laysWays_80 hl (k := 0) rfl (ninc kk 1 (by decide)) (by decide) rfl (fun ls hl => ?_)
                          refine lv_goto (tgt := 36) hx hb dX12_laysWays_83 (by decide) ?_
                          have hP := hP.sub (ws' := [(g 31, .inl (cI, 120, .inl nw)), (g 38, .inl (cI, 90, .inl ws_)), (g 53, .inl (cI, 32, .inl rw_)), (g 37, .inl (cZ, 900, .inl yo)), (g 36, .inl (cZ, 900, .inl yw)), (g 43, .inl (cJ, 90, .inr (.inl zc))), (g 44, .inl (cJ, 90, .inr (.inl bf))), (mm, .inr (12, mo g (nI ta) (nI pa) (nI pe) pd (nI pb) pp pf pg pn rt rn (nI cd) sn (nI il) tk am at_ aa mt_ (nI bh) wd wt wy (nI it_) (nI rm) (nI ud) (nI nu) sd (nI qn) (nI qw) qo (nI qb) (nI qp) qa (nI qi) (nI oc))), (g 20, .inl (cI, 4, .inl (l4 (nI l0) (nI l1) (nI dm) (nI l3))))]) [4, 5, 6, 7, 8, 0, 1, 3, 2] rfl
                          have hD := hD.sub (ws' := [(g 31, .inl (cI, 120, .inl nw)), (g 38, .inl (cI, 90, .inl ws_)), (g 53, .inl (cI, 32, .inl rw_)), (g 37, .inl (cZ, 900, .inl yo)), (g 36, .inl (cZ, 900, .inl yw)), (g 43, .inl (cJ, 90, .inr (.inl zc))), (g 44, .inl (cJ, 90, .inr (.inl bf))), (mm, .inr (12, mo g (nI ta) (nI pa) (nI pe) pd (nI pb) pp pf pg pn rt rn (nI cd) sn (nI il) tk am at_ aa mt_ (nI bh) wd wt wy (nI it_) (nI rm) (nI ud) (nI nu) sd (nI qn) (nI qw) qo (nI qb) (nI qp) qa (nI qi) (nI oc))), (g 20, .inl (cI, 4, .inl (l4 (nI l0) (nI l1) (nI dm) (nI l3))))]) [4, 5, 6, 7, 8, 0, 1, 3, 2] (by decide +kernel) rfl
                          exact ih_lp_69 (kk + 1) xn _ _ _ (by omega) (by omega) hP hD hS (lv_sub hl [0, 1, 2, 3, 4, 5] rfl)
                        · have c_78 : ¬ (b_75 = 0) := fun h => c_78 ((neq b_75 0 (by omega) (by omega)).mpr h)
                          refine lv_lload hx hb dX12_laysWays_61 (lv_at hl 1 rfl) ?_
                          refine lv_aload_n hx hb dX12_laysWays_63 rfl (lv_at hl 5 rfl) ?_
                          refine sk_get (v := .ref (g 43)) (C := RX12) (T := TX12) (N := 92) hx hb hts inlX12 hown hK hP 3 rfl rfl 43 (by decide) w_5_198 rfl dX12_laysWays_64 ?_
                          refine lv_bipush (v := 10) hx hb dX12_laysWays_67 (by decide) ?_
                          refine lv_iload_n hx hb dX12_laysWays_69 rfl (lv_at hl 3 rfl) ?_
                          refine lv_iconst (v := 1) hx hb dX12_laysWays_70 (by decide) ?_
                          refine lv_iadd hx hb dX12_laysWays_71 ?_
                          refine sk_top (nI (dd - 1 + 1)) (nI_add (dd - 1) 1) ?_
                          refine lv_imul hx hb dX12_laysWays_72 ?_
                          refine sk_top (nI (10 * (dd - 1 + 1))) (nmul 10 (dd - 1 + 1)) ?_
                          refine lv_iload hx hb dX12_laysWays_73 (lv_at hl 0 rfl) ?_
                          refine lv_iadd hx hb dX12_laysWays_75 ?_
                          refine sk_top (nI (10 * (dd - 1 + 1) + kk)) (nI_add (10 * (dd - 1 + 1)) kk) ?_
                          refine va_lald hx hb hK.1 hP 0 1 rfl rfl (vin (10 * (dd - 1 + 1) + kk) 90 (by omega) (by omega)) dX12_laysWays_76 ?_
                          refine lv_topl (fun v_79 ev_79 => ?_)
                          refine lv_ladd hx hb dX12_laysWays_77 ?_
                          refine lv_topl (fun v_80 ev_80 => ?_)
                          refine lv_lstore (lv' := [(4, .long v_80), (6, .int (nI kk)), (3, .int (nI jm)), (2, .int (nI (dd - 1))), (1, .int (nI dm - 1)), (0, .ref mm)]) hx hb dX12_laysWays_78 hl (by decide) rfl (fun ls hl => ?_)
                          refine lv_iinc (v := nI (kk + 1)) (lv' := [(6, .int (nI (kk + 1))), (4, .long v_80), (3, .int (nI jm)), (2, .int (nI (dd - 1))), (1, .int (nI dm - 1)), (0, .ref mm)]) hx hb dX12_laysWays_80 hl (k := 1) rfl (ninc kk 1 (by decide)) (by decide) rfl (fun ls hl => ?_)
                          refine lv_goto (tgt := 36) hx hb dX12_laysWays_83 (by decide) ?_
                          have hP := hP.sub (ws' := [(g 31, .inl (cI, 120, .inl nw)), (g 38, .inl (cI, 90, .inl ws_)), (g 53, .inl (cI, 32, .inl rw_)), (g 37, .inl (cZ, 900, .inl yo)), (g 36, .inl (cZ, 900, .inl yw)), (g 43, .inl (cJ, 90, .inr (.inl zc))), (g 44, .inl (cJ, 90, .inr (.inl bf))), (mm, .inr (12, mo g (nI ta) (nI pa) (nI pe) pd (nI pb) pp pf pg pn rt rn (nI cd) sn (nI il) tk am at_ aa mt_ (nI bh) wd wt wy (nI it_) (nI rm) (nI ud) (nI nu) sd (nI qn) (nI qw) qo (nI qb) (nI qp) qa (nI qi) (nI oc))), (g 20, .inl (cI, 4, .inl (l4 (nI l0) (nI l1) (nI dm) (nI l3))))]) [4, 5, 6, 7, 8, 0, 1, 3, 2] rfl
                          have hD := hD.sub (ws' := [(g 31, .inl (cI, 120, .inl nw)), (g 38, .inl (cI, 90, .inl ws_)), (g 53, .inl (cI, 32, .inl rw_)), (g 37, .inl (cZ, 900, .inl yo)), (g 36, .inl (cZ, 900, .inl yw)), (g 43, .inl (cJ, 90, .inr (.inl zc))), (g 44, .inl (cJ, 90, .inr (.inl bf))), (mm, .inr (12, mo g (nI ta) (nI pa) (nI pe) pd (nI pb) pp pf pg pn rt rn (nI cd) sn (nI il) tk am at_ aa mt_ (nI bh) wd wt wy (nI it_) (nI rm) (nI ud) (nI nu) sd (nI qn) (nI qw) qo (nI qb) (nI qp) qa (nI qi) (nI oc))), (g 20, .inl (cI, 4, .inl (l4 (nI l0) (nI l1) (nI dm) (nI l3))))]) [4, 5, 6, 7, 8, 0, 1, 3, 2] (by decide +kernel) rfl
                          exact ih_lp_69 (kk + 1) v_80 _ _ _ (by omega) (by omega) hP hD hS (lv_sub hl [0, 1, 2, 3, 4, 5] rfl)
                exact lp_69 (10 - 0 + 1) 0 0 _ _ _ (Nat.lt_succ_self _) (by omega) hP hD hS (lv_sub hl [0, 1, 2, 3, 4, 5] rfl)
              · have c_68 : ((dd - 1 : Nat) : Int) = ((dm : Nat) : Int) - 1 := (ieq (ivn (dd - 1) (by omega)) (ivp dm (by omega))).mp c_68
                refine lv_lconst (v := 1) hx hb dX12_laysWays_26 (by decide) ?_
                refine lv_goto (tgt := 31) hx hb dX12_laysWays_27 (by decide) ?_
                refine lv_lstore (lv' := [(4, .long 1), (3, .int (nI jm)), (2, .int (nI (dd - 1))), (1, .int (nI dm - 1)), (0, .ref mm)]) hx hb dX12_laysWays_31 hl (by decide) rfl (fun ls hl => ?_)
                refine lv_iconst (v := 0) hx hb dX12_laysWays_33 (by decide) ?_
                refine lv_istore (lv' := [(6, .int 0), (4, .long 1), (3, .int (nI jm)), (2, .int (nI (dd - 1))), (1, .int (nI dm - 1)), (0, .ref mm)]) hx hb dX12_laysWays_34 hl (by decide) rfl (fun ls hl => ?_)
                have lp_81 : ∀ (n_82 : Nat) (kk : Nat) (xn : Int64) (H : Heap) (locs : List Loc) (ls : Array Slot), 10 - kk < n_82 → (kk ≤ 10) → va_P D vwCl [(g 31, .inl (cI, 120, .inl nw)), (g 38, .inl (cI, 90, .inl ws_)), (g 53, .inl (cI, 32, .inl rw_)), (g 37, .inl (cZ, 900, .inl yo)), (g 36, .inl (cZ, 900, .inl yw)), (g 43, .inl (cJ, 90, .inr (.inl zc))), (g 44, .inl (cJ, 90, .inr (.inl bf))), (mm, .inr (12, mo g (nI ta) (nI pa) (nI pe) pd (nI pb) pp pf pg pn rt rn (nI cd) sn (nI il) tk am at_ aa mt_ (nI bh) wd wt wy (nI it_) (nI rm) (nI ud) (nI nu) sd (nI qn) (nI qw) qo (nI qb) (nI qp) qa (nI qi) (nI oc))), (g 20, .inl (cI, 4, .inl (l4 (nI l0) (nI l1) (nI dm) (nI l3))))] H → va_D A [(g 31, .inl (cI, 120, .inl nw)), (g 38, .inl (cI, 90, .inl ws_)), (g 53, .inl (cI, 32, .inl rw_)), (g 37, .inl (cZ, 900, .inl yo)), (g 36, .inl (cZ, 900, .inl yw)), (g 43, .inl (cJ, 90, .inr (.inl zc))), (g 44, .inl (cJ, 90, .inr (.inl bf))), (mm, .inr (12, mo g (nI ta) (nI pa) (nI pe) pd (nI pb) pp pf pg pn rt rn (nI cd) sn (nI il) tk am at_ aa mt_ (nI bh) wd wt wy (nI it_) (nI rm) (nI ud) (nI nu) sd (nI qn) (nI qw) qo (nI qb) (nI qp) qa (nI qi) (nI oc))), (g 20, .inl (cI, 4, .inl (l4 (nI l0) (nI l1) (nI dm) (nI l3))))] → va_S A s.heap H locs → lv_has ls 7 [(6, .int (nI kk)), (4, .long xn), (3, .int (nI jm)), (2, .int (nI (dd - 1))), (1, .int (nI dm - 1)), (0, .ref mm)] → W p l e { frames := 3, cells := 0, slots := 0, locals := 68 } s m ([.ref mm] : List Value).toArray below meth c H locs 0 0 (MQ below (skV D (skT cI cJ cC cZ cS) (fun (u : va_W) => ∃ (wy2 : Int64), ∃ (be2 : Nat → Int64), ∃ (bf2 : Nat → Int64), u = [(mm, .inr (12, mo g (nI ta) (nI pa) (nI pe) pd (nI pb) pp pf pg pn rt rn (nI cd) sn (nI il) tk am at_ aa mt_ (nI bh) wd wt wy2 (nI it_) (nI rm) (nI ud) (nI nu) sd (nI qn) (nI qw) qo (nI qb) (nI qp) qa (nI qi) (nI oc))), (g 20, .inl (cI, 4, .inl (l4 (nI l0) (nI l1) (nI dm) (nI l3)))), (g 31, .inl (cI, 120, .inl nw)), (g 38, .inl (cI, 90, .inl ws_)), (g 53, .inl (cI, 32, .inl rw_)), (g 37, .inl (cZ, 900, .inl yo)), (g 36, .inl (cZ, 900, .inl yw)), (g 43, .inl (cJ, 90, .inr (.inl be2))), (g 44, .inl (cJ, 90, .inr (.inl bf2)))]) A) ([.ref mm] : List Value).toArray s 0 0 A) (F0 m 36 ls []) := by
                  intro n_82
                  induction n_82 with
                  | zero => intro kk xn H locs ls hm; exact absurd hm (Nat.not_lt_zero _)
                  | succ n_82 ih_lp_81 =>
                    intro kk xn H locs ls hm hkk hP hD hS hl
                    refine lv_iload hx hb dX12_laysWays_36 (lv_at hl 0 rfl) ?_
                    refine lv_bipush (v := 10) hx hb dX12_laysWays_38 (by decide) ?_
                    refine lv_icmp_ge (tgt := 86) hx hb dX12_laysWays_40 (by decide) (fun c_83 => ?_) (fun c_83 => ?_)
                    · have c_83 : 10 ≤ kk := (nle 10 kk (by omega) (by omega)).mp c_83
                      refine lv_aload_n hx hb dX12_laysWays_86 rfl (lv_at hl 5 rfl) ?_
                      refine sk_get (v := .ref (g 43)) (C := RX12) (T := TX12) (N := 92) hx hb hts inlX12 hown hK hP 7 rfl rfl 43 (by decide) w_5_198 rfl dX12_laysWays_87 ?_
                      refine lv_bipush (v := 10) hx hb dX12_laysWays_90 (by decide) ?_
                      refine lv_iload_n hx hb dX12_laysWays_92 rfl (lv_at hl 3 rfl) ?_
                      refine lv_imul hx hb dX12_laysWays_93 ?_
                      refine sk_top (nI (10 * (dd - 1))) (nmul 10 (dd - 1)) ?_
                      refine lv_iload_n hx hb dX12_laysWays_94 rfl (lv_at hl 2 rfl) ?_
                      refine lv_iadd hx hb dX12_laysWays_95 ?_
                      refine sk_top (nI (10 * (dd - 1) + jm)) (nI_add (10 * (dd - 1)) jm) ?_
                      refine lv_lload hx hb dX12_laysWays_96 (lv_at hl 1 rfl) ?_
                      refine sk_lastO (ws' := fun f_84 => [(g 31, .inl (cI, 120, .inl nw)), (g 38, .inl (cI, 90, .inl ws_)), (g 53, .inl (cI, 32, .inl rw_)), (g 37, .inl (cZ, 900, .inl yo)), (g 36, .inl (cZ, 900, .inl yw)), (g 43, .inl (cJ, 90, .inr (.inl f_84))), (g 44, .inl (cJ, 90, .inr (.inl bf))), (mm, .inr (12, mo g (nI ta) (nI pa) (nI pe) pd (nI pb) pp pf pg pn rt rn (nI cd) sn (nI il) tk am at_ aa mt_ (nI bh) wd wt wy (nI it_) (nI rm) (nI ud) (nI nu) sd (nI qn) (nI qw) qo (nI qb) (nI qp) qa (nI qi) (nI oc))), (g 20, .inl (cI, 4, .inl (l4 (nI l0) (nI l1) (nI dm) (nI l3))))]) hx hb hK hP hD hS 5 1 rfl rfl (vin (10 * (dd - 1) + jm) 90 (by omega) (by omega)) (fun _ => rfl) dX12_laysWays_98 (fun f_84 H locs hP hD hS => ?_)
                      refine lv_iinc (v := nI (jm + 1)) (lv' := [(3, .int (nI (jm + 1))), (6, .int (nI kk)), (4, .long xn), (2, .int (nI (dd - 1))), (1, .int (nI dm - 1)), (0, .ref mm)]) hx hb dX12_laysWays_99 hl (k := 2) rfl (ninc jm 1 (by decide)) (by decide) rfl (fun ls hl => ?_)
                      refine lv_goto (tgt := 15) hx hb dX12_laysWays_102 (by decide) ?_
                      exact ih_lp_65 (jm + 1) f_84 _ _ _ (by omega) (by omega) hP hD hS (lv_sub hl [0, 3, 4, 5] rfl)
                    · have c_83 : ¬ (10 ≤ kk) := fun h => c_83 ((nle 10 kk (by omega) (by omega)).mpr h)
                      refine lv_iload_n hx hb dX12_laysWays_43 rfl (lv_at hl 3 rfl) ?_
                      refine lv_iload_n hx hb dX12_laysWays_44 rfl (lv_at hl 4 rfl) ?_
                      refine lv_icmp_ge (tgt := 86) hx hb dX12_laysWays_45 (by decide) (fun c_85 => ?_) (fun c_85 => ?_)
                      · have c_85 : ((dm : Nat) : Int) - 1 ≤ ((dd - 1 : Nat) : Int) := (ile (ivp dm (by omega)) (ivn (dd - 1) (by omega))).mp c_85
                        refine lv_aload_n hx hb dX12_laysWays_86 rfl (lv_at hl 5 rfl) ?_
                        refine sk_get (v := .ref (g 43)) (C := RX12) (T := TX12) (N := 92) hx hb hts inlX12 hown hK hP 7 rfl rfl 43 (by decide) w_5_198 rfl dX12_laysWays_87 ?_
                        refine lv_bipush (v := 10) hx hb dX12_laysWays_90 (by decide) ?_
                        refine lv_iload_n hx hb dX12_laysWays_92 rfl (lv_at hl 3 rfl) ?_
                        refine lv_imul hx hb dX12_laysWays_93 ?_
                        refine sk_top (nI (10 * (dd - 1))) (nmul 10 (dd - 1)) ?_
                        refine lv_iload_n hx hb dX12_laysWays_94 rfl (lv_at hl 2 rfl) ?_
                        refine lv_iadd hx hb dX12_laysWays_95 ?_
                        refine sk_top (nI (10 * (dd - 1) + jm)) (nI_add (10 * (dd - 1)) jm) ?_
                        refine lv_lload hx hb dX12_laysWays_96 (lv_at hl 1 rfl) ?_
                        refine sk_lastO (ws' := fun f_86 => [(g 31, .inl (cI, 120, .inl nw)), (g 38, .inl (cI, 90, .inl ws_)), (g 53, .inl (cI, 32, .inl rw_)), (g 37, .inl (cZ, 900, .inl yo)), (g 36, .inl (cZ, 900, .inl yw)), (g 43, .inl (cJ, 90, .inr (.inl f_86))), (g 44, .inl (cJ, 90, .inr (.inl bf))), (mm, .inr (12, mo g (nI ta) (nI pa) (nI pe) pd (nI pb) pp pf pg pn rt rn (nI cd) sn (nI il) tk am at_ aa mt_ (nI bh) wd wt wy (nI it_) (nI rm) (nI ud) (nI nu) sd (nI qn) (nI qw) qo (nI qb) (nI qp) qa (nI qi) (nI oc))), (g 20, .inl (cI, 4, .inl (l4 (nI l0) (nI l1) (nI dm) (nI l3))))]) hx hb hK hP hD hS 5 1 rfl rfl (vin (10 * (dd - 1) + jm) 90 (by omega) (by omega)) (fun _ => rfl) dX12_laysWays_98 (fun f_86 H locs hP hD hS => ?_)
                        refine lv_iinc (v := nI (jm + 1)) (lv' := [(3, .int (nI (jm + 1))), (6, .int (nI kk)), (4, .long xn), (2, .int (nI (dd - 1))), (1, .int (nI dm - 1)), (0, .ref mm)]) hx hb dX12_laysWays_99 hl (k := 2) rfl (ninc jm 1 (by decide)) (by decide) rfl (fun ls hl => ?_)
                        refine lv_goto (tgt := 15) hx hb dX12_laysWays_102 (by decide) ?_
                        exact ih_lp_65 (jm + 1) f_86 _ _ _ (by omega) (by omega) hP hD hS (lv_sub hl [0, 3, 4, 5] rfl)
                      · have c_85 : ¬ (((dm : Nat) : Int) - 1 ≤ ((dd - 1 : Nat) : Int)) := fun h => c_85 ((ile (ivp dm (by omega)) (ivn (dd - 1) (by omega))).mpr h)
                        refine lv_aload_n hx hb dX12_laysWays_48 rfl (lv_at hl 5 rfl) ?_
                        refine lv_iload_n hx hb dX12_laysWays_49 rfl (lv_at hl 3 rfl) ?_
                        refine lv_iconst (v := 1) hx hb dX12_laysWays_50 (by decide) ?_
                        refine lv_iadd hx hb dX12_laysWays_51 ?_
                        refine sk_top (nI (dd - 1 + 1)) (nI_add (dd - 1) 1) ?_
                        refine lv_iload_n hx hb dX12_laysWays_52 rfl (lv_at hl 2 rfl) ?_
                        refine lv_iload hx hb dX12_laysWays_53 (lv_at hl 0 rfl) ?_
                        refine sk_Vi (q0 := 0) (n := 3) (rest := []) (wr := [(g 43, .inl (cJ, 90, .inr (.inl zc))), (g 44, .inl (cJ, 90, .inr (.inl bf))), (g 20, .inl (cI, 4, .inl (l4 (nI l0) (nI l1) (nI dm) (nI l3))))]) ⟨hx, hb, hml, hown, hts⟩ hl.1 (c_m_canFollowS l D cI cJ cC cZ cS mm g ta pa pe pd pb pp pf pg pn rt rn cd sn il tk am at_ aa mt_ bh wd wt wy it_ rm ud nu sd qn qw qo qb qp qa qi oc (dd - 1 + 1) jm kk nw ws_ rw_ yo yw (by omega) (by omega) (by omega) (by omega) (by omega) hnw) w_7_201 w_7_203 w_0_85 w_1_14 w_7_204 (by decide +kernel) ⟨⟨(Nat.le_of_ble_eq_true rfl), (Nat.le_of_ble_eq_true rfl)⟩, (Nat.le_of_ble_eq_true rfl), (Nat.le_of_ble_eq_true rfl)⟩ hK hP hD hS hA [7, 0, 1, 2, 3, 4] [5, 6, 8] rfl rfl (by decide +kernel) (by decide +kernel) (by decide +kernel) rfl rfl rfl rfl (Nat.le_of_ble_eq_true rfl) dX12_laysWays_55 (fun r_88 u H locs hw hP hD hS => ?_)
                        obtain ⟨b_87, hb1_89, rfl, rfl⟩ := hw
                        have hP : va_P D vwCl [(g 43, .inl (cJ, 90, .inr (.inl zc))), (g 44, .inl (cJ, 90, .inr (.inl bf))), (g 20, .inl (cI, 4, .inl (l4 (nI l0) (nI l1) (nI dm) (nI l3)))), (mm, .inr (12, mo g (nI ta) (nI pa) (nI pe) pd (nI pb) pp pf pg pn rt rn (nI cd) sn (nI il) tk am at_ aa mt_ (nI bh) wd wt wy (nI it_) (nI rm) (nI ud) (nI nu) sd (nI qn) (nI qw) qo (nI qb) (nI qp) qa (nI qi) (nI oc))), (g 31, .inl (cI, 120, .inl nw)), (g 38, .inl (cI, 90, .inl ws_)), (g 53, .inl (cI, 32, .inl rw_)), (g 37, .inl (cZ, 900, .inl yo)), (g 36, .inl (cZ, 900, .inl yw))] H := hP
                        have hD : va_D A [(g 43, .inl (cJ, 90, .inr (.inl zc))), (g 44, .inl (cJ, 90, .inr (.inl bf))), (g 20, .inl (cI, 4, .inl (l4 (nI l0) (nI l1) (nI dm) (nI l3)))), (mm, .inr (12, mo g (nI ta) (nI pa) (nI pe) pd (nI pb) pp pf pg pn rt rn (nI cd) sn (nI il) tk am at_ aa mt_ (nI bh) wd wt wy (nI it_) (nI rm) (nI ud) (nI nu) sd (nI qn) (nI qw) qo (nI qb) (nI qp) qa (nI qi) (nI oc))), (g 31, .inl (cI, 120, .inl nw)), (g 38, .inl (cI, 90, .inl ws_)), (g 53, .inl (cI, 32, .inl rw_)), (g 37, .inl (cZ, 900, .inl yo)), (g 36, .inl (cZ, 900, .inl yw))] := hD
                        refine lv_if_eq (tgt := 80) hx hb dX12_laysWays_58 (by decide) (fun c_90 => ?_) (fun c_90 => ?_)
                        · have c_90 : b_87 = 0 := (neq b_87 0 (by omega) (by omega)).mp c_90
                          refine lv_iinc (v := nI (kk + 1)) (lv' := [(6, .int (nI (kk + 1))), (4, .long xn), (3, .int (nI jm)), (2, .int (nI (dd - 1))), (1, .int (nI dm - 1)), (0, .ref mm)]) hx hb dX12_laysWays_80 hl (k := 0) rfl (ninc kk 1 (by decide)) (by decide) rfl (fun ls hl => ?_)
                          refine lv_goto (tgt := 36) hx hb dX12_laysWays_83 (by decide) ?_
                          have hP := hP.sub (ws' := [(g 31, .inl (cI, 120, .inl nw)), (g 38, .inl (cI, 90, .inl ws_)), (g 53, .inl (cI, 32, .inl rw_)), (g 37, .inl (cZ, 900, .inl yo)), (g 36, .inl (cZ, 900, .inl yw)), (g 43, .inl (cJ, 90, .inr (.inl zc))), (g 44, .inl (cJ, 90, .inr (.inl bf))), (mm, .inr (12, mo g (nI ta) (nI pa) (nI pe) pd (nI pb) pp pf pg pn rt rn (nI cd) sn (nI il) tk am at_ aa mt_ (nI bh) wd wt wy (nI it_) (nI rm) (nI ud) (nI nu) sd (nI qn) (nI qw) qo (nI qb) (nI qp) qa (nI qi) (nI oc))), (g 20, .inl (cI, 4, .inl (l4 (nI l0) (nI l1) (nI dm) (nI l3))))]) [4, 5, 6, 7, 8, 0, 1, 3, 2] rfl
                          have hD := hD.sub (ws' := [(g 31, .inl (cI, 120, .inl nw)), (g 38, .inl (cI, 90, .inl ws_)), (g 53, .inl (cI, 32, .inl rw_)), (g 37, .inl (cZ, 900, .inl yo)), (g 36, .inl (cZ, 900, .inl yw)), (g 43, .inl (cJ, 90, .inr (.inl zc))), (g 44, .inl (cJ, 90, .inr (.inl bf))), (mm, .inr (12, mo g (nI ta) (nI pa) (nI pe) pd (nI pb) pp pf pg pn rt rn (nI cd) sn (nI il) tk am at_ aa mt_ (nI bh) wd wt wy (nI it_) (nI rm) (nI ud) (nI nu) sd (nI qn) (nI qw) qo (nI qb) (nI qp) qa (nI qi) (nI oc))), (g 20, .inl (cI, 4, .inl (l4 (nI l0) (nI l1) (nI dm) (nI l3))))]) [4, 5, 6, 7, 8, 0, 1, 3, 2] (by decide +kernel) rfl
                          exact ih_lp_81 (kk + 1) xn _ _ _ (by omega) (by omega) hP hD hS (lv_sub hl [0, 1, 2, 3, 4, 5] rfl)
                        · have c_90 : ¬ (b_87 = 0) := fun h => c_90 ((neq b_87 0 (by omega) (by omega)).mpr h)
                          refine lv_lload hx hb dX12_laysWays_61 (lv_at hl 1 rfl) ?_
                          refine lv_aload_n hx hb dX12_laysWays_63 rfl (lv_at hl 5 rfl) ?_
                          refine sk_get (v := .ref (g 43)) (C := RX12) (T := TX12) (N := 92) hx hb hts inlX12 hown hK hP 3 rfl rfl 43 (by decide) w_5_198 rfl dX12_laysWays_64 ?_
                          refine lv_bipush (v := 10) hx hb dX12_laysWays_67 (by decide) ?_
                          refine lv_iload_n hx hb dX12_laysWays_69 rfl (lv_at hl 3 rfl) ?_
                          refine lv_iconst (v := 1) hx hb dX12_laysWays_70 (by decide) ?_
                          refine lv_iadd hx hb dX12_laysWays_71 ?_
                          refine sk_top (nI (dd - 1 + 1)) (nI_add (dd - 1) 1) ?_
                          refine lv_imul hx hb dX12_laysWays_72 ?_
                          refine sk_top (nI (10 * (dd - 1 + 1))) (nmul 10 (dd - 1 + 1)) ?_
                          refine lv_iload hx hb dX12_laysWays_73 (lv_at hl 0 rfl) ?_
                          refine lv_iadd hx hb dX12_laysWays_75 ?_
                          refine sk_top (nI (10 * (dd - 1 + 1) + kk)) (nI_add (10 * (dd - 1 + 1)) kk) ?_
                          refine va_lald hx hb hK.1 hP 0 1 rfl rfl (vin (10 * (dd - 1 + 1) + kk) 90 (by omega) (by omega)) dX12_laysWays_76 ?_
                          refine lv_topl (fun v_91 ev_91 => ?_)
                          refine lv_ladd hx hb dX12_laysWays_77 ?_
                          refine lv_topl (fun v_92 ev_92 => ?_)
                          refine lv_lstore (lv' := [(4, .long v_92), (6, .int (nI kk)), (3, .int (nI jm)), (2, .int (nI (dd - 1))), (1, .int (nI dm - 1)), (0, .ref mm)]) hx hb dX12_laysWays_78 hl (by decide) rfl (fun ls hl => ?_)
                          refine lv_iinc (v := nI (kk + 1)) (lv' := [(6, .int (nI (kk + 1))), (4, .long v_92), (3, .int (nI jm)), (2, .int (nI (dd - 1))), (1, .int (nI dm - 1)), (0, .ref mm)]) hx hb dX12_laysWays_80 hl (k := 1) rfl (ninc kk 1 (by decide)) (by decide) rfl (fun ls hl => ?_)
                          refine lv_goto (tgt := 36) hx hb dX12_laysWays_83 (by decide) ?_
                          have hP := hP.sub (ws' := [(g 31, .inl (cI, 120, .inl nw)), (g 38, .inl (cI, 90, .inl ws_)), (g 53, .inl (cI, 32, .inl rw_)), (g 37, .inl (cZ, 900, .inl yo)), (g 36, .inl (cZ, 900, .inl yw)), (g 43, .inl (cJ, 90, .inr (.inl zc))), (g 44, .inl (cJ, 90, .inr (.inl bf))), (mm, .inr (12, mo g (nI ta) (nI pa) (nI pe) pd (nI pb) pp pf pg pn rt rn (nI cd) sn (nI il) tk am at_ aa mt_ (nI bh) wd wt wy (nI it_) (nI rm) (nI ud) (nI nu) sd (nI qn) (nI qw) qo (nI qb) (nI qp) qa (nI qi) (nI oc))), (g 20, .inl (cI, 4, .inl (l4 (nI l0) (nI l1) (nI dm) (nI l3))))]) [4, 5, 6, 7, 8, 0, 1, 3, 2] rfl
                          have hD := hD.sub (ws' := [(g 31, .inl (cI, 120, .inl nw)), (g 38, .inl (cI, 90, .inl ws_)), (g 53, .inl (cI, 32, .inl rw_)), (g 37, .inl (cZ, 900, .inl yo)), (g 36, .inl (cZ, 900, .inl yw)), (g 43, .inl (cJ, 90, .inr (.inl zc))), (g 44, .inl (cJ, 90, .inr (.inl bf))), (mm, .inr (12, mo g (nI ta) (nI pa) (nI pe) pd (nI pb) pp pf pg pn rt rn (nI cd) sn (nI il) tk am at_ aa mt_ (nI bh) wd wt wy (nI it_) (nI rm) (nI ud) (nI nu) sd (nI qn) (nI qw) qo (nI qb) (nI qp) qa (nI qi) (nI oc))), (g 20, .inl (cI, 4, .inl (l4 (nI l0) (nI l1) (nI dm) (nI l3))))]) [4, 5, 6, 7, 8, 0, 1, 3, 2] (by decide +kernel) rfl
                          exact ih_lp_81 (kk + 1) v_92 _ _ _ (by omega) (by omega) hP hD hS (lv_sub hl [0, 1, 2, 3, 4, 5] rfl)
                exact lp_81 (10 - 0 + 1) 0 1 _ _ _ (Nat.lt_succ_self _) (by omega) hP hD hS (lv_sub hl [0, 1, 2, 3, 4, 5] rfl)
        exact lp_65 (10 - 0 + 1) 0 zb _ _ _ (Nat.lt_succ_self _) (by omega) hP hD hS (lv_sub hl [0, 1, 2, 3] rfl)
  exact lp_2 (dm + 1) dm be _ _ _ (Nat.lt_succ_self _) (by omega) hP hD hS (lv_sub hl [0, 1, 2] rfl)
theorem dX12_laysByWord_0 : decode cX12_laysByWord 0 = .ok (.aload_n 0, 1) := by decide +kernel
theorem dX12_laysByWord_1 : decode cX12_laysByWord 1 = .ok (.iconst 0, 1) := by decide +kernel
theorem dX12_laysByWord_2 : decode cX12_laysByWord 2 = .ok (.invokevirtual 385, 3) := by decide +kernel
theorem dX12_laysByWord_5 : decode cX12_laysByWord 5 = .ok (.aload_n 0, 1) := by decide +kernel
theorem dX12_laysByWord_6 : decode cX12_laysByWord 6 = .ok (.iload_n 1, 1) := by decide +kernel
theorem dX12_laysByWord_7 : decode cX12_laysByWord 7 = .ok (.putfield 79, 3) := by decide +kernel
theorem dX12_laysByWord_10 : decode cX12_laysByWord 10 = .ok (.aload_n 0, 1) := by decide +kernel
theorem dX12_laysByWord_11 : decode cX12_laysByWord 11 = .ok (.iload_n 2, 1) := by decide +kernel
theorem dX12_laysByWord_12 : decode cX12_laysByWord 12 = .ok (.putfield 365, 3) := by decide +kernel
theorem dX12_laysByWord_15 : decode cX12_laysByWord 15 = .ok (.aload_n 0, 1) := by decide +kernel
theorem dX12_laysByWord_16 : decode cX12_laysByWord 16 = .ok (.invokevirtual 388, 3) := by decide +kernel
theorem dX12_laysByWord_19 : decode cX12_laysByWord 19 = .ok (.aload_n 0, 1) := by decide +kernel
theorem dX12_laysByWord_20 : decode cX12_laysByWord 20 = .ok (.iconst (-1), 1) := by decide +kernel
theorem dX12_laysByWord_21 : decode cX12_laysByWord 21 = .ok (.putfield 79, 3) := by decide +kernel
theorem dX12_laysByWord_24 : decode cX12_laysByWord 24 = .ok (.return_, 1) := by decide +kernel
theorem w_8_84 : (Cond.code yX12_laysByWord cX12_laysByWord 3 none) ∈ wsL_law := sk_mem (ck_8 _ (List.mem_of_getElem? (i := 84) rfl)) rfl
set_option maxHeartbeats 4000000 in
set_option maxRecDepth 100000 in
theorem c_m_laysByWord (l : Launch) (D : va_G) (cI cJ cC cZ cS : ClassId) (mm : Nat) (g : Nat → Nat) (ta : Nat) (pa : Nat) (pe : Nat) (pd : Int32) (pb : Nat) (pp : Int32) (pf : Int32) (pg : Int32) (pn : Int32) (rt : Int32) (rn : Int32) (cd : Nat) (sn : Int32) (il : Nat) (tk : Int32) (am : Int32) (at_ : Int32) (aa : Int32) (wt : Int32) (wy : Int64) (rm : Nat) (ud : Nat) (nu : Nat) (sd : Int64) (qn : Nat) (qw : Nat) (qo : Int32) (qb : Nat) (qp : Nat) (qa : Int64) (qi : Nat) (oc : Nat) (d : Int32) (w : Int32) (u0 : Int32) (u1 : Int32) (u2 : Int32) (u3 : Int32) (u4 : Int32) (u5 : Int32) (v0 : Int32) (v1 : Int32) (v2 : Int32) (v3 : Int32) (v4 : Int32) (v5 : Int32) (cs : Nat → Nat) (nw : Nat → Int32) (pt : Nat → Nat) (ql : Nat → Int64) (l0 : Nat) (l1 : Nat) (dm : Nat) (l3 : Nat) (ws_ : Nat → Int32) (yw : Nat → Int32) (yo : Nat → Int32) (be : Nat → Int64) (bf : Nat → Int64) (rw_ : Nat → Int32) (hdm : dm ≤ 9) (hdm1 : 1 ≤ dm) (hp0 : progOk cs u3 v3) (hp1 : progOk cs u4 v4) (hp2 : progOk cs u5 v5) (hrm : rm ≤ 16) (hcs : ∀ j, cs j ≤ 20000) (hnw : nowOk nw) (hpt : ∀ j, pt j ≤ 9) : skM l yX12_laysByWord cX12_laysByWord 3 none 5 122 0 0 D (skT cI cJ cC cZ cS) [.ref mm, .int d, .int w] [(mm, .inr (12, mo g (nI ta) (nI pa) (nI pe) pd (nI pb) pp pf pg pn rt rn (nI cd) sn (nI il) tk am at_ aa 0 0 (-1) wt wy 0 (nI rm) (nI ud) (nI nu) sd (nI qn) (nI qw) qo (nI qb) (nI qp) qa (nI qi) (nI oc))), (g 24, .inl (cI, 6, .inl (l6 u0 u1 u2 u3 u4 u5))), (g 25, .inl (cI, 6, .inl (l6 v0 v1 v2 v3 v4 v5))), (g 26, .inl (cI, 3200, .inl (fun j => nI (cs j)))), (g 31, .inl (cI, 120, .inl nw)), (g 46, .inl (cI, 9, .inl (fun j => nI (pt j)))), (g 86, .inl (cJ, 1700, .inr (.inl ql))), (g 20, .inl (cI, 4, .inl (l4 (nI l0) (nI l1) (nI dm) (nI l3)))), (g 38, .inl (cI, 90, .inl ws_)), (g 36, .inl (cZ, 900, .inl yw)), (g 37, .inl (cZ, 900, .inl yo)), (g 43, .inl (cJ, 90, .inr (.inl be))), (g 44, .inl (cJ, 90, .inr (.inl bf))), (g 53, .inl (cI, 32, .inl rw_))] (skV D (skT cI cJ cC cZ cS) (fun (u : va_W) => ∃ (tk2 : Int32), ∃ (qp2 : Nat), ∃ (am2 : Int32), ∃ (at_2 : Int32), ∃ (aa2 : Int32), ∃ (wy2 : Int64), ∃ (wt2 : Int32), ∃ (ql2 : Nat → Int64), ∃ (ws_2 : Nat → Int32), ∃ (yw2 : Nat → Int32), ∃ (yo2 : Nat → Int32), ∃ (be2 : Nat → Int64), ∃ (bf2 : Nat → Int64), u = [(mm, .inr (12, mo g (nI ta) (nI pa) (nI pe) pd (nI pb) pp pf pg pn rt rn (nI cd) sn (nI il) tk2 am2 at_2 aa2 0 0 (-1) wt2 wy2 0 (nI rm) (nI ud) (nI nu) sd (nI qn) (nI qw) qo (nI qb) (nI qp2) qa (nI qi) (nI oc))), (g 24, .inl (cI, 6, .inl (l6 u0 u1 u2 u3 u4 u5))), (g 25, .inl (cI, 6, .inl (l6 v0 v1 v2 v3 v4 v5))), (g 26, .inl (cI, 3200, .inl (fun j => nI (cs j)))), (g 31, .inl (cI, 120, .inl nw)), (g 46, .inl (cI, 9, .inl (fun j => nI (pt j)))), (g 86, .inl (cJ, 1700, .inr (.inl ql2))), (g 20, .inl (cI, 4, .inl (l4 (nI l0) (nI l1) (nI dm) (nI l3)))), (g 38, .inl (cI, 90, .inl ws_2)), (g 36, .inl (cZ, 900, .inl yw2)), (g 37, .inl (cZ, 900, .inl yo2)), (g 43, .inl (cJ, 90, .inr (.inl be2))), (g 44, .inl (cJ, 90, .inr (.inl bf2))), (g 53, .inl (cI, 32, .inl rw_))])) := by
  refine skM_of (by decide +kernel) (Nat.le_of_ble_eq_true rfl) ?_
  intro p e s m below meth c A ls E hP hD hl
  obtain ⟨hx, hb, hr, hml, hlocks, hin, hown, hts, hK, hA⟩ := E
  have hown : s.vm.findClass RX12 = some m.cls := hown
  have hS : va_S A s.heap s.heap [] := va_S.rf
  have hl : lv_has ls 3 [(0, .ref mm), (1, .int d), (2, .int w)] := hl
  refine lv_aload_n hx hb dX12_laysByWord_0 rfl (lv_at hl 0 rfl) ?_
  refine lv_iconst (v := 0) hx hb dX12_laysByWord_1 (by decide) ?_
  refine sk_Vv (q0 := 0) (n := 1) (rest := []) (wr := [(g 43, .inl (cJ, 90, .inr (.inl be))), (g 44, .inl (cJ, 90, .inr (.inl bf))), (g 53, .inl (cI, 32, .inl rw_))]) ⟨hx, hb, hml, hown, hts⟩ hl.1 (c_m_laysDays l D cI cJ cC cZ cS mm g ta pa pe pd pb pp pf pg pn rt rn cd sn il tk am at_ aa 0 0 (-1) wt wy 0 rm ud nu sd qn qw qo qb qp qa qi oc 0 u0 u1 u2 u3 u4 u5 v0 v1 v2 v3 v4 v5 cs nw pt ql l0 l1 dm l3 ws_ yw yo (by omega) hp0 hp1 hp2 hcs hnw hpt) w_7_193 w_7_195 w_0_83 w_1_14 w_7_196 (by decide +kernel) ⟨⟨(Nat.le_of_ble_eq_true rfl), (Nat.le_of_ble_eq_true rfl)⟩, (Nat.le_of_ble_eq_true rfl), (Nat.le_of_ble_eq_true rfl)⟩ hK hP hD hS hA [0, 1, 2, 3, 4, 5, 6, 7, 8, 9, 10] [11, 12, 13] rfl rfl (by decide +kernel) (by decide +kernel) (by decide +kernel) rfl rfl rfl rfl (Nat.le_of_ble_eq_true rfl) dX12_laysByWord_2 (fun u H locs hw hP hD hS => ?_)
  obtain ⟨tk2_1, qp2_2, am2_3, at_2_4, aa2_5, ql2_6, ws_2_7, yw2_8, yo2_9, rfl⟩ := hw
  have hP : va_P D vwCl [(g 43, .inl (cJ, 90, .inr (.inl be))), (g 44, .inl (cJ, 90, .inr (.inl bf))), (g 53, .inl (cI, 32, .inl rw_)), (mm, .inr (12, mo g (nI ta) (nI pa) (nI pe) pd (nI pb) pp pf pg pn rt rn (nI cd) sn (nI il) tk2_1 am2_3 at_2_4 aa2_5 0 0 (-1) wt wy 0 (nI rm) (nI ud) (nI nu) sd (nI qn) (nI qw) qo (nI qb) (nI qp2_2) qa (nI qi) (nI oc))), (g 24, .inl (cI, 6, .inl (l6 u0 u1 u2 u3 u4 u5))), (g 25, .inl (cI, 6, .inl (l6 v0 v1 v2 v3 v4 v5))), (g 26, .inl (cI, 3200, .inl (fun j => nI (cs j)))), (g 31, .inl (cI, 120, .inl nw)), (g 46, .inl (cI, 9, .inl (fun j => nI (pt j)))), (g 86, .inl (cJ, 1700, .inr (.inl ql2_6))), (g 20, .inl (cI, 4, .inl (l4 (nI l0) (nI l1) (nI dm) (nI l3)))), (g 38, .inl (cI, 90, .inl ws_2_7)), (g 36, .inl (cZ, 900, .inl yw2_8)), (g 37, .inl (cZ, 900, .inl yo2_9))] H := hP
  have hD : va_D A [(g 43, .inl (cJ, 90, .inr (.inl be))), (g 44, .inl (cJ, 90, .inr (.inl bf))), (g 53, .inl (cI, 32, .inl rw_)), (mm, .inr (12, mo g (nI ta) (nI pa) (nI pe) pd (nI pb) pp pf pg pn rt rn (nI cd) sn (nI il) tk2_1 am2_3 at_2_4 aa2_5 0 0 (-1) wt wy 0 (nI rm) (nI ud) (nI nu) sd (nI qn) (nI qw) qo (nI qb) (nI qp2_2) qa (nI qi) (nI oc))), (g 24, .inl (cI, 6, .inl (l6 u0 u1 u2 u3 u4 u5))), (g 25, .inl (cI, 6, .inl (l6 v0 v1 v2 v3 v4 v5))), (g 26, .inl (cI, 3200, .inl (fun j => nI (cs j)))), (g 31, .inl (cI, 120, .inl nw)), (g 46, .inl (cI, 9, .inl (fun j => nI (pt j)))), (g 86, .inl (cJ, 1700, .inr (.inl ql2_6))), (g 20, .inl (cI, 4, .inl (l4 (nI l0) (nI l1) (nI dm) (nI l3)))), (g 38, .inl (cI, 90, .inl ws_2_7)), (g 36, .inl (cZ, 900, .inl yw2_8)), (g 37, .inl (cZ, 900, .inl yo2_9))] := hD
  refine lv_aload_n hx hb dX12_laysByWord_5 rfl (lv_at hl 0 rfl) ?_
  refine lv_iload_n hx hb dX12_laysByWord_6 rfl (lv_at hl 1 rfl) ?_
  refine sk_put (ws' := [(g 43, .inl (cJ, 90, .inr (.inl be))), (g 44, .inl (cJ, 90, .inr (.inl bf))), (g 53, .inl (cI, 32, .inl rw_)), (mm, .inr (12, mo g (nI ta) (nI pa) (nI pe) pd (nI pb) pp pf pg pn rt rn (nI cd) sn (nI il) tk2_1 am2_3 at_2_4 aa2_5 0 0 d wt wy 0 (nI rm) (nI ud) (nI nu) sd (nI qn) (nI qw) qo (nI qb) (nI qp2_2) qa (nI qi) (nI oc))), (g 24, .inl (cI, 6, .inl (l6 u0 u1 u2 u3 u4 u5))), (g 25, .inl (cI, 6, .inl (l6 v0 v1 v2 v3 v4 v5))), (g 26, .inl (cI, 3200, .inl (fun j => nI (cs j)))), (g 31, .inl (cI, 120, .inl nw)), (g 46, .inl (cI, 9, .inl (fun j => nI (pt j)))), (g 86, .inl (cJ, 1700, .inr (.inl ql2_6))), (g 20, .inl (cI, 4, .inl (l4 (nI l0) (nI l1) (nI dm) (nI l3)))), (g 38, .inl (cI, 90, .inl ws_2_7)), (g 36, .inl (cZ, 900, .inl yw2_8)), (g 37, .inl (cZ, 900, .inl yo2_9))]) (C := RX12) (T := TX12) (N := 92) (v := .int d) hx hb hts inlX12 tyX12 tyX12_ok nmX12 hown hK hP hD hS 3 rfl rfl 41 (by decide) w_5_196 rfl rfl rfl (Nat.le_of_ble_eq_true rfl) rfl dX12_laysByWord_7 (fun H locs hP hD hS => ?_)
  refine lv_aload_n hx hb dX12_laysByWord_10 rfl (lv_at hl 0 rfl) ?_
  refine lv_iload_n hx hb dX12_laysByWord_11 rfl (lv_at hl 2 rfl) ?_
  refine sk_put (ws' := [(g 43, .inl (cJ, 90, .inr (.inl be))), (g 44, .inl (cJ, 90, .inr (.inl bf))), (g 53, .inl (cI, 32, .inl rw_)), (mm, .inr (12, mo g (nI ta) (nI pa) (nI pe) pd (nI pb) pp pf pg pn rt rn (nI cd) sn (nI il) tk2_1 am2_3 at_2_4 aa2_5 0 0 d w wy 0 (nI rm) (nI ud) (nI nu) sd (nI qn) (nI qw) qo (nI qb) (nI qp2_2) qa (nI qi) (nI oc))), (g 24, .inl (cI, 6, .inl (l6 u0 u1 u2 u3 u4 u5))), (g 25, .inl (cI, 6, .inl (l6 v0 v1 v2 v3 v4 v5))), (g 26, .inl (cI, 3200, .inl (fun j => nI (cs j)))), (g 31, .inl (cI, 120, .inl nw)), (g 46, .inl (cI, 9, .inl (fun j => nI (pt j)))), (g 86, .inl (cJ, 1700, .inr (.inl ql2_6))), (g 20, .inl (cI, 4, .inl (l4 (nI l0) (nI l1) (nI dm) (nI l3)))), (g 38, .inl (cI, 90, .inl ws_2_7)), (g 36, .inl (cZ, 900, .inl yw2_8)), (g 37, .inl (cZ, 900, .inl yo2_9))]) (C := RX12) (T := TX12) (N := 92) (v := .int w) hx hb hts inlX12 tyX12 tyX12_ok nmX12 hown hK hP hD hS 3 rfl rfl 42 (by decide) w_5_197 rfl rfl rfl (Nat.le_of_ble_eq_true rfl) rfl dX12_laysByWord_12 (fun H locs hP hD hS => ?_)
  refine lv_aload_n hx hb dX12_laysByWord_15 rfl (lv_at hl 0 rfl) ?_
  refine sk_Vv (q0 := 0) (n := 0) (rest := []) (wr := [(g 24, .inl (cI, 6, .inl (l6 u0 u1 u2 u3 u4 u5))), (g 25, .inl (cI, 6, .inl (l6 v0 v1 v2 v3 v4 v5))), (g 26, .inl (cI, 3200, .inl (fun j => nI (cs j)))), (g 46, .inl (cI, 9, .inl (fun j => nI (pt j)))), (g 86, .inl (cJ, 1700, .inr (.inl ql2_6)))]) ⟨hx, hb, hml, hown, hts⟩ hl.1 (c_m_laysWaysS l D cI cJ cC cZ cS mm g ta pa pe pd pb pp pf pg pn rt rn cd sn il tk2_1 am2_3 at_2_4 aa2_5 0 0 d w wy 0 rm ud nu sd qn qw qo qb qp2_2 qa qi oc l0 l1 dm l3 nw ws_2_7 rw_ yo2_9 yw2_8 be bf (by omega) (by omega) (by omega) (by omega) hnw) w_7_197 w_7_199 w_0_84 w_1_14 w_7_200 (by decide +kernel) ⟨⟨(Nat.le_of_ble_eq_true rfl), (Nat.le_of_ble_eq_true rfl)⟩, (Nat.le_of_ble_eq_true rfl), (Nat.le_of_ble_eq_true rfl)⟩ hK hP hD hS hA [3, 10, 7, 11, 2, 13, 12, 0, 1] [4, 5, 6, 8, 9] rfl rfl (by decide +kernel) (by decide +kernel) (by decide +kernel) rfl rfl rfl rfl (Nat.le_of_ble_eq_true rfl) dX12_laysByWord_16 (fun u H locs hw hP hD hS => ?_)
  obtain ⟨wy2_10, be2_11, bf2_12, rfl⟩ := hw
  have hP : va_P D vwCl [(g 24, .inl (cI, 6, .inl (l6 u0 u1 u2 u3 u4 u5))), (g 25, .inl (cI, 6, .inl (l6 v0 v1 v2 v3 v4 v5))), (g 26, .inl (cI, 3200, .inl (fun j => nI (cs j)))), (g 46, .inl (cI, 9, .inl (fun j => nI (pt j)))), (g 86, .inl (cJ, 1700, .inr (.inl ql2_6))), (mm, .inr (12, mo g (nI ta) (nI pa) (nI pe) pd (nI pb) pp pf pg pn rt rn (nI cd) sn (nI il) tk2_1 am2_3 at_2_4 aa2_5 0 0 d w wy2_10 0 (nI rm) (nI ud) (nI nu) sd (nI qn) (nI qw) qo (nI qb) (nI qp2_2) qa (nI qi) (nI oc))), (g 20, .inl (cI, 4, .inl (l4 (nI l0) (nI l1) (nI dm) (nI l3)))), (g 31, .inl (cI, 120, .inl nw)), (g 38, .inl (cI, 90, .inl ws_2_7)), (g 53, .inl (cI, 32, .inl rw_)), (g 37, .inl (cZ, 900, .inl yo2_9)), (g 36, .inl (cZ, 900, .inl yw2_8)), (g 43, .inl (cJ, 90, .inr (.inl be2_11))), (g 44, .inl (cJ, 90, .inr (.inl bf2_12)))] H := hP
  have hD : va_D A [(g 24, .inl (cI, 6, .inl (l6 u0 u1 u2 u3 u4 u5))), (g 25, .inl (cI, 6, .inl (l6 v0 v1 v2 v3 v4 v5))), (g 26, .inl (cI, 3200, .inl (fun j => nI (cs j)))), (g 46, .inl (cI, 9, .inl (fun j => nI (pt j)))), (g 86, .inl (cJ, 1700, .inr (.inl ql2_6))), (mm, .inr (12, mo g (nI ta) (nI pa) (nI pe) pd (nI pb) pp pf pg pn rt rn (nI cd) sn (nI il) tk2_1 am2_3 at_2_4 aa2_5 0 0 d w wy2_10 0 (nI rm) (nI ud) (nI nu) sd (nI qn) (nI qw) qo (nI qb) (nI qp2_2) qa (nI qi) (nI oc))), (g 20, .inl (cI, 4, .inl (l4 (nI l0) (nI l1) (nI dm) (nI l3)))), (g 31, .inl (cI, 120, .inl nw)), (g 38, .inl (cI, 90, .inl ws_2_7)), (g 53, .inl (cI, 32, .inl rw_)), (g 37, .inl (cZ, 900, .inl yo2_9)), (g 36, .inl (cZ, 900, .inl yw2_8)), (g 43, .inl (cJ, 90, .inr (.inl be2_11))), (g 44, .inl (cJ, 90, .inr (.inl bf2_12)))] := hD
  refine lv_aload_n hx hb dX12_laysByWord_19 rfl (lv_at hl 0 rfl) ?_
  refine lv_iconst (v := (-1)) hx hb dX12_laysByWord_20 (by decide) ?_
  refine sk_put (ws' := [(g 24, .inl (cI, 6, .inl (l6 u0 u1 u2 u3 u4 u5))), (g 25, .inl (cI, 6, .inl (l6 v0 v1 v2 v3 v4 v5))), (g 26, .inl (cI, 3200, .inl (fun j => nI (cs j)))), (g 46, .inl (cI, 9, .inl (fun j => nI (pt j)))), (g 86, .inl (cJ, 1700, .inr (.inl ql2_6))), (mm, .inr (12, mo g (nI ta) (nI pa) (nI pe) pd (nI pb) pp pf pg pn rt rn (nI cd) sn (nI il) tk2_1 am2_3 at_2_4 aa2_5 0 0 (-1) w wy2_10 0 (nI rm) (nI ud) (nI nu) sd (nI qn) (nI qw) qo (nI qb) (nI qp2_2) qa (nI qi) (nI oc))), (g 20, .inl (cI, 4, .inl (l4 (nI l0) (nI l1) (nI dm) (nI l3)))), (g 31, .inl (cI, 120, .inl nw)), (g 38, .inl (cI, 90, .inl ws_2_7)), (g 53, .inl (cI, 32, .inl rw_)), (g 37, .inl (cZ, 900, .inl yo2_9)), (g 36, .inl (cZ, 900, .inl yw2_8)), (g 43, .inl (cJ, 90, .inr (.inl be2_11))), (g 44, .inl (cJ, 90, .inr (.inl bf2_12)))]) (C := RX12) (T := TX12) (N := 92) (v := .int (-1)) hx hb hts inlX12 tyX12 tyX12_ok nmX12 hown hK hP hD hS 5 rfl rfl 41 (by decide) w_5_196 rfl rfl rfl (Nat.le_of_ble_eq_true rfl) rfl dX12_laysByWord_21 (fun H locs hP hD hS => ?_)
  have hP := hP.sub (ws' := [(mm, .inr (12, mo g (nI ta) (nI pa) (nI pe) pd (nI pb) pp pf pg pn rt rn (nI cd) sn (nI il) tk2_1 am2_3 at_2_4 aa2_5 0 0 (-1) w wy2_10 0 (nI rm) (nI ud) (nI nu) sd (nI qn) (nI qw) qo (nI qb) (nI qp2_2) qa (nI qi) (nI oc))), (g 24, .inl (cI, 6, .inl (l6 u0 u1 u2 u3 u4 u5))), (g 25, .inl (cI, 6, .inl (l6 v0 v1 v2 v3 v4 v5))), (g 26, .inl (cI, 3200, .inl (fun j => nI (cs j)))), (g 31, .inl (cI, 120, .inl nw)), (g 46, .inl (cI, 9, .inl (fun j => nI (pt j)))), (g 86, .inl (cJ, 1700, .inr (.inl ql2_6))), (g 20, .inl (cI, 4, .inl (l4 (nI l0) (nI l1) (nI dm) (nI l3)))), (g 38, .inl (cI, 90, .inl ws_2_7)), (g 36, .inl (cZ, 900, .inl yw2_8)), (g 37, .inl (cZ, 900, .inl yo2_9)), (g 43, .inl (cJ, 90, .inr (.inl be2_11))), (g 44, .inl (cJ, 90, .inr (.inl bf2_12))), (g 53, .inl (cI, 32, .inl rw_))]) [5, 0, 1, 2, 7, 3, 4, 6, 8, 11, 10, 12, 13, 9] rfl
  have hD := hD.sub (ws' := [(mm, .inr (12, mo g (nI ta) (nI pa) (nI pe) pd (nI pb) pp pf pg pn rt rn (nI cd) sn (nI il) tk2_1 am2_3 at_2_4 aa2_5 0 0 (-1) w wy2_10 0 (nI rm) (nI ud) (nI nu) sd (nI qn) (nI qw) qo (nI qb) (nI qp2_2) qa (nI qi) (nI oc))), (g 24, .inl (cI, 6, .inl (l6 u0 u1 u2 u3 u4 u5))), (g 25, .inl (cI, 6, .inl (l6 v0 v1 v2 v3 v4 v5))), (g 26, .inl (cI, 3200, .inl (fun j => nI (cs j)))), (g 31, .inl (cI, 120, .inl nw)), (g 46, .inl (cI, 9, .inl (fun j => nI (pt j)))), (g 86, .inl (cJ, 1700, .inr (.inl ql2_6))), (g 20, .inl (cI, 4, .inl (l4 (nI l0) (nI l1) (nI dm) (nI l3)))), (g 38, .inl (cI, 90, .inl ws_2_7)), (g 36, .inl (cZ, 900, .inl yw2_8)), (g 37, .inl (cZ, 900, .inl yo2_9)), (g 43, .inl (cJ, 90, .inr (.inl be2_11))), (g 44, .inl (cJ, 90, .inr (.inl bf2_12))), (g 53, .inl (cI, 32, .inl rw_))]) [5, 0, 1, 2, 7, 3, 4, 6, 8, 11, 10, 12, 13, 9] (by decide +kernel) rfl
  exact sk_vret hx hb hr hlocks hK hP hD hS (⟨tk2_1, qp2_2, am2_3, at_2_4, aa2_5, wy2_10, w, ql2_6, ws_2_7, yw2_8, yo2_9, be2_11, bf2_12, rfl⟩) (Nat.le_of_ble_eq_true rfl) (Nat.le_of_ble_eq_true rfl) dX12_laysByWord_24
theorem dX12_laysHeard_0 : decode cX12_laysHeard 0 = .ok (.aload_n 0, 1) := by decide +kernel
theorem dX12_laysHeard_1 : decode cX12_laysHeard 1 = .ok (.iconst 0, 1) := by decide +kernel
theorem dX12_laysHeard_2 : decode cX12_laysHeard 2 = .ok (.invokevirtual 385, 3) := by decide +kernel
theorem dX12_laysHeard_5 : decode cX12_laysHeard 5 = .ok (.aload_n 0, 1) := by decide +kernel
theorem dX12_laysHeard_6 : decode cX12_laysHeard 6 = .ok (.iconst 1, 1) := by decide +kernel
theorem dX12_laysHeard_7 : decode cX12_laysHeard 7 = .ok (.putfield 368, 3) := by decide +kernel
theorem dX12_laysHeard_10 : decode cX12_laysHeard 10 = .ok (.aload_n 0, 1) := by decide +kernel
theorem dX12_laysHeard_11 : decode cX12_laysHeard 11 = .ok (.invokevirtual 388, 3) := by decide +kernel
theorem dX12_laysHeard_14 : decode cX12_laysHeard 14 = .ok (.aload_n 0, 1) := by decide +kernel
theorem dX12_laysHeard_15 : decode cX12_laysHeard 15 = .ok (.iconst 0, 1) := by decide +kernel
theorem dX12_laysHeard_16 : decode cX12_laysHeard 16 = .ok (.putfield 368, 3) := by decide +kernel
theorem dX12_laysHeard_19 : decode cX12_laysHeard 19 = .ok (.return_, 1) := by decide +kernel
theorem w_8_108 : (Cond.code yX12_laysHeard cX12_laysHeard 1 none) ∈ wsL_law := sk_mem (ck_8 _ (List.mem_of_getElem? (i := 108) rfl)) rfl
set_option maxHeartbeats 4000000 in
set_option maxRecDepth 100000 in
theorem c_m_laysHeard (l : Launch) (D : va_G) (cI cJ cC cZ cS : ClassId) (mm : Nat) (g : Nat → Nat) (ta : Nat) (pa : Nat) (pe : Nat) (pd : Int32) (pb : Nat) (pp : Int32) (pf : Int32) (pg : Int32) (pn : Int32) (rt : Int32) (rn : Int32) (cd : Nat) (sn : Int32) (il : Nat) (tk : Int32) (am : Int32) (at_ : Int32) (aa : Int32) (wt : Int32) (wy : Int64) (rm : Nat) (ud : Nat) (nu : Nat) (sd : Int64) (qn : Nat) (qw : Nat) (qo : Int32) (qb : Nat) (qp : Nat) (qa : Int64) (qi : Nat) (oc : Nat) (u0 : Int32) (u1 : Int32) (u2 : Int32) (u3 : Int32) (u4 : Int32) (u5 : Int32) (v0 : Int32) (v1 : Int32) (v2 : Int32) (v3 : Int32) (v4 : Int32) (v5 : Int32) (cs : Nat → Nat) (nw : Nat → Int32) (pt : Nat → Nat) (ql : Nat → Int64) (l0 : Nat) (l1 : Nat) (dm : Nat) (l3 : Nat) (ws_ : Nat → Int32) (yw : Nat → Int32) (yo : Nat → Int32) (be : Nat → Int64) (bf : Nat → Int64) (rw_ : Nat → Int32) (hdm : dm ≤ 9) (hdm1 : 1 ≤ dm) (hp0 : progOk cs u3 v3) (hp1 : progOk cs u4 v4) (hp2 : progOk cs u5 v5) (hrm : rm ≤ 16) (hcs : ∀ j, cs j ≤ 20000) (hnw : nowOk nw) (hpt : ∀ j, pt j ≤ 9) : skM l yX12_laysHeard cX12_laysHeard 1 none 5 122 0 0 D (skT cI cJ cC cZ cS) [.ref mm] [(mm, .inr (12, mo g (nI ta) (nI pa) (nI pe) pd (nI pb) pp pf pg pn rt rn (nI cd) sn (nI il) tk am at_ aa 0 0 (-1) wt wy 0 (nI rm) (nI ud) (nI nu) sd (nI qn) (nI qw) qo (nI qb) (nI qp) qa (nI qi) (nI oc))), (g 24, .inl (cI, 6, .inl (l6 u0 u1 u2 u3 u4 u5))), (g 25, .inl (cI, 6, .inl (l6 v0 v1 v2 v3 v4 v5))), (g 26, .inl (cI, 3200, .inl (fun j => nI (cs j)))), (g 31, .inl (cI, 120, .inl nw)), (g 46, .inl (cI, 9, .inl (fun j => nI (pt j)))), (g 86, .inl (cJ, 1700, .inr (.inl ql))), (g 20, .inl (cI, 4, .inl (l4 (nI l0) (nI l1) (nI dm) (nI l3)))), (g 38, .inl (cI, 90, .inl ws_)), (g 36, .inl (cZ, 900, .inl yw)), (g 37, .inl (cZ, 900, .inl yo)), (g 43, .inl (cJ, 90, .inr (.inl be))), (g 44, .inl (cJ, 90, .inr (.inl bf))), (g 53, .inl (cI, 32, .inl rw_))] (skV D (skT cI cJ cC cZ cS) (fun (u : va_W) => ∃ (tk2 : Int32), ∃ (qp2 : Nat), ∃ (am2 : Int32), ∃ (at_2 : Int32), ∃ (aa2 : Int32), ∃ (wy2 : Int64), ∃ (ql2 : Nat → Int64), ∃ (ws_2 : Nat → Int32), ∃ (yw2 : Nat → Int32), ∃ (yo2 : Nat → Int32), ∃ (be2 : Nat → Int64), ∃ (bf2 : Nat → Int64), u = [(mm, .inr (12, mo g (nI ta) (nI pa) (nI pe) pd (nI pb) pp pf pg pn rt rn (nI cd) sn (nI il) tk2 am2 at_2 aa2 0 0 (-1) wt wy2 0 (nI rm) (nI ud) (nI nu) sd (nI qn) (nI qw) qo (nI qb) (nI qp2) qa (nI qi) (nI oc))), (g 24, .inl (cI, 6, .inl (l6 u0 u1 u2 u3 u4 u5))), (g 25, .inl (cI, 6, .inl (l6 v0 v1 v2 v3 v4 v5))), (g 26, .inl (cI, 3200, .inl (fun j => nI (cs j)))), (g 31, .inl (cI, 120, .inl nw)), (g 46, .inl (cI, 9, .inl (fun j => nI (pt j)))), (g 86, .inl (cJ, 1700, .inr (.inl ql2))), (g 20, .inl (cI, 4, .inl (l4 (nI l0) (nI l1) (nI dm) (nI l3)))), (g 38, .inl (cI, 90, .inl ws_2)), (g 36, .inl (cZ, 900, .inl yw2)), (g 37, .inl (cZ, 900, .inl yo2)), (g 43, .inl (cJ, 90, .inr (.inl be2))), (g 44, .inl (cJ, 90, .inr (.inl bf2))), (g 53, .inl (cI, 32, .inl rw_))])) := by
  refine skM_of (by decide +kernel) (Nat.le_of_ble_eq_true rfl) ?_
  intro p e s m below meth c A ls E hP hD hl
  obtain ⟨hx, hb, hr, hml, hlocks, hin, hown, hts, hK, hA⟩ := E
  have hown : s.vm.findClass RX12 = some m.cls := hown
  have hS : va_S A s.heap s.heap [] := va_S.rf
  have hl : lv_has ls 1 [(0, .ref mm)] := hl
  refine lv_aload_n hx hb dX12_laysHeard_0 rfl (lv_at hl 0 rfl) ?_
  refine lv_iconst (v := 0) hx hb dX12_laysHeard_1 (by decide) ?_
  refine sk_Vv (q0 := 0) (n := 1) (rest := []) (wr := [(g 43, .inl (cJ, 90, .inr (.inl be))), (g 44, .inl (cJ, 90, .inr (.inl bf))), (g 53, .inl (cI, 32, .inl rw_))]) ⟨hx, hb, hml, hown, hts⟩ hl.1 (c_m_laysDays l D cI cJ cC cZ cS mm g ta pa pe pd pb pp pf pg pn rt rn cd sn il tk am at_ aa 0 0 (-1) wt wy 0 rm ud nu sd qn qw qo qb qp qa qi oc 0 u0 u1 u2 u3 u4 u5 v0 v1 v2 v3 v4 v5 cs nw pt ql l0 l1 dm l3 ws_ yw yo (by omega) hp0 hp1 hp2 hcs hnw hpt) w_7_193 w_7_195 w_0_83 w_1_14 w_7_196 (by decide +kernel) ⟨⟨(Nat.le_of_ble_eq_true rfl), (Nat.le_of_ble_eq_true rfl)⟩, (Nat.le_of_ble_eq_true rfl), (Nat.le_of_ble_eq_true rfl)⟩ hK hP hD hS hA [0, 1, 2, 3, 4, 5, 6, 7, 8, 9, 10] [11, 12, 13] rfl rfl (by decide +kernel) (by decide +kernel) (by decide +kernel) rfl rfl rfl rfl (Nat.le_of_ble_eq_true rfl) dX12_laysHeard_2 (fun u H locs hw hP hD hS => ?_)
  obtain ⟨tk2_1, qp2_2, am2_3, at_2_4, aa2_5, ql2_6, ws_2_7, yw2_8, yo2_9, rfl⟩ := hw
  have hP : va_P D vwCl [(g 43, .inl (cJ, 90, .inr (.inl be))), (g 44, .inl (cJ, 90, .inr (.inl bf))), (g 53, .inl (cI, 32, .inl rw_)), (mm, .inr (12, mo g (nI ta) (nI pa) (nI pe) pd (nI pb) pp pf pg pn rt rn (nI cd) sn (nI il) tk2_1 am2_3 at_2_4 aa2_5 0 0 (-1) wt wy 0 (nI rm) (nI ud) (nI nu) sd (nI qn) (nI qw) qo (nI qb) (nI qp2_2) qa (nI qi) (nI oc))), (g 24, .inl (cI, 6, .inl (l6 u0 u1 u2 u3 u4 u5))), (g 25, .inl (cI, 6, .inl (l6 v0 v1 v2 v3 v4 v5))), (g 26, .inl (cI, 3200, .inl (fun j => nI (cs j)))), (g 31, .inl (cI, 120, .inl nw)), (g 46, .inl (cI, 9, .inl (fun j => nI (pt j)))), (g 86, .inl (cJ, 1700, .inr (.inl ql2_6))), (g 20, .inl (cI, 4, .inl (l4 (nI l0) (nI l1) (nI dm) (nI l3)))), (g 38, .inl (cI, 90, .inl ws_2_7)), (g 36, .inl (cZ, 900, .inl yw2_8)), (g 37, .inl (cZ, 900, .inl yo2_9))] H := hP
  have hD : va_D A [(g 43, .inl (cJ, 90, .inr (.inl be))), (g 44, .inl (cJ, 90, .inr (.inl bf))), (g 53, .inl (cI, 32, .inl rw_)), (mm, .inr (12, mo g (nI ta) (nI pa) (nI pe) pd (nI pb) pp pf pg pn rt rn (nI cd) sn (nI il) tk2_1 am2_3 at_2_4 aa2_5 0 0 (-1) wt wy 0 (nI rm) (nI ud) (nI nu) sd (nI qn) (nI qw) qo (nI qb) (nI qp2_2) qa (nI qi) (nI oc))), (g 24, .inl (cI, 6, .inl (l6 u0 u1 u2 u3 u4 u5))), (g 25, .inl (cI, 6, .inl (l6 v0 v1 v2 v3 v4 v5))), (g 26, .inl (cI, 3200, .inl (fun j => nI (cs j)))), (g 31, .inl (cI, 120, .inl nw)), (g 46, .inl (cI, 9, .inl (fun j => nI (pt j)))), (g 86, .inl (cJ, 1700, .inr (.inl ql2_6))), (g 20, .inl (cI, 4, .inl (l4 (nI l0) (nI l1) (nI dm) (nI l3)))), (g 38, .inl (cI, 90, .inl ws_2_7)), (g 36, .inl (cZ, 900, .inl yw2_8)), (g 37, .inl (cZ, 900, .inl yo2_9))] := hD
  refine lv_aload_n hx hb dX12_laysHeard_5 rfl (lv_at hl 0 rfl) ?_
  refine lv_iconst (v := 1) hx hb dX12_laysHeard_6 (by decide) ?_
  refine sk_put (ws' := [(g 43, .inl (cJ, 90, .inr (.inl be))), (g 44, .inl (cJ, 90, .inr (.inl bf))), (g 53, .inl (cI, 32, .inl rw_)), (mm, .inr (12, mo g (nI ta) (nI pa) (nI pe) pd (nI pb) pp pf pg pn rt rn (nI cd) sn (nI il) tk2_1 am2_3 at_2_4 aa2_5 0 1 (-1) wt wy 0 (nI rm) (nI ud) (nI nu) sd (nI qn) (nI qw) qo (nI qb) (nI qp2_2) qa (nI qi) (nI oc))), (g 24, .inl (cI, 6, .inl (l6 u0 u1 u2 u3 u4 u5))), (g 25, .inl (cI, 6, .inl (l6 v0 v1 v2 v3 v4 v5))), (g 26, .inl (cI, 3200, .inl (fun j => nI (cs j)))), (g 31, .inl (cI, 120, .inl nw)), (g 46, .inl (cI, 9, .inl (fun j => nI (pt j)))), (g 86, .inl (cJ, 1700, .inr (.inl ql2_6))), (g 20, .inl (cI, 4, .inl (l4 (nI l0) (nI l1) (nI dm) (nI l3)))), (g 38, .inl (cI, 90, .inl ws_2_7)), (g 36, .inl (cZ, 900, .inl yw2_8)), (g 37, .inl (cZ, 900, .inl yo2_9))]) (C := RX12) (T := TX12) (N := 92) (v := .int 1) hx hb hts inlX12 tyX12 tyX12_ok nmX12 hown hK hP hD hS 3 rfl rfl 40 (by decide) w_5_195 rfl rfl rfl (Nat.le_of_ble_eq_true rfl) rfl dX12_laysHeard_7 (fun H locs hP hD hS => ?_)
  refine lv_aload_n hx hb dX12_laysHeard_10 rfl (lv_at hl 0 rfl) ?_
  refine sk_Vv (q0 := 0) (n := 0) (rest := []) (wr := [(g 24, .inl (cI, 6, .inl (l6 u0 u1 u2 u3 u4 u5))), (g 25, .inl (cI, 6, .inl (l6 v0 v1 v2 v3 v4 v5))), (g 26, .inl (cI, 3200, .inl (fun j => nI (cs j)))), (g 46, .inl (cI, 9, .inl (fun j => nI (pt j)))), (g 86, .inl (cJ, 1700, .inr (.inl ql2_6)))]) ⟨hx, hb, hml, hown, hts⟩ hl.1 (c_m_laysWaysS l D cI cJ cC cZ cS mm g ta pa pe pd pb pp pf pg pn rt rn cd sn il tk2_1 am2_3 at_2_4 aa2_5 0 1 (-1) wt wy 0 rm ud nu sd qn qw qo qb qp2_2 qa qi oc l0 l1 dm l3 nw ws_2_7 rw_ yo2_9 yw2_8 be bf (by omega) (by omega) (by omega) (by omega) hnw) w_7_197 w_7_199 w_0_84 w_1_14 w_7_200 (by decide +kernel) ⟨⟨(Nat.le_of_ble_eq_true rfl), (Nat.le_of_ble_eq_true rfl)⟩, (Nat.le_of_ble_eq_true rfl), (Nat.le_of_ble_eq_true rfl)⟩ hK hP hD hS hA [3, 10, 7, 11, 2, 13, 12, 0, 1] [4, 5, 6, 8, 9] rfl rfl (by decide +kernel) (by decide +kernel) (by decide +kernel) rfl rfl rfl rfl (Nat.le_of_ble_eq_true rfl) dX12_laysHeard_11 (fun u H locs hw hP hD hS => ?_)
  obtain ⟨wy2_10, be2_11, bf2_12, rfl⟩ := hw
  have hP : va_P D vwCl [(g 24, .inl (cI, 6, .inl (l6 u0 u1 u2 u3 u4 u5))), (g 25, .inl (cI, 6, .inl (l6 v0 v1 v2 v3 v4 v5))), (g 26, .inl (cI, 3200, .inl (fun j => nI (cs j)))), (g 46, .inl (cI, 9, .inl (fun j => nI (pt j)))), (g 86, .inl (cJ, 1700, .inr (.inl ql2_6))), (mm, .inr (12, mo g (nI ta) (nI pa) (nI pe) pd (nI pb) pp pf pg pn rt rn (nI cd) sn (nI il) tk2_1 am2_3 at_2_4 aa2_5 0 1 (-1) wt wy2_10 0 (nI rm) (nI ud) (nI nu) sd (nI qn) (nI qw) qo (nI qb) (nI qp2_2) qa (nI qi) (nI oc))), (g 20, .inl (cI, 4, .inl (l4 (nI l0) (nI l1) (nI dm) (nI l3)))), (g 31, .inl (cI, 120, .inl nw)), (g 38, .inl (cI, 90, .inl ws_2_7)), (g 53, .inl (cI, 32, .inl rw_)), (g 37, .inl (cZ, 900, .inl yo2_9)), (g 36, .inl (cZ, 900, .inl yw2_8)), (g 43, .inl (cJ, 90, .inr (.inl be2_11))), (g 44, .inl (cJ, 90, .inr (.inl bf2_12)))] H := hP
  have hD : va_D A [(g 24, .inl (cI, 6, .inl (l6 u0 u1 u2 u3 u4 u5))), (g 25, .inl (cI, 6, .inl (l6 v0 v1 v2 v3 v4 v5))), (g 26, .inl (cI, 3200, .inl (fun j => nI (cs j)))), (g 46, .inl (cI, 9, .inl (fun j => nI (pt j)))), (g 86, .inl (cJ, 1700, .inr (.inl ql2_6))), (mm, .inr (12, mo g (nI ta) (nI pa) (nI pe) pd (nI pb) pp pf pg pn rt rn (nI cd) sn (nI il) tk2_1 am2_3 at_2_4 aa2_5 0 1 (-1) wt wy2_10 0 (nI rm) (nI ud) (nI nu) sd (nI qn) (nI qw) qo (nI qb) (nI qp2_2) qa (nI qi) (nI oc))), (g 20, .inl (cI, 4, .inl (l4 (nI l0) (nI l1) (nI dm) (nI l3)))), (g 31, .inl (cI, 120, .inl nw)), (g 38, .inl (cI, 90, .inl ws_2_7)), (g 53, .inl (cI, 32, .inl rw_)), (g 37, .inl (cZ, 900, .inl yo2_9)), (g 36, .inl (cZ, 900, .inl yw2_8)), (g 43, .inl (cJ, 90, .inr (.inl be2_11))), (g 44, .inl (cJ, 90, .inr (.inl bf2_12)))] := hD
  refine lv_aload_n hx hb dX12_laysHeard_14 rfl (lv_at hl 0 rfl) ?_
  refine lv_iconst (v := 0) hx hb dX12_laysHeard_15 (by decide) ?_
  refine sk_put (ws' := [(g 24, .inl (cI, 6, .inl (l6 u0 u1 u2 u3 u4 u5))), (g 25, .inl (cI, 6, .inl (l6 v0 v1 v2 v3 v4 v5))), (g 26, .inl (cI, 3200, .inl (fun j => nI (cs j)))), (g 46, .inl (cI, 9, .inl (fun j => nI (pt j)))), (g 86, .inl (cJ, 1700, .inr (.inl ql2_6))), (mm, .inr (12, mo g (nI ta) (nI pa) (nI pe) pd (nI pb) pp pf pg pn rt rn (nI cd) sn (nI il) tk2_1 am2_3 at_2_4 aa2_5 0 0 (-1) wt wy2_10 0 (nI rm) (nI ud) (nI nu) sd (nI qn) (nI qw) qo (nI qb) (nI qp2_2) qa (nI qi) (nI oc))), (g 20, .inl (cI, 4, .inl (l4 (nI l0) (nI l1) (nI dm) (nI l3)))), (g 31, .inl (cI, 120, .inl nw)), (g 38, .inl (cI, 90, .inl ws_2_7)), (g 53, .inl (cI, 32, .inl rw_)), (g 37, .inl (cZ, 900, .inl yo2_9)), (g 36, .inl (cZ, 900, .inl yw2_8)), (g 43, .inl (cJ, 90, .inr (.inl be2_11))), (g 44, .inl (cJ, 90, .inr (.inl bf2_12)))]) (C := RX12) (T := TX12) (N := 92) (v := .int 0) hx hb hts inlX12 tyX12 tyX12_ok nmX12 hown hK hP hD hS 5 rfl rfl 40 (by decide) w_5_195 rfl rfl rfl (Nat.le_of_ble_eq_true rfl) rfl dX12_laysHeard_16 (fun H locs hP hD hS => ?_)
  have hP := hP.sub (ws' := [(mm, .inr (12, mo g (nI ta) (nI pa) (nI pe) pd (nI pb) pp pf pg pn rt rn (nI cd) sn (nI il) tk2_1 am2_3 at_2_4 aa2_5 0 0 (-1) wt wy2_10 0 (nI rm) (nI ud) (nI nu) sd (nI qn) (nI qw) qo (nI qb) (nI qp2_2) qa (nI qi) (nI oc))), (g 24, .inl (cI, 6, .inl (l6 u0 u1 u2 u3 u4 u5))), (g 25, .inl (cI, 6, .inl (l6 v0 v1 v2 v3 v4 v5))), (g 26, .inl (cI, 3200, .inl (fun j => nI (cs j)))), (g 31, .inl (cI, 120, .inl nw)), (g 46, .inl (cI, 9, .inl (fun j => nI (pt j)))), (g 86, .inl (cJ, 1700, .inr (.inl ql2_6))), (g 20, .inl (cI, 4, .inl (l4 (nI l0) (nI l1) (nI dm) (nI l3)))), (g 38, .inl (cI, 90, .inl ws_2_7)), (g 36, .inl (cZ, 900, .inl yw2_8)), (g 37, .inl (cZ, 900, .inl yo2_9)), (g 43, .inl (cJ, 90, .inr (.inl be2_11))), (g 44, .inl (cJ, 90, .inr (.inl bf2_12))), (g 53, .inl (cI, 32, .inl rw_))]) [5, 0, 1, 2, 7, 3, 4, 6, 8, 11, 10, 12, 13, 9] rfl
  have hD := hD.sub (ws' := [(mm, .inr (12, mo g (nI ta) (nI pa) (nI pe) pd (nI pb) pp pf pg pn rt rn (nI cd) sn (nI il) tk2_1 am2_3 at_2_4 aa2_5 0 0 (-1) wt wy2_10 0 (nI rm) (nI ud) (nI nu) sd (nI qn) (nI qw) qo (nI qb) (nI qp2_2) qa (nI qi) (nI oc))), (g 24, .inl (cI, 6, .inl (l6 u0 u1 u2 u3 u4 u5))), (g 25, .inl (cI, 6, .inl (l6 v0 v1 v2 v3 v4 v5))), (g 26, .inl (cI, 3200, .inl (fun j => nI (cs j)))), (g 31, .inl (cI, 120, .inl nw)), (g 46, .inl (cI, 9, .inl (fun j => nI (pt j)))), (g 86, .inl (cJ, 1700, .inr (.inl ql2_6))), (g 20, .inl (cI, 4, .inl (l4 (nI l0) (nI l1) (nI dm) (nI l3)))), (g 38, .inl (cI, 90, .inl ws_2_7)), (g 36, .inl (cZ, 900, .inl yw2_8)), (g 37, .inl (cZ, 900, .inl yo2_9)), (g 43, .inl (cJ, 90, .inr (.inl be2_11))), (g 44, .inl (cJ, 90, .inr (.inl bf2_12))), (g 53, .inl (cI, 32, .inl rw_))]) [5, 0, 1, 2, 7, 3, 4, 6, 8, 11, 10, 12, 13, 9] (by decide +kernel) rfl
  exact sk_vret hx hb hr hlocks hK hP hD hS (⟨tk2_1, qp2_2, am2_3, at_2_4, aa2_5, wy2_10, ql2_6, ws_2_7, yw2_8, yo2_9, be2_11, bf2_12, rfl⟩) (Nat.le_of_ble_eq_true rfl) (Nat.le_of_ble_eq_true rfl) dX12_laysHeard_19
theorem dX12_moodsOf_0 : decode cX12_moodsOf 0 = .ok (.iconst 0, 1) := by decide +kernel
theorem dX12_moodsOf_1 : decode cX12_moodsOf 1 = .ok (.istore_n 2, 1) := by decide +kernel
theorem dX12_moodsOf_2 : decode cX12_moodsOf 2 = .ok (.iconst 0, 1) := by decide +kernel
theorem dX12_moodsOf_3 : decode cX12_moodsOf 3 = .ok (.istore_n 3, 1) := by decide +kernel
theorem dX12_moodsOf_4 : decode cX12_moodsOf 4 = .ok (.iload_n 3, 1) := by decide +kernel
theorem dX12_moodsOf_5 : decode cX12_moodsOf 5 = .ok (.bipush 10, 2) := by decide +kernel
theorem dX12_moodsOf_7 : decode cX12_moodsOf 7 = .ok (.if_icmp .ge 47, 3) := by decide +kernel
theorem dX12_moodsOf_54 : decode cX12_moodsOf 54 = .ok (.iload_n 2, 1) := by decide +kernel
theorem dX12_moodsOf_55 : decode cX12_moodsOf 55 = .ok (.ireturn, 1) := by decide +kernel
theorem dX12_moodsOf_10 : decode cX12_moodsOf 10 = .ok (.aload_n 0, 1) := by decide +kernel
theorem dX12_moodsOf_11 : decode cX12_moodsOf 11 = .ok (.getfield 86, 3) := by decide +kernel
theorem dX12_moodsOf_14 : decode cX12_moodsOf 14 = .ok (.bipush 10, 2) := by decide +kernel
theorem dX12_moodsOf_16 : decode cX12_moodsOf 16 = .ok (.iload_n 1, 1) := by decide +kernel
theorem dX12_moodsOf_17 : decode cX12_moodsOf 17 = .ok (.imul, 1) := by decide +kernel
theorem dX12_moodsOf_18 : decode cX12_moodsOf 18 = .ok (.iload_n 3, 1) := by decide +kernel
theorem dX12_moodsOf_19 : decode cX12_moodsOf 19 = .ok (.iadd, 1) := by decide +kernel
theorem dX12_moodsOf_20 : decode cX12_moodsOf 20 = .ok (.laload, 1) := by decide +kernel
theorem dX12_moodsOf_21 : decode cX12_moodsOf 21 = .ok (.lconst 0, 1) := by decide +kernel
theorem dX12_moodsOf_22 : decode cX12_moodsOf 22 = .ok (.lcmp, 1) := by decide +kernel
theorem dX12_moodsOf_23 : decode cX12_moodsOf 23 = .ok (.ifCond .le 25, 3) := by decide +kernel
theorem dX12_moodsOf_48 : decode cX12_moodsOf 48 = .ok (.iinc 3 1, 3) := by decide +kernel
theorem dX12_moodsOf_51 : decode cX12_moodsOf 51 = .ok (.goto (-47), 3) := by decide +kernel
theorem dX12_moodsOf_26 : decode cX12_moodsOf 26 = .ok (.aload_n 0, 1) := by decide +kernel
theorem dX12_moodsOf_27 : decode cX12_moodsOf 27 = .ok (.getfield 82, 3) := by decide +kernel
theorem dX12_moodsOf_30 : decode cX12_moodsOf 30 = .ok (.bipush 10, 2) := by decide +kernel
theorem dX12_moodsOf_32 : decode cX12_moodsOf 32 = .ok (.iload_n 1, 1) := by decide +kernel
theorem dX12_moodsOf_33 : decode cX12_moodsOf 33 = .ok (.imul, 1) := by decide +kernel
theorem dX12_moodsOf_34 : decode cX12_moodsOf 34 = .ok (.iload_n 3, 1) := by decide +kernel
theorem dX12_moodsOf_35 : decode cX12_moodsOf 35 = .ok (.iadd, 1) := by decide +kernel
theorem dX12_moodsOf_36 : decode cX12_moodsOf 36 = .ok (.laload, 1) := by decide +kernel
theorem dX12_moodsOf_37 : decode cX12_moodsOf 37 = .ok (.lconst 0, 1) := by decide +kernel
theorem dX12_moodsOf_38 : decode cX12_moodsOf 38 = .ok (.lcmp, 1) := by decide +kernel
theorem dX12_moodsOf_39 : decode cX12_moodsOf 39 = .ok (.ifCond .le 9, 3) := by decide +kernel
theorem dX12_moodsOf_42 : decode cX12_moodsOf 42 = .ok (.iload_n 2, 1) := by decide +kernel
theorem dX12_moodsOf_43 : decode cX12_moodsOf 43 = .ok (.iconst 1, 1) := by decide +kernel
theorem dX12_moodsOf_44 : decode cX12_moodsOf 44 = .ok (.iload_n 3, 1) := by decide +kernel
theorem dX12_moodsOf_45 : decode cX12_moodsOf 45 = .ok (.ishl, 1) := by decide +kernel
theorem dX12_moodsOf_46 : decode cX12_moodsOf 46 = .ok (.ior, 1) := by decide +kernel
theorem dX12_moodsOf_47 : decode cX12_moodsOf 47 = .ok (.istore_n 2, 1) := by decide +kernel
theorem w_8_88 : (Cond.code yX12_moodsOf cX12_moodsOf 4 (some .int)) ∈ wsL_law := sk_mem (ck_8 _ (List.mem_of_getElem? (i := 88) rfl)) rfl
set_option maxHeartbeats 4000000 in
set_option maxRecDepth 100000 in
theorem c_m_moodsOf (l : Launch) (D : va_G) (cI cJ cC cZ cS : ClassId) (mm : Nat) (g : Nat → Nat) (ta : Nat) (pa : Nat) (pe : Nat) (pd : Int32) (pb : Nat) (pp : Int32) (pf : Int32) (pg : Int32) (pn : Int32) (rt : Int32) (rn : Int32) (cd : Nat) (sn : Int32) (il : Nat) (tk : Int32) (am : Int32) (at_ : Int32) (aa : Int32) (wt : Int32) (wy : Int64) (rm : Nat) (ud : Nat) (nu : Nat) (sd : Int64) (qn : Nat) (qw : Nat) (qo : Int32) (qb : Nat) (qp : Nat) (qa : Int64) (qi : Nat) (oc : Nat) (d : Nat) (be : Nat → Int64) (bf : Nat → Int64) (hd : d < 9) : skM l yX12_moodsOf cX12_moodsOf 4 (some .int) 0 0 0 0 D (skT cI cJ cC cZ cS) [.ref mm, .int (nI d)] [(mm, .inr (12, mo g (nI ta) (nI pa) (nI pe) pd (nI pb) pp pf pg pn rt rn (nI cd) sn (nI il) tk am at_ aa 0 0 (-1) wt wy 0 (nI rm) (nI ud) (nI nu) sd (nI qn) (nI qw) qo (nI qb) (nI qp) qa (nI qi) (nI oc))), (g 43, .inl (cJ, 90, .inr (.inl be))), (g 44, .inl (cJ, 90, .inr (.inl bf)))] (skI D (skT cI cJ cC cZ cS) (fun (r : Int32) (u : va_W) => u = [(mm, .inr (12, mo g (nI ta) (nI pa) (nI pe) pd (nI pb) pp pf pg pn rt rn (nI cd) sn (nI il) tk am at_ aa 0 0 (-1) wt wy 0 (nI rm) (nI ud) (nI nu) sd (nI qn) (nI qw) qo (nI qb) (nI qp) qa (nI qi) (nI oc))), (g 43, .inl (cJ, 90, .inr (.inl be))), (g 44, .inl (cJ, 90, .inr (.inl bf)))])) := by
  refine skM_of (by decide +kernel) (Nat.le_of_ble_eq_true rfl) ?_
  intro p e s m below meth c A ls E hP hD hl
  obtain ⟨hx, hb, hr, hml, hlocks, hin, hown, hts, hK, hA⟩ := E
  have hown : s.vm.findClass RX12 = some m.cls := hown
  have hS : va_S A s.heap s.heap [] := va_S.rf
  have hl : lv_has ls 4 [(0, .ref mm), (1, .int (nI d))] := hl
  refine lv_iconst (v := 0) hx hb dX12_moodsOf_0 (by decide) ?_
  refine lv_istore_n (lv' := [(2, .int 0), (0, .ref mm), (1, .int (nI d))]) hx hb dX12_moodsOf_1 rfl hl (by decide) rfl (fun ls hl => ?_)
  refine lv_iconst (v := 0) hx hb dX12_moodsOf_2 (by decide) ?_
  refine lv_istore_n (lv' := [(3, .int 0), (2, .int 0), (0, .ref mm), (1, .int (nI d))]) hx hb dX12_moodsOf_3 rfl hl (by decide) rfl (fun ls hl => ?_)
  have lp_1 : ∀ (n_2 : Nat) (i : Nat) (ms : Int32) (H : Heap) (locs : List Loc) (ls : Array Slot), 10 - i < n_2 → (i ≤ 10) → va_P D vwCl [(mm, .inr (12, mo g (nI ta) (nI pa) (nI pe) pd (nI pb) pp pf pg pn rt rn (nI cd) sn (nI il) tk am at_ aa 0 0 (-1) wt wy 0 (nI rm) (nI ud) (nI nu) sd (nI qn) (nI qw) qo (nI qb) (nI qp) qa (nI qi) (nI oc))), (g 43, .inl (cJ, 90, .inr (.inl be))), (g 44, .inl (cJ, 90, .inr (.inl bf)))] H → va_D A [(mm, .inr (12, mo g (nI ta) (nI pa) (nI pe) pd (nI pb) pp pf pg pn rt rn (nI cd) sn (nI il) tk am at_ aa 0 0 (-1) wt wy 0 (nI rm) (nI ud) (nI nu) sd (nI qn) (nI qw) qo (nI qb) (nI qp) qa (nI qi) (nI oc))), (g 43, .inl (cJ, 90, .inr (.inl be))), (g 44, .inl (cJ, 90, .inr (.inl bf)))] → va_S A s.heap H locs → lv_has ls 4 [(3, .int (nI i)), (2, .int ms), (0, .ref mm), (1, .int (nI d))] → W p l e { frames := 0, cells := 0, slots := 0, locals := 0 } s m ([.ref mm, .int (nI d)] : List Value).toArray below meth c H locs 0 0 (MQ below (skI D (skT cI cJ cC cZ cS) (fun (r : Int32) (u : va_W) => u = [(mm, .inr (12, mo g (nI ta) (nI pa) (nI pe) pd (nI pb) pp pf pg pn rt rn (nI cd) sn (nI il) tk am at_ aa 0 0 (-1) wt wy 0 (nI rm) (nI ud) (nI nu) sd (nI qn) (nI qw) qo (nI qb) (nI qp) qa (nI qi) (nI oc))), (g 43, .inl (cJ, 90, .inr (.inl be))), (g 44, .inl (cJ, 90, .inr (.inl bf)))]) A) ([.ref mm, .int (nI d)] : List Value).toArray s 0 0 A) (F0 m 4 ls []) := by
    intro n_2
    induction n_2 with
    | zero => intro i ms H locs ls hm; exact absurd hm (Nat.not_lt_zero _)
    | succ n_2 ih_lp_1 =>
      intro i ms H locs ls hm hi hP hD hS hl
      refine lv_iload_n hx hb dX12_moodsOf_4 rfl (lv_at hl 0 rfl) ?_
      refine lv_bipush (v := 10) hx hb dX12_moodsOf_5 (by decide) ?_
      refine lv_icmp_ge (tgt := 54) hx hb dX12_moodsOf_7 (by decide) (fun c_3 => ?_) (fun c_3 => ?_)
      · have c_3 : 10 ≤ i := (nle 10 i (by omega) (by omega)).mp c_3
        refine lv_iload_n hx hb dX12_moodsOf_54 rfl (lv_at hl 1 rfl) ?_
        exact sk_iret hx hb hr rfl hlocks hK hP hD hS rfl (Nat.le_of_ble_eq_true rfl) (Nat.le_of_ble_eq_true rfl) dX12_moodsOf_55
      · have c_3 : ¬ (10 ≤ i) := fun h => c_3 ((nle 10 i (by omega) (by omega)).mpr h)
        refine lv_aload_n hx hb dX12_moodsOf_10 rfl (lv_at hl 2 rfl) ?_
        refine sk_get (v := .ref (g 44)) (C := RX12) (T := TX12) (N := 92) hx hb hts inlX12 hown hK hP 0 rfl rfl 44 (by decide) w_5_199 rfl dX12_moodsOf_11 ?_
        refine lv_bipush (v := 10) hx hb dX12_moodsOf_14 (by decide) ?_
        refine lv_iload_n hx hb dX12_moodsOf_16 rfl (lv_at hl 3 rfl) ?_
        refine lv_imul hx hb dX12_moodsOf_17 ?_
        refine sk_top (nI (10 * d)) (nmul 10 d) ?_
        refine lv_iload_n hx hb dX12_moodsOf_18 rfl (lv_at hl 0 rfl) ?_
        refine lv_iadd hx hb dX12_moodsOf_19 ?_
        refine sk_top (nI (10 * d + i)) (nI_add (10 * d) i) ?_
        refine va_lald hx hb hK.1 hP 2 1 rfl rfl (vin (10 * d + i) 90 (by omega) (by omega)) dX12_moodsOf_20 ?_
        refine lv_topl (fun v_4 ev_4 => ?_)
        refine lv_lconst (v := 0) hx hb dX12_moodsOf_21 (by decide) ?_
        refine W.lcmp hx hb dX12_moodsOf_22 ?_
        refine lv_if_le (tgt := 48) hx hb dX12_moodsOf_23 (by decide) (fun c_5 => ?_) (fun c_5 => ?_)
        · skip
          refine lv_iinc (v := nI (i + 1)) (lv' := [(3, .int (nI (i + 1))), (2, .int ms), (0, .ref mm), (1, .int (nI d))]) hx hb dX12_moodsOf_48 hl (k := 0) rfl (ninc i 1 (by decide)) (by decide) rfl (fun ls hl => ?_)
          refine lv_goto (tgt := 4) hx hb dX12_moodsOf_51 (by decide) ?_
          exact ih_lp_1 (i + 1) ms _ _ _ (by omega) (by omega) hP hD hS (lv_sub hl [0, 1, 2, 3] rfl)
        · skip
          refine lv_aload_n hx hb dX12_moodsOf_26 rfl (lv_at hl 2 rfl) ?_
          refine sk_get (v := .ref (g 43)) (C := RX12) (T := TX12) (N := 92) hx hb hts inlX12 hown hK hP 0 rfl rfl 43 (by decide) w_5_198 rfl dX12_moodsOf_27 ?_
          refine lv_bipush (v := 10) hx hb dX12_moodsOf_30 (by decide) ?_
          refine lv_iload_n hx hb dX12_moodsOf_32 rfl (lv_at hl 3 rfl) ?_
          refine lv_imul hx hb dX12_moodsOf_33 ?_
          refine sk_top (nI (10 * d)) (nmul 10 d) ?_
          refine lv_iload_n hx hb dX12_moodsOf_34 rfl (lv_at hl 0 rfl) ?_
          refine lv_iadd hx hb dX12_moodsOf_35 ?_
          refine sk_top (nI (10 * d + i)) (nI_add (10 * d) i) ?_
          refine va_lald hx hb hK.1 hP 1 1 rfl rfl (vin (10 * d + i) 90 (by omega) (by omega)) dX12_moodsOf_36 ?_
          refine lv_topl (fun v_6 ev_6 => ?_)
          refine lv_lconst (v := 0) hx hb dX12_moodsOf_37 (by decide) ?_
          refine W.lcmp hx hb dX12_moodsOf_38 ?_
          refine lv_if_le (tgt := 48) hx hb dX12_moodsOf_39 (by decide) (fun c_7 => ?_) (fun c_7 => ?_)
          · skip
            refine lv_iinc (v := nI (i + 1)) (lv' := [(3, .int (nI (i + 1))), (2, .int ms), (0, .ref mm), (1, .int (nI d))]) hx hb dX12_moodsOf_48 hl (k := 0) rfl (ninc i 1 (by decide)) (by decide) rfl (fun ls hl => ?_)
            refine lv_goto (tgt := 4) hx hb dX12_moodsOf_51 (by decide) ?_
            exact ih_lp_1 (i + 1) ms _ _ _ (by omega) (by omega) hP hD hS (lv_sub hl [0, 1, 2, 3] rfl)
          · skip
            refine lv_iload_n hx hb dX12_moodsOf_42 rfl (lv_at hl 1 rfl) ?_
            refine lv_iconst (v := 1) hx hb dX12_moodsOf_43 (by decide) ?_
            refine lv_iload_n hx hb dX12_moodsOf_44 rfl (lv_at hl 0 rfl) ?_
            refine lv_ishl hx hb dX12_moodsOf_45 ?_
            refine lv_topi (fun v_8 ev_8 => ?_)
            refine lv_ior hx hb dX12_moodsOf_46 ?_
            refine lv_topi (fun v_9 ev_9 => ?_)
            refine lv_istore_n (lv' := [(2, .int v_9), (3, .int (nI i)), (0, .ref mm), (1, .int (nI d))]) hx hb dX12_moodsOf_47 rfl hl (by decide) rfl (fun ls hl => ?_)
            refine lv_iinc (v := nI (i + 1)) (lv' := [(3, .int (nI (i + 1))), (2, .int v_9), (0, .ref mm), (1, .int (nI d))]) hx hb dX12_moodsOf_48 hl (k := 1) rfl (ninc i 1 (by decide)) (by decide) rfl (fun ls hl => ?_)
            refine lv_goto (tgt := 4) hx hb dX12_moodsOf_51 (by decide) ?_
            exact ih_lp_1 (i + 1) v_9 _ _ _ (by omega) (by omega) hP hD hS (lv_sub hl [0, 1, 2, 3] rfl)
  exact lp_1 (10 - 0 + 1) 0 0 _ _ _ (Nat.lt_succ_self _) (by omega) hP hD hS (lv_sub hl [0, 1, 2, 3] rfl)
theorem dX12_canBeTold_0 : decode cX12_canBeTold 0 = .ok (.aload_n 0, 1) := by decide +kernel
theorem dX12_canBeTold_1 : decode cX12_canBeTold 1 = .ok (.iload_n 1, 1) := by decide +kernel
theorem dX12_canBeTold_2 : decode cX12_canBeTold 2 = .ok (.invokevirtual 413, 3) := by decide +kernel
theorem dX12_canBeTold_5 : decode cX12_canBeTold 5 = .ok (.ifCond .eq 23, 3) := by decide +kernel
theorem dX12_canBeTold_28 : decode cX12_canBeTold 28 = .ok (.iconst 0, 1) := by decide +kernel
theorem dX12_canBeTold_29 : decode cX12_canBeTold 29 = .ok (.ireturn, 1) := by decide +kernel
theorem dX12_canBeTold_8 : decode cX12_canBeTold 8 = .ok (.aload_n 0, 1) := by decide +kernel
theorem dX12_canBeTold_9 : decode cX12_canBeTold 9 = .ok (.iload_n 1, 1) := by decide +kernel
theorem dX12_canBeTold_10 : decode cX12_canBeTold 10 = .ok (.invokevirtual 359, 3) := by decide +kernel
theorem dX12_canBeTold_13 : decode cX12_canBeTold 13 = .ok (.ifCond .ne 15, 3) := by decide +kernel
theorem dX12_canBeTold_16 : decode cX12_canBeTold 16 = .ok (.aload_n 0, 1) := by decide +kernel
theorem dX12_canBeTold_17 : decode cX12_canBeTold 17 = .ok (.iload_n 2, 1) := by decide +kernel
theorem dX12_canBeTold_18 : decode cX12_canBeTold 18 = .ok (.invokevirtual 418, 3) := by decide +kernel
theorem dX12_canBeTold_21 : decode cX12_canBeTold 21 = .ok (.ifCond .eq 7, 3) := by decide +kernel
theorem dX12_canBeTold_24 : decode cX12_canBeTold 24 = .ok (.iconst 1, 1) := by decide +kernel
theorem dX12_canBeTold_25 : decode cX12_canBeTold 25 = .ok (.goto 4, 3) := by decide +kernel
theorem w_8_80 : (Cond.code yX12_canBeTold cX12_canBeTold 3 (some .boolean)) ∈ wsL_law := sk_mem (ck_8 _ (List.mem_of_getElem? (i := 80) rfl)) rfl
set_option maxHeartbeats 4000000 in
set_option maxRecDepth 100000 in
theorem c_m_canBeTold (l : Launch) (D : va_G) (cI cJ cC cZ cS : ClassId) (mm : Nat) (g : Nat → Nat) (ta : Nat) (pa : Nat) (pe : Nat) (pd : Int32) (pb : Nat) (pp : Int32) (pf : Int32) (pg : Int32) (pn : Int32) (rt : Int32) (rn : Int32) (cd : Nat) (sn : Int32) (il : Nat) (tk : Int32) (am : Int32) (at_ : Int32) (aa : Int32) (wt : Int32) (wy : Int64) (rm : Nat) (ud : Nat) (nu : Nat) (sd : Int64) (qn : Nat) (qw : Nat) (qo : Int32) (qb : Nat) (qp : Nat) (qa : Int64) (qi : Nat) (oc : Nat) (d : Int32) (w : Int32) (l0 : Nat) (l1 : Nat) (dm : Nat) (l3 : Nat) (nw : Nat → Int32) (hdm : dm ≤ 9) (hnw : nowOk nw) : skM l yX12_canBeTold cX12_canBeTold 3 (some .boolean) 2 46 0 0 D (skT cI cJ cC cZ cS) [.ref mm, .int d, .int w] [(mm, .inr (12, mo g (nI ta) (nI pa) (nI pe) pd (nI pb) pp pf pg pn rt rn (nI cd) sn (nI il) tk am at_ aa 0 0 (-1) wt wy 0 (nI rm) (nI ud) (nI nu) sd (nI qn) (nI qw) qo (nI qb) (nI qp) qa (nI qi) (nI oc))), (g 20, .inl (cI, 4, .inl (l4 (nI l0) (nI l1) (nI dm) (nI l3)))), (g 31, .inl (cI, 120, .inl nw))] (skI D (skT cI cJ cC cZ cS) (fun (r : Int32) (u : va_W) => ∃ (b : Nat), (b = 0 ∨ (b = 1 ∧ ∃ kq : Nat, kq < dm ∧ d = nI kq)) ∧ r = nI b ∧ u = [(mm, .inr (12, mo g (nI ta) (nI pa) (nI pe) pd (nI pb) pp pf pg pn rt rn (nI cd) sn (nI il) tk am at_ aa 0 0 (-1) wt wy 0 (nI rm) (nI ud) (nI nu) sd (nI qn) (nI qw) qo (nI qb) (nI qp) qa (nI qi) (nI oc))), (g 20, .inl (cI, 4, .inl (l4 (nI l0) (nI l1) (nI dm) (nI l3)))), (g 31, .inl (cI, 120, .inl nw))])) := by
  refine skM_of (by decide +kernel) (Nat.le_of_ble_eq_true rfl) ?_
  intro p e s m below meth c A ls E hP hD hl
  obtain ⟨hx, hb, hr, hml, hlocks, hin, hown, hts, hK, hA⟩ := E
  have hown : s.vm.findClass RX12 = some m.cls := hown
  have hS : va_S A s.heap s.heap [] := va_S.rf
  have hl : lv_has ls 3 [(0, .ref mm), (1, .int d), (2, .int w)] := hl
  refine lv_aload_n hx hb dX12_canBeTold_0 rfl (lv_at hl 0 rfl) ?_
  refine lv_iload_n hx hb dX12_canBeTold_1 rfl (lv_at hl 1 rfl) ?_
  refine sk_Vi (q0 := 0) (n := 1) (rest := []) (wr := [(g 31, .inl (cI, 120, .inl nw))]) ⟨hx, hb, hml, hown, hts⟩ hl.1 (c_m_isDay l D cI cJ cC cZ cS mm g ta pa pe pd pb pp pf pg pn rt rn cd sn il tk am at_ aa 0 0 (-1) wt wy 0 rm ud nu sd qn qw qo qb qp qa qi oc d l0 l1 dm l3 (by omega)) w_7_117 w_7_119 w_0_72 w_1_14 w_7_120 (by decide +kernel) ⟨⟨(Nat.le_of_ble_eq_true rfl), (Nat.le_of_ble_eq_true rfl)⟩, (Nat.le_of_ble_eq_true rfl), (Nat.le_of_ble_eq_true rfl)⟩ hK hP hD hS hA [0, 1] [2] rfl rfl (by decide +kernel) (by decide +kernel) (by decide +kernel) rfl rfl rfl rfl (Nat.le_of_ble_eq_true rfl) dX12_canBeTold_2 (fun r_2 u H locs hw hP hD hS => ?_)
  obtain ⟨b_1, hb1_3, rfl, rfl⟩ := hw
  have hP : va_P D vwCl [(g 31, .inl (cI, 120, .inl nw)), (mm, .inr (12, mo g (nI ta) (nI pa) (nI pe) pd (nI pb) pp pf pg pn rt rn (nI cd) sn (nI il) tk am at_ aa 0 0 (-1) wt wy 0 (nI rm) (nI ud) (nI nu) sd (nI qn) (nI qw) qo (nI qb) (nI qp) qa (nI qi) (nI oc))), (g 20, .inl (cI, 4, .inl (l4 (nI l0) (nI l1) (nI dm) (nI l3))))] H := hP
  have hD : va_D A [(g 31, .inl (cI, 120, .inl nw)), (mm, .inr (12, mo g (nI ta) (nI pa) (nI pe) pd (nI pb) pp pf pg pn rt rn (nI cd) sn (nI il) tk am at_ aa 0 0 (-1) wt wy 0 (nI rm) (nI ud) (nI nu) sd (nI qn) (nI qw) qo (nI qb) (nI qp) qa (nI qi) (nI oc))), (g 20, .inl (cI, 4, .inl (l4 (nI l0) (nI l1) (nI dm) (nI l3))))] := hD
  refine lv_if_eq (tgt := 28) hx hb dX12_canBeTold_5 (by decide) (fun c_4 => ?_) (fun c_4 => ?_)
  · have c_4 : b_1 = 0 := (neq b_1 0 (by omega) (by omega)).mp c_4
    refine lv_iconst (v := 0) hx hb dX12_canBeTold_28 (by decide) ?_
    have hP := hP.sub (ws' := [(mm, .inr (12, mo g (nI ta) (nI pa) (nI pe) pd (nI pb) pp pf pg pn rt rn (nI cd) sn (nI il) tk am at_ aa 0 0 (-1) wt wy 0 (nI rm) (nI ud) (nI nu) sd (nI qn) (nI qw) qo (nI qb) (nI qp) qa (nI qi) (nI oc))), (g 20, .inl (cI, 4, .inl (l4 (nI l0) (nI l1) (nI dm) (nI l3)))), (g 31, .inl (cI, 120, .inl nw))]) [1, 2, 0] rfl
    have hD := hD.sub (ws' := [(mm, .inr (12, mo g (nI ta) (nI pa) (nI pe) pd (nI pb) pp pf pg pn rt rn (nI cd) sn (nI il) tk am at_ aa 0 0 (-1) wt wy 0 (nI rm) (nI ud) (nI nu) sd (nI qn) (nI qw) qo (nI qb) (nI qp) qa (nI qi) (nI oc))), (g 20, .inl (cI, 4, .inl (l4 (nI l0) (nI l1) (nI dm) (nI l3)))), (g 31, .inl (cI, 120, .inl nw))]) [1, 2, 0] (by decide +kernel) rfl
    exact sk_iret hx hb hr rfl hlocks hK hP hD hS (⟨0, Or.inl rfl, rfl, rfl⟩) (Nat.le_of_ble_eq_true rfl) (Nat.le_of_ble_eq_true rfl) dX12_canBeTold_29
  · have c_4 : ¬ (b_1 = 0) := fun h => c_4 ((neq b_1 0 (by omega) (by omega)).mpr h)
    obtain ⟨kd_5, hkd_5, rfl⟩ := (hb1_3.resolve_left (by omega)).2
    refine lv_aload_n hx hb dX12_canBeTold_8 rfl (lv_at hl 0 rfl) ?_
    refine lv_iload_n hx hb dX12_canBeTold_9 rfl (lv_at hl 1 rfl) ?_
    refine sk_Vi (q0 := 0) (n := 1) (rest := []) (wr := [(g 20, .inl (cI, 4, .inl (l4 (nI l0) (nI l1) (nI dm) (nI l3))))]) ⟨hx, hb, hml, hown, hts⟩ hl.1 (c_m_isMute l D cI cJ cC cZ cS mm g ta pa pe pd pb pp pf pg pn rt rn cd sn il tk am at_ aa 0 0 (-1) wt wy 0 rm ud nu sd qn qw qo qb qp qa qi oc kd_5 nw (by omega) hnw) w_7_106 w_7_108 w_0_71 w_1_14 w_7_109 (by decide +kernel) ⟨⟨(Nat.le_of_ble_eq_true rfl), (Nat.le_of_ble_eq_true rfl)⟩, (Nat.le_of_ble_eq_true rfl), (Nat.le_of_ble_eq_true rfl)⟩ hK hP hD hS hA [1, 0] [2] rfl rfl (by decide +kernel) (by decide +kernel) (by decide +kernel) rfl rfl rfl rfl (Nat.le_of_ble_eq_true rfl) dX12_canBeTold_10 (fun r_7 u H locs hw hP hD hS => ?_)
    obtain ⟨b_6, hb1_8, hb2_9, rfl, rfl⟩ := hw
    have hP : va_P D vwCl [(g 20, .inl (cI, 4, .inl (l4 (nI l0) (nI l1) (nI dm) (nI l3)))), (mm, .inr (12, mo g (nI ta) (nI pa) (nI pe) pd (nI pb) pp pf pg pn rt rn (nI cd) sn (nI il) tk am at_ aa 0 0 (-1) wt wy 0 (nI rm) (nI ud) (nI nu) sd (nI qn) (nI qw) qo (nI qb) (nI qp) qa (nI qi) (nI oc))), (g 31, .inl (cI, 120, .inl nw))] H := hP
    have hD : va_D A [(g 20, .inl (cI, 4, .inl (l4 (nI l0) (nI l1) (nI dm) (nI l3)))), (mm, .inr (12, mo g (nI ta) (nI pa) (nI pe) pd (nI pb) pp pf pg pn rt rn (nI cd) sn (nI il) tk am at_ aa 0 0 (-1) wt wy 0 (nI rm) (nI ud) (nI nu) sd (nI qn) (nI qw) qo (nI qb) (nI qp) qa (nI qi) (nI oc))), (g 31, .inl (cI, 120, .inl nw))] := hD
    refine lv_if_ne (tgt := 28) hx hb dX12_canBeTold_13 (by decide) (fun c_10 => ?_) (fun c_10 => ?_)
    · have c_10 : ¬ (b_6 = 0) := fun h => c_10 ((neq b_6 0 (by omega) (by omega)).mpr h)
      refine lv_iconst (v := 0) hx hb dX12_canBeTold_28 (by decide) ?_
      have hP := hP.sub (ws' := [(mm, .inr (12, mo g (nI ta) (nI pa) (nI pe) pd (nI pb) pp pf pg pn rt rn (nI cd) sn (nI il) tk am at_ aa 0 0 (-1) wt wy 0 (nI rm) (nI ud) (nI nu) sd (nI qn) (nI qw) qo (nI qb) (nI qp) qa (nI qi) (nI oc))), (g 20, .inl (cI, 4, .inl (l4 (nI l0) (nI l1) (nI dm) (nI l3)))), (g 31, .inl (cI, 120, .inl nw))]) [1, 0, 2] rfl
      have hD := hD.sub (ws' := [(mm, .inr (12, mo g (nI ta) (nI pa) (nI pe) pd (nI pb) pp pf pg pn rt rn (nI cd) sn (nI il) tk am at_ aa 0 0 (-1) wt wy 0 (nI rm) (nI ud) (nI nu) sd (nI qn) (nI qw) qo (nI qb) (nI qp) qa (nI qi) (nI oc))), (g 20, .inl (cI, 4, .inl (l4 (nI l0) (nI l1) (nI dm) (nI l3)))), (g 31, .inl (cI, 120, .inl nw))]) [1, 0, 2] (by decide +kernel) rfl
      exact sk_iret hx hb hr rfl hlocks hK hP hD hS (⟨0, Or.inl rfl, rfl, rfl⟩) (Nat.le_of_ble_eq_true rfl) (Nat.le_of_ble_eq_true rfl) dX12_canBeTold_29
    · have c_10 : b_6 = 0 := (neq b_6 0 (by omega) (by omega)).mp c_10
      refine lv_aload_n hx hb dX12_canBeTold_16 rfl (lv_at hl 0 rfl) ?_
      refine lv_iload_n hx hb dX12_canBeTold_17 rfl (lv_at hl 2 rfl) ?_
      refine sk_Vi (q0 := 0) (n := 1) (rest := []) (wr := [(g 20, .inl (cI, 4, .inl (l4 (nI l0) (nI l1) (nI dm) (nI l3)))), (g 31, .inl (cI, 120, .inl nw))]) ⟨hx, hb, hml, hown, hts⟩ hl.1 (c_m_isMood l D cI cJ cC cZ cS mm g ta pa pe pd pb pp pf pg pn rt rn cd sn il tk am at_ aa 0 0 (-1) wt wy 0 rm ud nu sd qn qw qo qb qp qa qi oc w) w_7_126 w_7_128 w_0_73 w_1_14 w_7_129 (by decide +kernel) ⟨⟨(Nat.le_of_ble_eq_true rfl), (Nat.le_of_ble_eq_true rfl)⟩, (Nat.le_of_ble_eq_true rfl), (Nat.le_of_ble_eq_true rfl)⟩ hK hP hD hS hA [1] [0, 2] rfl rfl (by decide +kernel) (by decide +kernel) (by decide +kernel) rfl rfl rfl rfl (Nat.le_of_ble_eq_true rfl) dX12_canBeTold_18 (fun r_12 u H locs hw hP hD hS => ?_)
      obtain ⟨b_11, hb1_13, rfl, rfl⟩ := hw
      have hP : va_P D vwCl [(g 20, .inl (cI, 4, .inl (l4 (nI l0) (nI l1) (nI dm) (nI l3)))), (g 31, .inl (cI, 120, .inl nw)), (mm, .inr (12, mo g (nI ta) (nI pa) (nI pe) pd (nI pb) pp pf pg pn rt rn (nI cd) sn (nI il) tk am at_ aa 0 0 (-1) wt wy 0 (nI rm) (nI ud) (nI nu) sd (nI qn) (nI qw) qo (nI qb) (nI qp) qa (nI qi) (nI oc)))] H := hP
      have hD : va_D A [(g 20, .inl (cI, 4, .inl (l4 (nI l0) (nI l1) (nI dm) (nI l3)))), (g 31, .inl (cI, 120, .inl nw)), (mm, .inr (12, mo g (nI ta) (nI pa) (nI pe) pd (nI pb) pp pf pg pn rt rn (nI cd) sn (nI il) tk am at_ aa 0 0 (-1) wt wy 0 (nI rm) (nI ud) (nI nu) sd (nI qn) (nI qw) qo (nI qb) (nI qp) qa (nI qi) (nI oc)))] := hD
      refine lv_if_eq (tgt := 28) hx hb dX12_canBeTold_21 (by decide) (fun c_14 => ?_) (fun c_14 => ?_)
      · have c_14 : b_11 = 0 := (neq b_11 0 (by omega) (by omega)).mp c_14
        refine lv_iconst (v := 0) hx hb dX12_canBeTold_28 (by decide) ?_
        have hP := hP.sub (ws' := [(mm, .inr (12, mo g (nI ta) (nI pa) (nI pe) pd (nI pb) pp pf pg pn rt rn (nI cd) sn (nI il) tk am at_ aa 0 0 (-1) wt wy 0 (nI rm) (nI ud) (nI nu) sd (nI qn) (nI qw) qo (nI qb) (nI qp) qa (nI qi) (nI oc))), (g 20, .inl (cI, 4, .inl (l4 (nI l0) (nI l1) (nI dm) (nI l3)))), (g 31, .inl (cI, 120, .inl nw))]) [2, 0, 1] rfl
        have hD := hD.sub (ws' := [(mm, .inr (12, mo g (nI ta) (nI pa) (nI pe) pd (nI pb) pp pf pg pn rt rn (nI cd) sn (nI il) tk am at_ aa 0 0 (-1) wt wy 0 (nI rm) (nI ud) (nI nu) sd (nI qn) (nI qw) qo (nI qb) (nI qp) qa (nI qi) (nI oc))), (g 20, .inl (cI, 4, .inl (l4 (nI l0) (nI l1) (nI dm) (nI l3)))), (g 31, .inl (cI, 120, .inl nw))]) [2, 0, 1] (by decide +kernel) rfl
        exact sk_iret hx hb hr rfl hlocks hK hP hD hS (⟨0, Or.inl rfl, rfl, rfl⟩) (Nat.le_of_ble_eq_true rfl) (Nat.le_of_ble_eq_true rfl) dX12_canBeTold_29
      · have c_14 : ¬ (b_11 = 0) := fun h => c_14 ((neq b_11 0 (by omega) (by omega)).mpr h)
        obtain ⟨kd_15, hkd_15, rfl⟩ := (hb1_13.resolve_left (by omega)).2
        refine lv_iconst (v := 1) hx hb dX12_canBeTold_24 (by decide) ?_
        refine lv_goto (tgt := 29) hx hb dX12_canBeTold_25 (by decide) ?_
        have hP := hP.sub (ws' := [(mm, .inr (12, mo g (nI ta) (nI pa) (nI pe) pd (nI pb) pp pf pg pn rt rn (nI cd) sn (nI il) tk am at_ aa 0 0 (-1) wt wy 0 (nI rm) (nI ud) (nI nu) sd (nI qn) (nI qw) qo (nI qb) (nI qp) qa (nI qi) (nI oc))), (g 20, .inl (cI, 4, .inl (l4 (nI l0) (nI l1) (nI dm) (nI l3)))), (g 31, .inl (cI, 120, .inl nw))]) [2, 0, 1] rfl
        have hD := hD.sub (ws' := [(mm, .inr (12, mo g (nI ta) (nI pa) (nI pe) pd (nI pb) pp pf pg pn rt rn (nI cd) sn (nI il) tk am at_ aa 0 0 (-1) wt wy 0 (nI rm) (nI ud) (nI nu) sd (nI qn) (nI qw) qo (nI qb) (nI qp) qa (nI qi) (nI oc))), (g 20, .inl (cI, 4, .inl (l4 (nI l0) (nI l1) (nI dm) (nI l3)))), (g 31, .inl (cI, 120, .inl nw))]) [2, 0, 1] (by decide +kernel) rfl
        exact sk_iret hx hb hr rfl hlocks hK hP hD hS (⟨1, Or.inr ⟨rfl, kd_5, by omega, rfl⟩, rfl, rfl⟩) (Nat.le_of_ble_eq_true rfl) (Nat.le_of_ble_eq_true rfl) dX12_canBeTold_29
theorem dX12_known_0 : decode cX12_known 0 = .ok (.aload_n 0, 1) := by decide +kernel
theorem dX12_known_1 : decode cX12_known 1 = .ok (.iload_n 1, 1) := by decide +kernel
theorem dX12_known_2 : decode cX12_known 2 = .ok (.iload_n 2, 1) := by decide +kernel
theorem dX12_known_3 : decode cX12_known 3 = .ok (.invokevirtual 454, 3) := by decide +kernel
theorem dX12_known_6 : decode cX12_known 6 = .ok (.ifCond .eq 11, 3) := by decide +kernel
theorem dX12_known_17 : decode cX12_known 17 = .ok (.iconst (-1), 1) := by decide +kernel
theorem dX12_known_18 : decode cX12_known 18 = .ok (.ireturn, 1) := by decide +kernel
theorem dX12_known_9 : decode cX12_known 9 = .ok (.aload_n 0, 1) := by decide +kernel
theorem dX12_known_10 : decode cX12_known 10 = .ok (.iload_n 3, 1) := by decide +kernel
theorem dX12_known_11 : decode cX12_known 11 = .ok (.invokevirtual 413, 3) := by decide +kernel
theorem dX12_known_14 : decode cX12_known 14 = .ok (.ifCond .ne 5, 3) := by decide +kernel
theorem dX12_known_19 : decode cX12_known 19 = .ok (.aload_n 0, 1) := by decide +kernel
theorem dX12_known_20 : decode cX12_known 20 = .ok (.iload_n 1, 1) := by decide +kernel
theorem dX12_known_21 : decode cX12_known 21 = .ok (.iload_n 2, 1) := by decide +kernel
theorem dX12_known_22 : decode cX12_known 22 = .ok (.invokevirtual 457, 3) := by decide +kernel
theorem dX12_known_25 : decode cX12_known 25 = .ok (.aload_n 0, 1) := by decide +kernel
theorem dX12_known_26 : decode cX12_known 26 = .ok (.iload_n 3, 1) := by decide +kernel
theorem dX12_known_27 : decode cX12_known 27 = .ok (.invokevirtual 460, 3) := by decide +kernel
theorem dX12_known_30 : decode cX12_known 30 = .ok (.ireturn, 1) := by decide +kernel
theorem w_8_77 : (Cond.methodLink RX12 454 yX12_canBeTold) ∈ wsL_law := sk_mem (ck_8 _ (List.mem_of_getElem? (i := 77) rfl)) rfl
theorem w_8_79 : (Cond.instanceMethod yX12_canBeTold) ∈ wsL_law := sk_mem (ck_8 _ (List.mem_of_getElem? (i := 79) rfl)) rfl
theorem w_0_101 : (Cond.selects RX12 yX12_canBeTold yX12_canBeTold) ∈ wsL_law := sk_mem (ck_0 _ (List.mem_of_getElem? (i := 101) rfl)) rfl
theorem w_8_81 : (Cond.methodLink RX12 457 yX12_laysByWord) ∈ wsL_law := sk_mem (ck_8 _ (List.mem_of_getElem? (i := 81) rfl)) rfl
theorem w_8_83 : (Cond.instanceMethod yX12_laysByWord) ∈ wsL_law := sk_mem (ck_8 _ (List.mem_of_getElem? (i := 83) rfl)) rfl
theorem w_0_102 : (Cond.selects RX12 yX12_laysByWord yX12_laysByWord) ∈ wsL_law := sk_mem (ck_0 _ (List.mem_of_getElem? (i := 102) rfl)) rfl
theorem w_8_85 : (Cond.methodLink RX12 460 yX12_moodsOf) ∈ wsL_law := sk_mem (ck_8 _ (List.mem_of_getElem? (i := 85) rfl)) rfl
theorem w_8_87 : (Cond.instanceMethod yX12_moodsOf) ∈ wsL_law := sk_mem (ck_8 _ (List.mem_of_getElem? (i := 87) rfl)) rfl
theorem w_0_103 : (Cond.selects RX12 yX12_moodsOf yX12_moodsOf) ∈ wsL_law := sk_mem (ck_0 _ (List.mem_of_getElem? (i := 103) rfl)) rfl
theorem w_8_76 : (Cond.code yX12_known cX12_known 4 (some .int)) ∈ wsL_law := sk_mem (ck_8 _ (List.mem_of_getElem? (i := 76) rfl)) rfl
set_option maxHeartbeats 4000000 in
set_option maxRecDepth 100000 in
theorem c_m_known (l : Launch) (D : va_G) (cI cJ cC cZ cS : ClassId) (mm : Nat) (g : Nat → Nat) (ta : Nat) (pa : Nat) (pe : Nat) (pd : Int32) (pb : Nat) (pp : Int32) (pf : Int32) (pg : Int32) (pn : Int32) (rt : Int32) (rn : Int32) (cd : Nat) (sn : Int32) (il : Nat) (tk : Int32) (am : Int32) (at_ : Int32) (aa : Int32) (wt : Int32) (wy : Int64) (rm : Nat) (ud : Nat) (nu : Nat) (sd : Int64) (qn : Nat) (qw : Nat) (qo : Int32) (qb : Nat) (qp : Nat) (qa : Int64) (qi : Nat) (oc : Nat) (d : Int32) (w : Int32) (o : Int32) (u0 : Int32) (u1 : Int32) (u2 : Int32) (u3 : Int32) (u4 : Int32) (u5 : Int32) (v0 : Int32) (v1 : Int32) (v2 : Int32) (v3 : Int32) (v4 : Int32) (v5 : Int32) (cs : Nat → Nat) (nw : Nat → Int32) (pt : Nat → Nat) (ql : Nat → Int64) (l0 : Nat) (l1 : Nat) (dm : Nat) (l3 : Nat) (ws_ : Nat → Int32) (yw : Nat → Int32) (yo : Nat → Int32) (be : Nat → Int64) (bf : Nat → Int64) (rw_ : Nat → Int32) (hil : il ≤ 1) (hild : il = 1 → 1 ≤ dm) (hdm : dm ≤ 9) (hp0 : progOk cs u3 v3) (hp1 : progOk cs u4 v4) (hp2 : progOk cs u5 v5) (hrm : rm ≤ 16) (hcs : ∀ j, cs j ≤ 20000) (hnw : nowOk nw) (hpt : ∀ j, pt j ≤ 9) : skM l yX12_known cX12_known 4 (some .int) 6 144 0 0 D (skT cI cJ cC cZ cS) [.ref mm, .int d, .int w, .int o] [(mm, .inr (12, mo g (nI ta) (nI pa) (nI pe) pd (nI pb) pp pf pg pn rt rn (nI cd) sn (nI il) tk am at_ aa 0 0 (-1) wt wy 0 (nI rm) (nI ud) (nI nu) sd (nI qn) (nI qw) qo (nI qb) (nI qp) qa (nI qi) (nI oc))), (g 24, .inl (cI, 6, .inl (l6 u0 u1 u2 u3 u4 u5))), (g 25, .inl (cI, 6, .inl (l6 v0 v1 v2 v3 v4 v5))), (g 26, .inl (cI, 3200, .inl (fun j => nI (cs j)))), (g 31, .inl (cI, 120, .inl nw)), (g 46, .inl (cI, 9, .inl (fun j => nI (pt j)))), (g 86, .inl (cJ, 1700, .inr (.inl ql))), (g 20, .inl (cI, 4, .inl (l4 (nI l0) (nI l1) (nI dm) (nI l3)))), (g 38, .inl (cI, 90, .inl ws_)), (g 36, .inl (cZ, 900, .inl yw)), (g 37, .inl (cZ, 900, .inl yo)), (g 43, .inl (cJ, 90, .inr (.inl be))), (g 44, .inl (cJ, 90, .inr (.inl bf))), (g 53, .inl (cI, 32, .inl rw_))] (skI D (skT cI cJ cC cZ cS) (fun (r : Int32) (u : va_W) => ∃ (tk2 : Int32), ∃ (qp2 : Nat), ∃ (am2 : Int32), ∃ (at_2 : Int32), ∃ (aa2 : Int32), ∃ (wy2 : Int64), ∃ (wt2 : Int32), ∃ (ql2 : Nat → Int64), ∃ (ws_2 : Nat → Int32), ∃ (yw2 : Nat → Int32), ∃ (yo2 : Nat → Int32), ∃ (be2 : Nat → Int64), ∃ (bf2 : Nat → Int64), u = [(mm, .inr (12, mo g (nI ta) (nI pa) (nI pe) pd (nI pb) pp pf pg pn rt rn (nI cd) sn (nI il) tk2 am2 at_2 aa2 0 0 (-1) wt2 wy2 0 (nI rm) (nI ud) (nI nu) sd (nI qn) (nI qw) qo (nI qb) (nI qp2) qa (nI qi) (nI oc))), (g 24, .inl (cI, 6, .inl (l6 u0 u1 u2 u3 u4 u5))), (g 25, .inl (cI, 6, .inl (l6 v0 v1 v2 v3 v4 v5))), (g 26, .inl (cI, 3200, .inl (fun j => nI (cs j)))), (g 31, .inl (cI, 120, .inl nw)), (g 46, .inl (cI, 9, .inl (fun j => nI (pt j)))), (g 86, .inl (cJ, 1700, .inr (.inl ql2))), (g 20, .inl (cI, 4, .inl (l4 (nI l0) (nI l1) (nI dm) (nI l3)))), (g 38, .inl (cI, 90, .inl ws_2)), (g 36, .inl (cZ, 900, .inl yw2)), (g 37, .inl (cZ, 900, .inl yo2)), (g 43, .inl (cJ, 90, .inr (.inl be2))), (g 44, .inl (cJ, 90, .inr (.inl bf2))), (g 53, .inl (cI, 32, .inl rw_))])) := by
  refine skM_of (by decide +kernel) (Nat.le_of_ble_eq_true rfl) ?_
  intro p e s m below meth c A ls E hP hD hl
  obtain ⟨hx, hb, hr, hml, hlocks, hin, hown, hts, hK, hA⟩ := E
  have hown : s.vm.findClass RX12 = some m.cls := hown
  have hS : va_S A s.heap s.heap [] := va_S.rf
  have hl : lv_has ls 4 [(0, .ref mm), (1, .int d), (2, .int w), (3, .int o)] := hl
  refine lv_aload_n hx hb dX12_known_0 rfl (lv_at hl 0 rfl) ?_
  refine lv_iload_n hx hb dX12_known_1 rfl (lv_at hl 1 rfl) ?_
  refine lv_iload_n hx hb dX12_known_2 rfl (lv_at hl 2 rfl) ?_
  refine sk_Vi (q0 := 0) (n := 2) (rest := []) (wr := [(g 24, .inl (cI, 6, .inl (l6 u0 u1 u2 u3 u4 u5))), (g 25, .inl (cI, 6, .inl (l6 v0 v1 v2 v3 v4 v5))), (g 26, .inl (cI, 3200, .inl (fun j => nI (cs j)))), (g 46, .inl (cI, 9, .inl (fun j => nI (pt j)))), (g 86, .inl (cJ, 1700, .inr (.inl ql))), (g 38, .inl (cI, 90, .inl ws_)), (g 36, .inl (cZ, 900, .inl yw)), (g 37, .inl (cZ, 900, .inl yo)), (g 43, .inl (cJ, 90, .inr (.inl be))), (g 44, .inl (cJ, 90, .inr (.inl bf))), (g 53, .inl (cI, 32, .inl rw_))]) ⟨hx, hb, hml, hown, hts⟩ hl.1 (c_m_canBeTold l D cI cJ cC cZ cS mm g ta pa pe pd pb pp pf pg pn rt rn cd sn il tk am at_ aa wt wy rm ud nu sd qn qw qo qb qp qa qi oc d w l0 l1 dm l3 nw (by omega) hnw) w_8_77 w_8_79 w_0_101 w_1_14 w_8_80 (by decide +kernel) ⟨⟨(Nat.le_of_ble_eq_true rfl), (Nat.le_of_ble_eq_true rfl)⟩, (Nat.le_of_ble_eq_true rfl), (Nat.le_of_ble_eq_true rfl)⟩ hK hP hD hS hA [0, 7, 4] [1, 2, 3, 5, 6, 8, 9, 10, 11, 12, 13] rfl rfl (by decide +kernel) (by decide +kernel) (by decide +kernel) rfl rfl rfl rfl (Nat.le_of_ble_eq_true rfl) dX12_known_3 (fun r_2 u H locs hw hP hD hS => ?_)
  obtain ⟨b_1, hb1_3, rfl, rfl⟩ := hw
  have hP : va_P D vwCl [(g 24, .inl (cI, 6, .inl (l6 u0 u1 u2 u3 u4 u5))), (g 25, .inl (cI, 6, .inl (l6 v0 v1 v2 v3 v4 v5))), (g 26, .inl (cI, 3200, .inl (fun j => nI (cs j)))), (g 46, .inl (cI, 9, .inl (fun j => nI (pt j)))), (g 86, .inl (cJ, 1700, .inr (.inl ql))), (g 38, .inl (cI, 90, .inl ws_)), (g 36, .inl (cZ, 900, .inl yw)), (g 37, .inl (cZ, 900, .inl yo)), (g 43, .inl (cJ, 90, .inr (.inl be))), (g 44, .inl (cJ, 90, .inr (.inl bf))), (g 53, .inl (cI, 32, .inl rw_)), (mm, .inr (12, mo g (nI ta) (nI pa) (nI pe) pd (nI pb) pp pf pg pn rt rn (nI cd) sn (nI il) tk am at_ aa 0 0 (-1) wt wy 0 (nI rm) (nI ud) (nI nu) sd (nI qn) (nI qw) qo (nI qb) (nI qp) qa (nI qi) (nI oc))), (g 20, .inl (cI, 4, .inl (l4 (nI l0) (nI l1) (nI dm) (nI l3)))), (g 31, .inl (cI, 120, .inl nw))] H := hP
  have hD : va_D A [(g 24, .inl (cI, 6, .inl (l6 u0 u1 u2 u3 u4 u5))), (g 25, .inl (cI, 6, .inl (l6 v0 v1 v2 v3 v4 v5))), (g 26, .inl (cI, 3200, .inl (fun j => nI (cs j)))), (g 46, .inl (cI, 9, .inl (fun j => nI (pt j)))), (g 86, .inl (cJ, 1700, .inr (.inl ql))), (g 38, .inl (cI, 90, .inl ws_)), (g 36, .inl (cZ, 900, .inl yw)), (g 37, .inl (cZ, 900, .inl yo)), (g 43, .inl (cJ, 90, .inr (.inl be))), (g 44, .inl (cJ, 90, .inr (.inl bf))), (g 53, .inl (cI, 32, .inl rw_)), (mm, .inr (12, mo g (nI ta) (nI pa) (nI pe) pd (nI pb) pp pf pg pn rt rn (nI cd) sn (nI il) tk am at_ aa 0 0 (-1) wt wy 0 (nI rm) (nI ud) (nI nu) sd (nI qn) (nI qw) qo (nI qb) (nI qp) qa (nI qi) (nI oc))), (g 20, .inl (cI, 4, .inl (l4 (nI l0) (nI l1) (nI dm) (nI l3)))), (g 31, .inl (cI, 120, .inl nw))] := hD
  refine lv_if_eq (tgt := 17) hx hb dX12_known_6 (by decide) (fun c_4 => ?_) (fun c_4 => ?_)
  · have c_4 : b_1 = 0 := (neq b_1 0 (by omega) (by omega)).mp c_4
    refine lv_iconst (v := (-1)) hx hb dX12_known_17 (by decide) ?_
    have hP := hP.sub (ws' := [(mm, .inr (12, mo g (nI ta) (nI pa) (nI pe) pd (nI pb) pp pf pg pn rt rn (nI cd) sn (nI il) tk am at_ aa 0 0 (-1) wt wy 0 (nI rm) (nI ud) (nI nu) sd (nI qn) (nI qw) qo (nI qb) (nI qp) qa (nI qi) (nI oc))), (g 24, .inl (cI, 6, .inl (l6 u0 u1 u2 u3 u4 u5))), (g 25, .inl (cI, 6, .inl (l6 v0 v1 v2 v3 v4 v5))), (g 26, .inl (cI, 3200, .inl (fun j => nI (cs j)))), (g 31, .inl (cI, 120, .inl nw)), (g 46, .inl (cI, 9, .inl (fun j => nI (pt j)))), (g 86, .inl (cJ, 1700, .inr (.inl ql))), (g 20, .inl (cI, 4, .inl (l4 (nI l0) (nI l1) (nI dm) (nI l3)))), (g 38, .inl (cI, 90, .inl ws_)), (g 36, .inl (cZ, 900, .inl yw)), (g 37, .inl (cZ, 900, .inl yo)), (g 43, .inl (cJ, 90, .inr (.inl be))), (g 44, .inl (cJ, 90, .inr (.inl bf))), (g 53, .inl (cI, 32, .inl rw_))]) [11, 0, 1, 2, 13, 3, 4, 12, 5, 6, 7, 8, 9, 10] rfl
    have hD := hD.sub (ws' := [(mm, .inr (12, mo g (nI ta) (nI pa) (nI pe) pd (nI pb) pp pf pg pn rt rn (nI cd) sn (nI il) tk am at_ aa 0 0 (-1) wt wy 0 (nI rm) (nI ud) (nI nu) sd (nI qn) (nI qw) qo (nI qb) (nI qp) qa (nI qi) (nI oc))), (g 24, .inl (cI, 6, .inl (l6 u0 u1 u2 u3 u4 u5))), (g 25, .inl (cI, 6, .inl (l6 v0 v1 v2 v3 v4 v5))), (g 26, .inl (cI, 3200, .inl (fun j => nI (cs j)))), (g 31, .inl (cI, 120, .inl nw)), (g 46, .inl (cI, 9, .inl (fun j => nI (pt j)))), (g 86, .inl (cJ, 1700, .inr (.inl ql))), (g 20, .inl (cI, 4, .inl (l4 (nI l0) (nI l1) (nI dm) (nI l3)))), (g 38, .inl (cI, 90, .inl ws_)), (g 36, .inl (cZ, 900, .inl yw)), (g 37, .inl (cZ, 900, .inl yo)), (g 43, .inl (cJ, 90, .inr (.inl be))), (g 44, .inl (cJ, 90, .inr (.inl bf))), (g 53, .inl (cI, 32, .inl rw_))]) [11, 0, 1, 2, 13, 3, 4, 12, 5, 6, 7, 8, 9, 10] (by decide +kernel) rfl
    exact sk_iret hx hb hr rfl hlocks hK hP hD hS (⟨tk, qp, am, at_, aa, wy, wt, ql, ws_, yw, yo, be, bf, rfl⟩) (Nat.le_of_ble_eq_true rfl) (Nat.le_of_ble_eq_true rfl) dX12_known_18
  · have c_4 : ¬ (b_1 = 0) := fun h => c_4 ((neq b_1 0 (by omega) (by omega)).mpr h)
    obtain ⟨kd_5, hkd_5, rfl⟩ := (hb1_3.resolve_left (by omega)).2
    refine lv_aload_n hx hb dX12_known_9 rfl (lv_at hl 0 rfl) ?_
    refine lv_iload_n hx hb dX12_known_10 rfl (lv_at hl 3 rfl) ?_
    refine sk_Vi (q0 := 0) (n := 1) (rest := []) (wr := [(g 24, .inl (cI, 6, .inl (l6 u0 u1 u2 u3 u4 u5))), (g 25, .inl (cI, 6, .inl (l6 v0 v1 v2 v3 v4 v5))), (g 26, .inl (cI, 3200, .inl (fun j => nI (cs j)))), (g 46, .inl (cI, 9, .inl (fun j => nI (pt j)))), (g 86, .inl (cJ, 1700, .inr (.inl ql))), (g 38, .inl (cI, 90, .inl ws_)), (g 36, .inl (cZ, 900, .inl yw)), (g 37, .inl (cZ, 900, .inl yo)), (g 43, .inl (cJ, 90, .inr (.inl be))), (g 44, .inl (cJ, 90, .inr (.inl bf))), (g 53, .inl (cI, 32, .inl rw_)), (g 31, .inl (cI, 120, .inl nw))]) ⟨hx, hb, hml, hown, hts⟩ hl.1 (c_m_isDay l D cI cJ cC cZ cS mm g ta pa pe pd pb pp pf pg pn rt rn cd sn il tk am at_ aa 0 0 (-1) wt wy 0 rm ud nu sd qn qw qo qb qp qa qi oc o l0 l1 dm l3 (by omega)) w_7_117 w_7_119 w_0_72 w_1_14 w_7_120 (by decide +kernel) ⟨⟨(Nat.le_of_ble_eq_true rfl), (Nat.le_of_ble_eq_true rfl)⟩, (Nat.le_of_ble_eq_true rfl), (Nat.le_of_ble_eq_true rfl)⟩ hK hP hD hS hA [11, 12] [0, 1, 2, 3, 4, 5, 6, 7, 8, 9, 10, 13] rfl rfl (by decide +kernel) (by decide +kernel) (by decide +kernel) rfl rfl rfl rfl (Nat.le_of_ble_eq_true rfl) dX12_known_11 (fun r_7 u H locs hw hP hD hS => ?_)
    obtain ⟨b_6, hb1_8, rfl, rfl⟩ := hw
    have hP : va_P D vwCl [(g 24, .inl (cI, 6, .inl (l6 u0 u1 u2 u3 u4 u5))), (g 25, .inl (cI, 6, .inl (l6 v0 v1 v2 v3 v4 v5))), (g 26, .inl (cI, 3200, .inl (fun j => nI (cs j)))), (g 46, .inl (cI, 9, .inl (fun j => nI (pt j)))), (g 86, .inl (cJ, 1700, .inr (.inl ql))), (g 38, .inl (cI, 90, .inl ws_)), (g 36, .inl (cZ, 900, .inl yw)), (g 37, .inl (cZ, 900, .inl yo)), (g 43, .inl (cJ, 90, .inr (.inl be))), (g 44, .inl (cJ, 90, .inr (.inl bf))), (g 53, .inl (cI, 32, .inl rw_)), (g 31, .inl (cI, 120, .inl nw)), (mm, .inr (12, mo g (nI ta) (nI pa) (nI pe) pd (nI pb) pp pf pg pn rt rn (nI cd) sn (nI il) tk am at_ aa 0 0 (-1) wt wy 0 (nI rm) (nI ud) (nI nu) sd (nI qn) (nI qw) qo (nI qb) (nI qp) qa (nI qi) (nI oc))), (g 20, .inl (cI, 4, .inl (l4 (nI l0) (nI l1) (nI dm) (nI l3))))] H := hP
    have hD : va_D A [(g 24, .inl (cI, 6, .inl (l6 u0 u1 u2 u3 u4 u5))), (g 25, .inl (cI, 6, .inl (l6 v0 v1 v2 v3 v4 v5))), (g 26, .inl (cI, 3200, .inl (fun j => nI (cs j)))), (g 46, .inl (cI, 9, .inl (fun j => nI (pt j)))), (g 86, .inl (cJ, 1700, .inr (.inl ql))), (g 38, .inl (cI, 90, .inl ws_)), (g 36, .inl (cZ, 900, .inl yw)), (g 37, .inl (cZ, 900, .inl yo)), (g 43, .inl (cJ, 90, .inr (.inl be))), (g 44, .inl (cJ, 90, .inr (.inl bf))), (g 53, .inl (cI, 32, .inl rw_)), (g 31, .inl (cI, 120, .inl nw)), (mm, .inr (12, mo g (nI ta) (nI pa) (nI pe) pd (nI pb) pp pf pg pn rt rn (nI cd) sn (nI il) tk am at_ aa 0 0 (-1) wt wy 0 (nI rm) (nI ud) (nI nu) sd (nI qn) (nI qw) qo (nI qb) (nI qp) qa (nI qi) (nI oc))), (g 20, .inl (cI, 4, .inl (l4 (nI l0) (nI l1) (nI dm) (nI l3))))] := hD
    refine lv_if_ne (tgt := 19) hx hb dX12_known_14 (by decide) (fun c_9 => ?_) (fun c_9 => ?_)
    · have c_9 : ¬ (b_6 = 0) := fun h => c_9 ((neq b_6 0 (by omega) (by omega)).mpr h)
      obtain ⟨kd_10, hkd_10, rfl⟩ := (hb1_8.resolve_left (by omega)).2
      refine lv_aload_n hx hb dX12_known_19 rfl (lv_at hl 0 rfl) ?_
      refine lv_iload_n hx hb dX12_known_20 rfl (lv_at hl 1 rfl) ?_
      refine lv_iload_n hx hb dX12_known_21 rfl (lv_at hl 2 rfl) ?_
      refine sk_Vv (q0 := 0) (n := 2) (rest := []) (wr := []) ⟨hx, hb, hml, hown, hts⟩ hl.1 (c_m_laysByWord l D cI cJ cC cZ cS mm g ta pa pe pd pb pp pf pg pn rt rn cd sn il tk am at_ aa wt wy rm ud nu sd qn qw qo qb qp qa qi oc (nI kd_5) w u0 u1 u2 u3 u4 u5 v0 v1 v2 v3 v4 v5 cs nw pt ql l0 l1 dm l3 ws_ yw yo be bf rw_ (by omega) (by omega) hp0 hp1 hp2 (by omega) hcs hnw hpt) w_8_81 w_8_83 w_0_102 w_1_14 w_8_84 (by decide +kernel) ⟨⟨(Nat.le_of_ble_eq_true rfl), (Nat.le_of_ble_eq_true rfl)⟩, (Nat.le_of_ble_eq_true rfl), (Nat.le_of_ble_eq_true rfl)⟩ hK hP hD hS hA [12, 0, 1, 2, 11, 3, 4, 13, 5, 6, 7, 8, 9, 10] [] rfl rfl (by decide +kernel) (by decide +kernel) (by decide +kernel) rfl rfl rfl rfl (Nat.le_of_ble_eq_true rfl) dX12_known_22 (fun u H locs hw hP hD hS => ?_)
      obtain ⟨tk2_11, qp2_12, am2_13, at_2_14, aa2_15, wy2_16, wt2_17, ql2_18, ws_2_19, yw2_20, yo2_21, be2_22, bf2_23, rfl⟩ := hw
      have hP : va_P D vwCl [(mm, .inr (12, mo g (nI ta) (nI pa) (nI pe) pd (nI pb) pp pf pg pn rt rn (nI cd) sn (nI il) tk2_11 am2_13 at_2_14 aa2_15 0 0 (-1) wt2_17 wy2_16 0 (nI rm) (nI ud) (nI nu) sd (nI qn) (nI qw) qo (nI qb) (nI qp2_12) qa (nI qi) (nI oc))), (g 24, .inl (cI, 6, .inl (l6 u0 u1 u2 u3 u4 u5))), (g 25, .inl (cI, 6, .inl (l6 v0 v1 v2 v3 v4 v5))), (g 26, .inl (cI, 3200, .inl (fun j => nI (cs j)))), (g 31, .inl (cI, 120, .inl nw)), (g 46, .inl (cI, 9, .inl (fun j => nI (pt j)))), (g 86, .inl (cJ, 1700, .inr (.inl ql2_18))), (g 20, .inl (cI, 4, .inl (l4 (nI l0) (nI l1) (nI dm) (nI l3)))), (g 38, .inl (cI, 90, .inl ws_2_19)), (g 36, .inl (cZ, 900, .inl yw2_20)), (g 37, .inl (cZ, 900, .inl yo2_21)), (g 43, .inl (cJ, 90, .inr (.inl be2_22))), (g 44, .inl (cJ, 90, .inr (.inl bf2_23))), (g 53, .inl (cI, 32, .inl rw_))] H := hP
      have hD : va_D A [(mm, .inr (12, mo g (nI ta) (nI pa) (nI pe) pd (nI pb) pp pf pg pn rt rn (nI cd) sn (nI il) tk2_11 am2_13 at_2_14 aa2_15 0 0 (-1) wt2_17 wy2_16 0 (nI rm) (nI ud) (nI nu) sd (nI qn) (nI qw) qo (nI qb) (nI qp2_12) qa (nI qi) (nI oc))), (g 24, .inl (cI, 6, .inl (l6 u0 u1 u2 u3 u4 u5))), (g 25, .inl (cI, 6, .inl (l6 v0 v1 v2 v3 v4 v5))), (g 26, .inl (cI, 3200, .inl (fun j => nI (cs j)))), (g 31, .inl (cI, 120, .inl nw)), (g 46, .inl (cI, 9, .inl (fun j => nI (pt j)))), (g 86, .inl (cJ, 1700, .inr (.inl ql2_18))), (g 20, .inl (cI, 4, .inl (l4 (nI l0) (nI l1) (nI dm) (nI l3)))), (g 38, .inl (cI, 90, .inl ws_2_19)), (g 36, .inl (cZ, 900, .inl yw2_20)), (g 37, .inl (cZ, 900, .inl yo2_21)), (g 43, .inl (cJ, 90, .inr (.inl be2_22))), (g 44, .inl (cJ, 90, .inr (.inl bf2_23))), (g 53, .inl (cI, 32, .inl rw_))] := hD
      refine lv_aload_n hx hb dX12_known_25 rfl (lv_at hl 0 rfl) ?_
      refine lv_iload_n hx hb dX12_known_26 rfl (lv_at hl 3 rfl) ?_
      refine sk_Vi (q0 := 0) (n := 1) (rest := []) (wr := [(g 24, .inl (cI, 6, .inl (l6 u0 u1 u2 u3 u4 u5))), (g 25, .inl (cI, 6, .inl (l6 v0 v1 v2 v3 v4 v5))), (g 26, .inl (cI, 3200, .inl (fun j => nI (cs j)))), (g 31, .inl (cI, 120, .inl nw)), (g 46, .inl (cI, 9, .inl (fun j => nI (pt j)))), (g 86, .inl (cJ, 1700, .inr (.inl ql2_18))), (g 20, .inl (cI, 4, .inl (l4 (nI l0) (nI l1) (nI dm) (nI l3)))), (g 38, .inl (cI, 90, .inl ws_2_19)), (g 36, .inl (cZ, 900, .inl yw2_20)), (g 37, .inl (cZ, 900, .inl yo2_21)), (g 53, .inl (cI, 32, .inl rw_))]) ⟨hx, hb, hml, hown, hts⟩ hl.1 (c_m_moodsOf l D cI cJ cC cZ cS mm g ta pa pe pd pb pp pf pg pn rt rn cd sn il tk2_11 am2_13 at_2_14 aa2_15 wt2_17 wy2_16 rm ud nu sd qn qw qo qb qp2_12 qa qi oc kd_10 be2_22 bf2_23 (by omega)) w_8_85 w_8_87 w_0_103 w_1_14 w_8_88 (by decide +kernel) ⟨⟨(Nat.le_of_ble_eq_true rfl), (Nat.le_of_ble_eq_true rfl)⟩, (Nat.le_of_ble_eq_true rfl), (Nat.le_of_ble_eq_true rfl)⟩ hK hP hD hS hA [0, 11, 12] [1, 2, 3, 4, 5, 6, 7, 8, 9, 10, 13] rfl rfl (by decide +kernel) (by decide +kernel) (by decide +kernel) rfl rfl rfl rfl (Nat.le_of_ble_eq_true rfl) dX12_known_27 (fun r_24 u H locs hw hP hD hS => ?_)
      obtain rfl := hw
      have hP : va_P D vwCl [(g 24, .inl (cI, 6, .inl (l6 u0 u1 u2 u3 u4 u5))), (g 25, .inl (cI, 6, .inl (l6 v0 v1 v2 v3 v4 v5))), (g 26, .inl (cI, 3200, .inl (fun j => nI (cs j)))), (g 31, .inl (cI, 120, .inl nw)), (g 46, .inl (cI, 9, .inl (fun j => nI (pt j)))), (g 86, .inl (cJ, 1700, .inr (.inl ql2_18))), (g 20, .inl (cI, 4, .inl (l4 (nI l0) (nI l1) (nI dm) (nI l3)))), (g 38, .inl (cI, 90, .inl ws_2_19)), (g 36, .inl (cZ, 900, .inl yw2_20)), (g 37, .inl (cZ, 900, .inl yo2_21)), (g 53, .inl (cI, 32, .inl rw_)), (mm, .inr (12, mo g (nI ta) (nI pa) (nI pe) pd (nI pb) pp pf pg pn rt rn (nI cd) sn (nI il) tk2_11 am2_13 at_2_14 aa2_15 0 0 (-1) wt2_17 wy2_16 0 (nI rm) (nI ud) (nI nu) sd (nI qn) (nI qw) qo (nI qb) (nI qp2_12) qa (nI qi) (nI oc))), (g 43, .inl (cJ, 90, .inr (.inl be2_22))), (g 44, .inl (cJ, 90, .inr (.inl bf2_23)))] H := hP
      have hD : va_D A [(g 24, .inl (cI, 6, .inl (l6 u0 u1 u2 u3 u4 u5))), (g 25, .inl (cI, 6, .inl (l6 v0 v1 v2 v3 v4 v5))), (g 26, .inl (cI, 3200, .inl (fun j => nI (cs j)))), (g 31, .inl (cI, 120, .inl nw)), (g 46, .inl (cI, 9, .inl (fun j => nI (pt j)))), (g 86, .inl (cJ, 1700, .inr (.inl ql2_18))), (g 20, .inl (cI, 4, .inl (l4 (nI l0) (nI l1) (nI dm) (nI l3)))), (g 38, .inl (cI, 90, .inl ws_2_19)), (g 36, .inl (cZ, 900, .inl yw2_20)), (g 37, .inl (cZ, 900, .inl yo2_21)), (g 53, .inl (cI, 32, .inl rw_)), (mm, .inr (12, mo g (nI ta) (nI pa) (nI pe) pd (nI pb) pp pf pg pn rt rn (nI cd) sn (nI il) tk2_11 am2_13 at_2_14 aa2_15 0 0 (-1) wt2_17 wy2_16 0 (nI rm) (nI ud) (nI nu) sd (nI qn) (nI qw) qo (nI qb) (nI qp2_12) qa (nI qi) (nI oc))), (g 43, .inl (cJ, 90, .inr (.inl be2_22))), (g 44, .inl (cJ, 90, .inr (.inl bf2_23)))] := hD
      have hP := hP.sub (ws' := [(mm, .inr (12, mo g (nI ta) (nI pa) (nI pe) pd (nI pb) pp pf pg pn rt rn (nI cd) sn (nI il) tk2_11 am2_13 at_2_14 aa2_15 0 0 (-1) wt2_17 wy2_16 0 (nI rm) (nI ud) (nI nu) sd (nI qn) (nI qw) qo (nI qb) (nI qp2_12) qa (nI qi) (nI oc))), (g 24, .inl (cI, 6, .inl (l6 u0 u1 u2 u3 u4 u5))), (g 25, .inl (cI, 6, .inl (l6 v0 v1 v2 v3 v4 v5))), (g 26, .inl (cI, 3200, .inl (fun j => nI (cs j)))), (g 31, .inl (cI, 120, .inl nw)), (g 46, .inl (cI, 9, .inl (fun j => nI (pt j)))), (g 86, .inl (cJ, 1700, .inr (.inl ql2_18))), (g 20, .inl (cI, 4, .inl (l4 (nI l0) (nI l1) (nI dm) (nI l3)))), (g 38, .inl (cI, 90, .inl ws_2_19)), (g 36, .inl (cZ, 900, .inl yw2_20)), (g 37, .inl (cZ, 900, .inl yo2_21)), (g 43, .inl (cJ, 90, .inr (.inl be2_22))), (g 44, .inl (cJ, 90, .inr (.inl bf2_23))), (g 53, .inl (cI, 32, .inl rw_))]) [11, 0, 1, 2, 3, 4, 5, 6, 7, 8, 9, 12, 13, 10] rfl
      have hD := hD.sub (ws' := [(mm, .inr (12, mo g (nI ta) (nI pa) (nI pe) pd (nI pb) pp pf pg pn rt rn (nI cd) sn (nI il) tk2_11 am2_13 at_2_14 aa2_15 0 0 (-1) wt2_17 wy2_16 0 (nI rm) (nI ud) (nI nu) sd (nI qn) (nI qw) qo (nI qb) (nI qp2_12) qa (nI qi) (nI oc))), (g 24, .inl (cI, 6, .inl (l6 u0 u1 u2 u3 u4 u5))), (g 25, .inl (cI, 6, .inl (l6 v0 v1 v2 v3 v4 v5))), (g 26, .inl (cI, 3200, .inl (fun j => nI (cs j)))), (g 31, .inl (cI, 120, .inl nw)), (g 46, .inl (cI, 9, .inl (fun j => nI (pt j)))), (g 86, .inl (cJ, 1700, .inr (.inl ql2_18))), (g 20, .inl (cI, 4, .inl (l4 (nI l0) (nI l1) (nI dm) (nI l3)))), (g 38, .inl (cI, 90, .inl ws_2_19)), (g 36, .inl (cZ, 900, .inl yw2_20)), (g 37, .inl (cZ, 900, .inl yo2_21)), (g 43, .inl (cJ, 90, .inr (.inl be2_22))), (g 44, .inl (cJ, 90, .inr (.inl bf2_23))), (g 53, .inl (cI, 32, .inl rw_))]) [11, 0, 1, 2, 3, 4, 5, 6, 7, 8, 9, 12, 13, 10] (by decide +kernel) rfl
      exact sk_iret hx hb hr rfl hlocks hK hP hD hS (⟨tk2_11, qp2_12, am2_13, at_2_14, aa2_15, wy2_16, wt2_17, ql2_18, ws_2_19, yw2_20, yo2_21, be2_22, bf2_23, rfl⟩) (Nat.le_of_ble_eq_true rfl) (Nat.le_of_ble_eq_true rfl) dX12_known_30
    · have c_9 : b_6 = 0 := (neq b_6 0 (by omega) (by omega)).mp c_9
      refine lv_iconst (v := (-1)) hx hb dX12_known_17 (by decide) ?_
      have hP := hP.sub (ws' := [(mm, .inr (12, mo g (nI ta) (nI pa) (nI pe) pd (nI pb) pp pf pg pn rt rn (nI cd) sn (nI il) tk am at_ aa 0 0 (-1) wt wy 0 (nI rm) (nI ud) (nI nu) sd (nI qn) (nI qw) qo (nI qb) (nI qp) qa (nI qi) (nI oc))), (g 24, .inl (cI, 6, .inl (l6 u0 u1 u2 u3 u4 u5))), (g 25, .inl (cI, 6, .inl (l6 v0 v1 v2 v3 v4 v5))), (g 26, .inl (cI, 3200, .inl (fun j => nI (cs j)))), (g 31, .inl (cI, 120, .inl nw)), (g 46, .inl (cI, 9, .inl (fun j => nI (pt j)))), (g 86, .inl (cJ, 1700, .inr (.inl ql))), (g 20, .inl (cI, 4, .inl (l4 (nI l0) (nI l1) (nI dm) (nI l3)))), (g 38, .inl (cI, 90, .inl ws_)), (g 36, .inl (cZ, 900, .inl yw)), (g 37, .inl (cZ, 900, .inl yo)), (g 43, .inl (cJ, 90, .inr (.inl be))), (g 44, .inl (cJ, 90, .inr (.inl bf))), (g 53, .inl (cI, 32, .inl rw_))]) [12, 0, 1, 2, 11, 3, 4, 13, 5, 6, 7, 8, 9, 10] rfl
      have hD := hD.sub (ws' := [(mm, .inr (12, mo g (nI ta) (nI pa) (nI pe) pd (nI pb) pp pf pg pn rt rn (nI cd) sn (nI il) tk am at_ aa 0 0 (-1) wt wy 0 (nI rm) (nI ud) (nI nu) sd (nI qn) (nI qw) qo (nI qb) (nI qp) qa (nI qi) (nI oc))), (g 24, .inl (cI, 6, .inl (l6 u0 u1 u2 u3 u4 u5))), (g 25, .inl (cI, 6, .inl (l6 v0 v1 v2 v3 v4 v5))), (g 26, .inl (cI, 3200, .inl (fun j => nI (cs j)))), (g 31, .inl (cI, 120, .inl nw)), (g 46, .inl (cI, 9, .inl (fun j => nI (pt j)))), (g 86, .inl (cJ, 1700, .inr (.inl ql))), (g 20, .inl (cI, 4, .inl (l4 (nI l0) (nI l1) (nI dm) (nI l3)))), (g 38, .inl (cI, 90, .inl ws_)), (g 36, .inl (cZ, 900, .inl yw)), (g 37, .inl (cZ, 900, .inl yo)), (g 43, .inl (cJ, 90, .inr (.inl be))), (g 44, .inl (cJ, 90, .inr (.inl bf))), (g 53, .inl (cI, 32, .inl rw_))]) [12, 0, 1, 2, 11, 3, 4, 13, 5, 6, 7, 8, 9, 10] (by decide +kernel) rfl
      exact sk_iret hx hb hr rfl hlocks hK hP hD hS (⟨tk, qp, am, at_, aa, wy, wt, ql, ws_, yw, yo, be, bf, rfl⟩) (Nat.le_of_ble_eq_true rfl) (Nat.le_of_ble_eq_true rfl) dX12_known_18
theorem dX12_sure_0 : decode cX12_sure 0 = .ok (.aload_n 0, 1) := by decide +kernel
theorem dX12_sure_1 : decode cX12_sure 1 = .ok (.iload_n 1, 1) := by decide +kernel
theorem dX12_sure_2 : decode cX12_sure 2 = .ok (.iload_n 2, 1) := by decide +kernel
theorem dX12_sure_3 : decode cX12_sure 3 = .ok (.invokevirtual 454, 3) := by decide +kernel
theorem dX12_sure_6 : decode cX12_sure 6 = .ok (.ifCond .ne 5, 3) := by decide +kernel
theorem dX12_sure_11 : decode cX12_sure 11 = .ok (.aload_n 0, 1) := by decide +kernel
theorem dX12_sure_12 : decode cX12_sure 12 = .ok (.iload_n 1, 1) := by decide +kernel
theorem dX12_sure_13 : decode cX12_sure 13 = .ok (.iload_n 2, 1) := by decide +kernel
theorem dX12_sure_14 : decode cX12_sure 14 = .ok (.invokevirtual 457, 3) := by decide +kernel
theorem dX12_sure_17 : decode cX12_sure 17 = .ok (.aload_n 0, 1) := by decide +kernel
theorem dX12_sure_18 : decode cX12_sure 18 = .ok (.getfield 382, 3) := by decide +kernel
theorem dX12_sure_21 : decode cX12_sure 21 = .ok (.lconst 0, 1) := by decide +kernel
theorem dX12_sure_22 : decode cX12_sure 22 = .ok (.lcmp, 1) := by decide +kernel
theorem dX12_sure_23 : decode cX12_sure 23 = .ok (.ifCond .ne 5, 3) := by decide +kernel
theorem dX12_sure_28 : decode cX12_sure 28 = .ok (.iconst 0, 1) := by decide +kernel
theorem dX12_sure_29 : decode cX12_sure 29 = .ok (.istore_n 3, 1) := by decide +kernel
theorem dX12_sure_30 : decode cX12_sure 30 = .ok (.iload_n 1, 1) := by decide +kernel
theorem dX12_sure_31 : decode cX12_sure 31 = .ok (.istore 4, 2) := by decide +kernel
theorem dX12_sure_33 : decode cX12_sure 33 = .ok (.iload 4, 2) := by decide +kernel
theorem dX12_sure_35 : decode cX12_sure 35 = .ok (.aload_n 0, 1) := by decide +kernel
theorem dX12_sure_36 : decode cX12_sure 36 = .ok (.invokevirtual 315, 3) := by decide +kernel
theorem dX12_sure_39 : decode cX12_sure 39 = .ok (.if_icmp .ge 25, 3) := by decide +kernel
theorem dX12_sure_64 : decode cX12_sure 64 = .ok (.iload_n 3, 1) := by decide +kernel
theorem dX12_sure_65 : decode cX12_sure 65 = .ok (.ireturn, 1) := by decide +kernel
theorem dX12_sure_42 : decode cX12_sure 42 = .ok (.aload_n 0, 1) := by decide +kernel
theorem dX12_sure_43 : decode cX12_sure 43 = .ok (.iload 4, 2) := by decide +kernel
theorem dX12_sure_45 : decode cX12_sure 45 = .ok (.invokevirtual 460, 3) := by decide +kernel
theorem dX12_sure_48 : decode cX12_sure 48 = .ok (.invokestatic 409, 3) := by decide +kernel
theorem dX12_sure_51 : decode cX12_sure 51 = .ok (.iconst 1, 1) := by decide +kernel
theorem dX12_sure_52 : decode cX12_sure 52 = .ok (.if_icmp .ne 12, 3) := by decide +kernel
theorem dX12_sure_55 : decode cX12_sure 55 = .ok (.iinc 3 1, 3) := by decide +kernel
theorem dX12_sure_58 : decode cX12_sure 58 = .ok (.iinc 4 1, 3) := by decide +kernel
theorem dX12_sure_61 : decode cX12_sure 61 = .ok (.goto (-28), 3) := by decide +kernel
theorem dX12_sure_26 : decode cX12_sure 26 = .ok (.iconst (-1), 1) := by decide +kernel
theorem dX12_sure_27 : decode cX12_sure 27 = .ok (.ireturn, 1) := by decide +kernel
theorem dX12_sure_9 : decode cX12_sure 9 = .ok (.iconst (-1), 1) := by decide +kernel
theorem dX12_sure_10 : decode cX12_sure 10 = .ok (.ireturn, 1) := by decide +kernel
theorem w_8_92 : (Cond.code yX12_sure cX12_sure 5 (some .int)) ∈ wsL_law := sk_mem (ck_8 _ (List.mem_of_getElem? (i := 92) rfl)) rfl
set_option maxHeartbeats 4000000 in
set_option maxRecDepth 100000 in
theorem c_m_sure (l : Launch) (D : va_G) (cI cJ cC cZ cS : ClassId) (mm : Nat) (g : Nat → Nat) (ta : Nat) (pa : Nat) (pe : Nat) (pd : Int32) (pb : Nat) (pp : Int32) (pf : Int32) (pg : Int32) (pn : Int32) (rt : Int32) (rn : Int32) (cd : Nat) (sn : Int32) (il : Nat) (tk : Int32) (am : Int32) (at_ : Int32) (aa : Int32) (wt : Int32) (wy : Int64) (rm : Nat) (ud : Nat) (nu : Nat) (sd : Int64) (qn : Nat) (qw : Nat) (qo : Int32) (qb : Nat) (qp : Nat) (qa : Int64) (qi : Nat) (oc : Nat) (d : Int32) (w : Int32) (u0 : Int32) (u1 : Int32) (u2 : Int32) (u3 : Int32) (u4 : Int32) (u5 : Int32) (v0 : Int32) (v1 : Int32) (v2 : Int32) (v3 : Int32) (v4 : Int32) (v5 : Int32) (cs : Nat → Nat) (nw : Nat → Int32) (pt : Nat → Nat) (ql : Nat → Int64) (l0 : Nat) (l1 : Nat) (dm : Nat) (l3 : Nat) (ws_ : Nat → Int32) (yw : Nat → Int32) (yo : Nat → Int32) (be : Nat → Int64) (bf : Nat → Int64) (rw_ : Nat → Int32) (hil : il ≤ 1) (hild : il = 1 → 1 ≤ dm) (hdm : dm ≤ 9) (hp0 : progOk cs u3 v3) (hp1 : progOk cs u4 v4) (hp2 : progOk cs u5 v5) (hrm : rm ≤ 16) (hcs : ∀ j, cs j ≤ 20000) (hnw : nowOk nw) (hpt : ∀ j, pt j ≤ 9) : skM l yX12_sure cX12_sure 5 (some .int) 6 144 0 0 D (skT cI cJ cC cZ cS) [.ref mm, .int d, .int w] [(mm, .inr (12, mo g (nI ta) (nI pa) (nI pe) pd (nI pb) pp pf pg pn rt rn (nI cd) sn (nI il) tk am at_ aa 0 0 (-1) wt wy 0 (nI rm) (nI ud) (nI nu) sd (nI qn) (nI qw) qo (nI qb) (nI qp) qa (nI qi) (nI oc))), (g 24, .inl (cI, 6, .inl (l6 u0 u1 u2 u3 u4 u5))), (g 25, .inl (cI, 6, .inl (l6 v0 v1 v2 v3 v4 v5))), (g 26, .inl (cI, 3200, .inl (fun j => nI (cs j)))), (g 31, .inl (cI, 120, .inl nw)), (g 46, .inl (cI, 9, .inl (fun j => nI (pt j)))), (g 86, .inl (cJ, 1700, .inr (.inl ql))), (g 20, .inl (cI, 4, .inl (l4 (nI l0) (nI l1) (nI dm) (nI l3)))), (g 38, .inl (cI, 90, .inl ws_)), (g 36, .inl (cZ, 900, .inl yw)), (g 37, .inl (cZ, 900, .inl yo)), (g 43, .inl (cJ, 90, .inr (.inl be))), (g 44, .inl (cJ, 90, .inr (.inl bf))), (g 53, .inl (cI, 32, .inl rw_))] (skI D (skT cI cJ cC cZ cS) (fun (r : Int32) (u : va_W) => ∃ (tk2 : Int32), ∃ (qp2 : Nat), ∃ (am2 : Int32), ∃ (at_2 : Int32), ∃ (aa2 : Int32), ∃ (wy2 : Int64), ∃ (wt2 : Int32), ∃ (ql2 : Nat → Int64), ∃ (ws_2 : Nat → Int32), ∃ (yw2 : Nat → Int32), ∃ (yo2 : Nat → Int32), ∃ (be2 : Nat → Int64), ∃ (bf2 : Nat → Int64), u = [(mm, .inr (12, mo g (nI ta) (nI pa) (nI pe) pd (nI pb) pp pf pg pn rt rn (nI cd) sn (nI il) tk2 am2 at_2 aa2 0 0 (-1) wt2 wy2 0 (nI rm) (nI ud) (nI nu) sd (nI qn) (nI qw) qo (nI qb) (nI qp2) qa (nI qi) (nI oc))), (g 24, .inl (cI, 6, .inl (l6 u0 u1 u2 u3 u4 u5))), (g 25, .inl (cI, 6, .inl (l6 v0 v1 v2 v3 v4 v5))), (g 26, .inl (cI, 3200, .inl (fun j => nI (cs j)))), (g 31, .inl (cI, 120, .inl nw)), (g 46, .inl (cI, 9, .inl (fun j => nI (pt j)))), (g 86, .inl (cJ, 1700, .inr (.inl ql2))), (g 20, .inl (cI, 4, .inl (l4 (nI l0) (nI l1) (nI dm) (nI l3)))), (g 38, .inl (cI, 90, .inl ws_2)), (g 36, .inl (cZ, 900, .inl yw2)), (g 37, .inl (cZ, 900, .inl yo2)), (g 43, .inl (cJ, 90, .inr (.inl be2))), (g 44, .inl (cJ, 90, .inr (.inl bf2))), (g 53, .inl (cI, 32, .inl rw_))])) := by
  refine skM_of (by decide +kernel) (Nat.le_of_ble_eq_true rfl) ?_
  intro p e s m below meth c A ls E hP hD hl
  obtain ⟨hx, hb, hr, hml, hlocks, hin, hown, hts, hK, hA⟩ := E
  have hown : s.vm.findClass RX12 = some m.cls := hown
  have hS : va_S A s.heap s.heap [] := va_S.rf
  have hl : lv_has ls 5 [(0, .ref mm), (1, .int d), (2, .int w)] := hl
  refine lv_aload_n hx hb dX12_sure_0 rfl (lv_at hl 0 rfl) ?_
  refine lv_iload_n hx hb dX12_sure_1 rfl (lv_at hl 1 rfl) ?_
  refine lv_iload_n hx hb dX12_sure_2 rfl (lv_at hl 2 rfl) ?_
  refine sk_Vi (q0 := 0) (n := 2) (rest := []) (wr := [(g 24, .inl (cI, 6, .inl (l6 u0 u1 u2 u3 u4 u5))), (g 25, .inl (cI, 6, .inl (l6 v0 v1 v2 v3 v4 v5))), (g 26, .inl (cI, 3200, .inl (fun j => nI (cs j)))), (g 46, .inl (cI, 9, .inl (fun j => nI (pt j)))), (g 86, .inl (cJ, 1700, .inr (.inl ql))), (g 38, .inl (cI, 90, .inl ws_)), (g 36, .inl (cZ, 900, .inl yw)), (g 37, .inl (cZ, 900, .inl yo)), (g 43, .inl (cJ, 90, .inr (.inl be))), (g 44, .inl (cJ, 90, .inr (.inl bf))), (g 53, .inl (cI, 32, .inl rw_))]) ⟨hx, hb, hml, hown, hts⟩ hl.1 (c_m_canBeTold l D cI cJ cC cZ cS mm g ta pa pe pd pb pp pf pg pn rt rn cd sn il tk am at_ aa wt wy rm ud nu sd qn qw qo qb qp qa qi oc d w l0 l1 dm l3 nw (by omega) hnw) w_8_77 w_8_79 w_0_101 w_1_14 w_8_80 (by decide +kernel) ⟨⟨(Nat.le_of_ble_eq_true rfl), (Nat.le_of_ble_eq_true rfl)⟩, (Nat.le_of_ble_eq_true rfl), (Nat.le_of_ble_eq_true rfl)⟩ hK hP hD hS hA [0, 7, 4] [1, 2, 3, 5, 6, 8, 9, 10, 11, 12, 13] rfl rfl (by decide +kernel) (by decide +kernel) (by decide +kernel) rfl rfl rfl rfl (Nat.le_of_ble_eq_true rfl) dX12_sure_3 (fun r_2 u H locs hw hP hD hS => ?_)
  obtain ⟨b_1, hb1_3, rfl, rfl⟩ := hw
  have hP : va_P D vwCl [(g 24, .inl (cI, 6, .inl (l6 u0 u1 u2 u3 u4 u5))), (g 25, .inl (cI, 6, .inl (l6 v0 v1 v2 v3 v4 v5))), (g 26, .inl (cI, 3200, .inl (fun j => nI (cs j)))), (g 46, .inl (cI, 9, .inl (fun j => nI (pt j)))), (g 86, .inl (cJ, 1700, .inr (.inl ql))), (g 38, .inl (cI, 90, .inl ws_)), (g 36, .inl (cZ, 900, .inl yw)), (g 37, .inl (cZ, 900, .inl yo)), (g 43, .inl (cJ, 90, .inr (.inl be))), (g 44, .inl (cJ, 90, .inr (.inl bf))), (g 53, .inl (cI, 32, .inl rw_)), (mm, .inr (12, mo g (nI ta) (nI pa) (nI pe) pd (nI pb) pp pf pg pn rt rn (nI cd) sn (nI il) tk am at_ aa 0 0 (-1) wt wy 0 (nI rm) (nI ud) (nI nu) sd (nI qn) (nI qw) qo (nI qb) (nI qp) qa (nI qi) (nI oc))), (g 20, .inl (cI, 4, .inl (l4 (nI l0) (nI l1) (nI dm) (nI l3)))), (g 31, .inl (cI, 120, .inl nw))] H := hP
  have hD : va_D A [(g 24, .inl (cI, 6, .inl (l6 u0 u1 u2 u3 u4 u5))), (g 25, .inl (cI, 6, .inl (l6 v0 v1 v2 v3 v4 v5))), (g 26, .inl (cI, 3200, .inl (fun j => nI (cs j)))), (g 46, .inl (cI, 9, .inl (fun j => nI (pt j)))), (g 86, .inl (cJ, 1700, .inr (.inl ql))), (g 38, .inl (cI, 90, .inl ws_)), (g 36, .inl (cZ, 900, .inl yw)), (g 37, .inl (cZ, 900, .inl yo)), (g 43, .inl (cJ, 90, .inr (.inl be))), (g 44, .inl (cJ, 90, .inr (.inl bf))), (g 53, .inl (cI, 32, .inl rw_)), (mm, .inr (12, mo g (nI ta) (nI pa) (nI pe) pd (nI pb) pp pf pg pn rt rn (nI cd) sn (nI il) tk am at_ aa 0 0 (-1) wt wy 0 (nI rm) (nI ud) (nI nu) sd (nI qn) (nI qw) qo (nI qb) (nI qp) qa (nI qi) (nI oc))), (g 20, .inl (cI, 4, .inl (l4 (nI l0) (nI l1) (nI dm) (nI l3)))), (g 31, .inl (cI, 120, .inl nw))] := hD
  refine lv_if_ne (tgt := 11) hx hb dX12_sure_6 (by decide) (fun c_4 => ?_) (fun c_4 => ?_)
  · have c_4 : ¬ (b_1 = 0) := fun h => c_4 ((neq b_1 0 (by omega) (by omega)).mpr h)
    obtain ⟨kd_5, hkd_5, rfl⟩ := (hb1_3.resolve_left (by omega)).2
    refine lv_aload_n hx hb dX12_sure_11 rfl (lv_at hl 0 rfl) ?_
    refine lv_iload_n hx hb dX12_sure_12 rfl (lv_at hl 1 rfl) ?_
    refine lv_iload_n hx hb dX12_sure_13 rfl (lv_at hl 2 rfl) ?_
    refine sk_Vv (q0 := 0) (n := 2) (rest := []) (wr := []) ⟨hx, hb, hml, hown, hts⟩ hl.1 (c_m_laysByWord l D cI cJ cC cZ cS mm g ta pa pe pd pb pp pf pg pn rt rn cd sn il tk am at_ aa wt wy rm ud nu sd qn qw qo qb qp qa qi oc (nI kd_5) w u0 u1 u2 u3 u4 u5 v0 v1 v2 v3 v4 v5 cs nw pt ql l0 l1 dm l3 ws_ yw yo be bf rw_ (by omega) (by omega) hp0 hp1 hp2 (by omega) hcs hnw hpt) w_8_81 w_8_83 w_0_102 w_1_14 w_8_84 (by decide +kernel) ⟨⟨(Nat.le_of_ble_eq_true rfl), (Nat.le_of_ble_eq_true rfl)⟩, (Nat.le_of_ble_eq_true rfl), (Nat.le_of_ble_eq_true rfl)⟩ hK hP hD hS hA [11, 0, 1, 2, 13, 3, 4, 12, 5, 6, 7, 8, 9, 10] [] rfl rfl (by decide +kernel) (by decide +kernel) (by decide +kernel) rfl rfl rfl rfl (Nat.le_of_ble_eq_true rfl) dX12_sure_14 (fun u H locs hw hP hD hS => ?_)
    obtain ⟨tk2_6, qp2_7, am2_8, at_2_9, aa2_10, wy2_11, wt2_12, ql2_13, ws_2_14, yw2_15, yo2_16, be2_17, bf2_18, rfl⟩ := hw
    have hP : va_P D vwCl [(mm, .inr (12, mo g (nI ta) (nI pa) (nI pe) pd (nI pb) pp pf pg pn rt rn (nI cd) sn (nI il) tk2_6 am2_8 at_2_9 aa2_10 0 0 (-1) wt2_12 wy2_11 0 (nI rm) (nI ud) (nI nu) sd (nI qn) (nI qw) qo (nI qb) (nI qp2_7) qa (nI qi) (nI oc))), (g 24, .inl (cI, 6, .inl (l6 u0 u1 u2 u3 u4 u5))), (g 25, .inl (cI, 6, .inl (l6 v0 v1 v2 v3 v4 v5))), (g 26, .inl (cI, 3200, .inl (fun j => nI (cs j)))), (g 31, .inl (cI, 120, .inl nw)), (g 46, .inl (cI, 9, .inl (fun j => nI (pt j)))), (g 86, .inl (cJ, 1700, .inr (.inl ql2_13))), (g 20, .inl (cI, 4, .inl (l4 (nI l0) (nI l1) (nI dm) (nI l3)))), (g 38, .inl (cI, 90, .inl ws_2_14)), (g 36, .inl (cZ, 900, .inl yw2_15)), (g 37, .inl (cZ, 900, .inl yo2_16)), (g 43, .inl (cJ, 90, .inr (.inl be2_17))), (g 44, .inl (cJ, 90, .inr (.inl bf2_18))), (g 53, .inl (cI, 32, .inl rw_))] H := hP
    have hD : va_D A [(mm, .inr (12, mo g (nI ta) (nI pa) (nI pe) pd (nI pb) pp pf pg pn rt rn (nI cd) sn (nI il) tk2_6 am2_8 at_2_9 aa2_10 0 0 (-1) wt2_12 wy2_11 0 (nI rm) (nI ud) (nI nu) sd (nI qn) (nI qw) qo (nI qb) (nI qp2_7) qa (nI qi) (nI oc))), (g 24, .inl (cI, 6, .inl (l6 u0 u1 u2 u3 u4 u5))), (g 25, .inl (cI, 6, .inl (l6 v0 v1 v2 v3 v4 v5))), (g 26, .inl (cI, 3200, .inl (fun j => nI (cs j)))), (g 31, .inl (cI, 120, .inl nw)), (g 46, .inl (cI, 9, .inl (fun j => nI (pt j)))), (g 86, .inl (cJ, 1700, .inr (.inl ql2_13))), (g 20, .inl (cI, 4, .inl (l4 (nI l0) (nI l1) (nI dm) (nI l3)))), (g 38, .inl (cI, 90, .inl ws_2_14)), (g 36, .inl (cZ, 900, .inl yw2_15)), (g 37, .inl (cZ, 900, .inl yo2_16)), (g 43, .inl (cJ, 90, .inr (.inl be2_17))), (g 44, .inl (cJ, 90, .inr (.inl bf2_18))), (g 53, .inl (cI, 32, .inl rw_))] := hD
    refine lv_aload_n hx hb dX12_sure_17 rfl (lv_at hl 0 rfl) ?_
    refine sk_get (v := .long wy2_11) (C := RX12) (T := TX12) (N := 92) hx hb hts inlX12 hown hK hP 0 rfl rfl 45 (by decide) w_5_200 rfl dX12_sure_18 ?_
    refine lv_lconst (v := 0) hx hb dX12_sure_21 (by decide) ?_
    refine W.lcmp hx hb dX12_sure_22 ?_
    refine lv_if_ne (tgt := 28) hx hb dX12_sure_23 (by decide) (fun c_19 => ?_) (fun c_19 => ?_)
    · skip
      refine lv_iconst (v := 0) hx hb dX12_sure_28 (by decide) ?_
      refine lv_istore_n (lv' := [(3, .int 0), (0, .ref mm), (1, .int (nI kd_5)), (2, .int w)]) hx hb dX12_sure_29 rfl hl (by decide) rfl (fun ls hl => ?_)
      refine lv_iload_n hx hb dX12_sure_30 rfl (lv_at hl 2 rfl) ?_
      refine lv_istore (lv' := [(4, .int (nI kd_5)), (3, .int 0), (0, .ref mm), (1, .int (nI kd_5)), (2, .int w)]) hx hb dX12_sure_31 hl (by decide) rfl (fun ls hl => ?_)
      have lp_20 : ∀ (n_21 : Nat) (i : Nat) (nn : Int32) (H : Heap) (locs : List Loc) (ls : Array Slot), 10 - i < n_21 → (i ≤ dm) → va_P D vwCl [(mm, .inr (12, mo g (nI ta) (nI pa) (nI pe) pd (nI pb) pp pf pg pn rt rn (nI cd) sn (nI il) tk2_6 am2_8 at_2_9 aa2_10 0 0 (-1) wt2_12 wy2_11 0 (nI rm) (nI ud) (nI nu) sd (nI qn) (nI qw) qo (nI qb) (nI qp2_7) qa (nI qi) (nI oc))), (g 24, .inl (cI, 6, .inl (l6 u0 u1 u2 u3 u4 u5))), (g 25, .inl (cI, 6, .inl (l6 v0 v1 v2 v3 v4 v5))), (g 26, .inl (cI, 3200, .inl (fun j => nI (cs j)))), (g 31, .inl (cI, 120, .inl nw)), (g 46, .inl (cI, 9, .inl (fun j => nI (pt j)))), (g 86, .inl (cJ, 1700, .inr (.inl ql2_13))), (g 20, .inl (cI, 4, .inl (l4 (nI l0) (nI l1) (nI dm) (nI l3)))), (g 38, .inl (cI, 90, .inl ws_2_14)), (g 36, .inl (cZ, 900, .inl yw2_15)), (g 37, .inl (cZ, 900, .inl yo2_16)), (g 43, .inl (cJ, 90, .inr (.inl be2_17))), (g 44, .inl (cJ, 90, .inr (.inl bf2_18))), (g 53, .inl (cI, 32, .inl rw_))] H → va_D A [(mm, .inr (12, mo g (nI ta) (nI pa) (nI pe) pd (nI pb) pp pf pg pn rt rn (nI cd) sn (nI il) tk2_6 am2_8 at_2_9 aa2_10 0 0 (-1) wt2_12 wy2_11 0 (nI rm) (nI ud) (nI nu) sd (nI qn) (nI qw) qo (nI qb) (nI qp2_7) qa (nI qi) (nI oc))), (g 24, .inl (cI, 6, .inl (l6 u0 u1 u2 u3 u4 u5))), (g 25, .inl (cI, 6, .inl (l6 v0 v1 v2 v3 v4 v5))), (g 26, .inl (cI, 3200, .inl (fun j => nI (cs j)))), (g 31, .inl (cI, 120, .inl nw)), (g 46, .inl (cI, 9, .inl (fun j => nI (pt j)))), (g 86, .inl (cJ, 1700, .inr (.inl ql2_13))), (g 20, .inl (cI, 4, .inl (l4 (nI l0) (nI l1) (nI dm) (nI l3)))), (g 38, .inl (cI, 90, .inl ws_2_14)), (g 36, .inl (cZ, 900, .inl yw2_15)), (g 37, .inl (cZ, 900, .inl yo2_16)), (g 43, .inl (cJ, 90, .inr (.inl be2_17))), (g 44, .inl (cJ, 90, .inr (.inl bf2_18))), (g 53, .inl (cI, 32, .inl rw_))] → va_S A s.heap H locs → lv_has ls 5 [(4, .int (nI i)), (3, .int nn), (0, .ref mm), (1, .int (nI kd_5)), (2, .int w)] → W p l e { frames := 6, cells := 0, slots := 0, locals := 144 } s m ([.ref mm, .int (nI kd_5), .int w] : List Value).toArray below meth c H locs 0 0 (MQ below (skI D (skT cI cJ cC cZ cS) (fun (r : Int32) (u : va_W) => ∃ (tk2 : Int32), ∃ (qp2 : Nat), ∃ (am2 : Int32), ∃ (at_2 : Int32), ∃ (aa2 : Int32), ∃ (wy2 : Int64), ∃ (wt2 : Int32), ∃ (ql2 : Nat → Int64), ∃ (ws_2 : Nat → Int32), ∃ (yw2 : Nat → Int32), ∃ (yo2 : Nat → Int32), ∃ (be2 : Nat → Int64), ∃ (bf2 : Nat → Int64), u = [(mm, .inr (12, mo g (nI ta) (nI pa) (nI pe) pd (nI pb) pp pf pg pn rt rn (nI cd) sn (nI il) tk2 am2 at_2 aa2 0 0 (-1) wt2 wy2 0 (nI rm) (nI ud) (nI nu) sd (nI qn) (nI qw) qo (nI qb) (nI qp2) qa (nI qi) (nI oc))), (g 24, .inl (cI, 6, .inl (l6 u0 u1 u2 u3 u4 u5))), (g 25, .inl (cI, 6, .inl (l6 v0 v1 v2 v3 v4 v5))), (g 26, .inl (cI, 3200, .inl (fun j => nI (cs j)))), (g 31, .inl (cI, 120, .inl nw)), (g 46, .inl (cI, 9, .inl (fun j => nI (pt j)))), (g 86, .inl (cJ, 1700, .inr (.inl ql2))), (g 20, .inl (cI, 4, .inl (l4 (nI l0) (nI l1) (nI dm) (nI l3)))), (g 38, .inl (cI, 90, .inl ws_2)), (g 36, .inl (cZ, 900, .inl yw2)), (g 37, .inl (cZ, 900, .inl yo2)), (g 43, .inl (cJ, 90, .inr (.inl be2))), (g 44, .inl (cJ, 90, .inr (.inl bf2))), (g 53, .inl (cI, 32, .inl rw_))]) A) ([.ref mm, .int (nI kd_5), .int w] : List Value).toArray s 0 0 A) (F0 m 33 ls []) := by
        intro n_21
        induction n_21 with
        | zero => intro i nn H locs ls hm; exact absurd hm (Nat.not_lt_zero _)
        | succ n_21 ih_lp_20 =>
          intro i nn H locs ls hm hi hP hD hS hl
          refine lv_iload hx hb dX12_sure_33 (lv_at hl 0 rfl) ?_
          refine lv_aload_n hx hb dX12_sure_35 rfl (lv_at hl 2 rfl) ?_
          refine sk_Vi (q0 := 0) (n := 0) (rest := [.int (nI i)]) (wr := [(g 24, .inl (cI, 6, .inl (l6 u0 u1 u2 u3 u4 u5))), (g 25, .inl (cI, 6, .inl (l6 v0 v1 v2 v3 v4 v5))), (g 26, .inl (cI, 3200, .inl (fun j => nI (cs j)))), (g 31, .inl (cI, 120, .inl nw)), (g 46, .inl (cI, 9, .inl (fun j => nI (pt j)))), (g 86, .inl (cJ, 1700, .inr (.inl ql2_13))), (g 38, .inl (cI, 90, .inl ws_2_14)), (g 36, .inl (cZ, 900, .inl yw2_15)), (g 37, .inl (cZ, 900, .inl yo2_16)), (g 43, .inl (cJ, 90, .inr (.inl be2_17))), (g 44, .inl (cJ, 90, .inr (.inl bf2_18))), (g 53, .inl (cI, 32, .inl rw_))]) ⟨hx, hb, hml, hown, hts⟩ hl.1 (c_m_dayMany l D cI cJ cC cZ cS mm g ta pa pe pd pb pp pf pg pn rt rn cd sn il tk2_6 am2_8 at_2_9 aa2_10 0 0 (-1) wt2_12 wy2_11 0 rm ud nu sd qn qw qo qb qp2_7 qa qi oc l0 l1 dm l3) w_7_98 w_7_100 w_0_69 w_1_14 w_7_101 (by decide +kernel) ⟨⟨(Nat.le_of_ble_eq_true rfl), (Nat.le_of_ble_eq_true rfl)⟩, (Nat.le_of_ble_eq_true rfl), (Nat.le_of_ble_eq_true rfl)⟩ hK hP hD hS hA [0, 7] [1, 2, 3, 4, 5, 6, 8, 9, 10, 11, 12, 13] rfl rfl (by decide +kernel) (by decide +kernel) (by decide +kernel) rfl rfl rfl rfl (Nat.le_of_ble_eq_true rfl) dX12_sure_36 (fun r_22 u H locs hw hP hD hS => ?_)
          obtain ⟨rfl, rfl⟩ := hw
          have hP : va_P D vwCl [(g 24, .inl (cI, 6, .inl (l6 u0 u1 u2 u3 u4 u5))), (g 25, .inl (cI, 6, .inl (l6 v0 v1 v2 v3 v4 v5))), (g 26, .inl (cI, 3200, .inl (fun j => nI (cs j)))), (g 31, .inl (cI, 120, .inl nw)), (g 46, .inl (cI, 9, .inl (fun j => nI (pt j)))), (g 86, .inl (cJ, 1700, .inr (.inl ql2_13))), (g 38, .inl (cI, 90, .inl ws_2_14)), (g 36, .inl (cZ, 900, .inl yw2_15)), (g 37, .inl (cZ, 900, .inl yo2_16)), (g 43, .inl (cJ, 90, .inr (.inl be2_17))), (g 44, .inl (cJ, 90, .inr (.inl bf2_18))), (g 53, .inl (cI, 32, .inl rw_)), (mm, .inr (12, mo g (nI ta) (nI pa) (nI pe) pd (nI pb) pp pf pg pn rt rn (nI cd) sn (nI il) tk2_6 am2_8 at_2_9 aa2_10 0 0 (-1) wt2_12 wy2_11 0 (nI rm) (nI ud) (nI nu) sd (nI qn) (nI qw) qo (nI qb) (nI qp2_7) qa (nI qi) (nI oc))), (g 20, .inl (cI, 4, .inl (l4 (nI l0) (nI l1) (nI dm) (nI l3))))] H := hP
          have hD : va_D A [(g 24, .inl (cI, 6, .inl (l6 u0 u1 u2 u3 u4 u5))), (g 25, .inl (cI, 6, .inl (l6 v0 v1 v2 v3 v4 v5))), (g 26, .inl (cI, 3200, .inl (fun j => nI (cs j)))), (g 31, .inl (cI, 120, .inl nw)), (g 46, .inl (cI, 9, .inl (fun j => nI (pt j)))), (g 86, .inl (cJ, 1700, .inr (.inl ql2_13))), (g 38, .inl (cI, 90, .inl ws_2_14)), (g 36, .inl (cZ, 900, .inl yw2_15)), (g 37, .inl (cZ, 900, .inl yo2_16)), (g 43, .inl (cJ, 90, .inr (.inl be2_17))), (g 44, .inl (cJ, 90, .inr (.inl bf2_18))), (g 53, .inl (cI, 32, .inl rw_)), (mm, .inr (12, mo g (nI ta) (nI pa) (nI pe) pd (nI pb) pp pf pg pn rt rn (nI cd) sn (nI il) tk2_6 am2_8 at_2_9 aa2_10 0 0 (-1) wt2_12 wy2_11 0 (nI rm) (nI ud) (nI nu) sd (nI qn) (nI qw) qo (nI qb) (nI qp2_7) qa (nI qi) (nI oc))), (g 20, .inl (cI, 4, .inl (l4 (nI l0) (nI l1) (nI dm) (nI l3))))] := hD
          refine lv_icmp_ge (tgt := 64) hx hb dX12_sure_39 (by decide) (fun c_23 => ?_) (fun c_23 => ?_)
          · have c_23 : dm ≤ i := (nle dm i (by omega) (by omega)).mp c_23
            refine lv_iload_n hx hb dX12_sure_64 rfl (lv_at hl 1 rfl) ?_
            have hP := hP.sub (ws' := [(mm, .inr (12, mo g (nI ta) (nI pa) (nI pe) pd (nI pb) pp pf pg pn rt rn (nI cd) sn (nI il) tk2_6 am2_8 at_2_9 aa2_10 0 0 (-1) wt2_12 wy2_11 0 (nI rm) (nI ud) (nI nu) sd (nI qn) (nI qw) qo (nI qb) (nI qp2_7) qa (nI qi) (nI oc))), (g 24, .inl (cI, 6, .inl (l6 u0 u1 u2 u3 u4 u5))), (g 25, .inl (cI, 6, .inl (l6 v0 v1 v2 v3 v4 v5))), (g 26, .inl (cI, 3200, .inl (fun j => nI (cs j)))), (g 31, .inl (cI, 120, .inl nw)), (g 46, .inl (cI, 9, .inl (fun j => nI (pt j)))), (g 86, .inl (cJ, 1700, .inr (.inl ql2_13))), (g 20, .inl (cI, 4, .inl (l4 (nI l0) (nI l1) (nI dm) (nI l3)))), (g 38, .inl (cI, 90, .inl ws_2_14)), (g 36, .inl (cZ, 900, .inl yw2_15)), (g 37, .inl (cZ, 900, .inl yo2_16)), (g 43, .inl (cJ, 90, .inr (.inl be2_17))), (g 44, .inl (cJ, 90, .inr (.inl bf2_18))), (g 53, .inl (cI, 32, .inl rw_))]) [12, 0, 1, 2, 3, 4, 5, 13, 6, 7, 8, 9, 10, 11] rfl
            have hD := hD.sub (ws' := [(mm, .inr (12, mo g (nI ta) (nI pa) (nI pe) pd (nI pb) pp pf pg pn rt rn (nI cd) sn (nI il) tk2_6 am2_8 at_2_9 aa2_10 0 0 (-1) wt2_12 wy2_11 0 (nI rm) (nI ud) (nI nu) sd (nI qn) (nI qw) qo (nI qb) (nI qp2_7) qa (nI qi) (nI oc))), (g 24, .inl (cI, 6, .inl (l6 u0 u1 u2 u3 u4 u5))), (g 25, .inl (cI, 6, .inl (l6 v0 v1 v2 v3 v4 v5))), (g 26, .inl (cI, 3200, .inl (fun j => nI (cs j)))), (g 31, .inl (cI, 120, .inl nw)), (g 46, .inl (cI, 9, .inl (fun j => nI (pt j)))), (g 86, .inl (cJ, 1700, .inr (.inl ql2_13))), (g 20, .inl (cI, 4, .inl (l4 (nI l0) (nI l1) (nI dm) (nI l3)))), (g 38, .inl (cI, 90, .inl ws_2_14)), (g 36, .inl (cZ, 900, .inl yw2_15)), (g 37, .inl (cZ, 900, .inl yo2_16)), (g 43, .inl (cJ, 90, .inr (.inl be2_17))), (g 44, .inl (cJ, 90, .inr (.inl bf2_18))), (g 53, .inl (cI, 32, .inl rw_))]) [12, 0, 1, 2, 3, 4, 5, 13, 6, 7, 8, 9, 10, 11] (by decide +kernel) rfl
            exact sk_iret hx hb hr rfl hlocks hK hP hD hS (⟨tk2_6, qp2_7, am2_8, at_2_9, aa2_10, wy2_11, wt2_12, ql2_13, ws_2_14, yw2_15, yo2_16, be2_17, bf2_18, rfl⟩) (Nat.le_of_ble_eq_true rfl) (Nat.le_of_ble_eq_true rfl) dX12_sure_65
          · have c_23 : ¬ (dm ≤ i) := fun h => c_23 ((nle dm i (by omega) (by omega)).mpr h)
            refine lv_aload_n hx hb dX12_sure_42 rfl (lv_at hl 2 rfl) ?_
            refine lv_iload hx hb dX12_sure_43 (lv_at hl 0 rfl) ?_
            refine sk_Vi (q0 := 0) (n := 1) (rest := []) (wr := [(g 24, .inl (cI, 6, .inl (l6 u0 u1 u2 u3 u4 u5))), (g 25, .inl (cI, 6, .inl (l6 v0 v1 v2 v3 v4 v5))), (g 26, .inl (cI, 3200, .inl (fun j => nI (cs j)))), (g 31, .inl (cI, 120, .inl nw)), (g 46, .inl (cI, 9, .inl (fun j => nI (pt j)))), (g 86, .inl (cJ, 1700, .inr (.inl ql2_13))), (g 38, .inl (cI, 90, .inl ws_2_14)), (g 36, .inl (cZ, 900, .inl yw2_15)), (g 37, .inl (cZ, 900, .inl yo2_16)), (g 53, .inl (cI, 32, .inl rw_)), (g 20, .inl (cI, 4, .inl (l4 (nI l0) (nI l1) (nI dm) (nI l3))))]) ⟨hx, hb, hml, hown, hts⟩ hl.1 (c_m_moodsOf l D cI cJ cC cZ cS mm g ta pa pe pd pb pp pf pg pn rt rn cd sn il tk2_6 am2_8 at_2_9 aa2_10 wt2_12 wy2_11 rm ud nu sd qn qw qo qb qp2_7 qa qi oc i be2_17 bf2_18 (by omega)) w_8_85 w_8_87 w_0_103 w_1_14 w_8_88 (by decide +kernel) ⟨⟨(Nat.le_of_ble_eq_true rfl), (Nat.le_of_ble_eq_true rfl)⟩, (Nat.le_of_ble_eq_true rfl), (Nat.le_of_ble_eq_true rfl)⟩ hK hP hD hS hA [12, 9, 10] [0, 1, 2, 3, 4, 5, 6, 7, 8, 11, 13] rfl rfl (by decide +kernel) (by decide +kernel) (by decide +kernel) rfl rfl rfl rfl (Nat.le_of_ble_eq_true rfl) dX12_sure_45 (fun r_24 u H locs hw hP hD hS => ?_)
            obtain rfl := hw
            have hP : va_P D vwCl [(g 24, .inl (cI, 6, .inl (l6 u0 u1 u2 u3 u4 u5))), (g 25, .inl (cI, 6, .inl (l6 v0 v1 v2 v3 v4 v5))), (g 26, .inl (cI, 3200, .inl (fun j => nI (cs j)))), (g 31, .inl (cI, 120, .inl nw)), (g 46, .inl (cI, 9, .inl (fun j => nI (pt j)))), (g 86, .inl (cJ, 1700, .inr (.inl ql2_13))), (g 38, .inl (cI, 90, .inl ws_2_14)), (g 36, .inl (cZ, 900, .inl yw2_15)), (g 37, .inl (cZ, 900, .inl yo2_16)), (g 53, .inl (cI, 32, .inl rw_)), (g 20, .inl (cI, 4, .inl (l4 (nI l0) (nI l1) (nI dm) (nI l3)))), (mm, .inr (12, mo g (nI ta) (nI pa) (nI pe) pd (nI pb) pp pf pg pn rt rn (nI cd) sn (nI il) tk2_6 am2_8 at_2_9 aa2_10 0 0 (-1) wt2_12 wy2_11 0 (nI rm) (nI ud) (nI nu) sd (nI qn) (nI qw) qo (nI qb) (nI qp2_7) qa (nI qi) (nI oc))), (g 43, .inl (cJ, 90, .inr (.inl be2_17))), (g 44, .inl (cJ, 90, .inr (.inl bf2_18)))] H := hP
            have hD : va_D A [(g 24, .inl (cI, 6, .inl (l6 u0 u1 u2 u3 u4 u5))), (g 25, .inl (cI, 6, .inl (l6 v0 v1 v2 v3 v4 v5))), (g 26, .inl (cI, 3200, .inl (fun j => nI (cs j)))), (g 31, .inl (cI, 120, .inl nw)), (g 46, .inl (cI, 9, .inl (fun j => nI (pt j)))), (g 86, .inl (cJ, 1700, .inr (.inl ql2_13))), (g 38, .inl (cI, 90, .inl ws_2_14)), (g 36, .inl (cZ, 900, .inl yw2_15)), (g 37, .inl (cZ, 900, .inl yo2_16)), (g 53, .inl (cI, 32, .inl rw_)), (g 20, .inl (cI, 4, .inl (l4 (nI l0) (nI l1) (nI dm) (nI l3)))), (mm, .inr (12, mo g (nI ta) (nI pa) (nI pe) pd (nI pb) pp pf pg pn rt rn (nI cd) sn (nI il) tk2_6 am2_8 at_2_9 aa2_10 0 0 (-1) wt2_12 wy2_11 0 (nI rm) (nI ud) (nI nu) sd (nI qn) (nI qw) qo (nI qb) (nI qp2_7) qa (nI qi) (nI oc))), (g 43, .inl (cJ, 90, .inr (.inl be2_17))), (g 44, .inl (cJ, 90, .inr (.inl bf2_18)))] := hD
            refine sk_Si (n := 1) (rest := []) (wr := [(g 24, .inl (cI, 6, .inl (l6 u0 u1 u2 u3 u4 u5))), (g 25, .inl (cI, 6, .inl (l6 v0 v1 v2 v3 v4 v5))), (g 26, .inl (cI, 3200, .inl (fun j => nI (cs j)))), (g 31, .inl (cI, 120, .inl nw)), (g 46, .inl (cI, 9, .inl (fun j => nI (pt j)))), (g 86, .inl (cJ, 1700, .inr (.inl ql2_13))), (g 38, .inl (cI, 90, .inl ws_2_14)), (g 36, .inl (cZ, 900, .inl yw2_15)), (g 37, .inl (cZ, 900, .inl yo2_16)), (g 53, .inl (cI, 32, .inl rw_)), (g 20, .inl (cI, 4, .inl (l4 (nI l0) (nI l1) (nI dm) (nI l3)))), (mm, .inr (12, mo g (nI ta) (nI pa) (nI pe) pd (nI pb) pp pf pg pn rt rn (nI cd) sn (nI il) tk2_6 am2_8 at_2_9 aa2_10 0 0 (-1) wt2_12 wy2_11 0 (nI rm) (nI ud) (nI nu) sd (nI qn) (nI qw) qo (nI qb) (nI qp2_7) qa (nI qi) (nI oc))), (g 43, .inl (cJ, 90, .inr (.inl be2_17))), (g 44, .inl (cJ, 90, .inr (.inl bf2_18)))]) ⟨hx, hb, hml, hown, hts⟩ hl.1 (c_m_bits l D cI cJ cC cZ cS r_24) w_7_110 w_7_111 w_1_14 w_7_112 (by decide +kernel) ⟨⟨(Nat.le_of_ble_eq_true rfl), (Nat.le_of_ble_eq_true rfl)⟩, (Nat.le_of_ble_eq_true rfl), (Nat.le_of_ble_eq_true rfl)⟩ hK hP hD hS hA [] [0, 1, 2, 3, 4, 5, 6, 7, 8, 9, 10, 11, 12, 13] rfl rfl (by decide +kernel) (by decide +kernel) (by decide +kernel) rfl rfl (Nat.le_of_ble_eq_true rfl) dX12_sure_48 (fun r_25 u H locs hw hP hD hS => ?_)
            obtain rfl := hw
            have hP : va_P D vwCl [(g 24, .inl (cI, 6, .inl (l6 u0 u1 u2 u3 u4 u5))), (g 25, .inl (cI, 6, .inl (l6 v0 v1 v2 v3 v4 v5))), (g 26, .inl (cI, 3200, .inl (fun j => nI (cs j)))), (g 31, .inl (cI, 120, .inl nw)), (g 46, .inl (cI, 9, .inl (fun j => nI (pt j)))), (g 86, .inl (cJ, 1700, .inr (.inl ql2_13))), (g 38, .inl (cI, 90, .inl ws_2_14)), (g 36, .inl (cZ, 900, .inl yw2_15)), (g 37, .inl (cZ, 900, .inl yo2_16)), (g 53, .inl (cI, 32, .inl rw_)), (g 20, .inl (cI, 4, .inl (l4 (nI l0) (nI l1) (nI dm) (nI l3)))), (mm, .inr (12, mo g (nI ta) (nI pa) (nI pe) pd (nI pb) pp pf pg pn rt rn (nI cd) sn (nI il) tk2_6 am2_8 at_2_9 aa2_10 0 0 (-1) wt2_12 wy2_11 0 (nI rm) (nI ud) (nI nu) sd (nI qn) (nI qw) qo (nI qb) (nI qp2_7) qa (nI qi) (nI oc))), (g 43, .inl (cJ, 90, .inr (.inl be2_17))), (g 44, .inl (cJ, 90, .inr (.inl bf2_18)))] H := hP
            have hD : va_D A [(g 24, .inl (cI, 6, .inl (l6 u0 u1 u2 u3 u4 u5))), (g 25, .inl (cI, 6, .inl (l6 v0 v1 v2 v3 v4 v5))), (g 26, .inl (cI, 3200, .inl (fun j => nI (cs j)))), (g 31, .inl (cI, 120, .inl nw)), (g 46, .inl (cI, 9, .inl (fun j => nI (pt j)))), (g 86, .inl (cJ, 1700, .inr (.inl ql2_13))), (g 38, .inl (cI, 90, .inl ws_2_14)), (g 36, .inl (cZ, 900, .inl yw2_15)), (g 37, .inl (cZ, 900, .inl yo2_16)), (g 53, .inl (cI, 32, .inl rw_)), (g 20, .inl (cI, 4, .inl (l4 (nI l0) (nI l1) (nI dm) (nI l3)))), (mm, .inr (12, mo g (nI ta) (nI pa) (nI pe) pd (nI pb) pp pf pg pn rt rn (nI cd) sn (nI il) tk2_6 am2_8 at_2_9 aa2_10 0 0 (-1) wt2_12 wy2_11 0 (nI rm) (nI ud) (nI nu) sd (nI qn) (nI qw) qo (nI qb) (nI qp2_7) qa (nI qi) (nI oc))), (g 43, .inl (cJ, 90, .inr (.inl be2_17))), (g 44, .inl (cJ, 90, .inr (.inl bf2_18)))] := hD
            refine lv_iconst (v := 1) hx hb dX12_sure_51 (by decide) ?_
            refine lv_icmp_ne (tgt := 64) hx hb dX12_sure_52 (by decide) (fun c_26 => ?_) (fun c_26 => ?_)
            · skip
              refine lv_iload_n hx hb dX12_sure_64 rfl (lv_at hl 1 rfl) ?_
              have hP := hP.sub (ws' := [(mm, .inr (12, mo g (nI ta) (nI pa) (nI pe) pd (nI pb) pp pf pg pn rt rn (nI cd) sn (nI il) tk2_6 am2_8 at_2_9 aa2_10 0 0 (-1) wt2_12 wy2_11 0 (nI rm) (nI ud) (nI nu) sd (nI qn) (nI qw) qo (nI qb) (nI qp2_7) qa (nI qi) (nI oc))), (g 24, .inl (cI, 6, .inl (l6 u0 u1 u2 u3 u4 u5))), (g 25, .inl (cI, 6, .inl (l6 v0 v1 v2 v3 v4 v5))), (g 26, .inl (cI, 3200, .inl (fun j => nI (cs j)))), (g 31, .inl (cI, 120, .inl nw)), (g 46, .inl (cI, 9, .inl (fun j => nI (pt j)))), (g 86, .inl (cJ, 1700, .inr (.inl ql2_13))), (g 20, .inl (cI, 4, .inl (l4 (nI l0) (nI l1) (nI dm) (nI l3)))), (g 38, .inl (cI, 90, .inl ws_2_14)), (g 36, .inl (cZ, 900, .inl yw2_15)), (g 37, .inl (cZ, 900, .inl yo2_16)), (g 43, .inl (cJ, 90, .inr (.inl be2_17))), (g 44, .inl (cJ, 90, .inr (.inl bf2_18))), (g 53, .inl (cI, 32, .inl rw_))]) [11, 0, 1, 2, 3, 4, 5, 10, 6, 7, 8, 12, 13, 9] rfl
              have hD := hD.sub (ws' := [(mm, .inr (12, mo g (nI ta) (nI pa) (nI pe) pd (nI pb) pp pf pg pn rt rn (nI cd) sn (nI il) tk2_6 am2_8 at_2_9 aa2_10 0 0 (-1) wt2_12 wy2_11 0 (nI rm) (nI ud) (nI nu) sd (nI qn) (nI qw) qo (nI qb) (nI qp2_7) qa (nI qi) (nI oc))), (g 24, .inl (cI, 6, .inl (l6 u0 u1 u2 u3 u4 u5))), (g 25, .inl (cI, 6, .inl (l6 v0 v1 v2 v3 v4 v5))), (g 26, .inl (cI, 3200, .inl (fun j => nI (cs j)))), (g 31, .inl (cI, 120, .inl nw)), (g 46, .inl (cI, 9, .inl (fun j => nI (pt j)))), (g 86, .inl (cJ, 1700, .inr (.inl ql2_13))), (g 20, .inl (cI, 4, .inl (l4 (nI l0) (nI l1) (nI dm) (nI l3)))), (g 38, .inl (cI, 90, .inl ws_2_14)), (g 36, .inl (cZ, 900, .inl yw2_15)), (g 37, .inl (cZ, 900, .inl yo2_16)), (g 43, .inl (cJ, 90, .inr (.inl be2_17))), (g 44, .inl (cJ, 90, .inr (.inl bf2_18))), (g 53, .inl (cI, 32, .inl rw_))]) [11, 0, 1, 2, 3, 4, 5, 10, 6, 7, 8, 12, 13, 9] (by decide +kernel) rfl
              exact sk_iret hx hb hr rfl hlocks hK hP hD hS (⟨tk2_6, qp2_7, am2_8, at_2_9, aa2_10, wy2_11, wt2_12, ql2_13, ws_2_14, yw2_15, yo2_16, be2_17, bf2_18, rfl⟩) (Nat.le_of_ble_eq_true rfl) (Nat.le_of_ble_eq_true rfl) dX12_sure_65
            · skip
              refine lv_iinc (v := nn + 1) (lv' := [(3, .int (nn + 1)), (4, .int (nI i)), (0, .ref mm), (1, .int (nI kd_5)), (2, .int w)]) hx hb dX12_sure_55 hl (k := 1) rfl rfl (by decide) rfl (fun ls hl => ?_)
              refine lv_iinc (v := nI (i + 1)) (lv' := [(4, .int (nI (i + 1))), (3, .int (nn + 1)), (0, .ref mm), (1, .int (nI kd_5)), (2, .int w)]) hx hb dX12_sure_58 hl (k := 1) rfl (ninc i 1 (by decide)) (by decide) rfl (fun ls hl => ?_)
              refine lv_goto (tgt := 33) hx hb dX12_sure_61 (by decide) ?_
              have hP := hP.sub (ws' := [(mm, .inr (12, mo g (nI ta) (nI pa) (nI pe) pd (nI pb) pp pf pg pn rt rn (nI cd) sn (nI il) tk2_6 am2_8 at_2_9 aa2_10 0 0 (-1) wt2_12 wy2_11 0 (nI rm) (nI ud) (nI nu) sd (nI qn) (nI qw) qo (nI qb) (nI qp2_7) qa (nI qi) (nI oc))), (g 24, .inl (cI, 6, .inl (l6 u0 u1 u2 u3 u4 u5))), (g 25, .inl (cI, 6, .inl (l6 v0 v1 v2 v3 v4 v5))), (g 26, .inl (cI, 3200, .inl (fun j => nI (cs j)))), (g 31, .inl (cI, 120, .inl nw)), (g 46, .inl (cI, 9, .inl (fun j => nI (pt j)))), (g 86, .inl (cJ, 1700, .inr (.inl ql2_13))), (g 20, .inl (cI, 4, .inl (l4 (nI l0) (nI l1) (nI dm) (nI l3)))), (g 38, .inl (cI, 90, .inl ws_2_14)), (g 36, .inl (cZ, 900, .inl yw2_15)), (g 37, .inl (cZ, 900, .inl yo2_16)), (g 43, .inl (cJ, 90, .inr (.inl be2_17))), (g 44, .inl (cJ, 90, .inr (.inl bf2_18))), (g 53, .inl (cI, 32, .inl rw_))]) [11, 0, 1, 2, 3, 4, 5, 10, 6, 7, 8, 12, 13, 9] rfl
              have hD := hD.sub (ws' := [(mm, .inr (12, mo g (nI ta) (nI pa) (nI pe) pd (nI pb) pp pf pg pn rt rn (nI cd) sn (nI il) tk2_6 am2_8 at_2_9 aa2_10 0 0 (-1) wt2_12 wy2_11 0 (nI rm) (nI ud) (nI nu) sd (nI qn) (nI qw) qo (nI qb) (nI qp2_7) qa (nI qi) (nI oc))), (g 24, .inl (cI, 6, .inl (l6 u0 u1 u2 u3 u4 u5))), (g 25, .inl (cI, 6, .inl (l6 v0 v1 v2 v3 v4 v5))), (g 26, .inl (cI, 3200, .inl (fun j => nI (cs j)))), (g 31, .inl (cI, 120, .inl nw)), (g 46, .inl (cI, 9, .inl (fun j => nI (pt j)))), (g 86, .inl (cJ, 1700, .inr (.inl ql2_13))), (g 20, .inl (cI, 4, .inl (l4 (nI l0) (nI l1) (nI dm) (nI l3)))), (g 38, .inl (cI, 90, .inl ws_2_14)), (g 36, .inl (cZ, 900, .inl yw2_15)), (g 37, .inl (cZ, 900, .inl yo2_16)), (g 43, .inl (cJ, 90, .inr (.inl be2_17))), (g 44, .inl (cJ, 90, .inr (.inl bf2_18))), (g 53, .inl (cI, 32, .inl rw_))]) [11, 0, 1, 2, 3, 4, 5, 10, 6, 7, 8, 12, 13, 9] (by decide +kernel) rfl
              exact ih_lp_20 (i + 1) (nn + 1) _ _ _ (by omega) (by omega) hP hD hS (lv_sub hl [0, 1, 2, 3, 4] rfl)
      exact lp_20 (10 - kd_5 + 1) kd_5 0 _ _ _ (Nat.lt_succ_self _) (by omega) hP hD hS (lv_sub hl [0, 1, 2, 3, 4] rfl)
    · skip
      refine lv_iconst (v := (-1)) hx hb dX12_sure_26 (by decide) ?_
      exact sk_iret hx hb hr rfl hlocks hK hP hD hS (⟨tk2_6, qp2_7, am2_8, at_2_9, aa2_10, wy2_11, wt2_12, ql2_13, ws_2_14, yw2_15, yo2_16, be2_17, bf2_18, rfl⟩) (Nat.le_of_ble_eq_true rfl) (Nat.le_of_ble_eq_true rfl) dX12_sure_27
  · have c_4 : b_1 = 0 := (neq b_1 0 (by omega) (by omega)).mp c_4
    refine lv_iconst (v := (-1)) hx hb dX12_sure_9 (by decide) ?_
    have hP := hP.sub (ws' := [(mm, .inr (12, mo g (nI ta) (nI pa) (nI pe) pd (nI pb) pp pf pg pn rt rn (nI cd) sn (nI il) tk am at_ aa 0 0 (-1) wt wy 0 (nI rm) (nI ud) (nI nu) sd (nI qn) (nI qw) qo (nI qb) (nI qp) qa (nI qi) (nI oc))), (g 24, .inl (cI, 6, .inl (l6 u0 u1 u2 u3 u4 u5))), (g 25, .inl (cI, 6, .inl (l6 v0 v1 v2 v3 v4 v5))), (g 26, .inl (cI, 3200, .inl (fun j => nI (cs j)))), (g 31, .inl (cI, 120, .inl nw)), (g 46, .inl (cI, 9, .inl (fun j => nI (pt j)))), (g 86, .inl (cJ, 1700, .inr (.inl ql))), (g 20, .inl (cI, 4, .inl (l4 (nI l0) (nI l1) (nI dm) (nI l3)))), (g 38, .inl (cI, 90, .inl ws_)), (g 36, .inl (cZ, 900, .inl yw)), (g 37, .inl (cZ, 900, .inl yo)), (g 43, .inl (cJ, 90, .inr (.inl be))), (g 44, .inl (cJ, 90, .inr (.inl bf))), (g 53, .inl (cI, 32, .inl rw_))]) [11, 0, 1, 2, 13, 3, 4, 12, 5, 6, 7, 8, 9, 10] rfl
    have hD := hD.sub (ws' := [(mm, .inr (12, mo g (nI ta) (nI pa) (nI pe) pd (nI pb) pp pf pg pn rt rn (nI cd) sn (nI il) tk am at_ aa 0 0 (-1) wt wy 0 (nI rm) (nI ud) (nI nu) sd (nI qn) (nI qw) qo (nI qb) (nI qp) qa (nI qi) (nI oc))), (g 24, .inl (cI, 6, .inl (l6 u0 u1 u2 u3 u4 u5))), (g 25, .inl (cI, 6, .inl (l6 v0 v1 v2 v3 v4 v5))), (g 26, .inl (cI, 3200, .inl (fun j => nI (cs j)))), (g 31, .inl (cI, 120, .inl nw)), (g 46, .inl (cI, 9, .inl (fun j => nI (pt j)))), (g 86, .inl (cJ, 1700, .inr (.inl ql))), (g 20, .inl (cI, 4, .inl (l4 (nI l0) (nI l1) (nI dm) (nI l3)))), (g 38, .inl (cI, 90, .inl ws_)), (g 36, .inl (cZ, 900, .inl yw)), (g 37, .inl (cZ, 900, .inl yo)), (g 43, .inl (cJ, 90, .inr (.inl be))), (g 44, .inl (cJ, 90, .inr (.inl bf))), (g 53, .inl (cI, 32, .inl rw_))]) [11, 0, 1, 2, 13, 3, 4, 12, 5, 6, 7, 8, 9, 10] (by decide +kernel) rfl
    exact sk_iret hx hb hr rfl hlocks hK hP hD hS (⟨tk, qp, am, at_, aa, wy, wt, ql, ws_, yw, yo, be, bf, rfl⟩) (Nat.le_of_ble_eq_true rfl) (Nat.le_of_ble_eq_true rfl) dX12_sure_10
theorem dX12_refuses_0 : decode cX12_refuses 0 = .ok (.aload_n 0, 1) := by decide +kernel
theorem dX12_refuses_1 : decode cX12_refuses 1 = .ok (.getfield 17, 3) := by decide +kernel
theorem dX12_refuses_4 : decode cX12_refuses 4 = .ok (.iload_n 1, 1) := by decide +kernel
theorem dX12_refuses_5 : decode cX12_refuses 5 = .ok (.dup2, 1) := by decide +kernel
theorem dX12_refuses_6 : decode cX12_refuses 6 = .ok (.iaload, 1) := by decide +kernel
theorem dX12_refuses_7 : decode cX12_refuses 7 = .ok (.iconst 1, 1) := by decide +kernel
theorem dX12_refuses_8 : decode cX12_refuses 8 = .ok (.iadd, 1) := by decide +kernel
theorem dX12_refuses_9 : decode cX12_refuses 9 = .ok (.iastore, 1) := by decide +kernel
theorem dX12_refuses_10 : decode cX12_refuses 10 = .ok (.iconst (-1), 1) := by decide +kernel
theorem dX12_refuses_11 : decode cX12_refuses 11 = .ok (.ireturn, 1) := by decide +kernel
theorem w_5_164 : (Cond.fieldLink RX12 17 "SameKeeperModel" "refused" "[I") ∈ wsL_law := sk_mem (ck_5 _ (List.mem_of_getElem? (i := 164) rfl)) rfl
theorem w_8_100 : (Cond.code yX12_refuses cX12_refuses 2 (some .int)) ∈ wsL_law := sk_mem (ck_8 _ (List.mem_of_getElem? (i := 100) rfl)) rfl
set_option maxHeartbeats 4000000 in
set_option maxRecDepth 100000 in
theorem c_m_refuses (l : Launch) (D : va_G) (cI cJ cC cZ cS : ClassId) (mm : Nat) (g : Nat → Nat) (ta : Nat) (pa : Nat) (pe : Nat) (pd : Int32) (pb : Nat) (pp : Int32) (pf : Int32) (pg : Int32) (pn : Int32) (rt : Int32) (rn : Int32) (cd : Nat) (sn : Int32) (il : Nat) (tk : Int32) (am : Int32) (at_ : Int32) (aa : Int32) (wt : Int32) (wy : Int64) (rm : Nat) (ud : Nat) (nu : Nat) (sd : Int64) (qn : Nat) (qw : Nat) (qo : Int32) (qb : Nat) (qp : Nat) (qa : Int64) (qi : Nat) (oc : Nat) (w : Nat) (rf : Nat → Int32) (hw : w < 6) : skM l yX12_refuses cX12_refuses 2 (some .int) 0 0 0 0 D (skT cI cJ cC cZ cS) [.ref mm, .int (nI w)] [(mm, .inr (12, mo g (nI ta) (nI pa) (nI pe) pd (nI pb) pp pf pg pn rt rn (nI cd) sn (nI il) tk am at_ aa 0 0 (-1) wt wy 0 (nI rm) (nI ud) (nI nu) sd (nI qn) (nI qw) qo (nI qb) (nI qp) qa (nI qi) (nI oc))), (g 9, .inl (cI, 6, .inl rf))] (skI D (skT cI cJ cC cZ cS) (fun (r : Int32) (u : va_W) => ∃ (rf2 : Nat → Int32), r = (-1) ∧ u = [(mm, .inr (12, mo g (nI ta) (nI pa) (nI pe) pd (nI pb) pp pf pg pn rt rn (nI cd) sn (nI il) tk am at_ aa 0 0 (-1) wt wy 0 (nI rm) (nI ud) (nI nu) sd (nI qn) (nI qw) qo (nI qb) (nI qp) qa (nI qi) (nI oc))), (g 9, .inl (cI, 6, .inl rf2))])) := by
  refine skM_of (by decide +kernel) (Nat.le_of_ble_eq_true rfl) ?_
  intro p e s m below meth c A ls E hP hD hl
  obtain ⟨hx, hb, hr, hml, hlocks, hin, hown, hts, hK, hA⟩ := E
  have hown : s.vm.findClass RX12 = some m.cls := hown
  have hS : va_S A s.heap s.heap [] := va_S.rf
  have hl : lv_has ls 2 [(0, .ref mm), (1, .int (nI w))] := hl
  refine lv_aload_n hx hb dX12_refuses_0 rfl (lv_at hl 0 rfl) ?_
  refine sk_get (v := .ref (g 9)) (C := RX12) (T := TX12) (N := 92) hx hb hts inlX12 hown hK hP 0 rfl rfl 9 (by decide) w_5_164 rfl dX12_refuses_1 ?_
  refine lv_iload_n hx hb dX12_refuses_4 rfl (lv_at hl 1 rfl) ?_
  refine lv_dup2_11 hx hb dX12_refuses_5 rfl rfl ?_
  refine va_iald hx hb hK.1 hP 1 0 rfl rfl (vin w 6 (by omega) (by omega)) dX12_refuses_6 ?_
  refine lv_topi (fun v_1 ev_1 => ?_)
  refine lv_iconst (v := 1) hx hb dX12_refuses_7 (by decide) ?_
  refine lv_iadd hx hb dX12_refuses_8 ?_
  refine lv_topi (fun v_2 ev_2 => ?_)
  refine sk_iastO (ws' := fun f_3 => [(mm, .inr (12, mo g (nI ta) (nI pa) (nI pe) pd (nI pb) pp pf pg pn rt rn (nI cd) sn (nI il) tk am at_ aa 0 0 (-1) wt wy 0 (nI rm) (nI ud) (nI nu) sd (nI qn) (nI qw) qo (nI qb) (nI qp) qa (nI qi) (nI oc))), (g 9, .inl (cI, 6, .inl f_3))]) hx hb hK hP hD hS 1 0 rfl rfl (vin w 6 (by omega) (by omega)) (fun _ => rfl) dX12_refuses_9 (fun f_3 H locs hP hD hS => ?_)
  refine lv_iconst (v := (-1)) hx hb dX12_refuses_10 (by decide) ?_
  exact sk_iret hx hb hr rfl hlocks hK hP hD hS (⟨f_3, rfl, rfl⟩) (Nat.le_of_ble_eq_true rfl) (Nat.le_of_ble_eq_true rfl) dX12_refuses_11
theorem dX12_hear_0 : decode cX12_hear 0 = .ok (.aload_n 0, 1) := by decide +kernel
theorem dX12_hear_1 : decode cX12_hear 1 = .ok (.getfield 192, 3) := by decide +kernel
theorem dX12_hear_4 : decode cX12_hear 4 = .ok (.istore_n 1, 1) := by decide +kernel
theorem dX12_hear_5 : decode cX12_hear 5 = .ok (.aload_n 0, 1) := by decide +kernel
theorem dX12_hear_6 : decode cX12_hear 6 = .ok (.iconst 0, 1) := by decide +kernel
theorem dX12_hear_7 : decode cX12_hear 7 = .ok (.putfield 192, 3) := by decide +kernel
theorem dX12_hear_40 : decode cX12_hear 40 = .ok (.istore_n 2, 1) := by decide +kernel
theorem dX12_hear_41 : decode cX12_hear 41 = .ok (.iconst 0, 1) := by decide +kernel
theorem dX12_hear_42 : decode cX12_hear 42 = .ok (.istore_n 3, 1) := by decide +kernel
theorem dX12_hear_43 : decode cX12_hear 43 = .ok (.iload_n 3, 1) := by decide +kernel
theorem dX12_hear_44 : decode cX12_hear 44 = .ok (.iload_n 1, 1) := by decide +kernel
theorem dX12_hear_45 : decode cX12_hear 45 = .ok (.if_icmp .ge 32, 3) := by decide +kernel
theorem dX12_hear_77 : decode cX12_hear 77 = .ok (.iload_n 2, 1) := by decide +kernel
theorem dX12_hear_78 : decode cX12_hear 78 = .ok (.ifCond .ne 9, 3) := by decide +kernel
theorem dX12_hear_87 : decode cX12_hear 87 = .ok (.iconst 0, 1) := by decide +kernel
theorem dX12_hear_88 : decode cX12_hear 88 = .ok (.istore_n 3, 1) := by decide +kernel
theorem dX12_hear_89 : decode cX12_hear 89 = .ok (.iload_n 3, 1) := by decide +kernel
theorem dX12_hear_90 : decode cX12_hear 90 = .ok (.iload_n 1, 1) := by decide +kernel
theorem dX12_hear_91 : decode cX12_hear 91 = .ok (.if_icmp .ge 21, 3) := by decide +kernel
theorem dX12_hear_112 : decode cX12_hear 112 = .ok (.aload_n 0, 1) := by decide +kernel
theorem dX12_hear_113 : decode cX12_hear 113 = .ok (.iload_n 1, 1) := by decide +kernel
theorem dX12_hear_114 : decode cX12_hear 114 = .ok (.iconst 2, 1) := by decide +kernel
theorem dX12_hear_115 : decode cX12_hear 115 = .ok (.idiv, 1) := by decide +kernel
theorem dX12_hear_116 : decode cX12_hear 116 = .ok (.putfield 312, 3) := by decide +kernel
theorem dX12_hear_119 : decode cX12_hear 119 = .ok (.aload_n 0, 1) := by decide +kernel
theorem dX12_hear_120 : decode cX12_hear 120 = .ok (.getfield 312, 3) := by decide +kernel
theorem dX12_hear_123 : decode cX12_hear 123 = .ok (.ireturn, 1) := by decide +kernel
theorem dX12_hear_94 : decode cX12_hear 94 = .ok (.aload_n 0, 1) := by decide +kernel
theorem dX12_hear_95 : decode cX12_hear 95 = .ok (.getfield 104, 3) := by decide +kernel
theorem dX12_hear_98 : decode cX12_hear 98 = .ok (.iload_n 3, 1) := by decide +kernel
theorem dX12_hear_99 : decode cX12_hear 99 = .ok (.aload_n 0, 1) := by decide +kernel
theorem dX12_hear_100 : decode cX12_hear 100 = .ok (.getfield 7, 3) := by decide +kernel
theorem dX12_hear_103 : decode cX12_hear 103 = .ok (.iload_n 3, 1) := by decide +kernel
theorem dX12_hear_104 : decode cX12_hear 104 = .ok (.iaload, 1) := by decide +kernel
theorem dX12_hear_105 : decode cX12_hear 105 = .ok (.iastore, 1) := by decide +kernel
theorem dX12_hear_106 : decode cX12_hear 106 = .ok (.iinc 3 1, 3) := by decide +kernel
theorem dX12_hear_109 : decode cX12_hear 109 = .ok (.goto (-20), 3) := by decide +kernel
theorem dX12_hear_81 : decode cX12_hear 81 = .ok (.aload_n 0, 1) := by decide +kernel
theorem dX12_hear_82 : decode cX12_hear 82 = .ok (.iconst 1, 1) := by decide +kernel
theorem dX12_hear_83 : decode cX12_hear 83 = .ok (.invokevirtual 463, 3) := by decide +kernel
theorem dX12_hear_86 : decode cX12_hear 86 = .ok (.ireturn, 1) := by decide +kernel
theorem dX12_hear_48 : decode cX12_hear 48 = .ok (.iload_n 2, 1) := by decide +kernel
theorem dX12_hear_49 : decode cX12_hear 49 = .ok (.ifCond .eq 28, 3) := by decide +kernel
theorem dX12_hear_52 : decode cX12_hear 52 = .ok (.aload_n 0, 1) := by decide +kernel
theorem dX12_hear_53 : decode cX12_hear 53 = .ok (.aload_n 0, 1) := by decide +kernel
theorem dX12_hear_54 : decode cX12_hear 54 = .ok (.getfield 7, 3) := by decide +kernel
theorem dX12_hear_57 : decode cX12_hear 57 = .ok (.iload_n 3, 1) := by decide +kernel
theorem dX12_hear_58 : decode cX12_hear 58 = .ok (.iaload, 1) := by decide +kernel
theorem dX12_hear_59 : decode cX12_hear 59 = .ok (.aload_n 0, 1) := by decide +kernel
theorem dX12_hear_60 : decode cX12_hear 60 = .ok (.getfield 7, 3) := by decide +kernel
theorem dX12_hear_63 : decode cX12_hear 63 = .ok (.iload_n 3, 1) := by decide +kernel
theorem dX12_hear_64 : decode cX12_hear 64 = .ok (.iconst 1, 1) := by decide +kernel
theorem dX12_hear_65 : decode cX12_hear 65 = .ok (.iadd, 1) := by decide +kernel
theorem dX12_hear_66 : decode cX12_hear 66 = .ok (.iaload, 1) := by decide +kernel
theorem dX12_hear_67 : decode cX12_hear 67 = .ok (.invokevirtual 454, 3) := by decide +kernel
theorem dX12_hear_70 : decode cX12_hear 70 = .ok (.istore_n 2, 1) := by decide +kernel
theorem dX12_hear_71 : decode cX12_hear 71 = .ok (.iinc 3 2, 3) := by decide +kernel
theorem dX12_hear_74 : decode cX12_hear 74 = .ok (.goto (-31), 3) := by decide +kernel
theorem dX12_hear_10 : decode cX12_hear 10 = .ok (.aload_n 0, 1) := by decide +kernel
theorem dX12_hear_11 : decode cX12_hear 11 = .ok (.getfield 302, 3) := by decide +kernel
theorem dX12_hear_14 : decode cX12_hear 14 = .ok (.ifCond .eq 25, 3) := by decide +kernel
theorem dX12_hear_39 : decode cX12_hear 39 = .ok (.iconst 0, 1) := by decide +kernel
theorem dX12_hear_17 : decode cX12_hear 17 = .ok (.iload_n 1, 1) := by decide +kernel
theorem dX12_hear_18 : decode cX12_hear 18 = .ok (.ifCond .le 21, 3) := by decide +kernel
theorem dX12_hear_21 : decode cX12_hear 21 = .ok (.iload_n 1, 1) := by decide +kernel
theorem dX12_hear_22 : decode cX12_hear 22 = .ok (.iconst 2, 1) := by decide +kernel
theorem dX12_hear_23 : decode cX12_hear 23 = .ok (.irem, 1) := by decide +kernel
theorem dX12_hear_24 : decode cX12_hear 24 = .ok (.ifCond .ne 15, 3) := by decide +kernel
theorem dX12_hear_27 : decode cX12_hear 27 = .ok (.iload_n 1, 1) := by decide +kernel
theorem dX12_hear_28 : decode cX12_hear 28 = .ok (.iconst 2, 1) := by decide +kernel
theorem dX12_hear_29 : decode cX12_hear 29 = .ok (.idiv, 1) := by decide +kernel
theorem dX12_hear_30 : decode cX12_hear 30 = .ok (.bipush 16, 2) := by decide +kernel
theorem dX12_hear_32 : decode cX12_hear 32 = .ok (.if_icmp .gt 7, 3) := by decide +kernel
theorem dX12_hear_35 : decode cX12_hear 35 = .ok (.iconst 1, 1) := by decide +kernel
theorem dX12_hear_36 : decode cX12_hear 36 = .ok (.goto 4, 3) := by decide +kernel
theorem w_5_156 : (Cond.fieldLink RX12 192 "SameKeeperModel" "taped" "I") ∈ wsL_law := sk_mem (ck_5 _ (List.mem_of_getElem? (i := 156) rfl)) rfl
theorem w_5_155 : (Cond.fieldLink RX12 7 "SameKeeperModel" "tape" "[I") ∈ wsL_law := sk_mem (ck_5 _ (List.mem_of_getElem? (i := 155) rfl)) rfl
theorem w_8_97 : (Cond.methodLink RX12 463 yX12_refuses) ∈ wsL_law := sk_mem (ck_8 _ (List.mem_of_getElem? (i := 97) rfl)) rfl
theorem w_8_99 : (Cond.instanceMethod yX12_refuses) ∈ wsL_law := sk_mem (ck_8 _ (List.mem_of_getElem? (i := 99) rfl)) rfl
theorem w_0_104 : (Cond.selects RX12 yX12_refuses yX12_refuses) ∈ wsL_law := sk_mem (ck_0 _ (List.mem_of_getElem? (i := 104) rfl)) rfl
theorem w_8_96 : (Cond.code yX12_hear cX12_hear 4 (some .int)) ∈ wsL_law := sk_mem (ck_8 _ (List.mem_of_getElem? (i := 96) rfl)) rfl
set_option maxHeartbeats 4000000 in
set_option maxRecDepth 100000 in
theorem c_m_hear (l : Launch) (D : va_G) (cI cJ cC cZ cS : ClassId) (mm : Nat) (g : Nat → Nat) (ta : Nat) (pa : Nat) (pe : Nat) (pd : Int32) (pb : Nat) (pp : Int32) (pf : Int32) (pg : Int32) (pn : Int32) (rt : Int32) (rn : Int32) (cd : Nat) (sn : Int32) (il : Nat) (tk : Int32) (am : Int32) (at_ : Int32) (aa : Int32) (wt : Int32) (wy : Int64) (rm : Nat) (ud : Nat) (nu : Nat) (sd : Int64) (qn : Nat) (qw : Nat) (qo : Int32) (qb : Nat) (qp : Nat) (qa : Int64) (qi : Nat) (oc : Nat) (l0 : Nat) (l1 : Nat) (dm : Nat) (l3 : Nat) (nw : Nat → Int32) (tb : Nat → Nat) (rw_ : Nat → Int32) (rf : Nat → Int32) (hil : il ≤ 1) (hild : il = 1 → 1 ≤ dm) (hdm : dm ≤ 9) (hta : ta ≤ 1600) (hrm : rm ≤ 16) (hnw : nowOk nw) (htb : ∀ j, tb j ≤ 255) : skM l yX12_hear cX12_hear 4 (some .int) 3 68 0 0 D (skT cI cJ cC cZ cS) [.ref mm] [(mm, .inr (12, mo g (nI ta) (nI pa) (nI pe) pd (nI pb) pp pf pg pn rt rn (nI cd) sn (nI il) tk am at_ aa 0 0 (-1) wt wy 0 (nI rm) (nI ud) (nI nu) sd (nI qn) (nI qw) qo (nI qb) (nI qp) qa (nI qi) (nI oc))), (g 20, .inl (cI, 4, .inl (l4 (nI l0) (nI l1) (nI dm) (nI l3)))), (g 31, .inl (cI, 120, .inl nw)), (g 0, .inl (cI, 1600, .inl (fun j => nI (tb j)))), (g 53, .inl (cI, 32, .inl rw_)), (g 9, .inl (cI, 6, .inl rf))] (skI D (skT cI cJ cC cZ cS) (fun (r : Int32) (u : va_W) => ∃ (rm2 : Nat), ∃ (rw_2 : Nat → Int32), ∃ (rf2 : Nat → Int32), rm2 ≤ 16 ∧ u = [(mm, .inr (12, mo g 0 (nI pa) (nI pe) pd (nI pb) pp pf pg pn rt rn (nI cd) sn (nI il) tk am at_ aa 0 0 (-1) wt wy 0 (nI rm2) (nI ud) (nI nu) sd (nI qn) (nI qw) qo (nI qb) (nI qp) qa (nI qi) (nI oc))), (g 20, .inl (cI, 4, .inl (l4 (nI l0) (nI l1) (nI dm) (nI l3)))), (g 31, .inl (cI, 120, .inl nw)), (g 0, .inl (cI, 1600, .inl (fun j => nI (tb j)))), (g 53, .inl (cI, 32, .inl rw_2)), (g 9, .inl (cI, 6, .inl rf2))])) := by
  refine skM_of (by decide +kernel) (Nat.le_of_ble_eq_true rfl) ?_
  intro p e s m below meth c A ls E hP hD hl
  obtain ⟨hx, hb, hr, hml, hlocks, hin, hown, hts, hK, hA⟩ := E
  have hown : s.vm.findClass RX12 = some m.cls := hown
  have hS : va_S A s.heap s.heap [] := va_S.rf
  have hl : lv_has ls 4 [(0, .ref mm)] := hl
  refine lv_aload_n hx hb dX12_hear_0 rfl (lv_at hl 0 rfl) ?_
  refine sk_get (v := .int (nI ta)) (C := RX12) (T := TX12) (N := 92) hx hb hts inlX12 hown hK hP 0 rfl rfl 1 (by decide) w_5_156 rfl dX12_hear_1 ?_
  refine lv_istore_n (lv' := [(1, .int (nI ta)), (0, .ref mm)]) hx hb dX12_hear_4 rfl hl (by decide) rfl (fun ls hl => ?_)
  refine lv_aload_n hx hb dX12_hear_5 rfl (lv_at hl 1 rfl) ?_
  refine lv_iconst (v := 0) hx hb dX12_hear_6 (by decide) ?_
  refine sk_put (ws' := [(mm, .inr (12, mo g 0 (nI pa) (nI pe) pd (nI pb) pp pf pg pn rt rn (nI cd) sn (nI il) tk am at_ aa 0 0 (-1) wt wy 0 (nI rm) (nI ud) (nI nu) sd (nI qn) (nI qw) qo (nI qb) (nI qp) qa (nI qi) (nI oc))), (g 20, .inl (cI, 4, .inl (l4 (nI l0) (nI l1) (nI dm) (nI l3)))), (g 31, .inl (cI, 120, .inl nw)), (g 0, .inl (cI, 1600, .inl (fun j => nI (tb j)))), (g 53, .inl (cI, 32, .inl rw_)), (g 9, .inl (cI, 6, .inl rf))]) (C := RX12) (T := TX12) (N := 92) (v := .int 0) hx hb hts inlX12 tyX12 tyX12_ok nmX12 hown hK hP hD hS 0 rfl rfl 1 (by decide) w_5_156 rfl rfl rfl (Nat.le_of_ble_eq_true rfl) rfl dX12_hear_7 (fun H locs hP hD hS => ?_)
  have jn_1 : ∀ (bq : Nat) (H : Heap) (locs : List Loc) (ls : Array Slot), (bq = 0 ∨ (bq = 1 ∧ ta ≤ 32)) → va_P D vwCl [(mm, .inr (12, mo g 0 (nI pa) (nI pe) pd (nI pb) pp pf pg pn rt rn (nI cd) sn (nI il) tk am at_ aa 0 0 (-1) wt wy 0 (nI rm) (nI ud) (nI nu) sd (nI qn) (nI qw) qo (nI qb) (nI qp) qa (nI qi) (nI oc))), (g 20, .inl (cI, 4, .inl (l4 (nI l0) (nI l1) (nI dm) (nI l3)))), (g 31, .inl (cI, 120, .inl nw)), (g 0, .inl (cI, 1600, .inl (fun j => nI (tb j)))), (g 53, .inl (cI, 32, .inl rw_)), (g 9, .inl (cI, 6, .inl rf))] H → va_D A [(mm, .inr (12, mo g 0 (nI pa) (nI pe) pd (nI pb) pp pf pg pn rt rn (nI cd) sn (nI il) tk am at_ aa 0 0 (-1) wt wy 0 (nI rm) (nI ud) (nI nu) sd (nI qn) (nI qw) qo (nI qb) (nI qp) qa (nI qi) (nI oc))), (g 20, .inl (cI, 4, .inl (l4 (nI l0) (nI l1) (nI dm) (nI l3)))), (g 31, .inl (cI, 120, .inl nw)), (g 0, .inl (cI, 1600, .inl (fun j => nI (tb j)))), (g 53, .inl (cI, 32, .inl rw_)), (g 9, .inl (cI, 6, .inl rf))] → va_S A s.heap H locs → lv_has ls 4 [(1, .int (nI ta)), (0, .ref mm)] → W p l e { frames := 3, cells := 0, slots := 0, locals := 68 } s m ([.ref mm] : List Value).toArray below meth c H locs 0 0 (MQ below (skI D (skT cI cJ cC cZ cS) (fun (r : Int32) (u : va_W) => ∃ (rm2 : Nat), ∃ (rw_2 : Nat → Int32), ∃ (rf2 : Nat → Int32), rm2 ≤ 16 ∧ u = [(mm, .inr (12, mo g 0 (nI pa) (nI pe) pd (nI pb) pp pf pg pn rt rn (nI cd) sn (nI il) tk am at_ aa 0 0 (-1) wt wy 0 (nI rm2) (nI ud) (nI nu) sd (nI qn) (nI qw) qo (nI qb) (nI qp) qa (nI qi) (nI oc))), (g 20, .inl (cI, 4, .inl (l4 (nI l0) (nI l1) (nI dm) (nI l3)))), (g 31, .inl (cI, 120, .inl nw)), (g 0, .inl (cI, 1600, .inl (fun j => nI (tb j)))), (g 53, .inl (cI, 32, .inl rw_2)), (g 9, .inl (cI, 6, .inl rf2))]) A) ([.ref mm] : List Value).toArray s 0 0 A) (F0 m 40 ls [.int (nI bq)]) := by
    intro bq H locs ls hbq hP hD hS hl
    refine lv_istore_n (lv' := [(2, .int (nI bq)), (1, .int (nI ta)), (0, .ref mm)]) hx hb dX12_hear_40 rfl hl (by decide) rfl (fun ls hl => ?_)
    refine lv_iconst (v := 0) hx hb dX12_hear_41 (by decide) ?_
    refine lv_istore_n (lv' := [(3, .int 0), (2, .int (nI bq)), (1, .int (nI ta)), (0, .ref mm)]) hx hb dX12_hear_42 rfl hl (by decide) rfl (fun ls hl => ?_)
    have lp_2 : ∀ (n_3 : Nat) (i : Nat) (gb : Nat) (H : Heap) (locs : List Loc) (ls : Array Slot), ta + 2 - i < n_3 → (i ≤ ta + 1) → (gb = 0 ∨ (gb = 1 ∧ ta ≤ 32)) → va_P D vwCl [(mm, .inr (12, mo g 0 (nI pa) (nI pe) pd (nI pb) pp pf pg pn rt rn (nI cd) sn (nI il) tk am at_ aa 0 0 (-1) wt wy 0 (nI rm) (nI ud) (nI nu) sd (nI qn) (nI qw) qo (nI qb) (nI qp) qa (nI qi) (nI oc))), (g 20, .inl (cI, 4, .inl (l4 (nI l0) (nI l1) (nI dm) (nI l3)))), (g 31, .inl (cI, 120, .inl nw)), (g 0, .inl (cI, 1600, .inl (fun j => nI (tb j)))), (g 53, .inl (cI, 32, .inl rw_)), (g 9, .inl (cI, 6, .inl rf))] H → va_D A [(mm, .inr (12, mo g 0 (nI pa) (nI pe) pd (nI pb) pp pf pg pn rt rn (nI cd) sn (nI il) tk am at_ aa 0 0 (-1) wt wy 0 (nI rm) (nI ud) (nI nu) sd (nI qn) (nI qw) qo (nI qb) (nI qp) qa (nI qi) (nI oc))), (g 20, .inl (cI, 4, .inl (l4 (nI l0) (nI l1) (nI dm) (nI l3)))), (g 31, .inl (cI, 120, .inl nw)), (g 0, .inl (cI, 1600, .inl (fun j => nI (tb j)))), (g 53, .inl (cI, 32, .inl rw_)), (g 9, .inl (cI, 6, .inl rf))] → va_S A s.heap H locs → lv_has ls 4 [(3, .int (nI i)), (2, .int (nI gb)), (1, .int (nI ta)), (0, .ref mm)] → W p l e { frames := 3, cells := 0, slots := 0, locals := 68 } s m ([.ref mm] : List Value).toArray below meth c H locs 0 0 (MQ below (skI D (skT cI cJ cC cZ cS) (fun (r : Int32) (u : va_W) => ∃ (rm2 : Nat), ∃ (rw_2 : Nat → Int32), ∃ (rf2 : Nat → Int32), rm2 ≤ 16 ∧ u = [(mm, .inr (12, mo g 0 (nI pa) (nI pe) pd (nI pb) pp pf pg pn rt rn (nI cd) sn (nI il) tk am at_ aa 0 0 (-1) wt wy 0 (nI rm2) (nI ud) (nI nu) sd (nI qn) (nI qw) qo (nI qb) (nI qp) qa (nI qi) (nI oc))), (g 20, .inl (cI, 4, .inl (l4 (nI l0) (nI l1) (nI dm) (nI l3)))), (g 31, .inl (cI, 120, .inl nw)), (g 0, .inl (cI, 1600, .inl (fun j => nI (tb j)))), (g 53, .inl (cI, 32, .inl rw_2)), (g 9, .inl (cI, 6, .inl rf2))]) A) ([.ref mm] : List Value).toArray s 0 0 A) (F0 m 43 ls []) := by
      intro n_3
      induction n_3 with
      | zero => intro i gb H locs ls hm; exact absurd hm (Nat.not_lt_zero _)
      | succ n_3 ih_lp_2 =>
        intro i gb H locs ls hm hi hgb hP hD hS hl
        refine lv_iload_n hx hb dX12_hear_43 rfl (lv_at hl 0 rfl) ?_
        refine lv_iload_n hx hb dX12_hear_44 rfl (lv_at hl 2 rfl) ?_
        refine lv_icmp_ge (tgt := 77) hx hb dX12_hear_45 (by decide) (fun c_4 => ?_) (fun c_4 => ?_)
        · have c_4 : ta ≤ i := (nle ta i (by omega) (by omega)).mp c_4
          refine lv_iload_n hx hb dX12_hear_77 rfl (lv_at hl 1 rfl) ?_
          refine lv_if_ne (tgt := 87) hx hb dX12_hear_78 (by decide) (fun c_5 => ?_) (fun c_5 => ?_)
          · have c_5 : ¬ (gb = 0) := fun h => c_5 ((neq gb 0 (by omega) (by omega)).mpr h)
            refine lv_iconst (v := 0) hx hb dX12_hear_87 (by decide) ?_
            refine lv_istore_n (lv' := [(3, .int 0), (2, .int (nI gb)), (1, .int (nI ta)), (0, .ref mm)]) hx hb dX12_hear_88 rfl hl (by decide) rfl (fun ls hl => ?_)
            have lp_6 : ∀ (n_7 : Nat) (i : Nat) (zr : Nat → Int32) (H : Heap) (locs : List Loc) (ls : Array Slot), ta - i < n_7 → (i ≤ ta) → va_P D vwCl [(mm, .inr (12, mo g 0 (nI pa) (nI pe) pd (nI pb) pp pf pg pn rt rn (nI cd) sn (nI il) tk am at_ aa 0 0 (-1) wt wy 0 (nI rm) (nI ud) (nI nu) sd (nI qn) (nI qw) qo (nI qb) (nI qp) qa (nI qi) (nI oc))), (g 20, .inl (cI, 4, .inl (l4 (nI l0) (nI l1) (nI dm) (nI l3)))), (g 31, .inl (cI, 120, .inl nw)), (g 0, .inl (cI, 1600, .inl (fun j => nI (tb j)))), (g 53, .inl (cI, 32, .inl zr)), (g 9, .inl (cI, 6, .inl rf))] H → va_D A [(mm, .inr (12, mo g 0 (nI pa) (nI pe) pd (nI pb) pp pf pg pn rt rn (nI cd) sn (nI il) tk am at_ aa 0 0 (-1) wt wy 0 (nI rm) (nI ud) (nI nu) sd (nI qn) (nI qw) qo (nI qb) (nI qp) qa (nI qi) (nI oc))), (g 20, .inl (cI, 4, .inl (l4 (nI l0) (nI l1) (nI dm) (nI l3)))), (g 31, .inl (cI, 120, .inl nw)), (g 0, .inl (cI, 1600, .inl (fun j => nI (tb j)))), (g 53, .inl (cI, 32, .inl zr)), (g 9, .inl (cI, 6, .inl rf))] → va_S A s.heap H locs → lv_has ls 4 [(3, .int (nI i)), (2, .int (nI gb)), (1, .int (nI ta)), (0, .ref mm)] → W p l e { frames := 3, cells := 0, slots := 0, locals := 68 } s m ([.ref mm] : List Value).toArray below meth c H locs 0 0 (MQ below (skI D (skT cI cJ cC cZ cS) (fun (r : Int32) (u : va_W) => ∃ (rm2 : Nat), ∃ (rw_2 : Nat → Int32), ∃ (rf2 : Nat → Int32), rm2 ≤ 16 ∧ u = [(mm, .inr (12, mo g 0 (nI pa) (nI pe) pd (nI pb) pp pf pg pn rt rn (nI cd) sn (nI il) tk am at_ aa 0 0 (-1) wt wy 0 (nI rm2) (nI ud) (nI nu) sd (nI qn) (nI qw) qo (nI qb) (nI qp) qa (nI qi) (nI oc))), (g 20, .inl (cI, 4, .inl (l4 (nI l0) (nI l1) (nI dm) (nI l3)))), (g 31, .inl (cI, 120, .inl nw)), (g 0, .inl (cI, 1600, .inl (fun j => nI (tb j)))), (g 53, .inl (cI, 32, .inl rw_2)), (g 9, .inl (cI, 6, .inl rf2))]) A) ([.ref mm] : List Value).toArray s 0 0 A) (F0 m 89 ls []) := by
              intro n_7
              induction n_7 with
              | zero => intro i zr H locs ls hm; exact absurd hm (Nat.not_lt_zero _)
              | succ n_7 ih_lp_6 =>
                intro i zr H locs ls hm hi hP hD hS hl
                refine lv_iload_n hx hb dX12_hear_89 rfl (lv_at hl 0 rfl) ?_
                refine lv_iload_n hx hb dX12_hear_90 rfl (lv_at hl 2 rfl) ?_
                refine lv_icmp_ge (tgt := 112) hx hb dX12_hear_91 (by decide) (fun c_8 => ?_) (fun c_8 => ?_)
                · have c_8 : ta ≤ i := (nle ta i (by omega) (by omega)).mp c_8
                  refine lv_aload_n hx hb dX12_hear_112 rfl (lv_at hl 3 rfl) ?_
                  refine lv_iload_n hx hb dX12_hear_113 rfl (lv_at hl 2 rfl) ?_
                  refine lv_iconst (v := 2) hx hb dX12_hear_114 (by decide) ?_
                  refine lv_idiv hx hb dX12_hear_115 (by decide) ?_
                  refine sk_top (nI (ta / 2)) (ndiv ta 2 (by omega) (by omega) (by omega)) ?_
                  refine sk_put (ws' := [(mm, .inr (12, mo g 0 (nI pa) (nI pe) pd (nI pb) pp pf pg pn rt rn (nI cd) sn (nI il) tk am at_ aa 0 0 (-1) wt wy 0 (nI (ta / 2)) (nI ud) (nI nu) sd (nI qn) (nI qw) qo (nI qb) (nI qp) qa (nI qi) (nI oc))), (g 20, .inl (cI, 4, .inl (l4 (nI l0) (nI l1) (nI dm) (nI l3)))), (g 31, .inl (cI, 120, .inl nw)), (g 0, .inl (cI, 1600, .inl (fun j => nI (tb j)))), (g 53, .inl (cI, 32, .inl zr)), (g 9, .inl (cI, 6, .inl rf))]) (C := RX12) (T := TX12) (N := 92) (v := .int (nI (ta / 2))) hx hb hts inlX12 tyX12 tyX12_ok nmX12 hown hK hP hD hS 0 rfl rfl 52 (by decide) w_5_207 rfl rfl rfl (Nat.le_of_ble_eq_true rfl) rfl dX12_hear_116 (fun H locs hP hD hS => ?_)
                  refine lv_aload_n hx hb dX12_hear_119 rfl (lv_at hl 3 rfl) ?_
                  refine sk_get (v := .int (nI (ta / 2))) (C := RX12) (T := TX12) (N := 92) hx hb hts inlX12 hown hK hP 0 rfl rfl 52 (by decide) w_5_207 rfl dX12_hear_120 ?_
                  exact sk_iret hx hb hr rfl hlocks hK hP hD hS (⟨ta / 2, zr, rf, by omega, rfl⟩) (Nat.le_of_ble_eq_true rfl) (Nat.le_of_ble_eq_true rfl) dX12_hear_123
                · have c_8 : ¬ (ta ≤ i) := fun h => c_8 ((nle ta i (by omega) (by omega)).mpr h)
                  refine lv_aload_n hx hb dX12_hear_94 rfl (lv_at hl 3 rfl) ?_
                  refine sk_get (v := .ref (g 53)) (C := RX12) (T := TX12) (N := 92) hx hb hts inlX12 hown hK hP 0 rfl rfl 53 (by decide) w_5_208 rfl dX12_hear_95 ?_
                  refine lv_iload_n hx hb dX12_hear_98 rfl (lv_at hl 0 rfl) ?_
                  refine lv_aload_n hx hb dX12_hear_99 rfl (lv_at hl 3 rfl) ?_
                  refine sk_get (v := .ref (g 0)) (C := RX12) (T := TX12) (N := 92) hx hb hts inlX12 hown hK hP 0 rfl rfl 0 (by decide) w_5_155 rfl dX12_hear_100 ?_
                  refine lv_iload_n hx hb dX12_hear_103 rfl (lv_at hl 0 rfl) ?_
                  refine va_iald hx hb hK.1 hP 3 0 rfl rfl (vin i 1600 (by omega) (by omega)) dX12_hear_104 ?_
                  refine sk_top (nI (tb i)) (nrd tb i (by omega)) ?_
                  have hb_9 := htb i
                  refine sk_iastO (ws' := fun f_10 => [(mm, .inr (12, mo g 0 (nI pa) (nI pe) pd (nI pb) pp pf pg pn rt rn (nI cd) sn (nI il) tk am at_ aa 0 0 (-1) wt wy 0 (nI rm) (nI ud) (nI nu) sd (nI qn) (nI qw) qo (nI qb) (nI qp) qa (nI qi) (nI oc))), (g 20, .inl (cI, 4, .inl (l4 (nI l0) (nI l1) (nI dm) (nI l3)))), (g 31, .inl (cI, 120, .inl nw)), (g 0, .inl (cI, 1600, .inl (fun j => nI (tb j)))), (g 53, .inl (cI, 32, .inl f_10)), (g 9, .inl (cI, 6, .inl rf))]) hx hb hK hP hD hS 4 0 rfl rfl (vin i 32 (by omega) (by omega)) (fun _ => rfl) dX12_hear_105 (fun f_10 H locs hP hD hS => ?_)
                  refine lv_iinc (v := nI (i + 1)) (lv' := [(3, .int (nI (i + 1))), (2, .int (nI gb)), (1, .int (nI ta)), (0, .ref mm)]) hx hb dX12_hear_106 hl (k := 0) rfl (ninc i 1 (by decide)) (by decide) rfl (fun ls hl => ?_)
                  refine lv_goto (tgt := 89) hx hb dX12_hear_109 (by decide) ?_
                  exact ih_lp_6 (i + 1) f_10 _ _ _ (by omega) (by omega) hP hD hS (lv_sub hl [0, 1, 2, 3] rfl)
            exact lp_6 (ta - 0 + 1) 0 rw_ _ _ _ (Nat.lt_succ_self _) (by omega) hP hD hS (lv_sub hl [0, 1, 2, 3] rfl)
          · have c_5 : gb = 0 := (neq gb 0 (by omega) (by omega)).mp c_5
            refine lv_aload_n hx hb dX12_hear_81 rfl (lv_at hl 3 rfl) ?_
            refine lv_iconst (v := 1) hx hb dX12_hear_82 (by decide) ?_
            refine sk_Vi (q0 := 0) (n := 1) (rest := []) (wr := [(g 20, .inl (cI, 4, .inl (l4 (nI l0) (nI l1) (nI dm) (nI l3)))), (g 31, .inl (cI, 120, .inl nw)), (g 0, .inl (cI, 1600, .inl (fun j => nI (tb j)))), (g 53, .inl (cI, 32, .inl rw_))]) ⟨hx, hb, hml, hown, hts⟩ hl.1 (c_m_refuses l D cI cJ cC cZ cS mm g 0 pa pe pd pb pp pf pg pn rt rn cd sn il tk am at_ aa wt wy rm ud nu sd qn qw qo qb qp qa qi oc 1 rf (by omega)) w_8_97 w_8_99 w_0_104 w_1_14 w_8_100 (by decide +kernel) ⟨⟨(Nat.le_of_ble_eq_true rfl), (Nat.le_of_ble_eq_true rfl)⟩, (Nat.le_of_ble_eq_true rfl), (Nat.le_of_ble_eq_true rfl)⟩ hK hP hD hS hA [0, 5] [1, 2, 3, 4] rfl rfl (by decide +kernel) (by decide +kernel) (by decide +kernel) rfl rfl rfl rfl (Nat.le_of_ble_eq_true rfl) dX12_hear_83 (fun r_12 u H locs hw hP hD hS => ?_)
            obtain ⟨rf2_11, rfl, rfl⟩ := hw
            have hP : va_P D vwCl [(g 20, .inl (cI, 4, .inl (l4 (nI l0) (nI l1) (nI dm) (nI l3)))), (g 31, .inl (cI, 120, .inl nw)), (g 0, .inl (cI, 1600, .inl (fun j => nI (tb j)))), (g 53, .inl (cI, 32, .inl rw_)), (mm, .inr (12, mo g 0 (nI pa) (nI pe) pd (nI pb) pp pf pg pn rt rn (nI cd) sn (nI il) tk am at_ aa 0 0 (-1) wt wy 0 (nI rm) (nI ud) (nI nu) sd (nI qn) (nI qw) qo (nI qb) (nI qp) qa (nI qi) (nI oc))), (g 9, .inl (cI, 6, .inl rf2_11))] H := hP
            have hD : va_D A [(g 20, .inl (cI, 4, .inl (l4 (nI l0) (nI l1) (nI dm) (nI l3)))), (g 31, .inl (cI, 120, .inl nw)), (g 0, .inl (cI, 1600, .inl (fun j => nI (tb j)))), (g 53, .inl (cI, 32, .inl rw_)), (mm, .inr (12, mo g 0 (nI pa) (nI pe) pd (nI pb) pp pf pg pn rt rn (nI cd) sn (nI il) tk am at_ aa 0 0 (-1) wt wy 0 (nI rm) (nI ud) (nI nu) sd (nI qn) (nI qw) qo (nI qb) (nI qp) qa (nI qi) (nI oc))), (g 9, .inl (cI, 6, .inl rf2_11))] := hD
            have hP := hP.sub (ws' := [(mm, .inr (12, mo g 0 (nI pa) (nI pe) pd (nI pb) pp pf pg pn rt rn (nI cd) sn (nI il) tk am at_ aa 0 0 (-1) wt wy 0 (nI rm) (nI ud) (nI nu) sd (nI qn) (nI qw) qo (nI qb) (nI qp) qa (nI qi) (nI oc))), (g 20, .inl (cI, 4, .inl (l4 (nI l0) (nI l1) (nI dm) (nI l3)))), (g 31, .inl (cI, 120, .inl nw)), (g 0, .inl (cI, 1600, .inl (fun j => nI (tb j)))), (g 53, .inl (cI, 32, .inl rw_)), (g 9, .inl (cI, 6, .inl rf2_11))]) [4, 0, 1, 2, 3, 5] rfl
            have hD := hD.sub (ws' := [(mm, .inr (12, mo g 0 (nI pa) (nI pe) pd (nI pb) pp pf pg pn rt rn (nI cd) sn (nI il) tk am at_ aa 0 0 (-1) wt wy 0 (nI rm) (nI ud) (nI nu) sd (nI qn) (nI qw) qo (nI qb) (nI qp) qa (nI qi) (nI oc))), (g 20, .inl (cI, 4, .inl (l4 (nI l0) (nI l1) (nI dm) (nI l3)))), (g 31, .inl (cI, 120, .inl nw)), (g 0, .inl (cI, 1600, .inl (fun j => nI (tb j)))), (g 53, .inl (cI, 32, .inl rw_)), (g 9, .inl (cI, 6, .inl rf2_11))]) [4, 0, 1, 2, 3, 5] (by decide +kernel) rfl
            exact sk_iret hx hb hr rfl hlocks hK hP hD hS (⟨rm, rw_, rf2_11, by omega, rfl⟩) (Nat.le_of_ble_eq_true rfl) (Nat.le_of_ble_eq_true rfl) dX12_hear_86
        · have c_4 : ¬ (ta ≤ i) := fun h => c_4 ((nle ta i (by omega) (by omega)).mpr h)
          refine lv_iload_n hx hb dX12_hear_48 rfl (lv_at hl 1 rfl) ?_
          refine lv_if_eq (tgt := 77) hx hb dX12_hear_49 (by decide) (fun c_13 => ?_) (fun c_13 => ?_)
          · have c_13 : gb = 0 := (neq gb 0 (by omega) (by omega)).mp c_13
            refine lv_iload_n hx hb dX12_hear_77 rfl (lv_at hl 1 rfl) ?_
            refine lv_if_ne (tgt := 87) hx hb dX12_hear_78 (by decide) (fun c_14 => ?_) (fun c_14 => ?_)
            · have c_14 : ¬ (gb = 0) := fun h => c_14 ((neq gb 0 (by omega) (by omega)).mpr h)
              refine lv_iconst (v := 0) hx hb dX12_hear_87 (by decide) ?_
              refine lv_istore_n (lv' := [(3, .int 0), (2, .int (nI gb)), (1, .int (nI ta)), (0, .ref mm)]) hx hb dX12_hear_88 rfl hl (by decide) rfl (fun ls hl => ?_)
              have lp_15 : ∀ (n_16 : Nat) (i : Nat) (zr : Nat → Int32) (H : Heap) (locs : List Loc) (ls : Array Slot), ta - i < n_16 → (i ≤ ta) → va_P D vwCl [(mm, .inr (12, mo g 0 (nI pa) (nI pe) pd (nI pb) pp pf pg pn rt rn (nI cd) sn (nI il) tk am at_ aa 0 0 (-1) wt wy 0 (nI rm) (nI ud) (nI nu) sd (nI qn) (nI qw) qo (nI qb) (nI qp) qa (nI qi) (nI oc))), (g 20, .inl (cI, 4, .inl (l4 (nI l0) (nI l1) (nI dm) (nI l3)))), (g 31, .inl (cI, 120, .inl nw)), (g 0, .inl (cI, 1600, .inl (fun j => nI (tb j)))), (g 53, .inl (cI, 32, .inl zr)), (g 9, .inl (cI, 6, .inl rf))] H → va_D A [(mm, .inr (12, mo g 0 (nI pa) (nI pe) pd (nI pb) pp pf pg pn rt rn (nI cd) sn (nI il) tk am at_ aa 0 0 (-1) wt wy 0 (nI rm) (nI ud) (nI nu) sd (nI qn) (nI qw) qo (nI qb) (nI qp) qa (nI qi) (nI oc))), (g 20, .inl (cI, 4, .inl (l4 (nI l0) (nI l1) (nI dm) (nI l3)))), (g 31, .inl (cI, 120, .inl nw)), (g 0, .inl (cI, 1600, .inl (fun j => nI (tb j)))), (g 53, .inl (cI, 32, .inl zr)), (g 9, .inl (cI, 6, .inl rf))] → va_S A s.heap H locs → lv_has ls 4 [(3, .int (nI i)), (2, .int (nI gb)), (1, .int (nI ta)), (0, .ref mm)] → W p l e { frames := 3, cells := 0, slots := 0, locals := 68 } s m ([.ref mm] : List Value).toArray below meth c H locs 0 0 (MQ below (skI D (skT cI cJ cC cZ cS) (fun (r : Int32) (u : va_W) => ∃ (rm2 : Nat), ∃ (rw_2 : Nat → Int32), ∃ (rf2 : Nat → Int32), rm2 ≤ 16 ∧ u = [(mm, .inr (12, mo g 0 (nI pa) (nI pe) pd (nI pb) pp pf pg pn rt rn (nI cd) sn (nI il) tk am at_ aa 0 0 (-1) wt wy 0 (nI rm2) (nI ud) (nI nu) sd (nI qn) (nI qw) qo (nI qb) (nI qp) qa (nI qi) (nI oc))), (g 20, .inl (cI, 4, .inl (l4 (nI l0) (nI l1) (nI dm) (nI l3)))), (g 31, .inl (cI, 120, .inl nw)), (g 0, .inl (cI, 1600, .inl (fun j => nI (tb j)))), (g 53, .inl (cI, 32, .inl rw_2)), (g 9, .inl (cI, 6, .inl rf2))]) A) ([.ref mm] : List Value).toArray s 0 0 A) (F0 m 89 ls []) := by
                intro n_16
                induction n_16 with
                | zero => intro i zr H locs ls hm; exact absurd hm (Nat.not_lt_zero _)
                | succ n_16 ih_lp_15 =>
                  intro i zr H locs ls hm hi hP hD hS hl
                  refine lv_iload_n hx hb dX12_hear_89 rfl (lv_at hl 0 rfl) ?_
                  refine lv_iload_n hx hb dX12_hear_90 rfl (lv_at hl 2 rfl) ?_
                  refine lv_icmp_ge (tgt := 112) hx hb dX12_hear_91 (by decide) (fun c_17 => ?_) (fun c_17 => ?_)
                  · have c_17 : ta ≤ i := (nle ta i (by omega) (by omega)).mp c_17
                    refine lv_aload_n hx hb dX12_hear_112 rfl (lv_at hl 3 rfl) ?_
                    refine lv_iload_n hx hb dX12_hear_113 rfl (lv_at hl 2 rfl) ?_
                    refine lv_iconst (v := 2) hx hb dX12_hear_114 (by decide) ?_
                    refine lv_idiv hx hb dX12_hear_115 (by decide) ?_
                    refine sk_top (nI (ta / 2)) (ndiv ta 2 (by omega) (by omega) (by omega)) ?_
                    refine sk_put (ws' := [(mm, .inr (12, mo g 0 (nI pa) (nI pe) pd (nI pb) pp pf pg pn rt rn (nI cd) sn (nI il) tk am at_ aa 0 0 (-1) wt wy 0 (nI (ta / 2)) (nI ud) (nI nu) sd (nI qn) (nI qw) qo (nI qb) (nI qp) qa (nI qi) (nI oc))), (g 20, .inl (cI, 4, .inl (l4 (nI l0) (nI l1) (nI dm) (nI l3)))), (g 31, .inl (cI, 120, .inl nw)), (g 0, .inl (cI, 1600, .inl (fun j => nI (tb j)))), (g 53, .inl (cI, 32, .inl zr)), (g 9, .inl (cI, 6, .inl rf))]) (C := RX12) (T := TX12) (N := 92) (v := .int (nI (ta / 2))) hx hb hts inlX12 tyX12 tyX12_ok nmX12 hown hK hP hD hS 0 rfl rfl 52 (by decide) w_5_207 rfl rfl rfl (Nat.le_of_ble_eq_true rfl) rfl dX12_hear_116 (fun H locs hP hD hS => ?_)
                    refine lv_aload_n hx hb dX12_hear_119 rfl (lv_at hl 3 rfl) ?_
                    refine sk_get (v := .int (nI (ta / 2))) (C := RX12) (T := TX12) (N := 92) hx hb hts inlX12 hown hK hP 0 rfl rfl 52 (by decide) w_5_207 rfl dX12_hear_120 ?_
                    exact sk_iret hx hb hr rfl hlocks hK hP hD hS (⟨ta / 2, zr, rf, by omega, rfl⟩) (Nat.le_of_ble_eq_true rfl) (Nat.le_of_ble_eq_true rfl) dX12_hear_123
                  · have c_17 : ¬ (ta ≤ i) := fun h => c_17 ((nle ta i (by omega) (by omega)).mpr h)
                    refine lv_aload_n hx hb dX12_hear_94 rfl (lv_at hl 3 rfl) ?_
                    refine sk_get (v := .ref (g 53)) (C := RX12) (T := TX12) (N := 92) hx hb hts inlX12 hown hK hP 0 rfl rfl 53 (by decide) w_5_208 rfl dX12_hear_95 ?_
                    refine lv_iload_n hx hb dX12_hear_98 rfl (lv_at hl 0 rfl) ?_
                    refine lv_aload_n hx hb dX12_hear_99 rfl (lv_at hl 3 rfl) ?_
                    refine sk_get (v := .ref (g 0)) (C := RX12) (T := TX12) (N := 92) hx hb hts inlX12 hown hK hP 0 rfl rfl 0 (by decide) w_5_155 rfl dX12_hear_100 ?_
                    refine lv_iload_n hx hb dX12_hear_103 rfl (lv_at hl 0 rfl) ?_
                    refine va_iald hx hb hK.1 hP 3 0 rfl rfl (vin i 1600 (by omega) (by omega)) dX12_hear_104 ?_
                    refine sk_top (nI (tb i)) (nrd tb i (by omega)) ?_
                    have hb_18 := htb i
                    refine sk_iastO (ws' := fun f_19 => [(mm, .inr (12, mo g 0 (nI pa) (nI pe) pd (nI pb) pp pf pg pn rt rn (nI cd) sn (nI il) tk am at_ aa 0 0 (-1) wt wy 0 (nI rm) (nI ud) (nI nu) sd (nI qn) (nI qw) qo (nI qb) (nI qp) qa (nI qi) (nI oc))), (g 20, .inl (cI, 4, .inl (l4 (nI l0) (nI l1) (nI dm) (nI l3)))), (g 31, .inl (cI, 120, .inl nw)), (g 0, .inl (cI, 1600, .inl (fun j => nI (tb j)))), (g 53, .inl (cI, 32, .inl f_19)), (g 9, .inl (cI, 6, .inl rf))]) hx hb hK hP hD hS 4 0 rfl rfl (vin i 32 (by omega) (by omega)) (fun _ => rfl) dX12_hear_105 (fun f_19 H locs hP hD hS => ?_)
                    refine lv_iinc (v := nI (i + 1)) (lv' := [(3, .int (nI (i + 1))), (2, .int (nI gb)), (1, .int (nI ta)), (0, .ref mm)]) hx hb dX12_hear_106 hl (k := 0) rfl (ninc i 1 (by decide)) (by decide) rfl (fun ls hl => ?_)
                    refine lv_goto (tgt := 89) hx hb dX12_hear_109 (by decide) ?_
                    exact ih_lp_15 (i + 1) f_19 _ _ _ (by omega) (by omega) hP hD hS (lv_sub hl [0, 1, 2, 3] rfl)
              exact lp_15 (ta - 0 + 1) 0 rw_ _ _ _ (Nat.lt_succ_self _) (by omega) hP hD hS (lv_sub hl [0, 1, 2, 3] rfl)
            · have c_14 : gb = 0 := (neq gb 0 (by omega) (by omega)).mp c_14
              refine lv_aload_n hx hb dX12_hear_81 rfl (lv_at hl 3 rfl) ?_
              refine lv_iconst (v := 1) hx hb dX12_hear_82 (by decide) ?_
              refine sk_Vi (q0 := 0) (n := 1) (rest := []) (wr := [(g 20, .inl (cI, 4, .inl (l4 (nI l0) (nI l1) (nI dm) (nI l3)))), (g 31, .inl (cI, 120, .inl nw)), (g 0, .inl (cI, 1600, .inl (fun j => nI (tb j)))), (g 53, .inl (cI, 32, .inl rw_))]) ⟨hx, hb, hml, hown, hts⟩ hl.1 (c_m_refuses l D cI cJ cC cZ cS mm g 0 pa pe pd pb pp pf pg pn rt rn cd sn il tk am at_ aa wt wy rm ud nu sd qn qw qo qb qp qa qi oc 1 rf (by omega)) w_8_97 w_8_99 w_0_104 w_1_14 w_8_100 (by decide +kernel) ⟨⟨(Nat.le_of_ble_eq_true rfl), (Nat.le_of_ble_eq_true rfl)⟩, (Nat.le_of_ble_eq_true rfl), (Nat.le_of_ble_eq_true rfl)⟩ hK hP hD hS hA [0, 5] [1, 2, 3, 4] rfl rfl (by decide +kernel) (by decide +kernel) (by decide +kernel) rfl rfl rfl rfl (Nat.le_of_ble_eq_true rfl) dX12_hear_83 (fun r_21 u H locs hw hP hD hS => ?_)
              obtain ⟨rf2_20, rfl, rfl⟩ := hw
              have hP : va_P D vwCl [(g 20, .inl (cI, 4, .inl (l4 (nI l0) (nI l1) (nI dm) (nI l3)))), (g 31, .inl (cI, 120, .inl nw)), (g 0, .inl (cI, 1600, .inl (fun j => nI (tb j)))), (g 53, .inl (cI, 32, .inl rw_)), (mm, .inr (12, mo g 0 (nI pa) (nI pe) pd (nI pb) pp pf pg pn rt rn (nI cd) sn (nI il) tk am at_ aa 0 0 (-1) wt wy 0 (nI rm) (nI ud) (nI nu) sd (nI qn) (nI qw) qo (nI qb) (nI qp) qa (nI qi) (nI oc))), (g 9, .inl (cI, 6, .inl rf2_20))] H := hP
              have hD : va_D A [(g 20, .inl (cI, 4, .inl (l4 (nI l0) (nI l1) (nI dm) (nI l3)))), (g 31, .inl (cI, 120, .inl nw)), (g 0, .inl (cI, 1600, .inl (fun j => nI (tb j)))), (g 53, .inl (cI, 32, .inl rw_)), (mm, .inr (12, mo g 0 (nI pa) (nI pe) pd (nI pb) pp pf pg pn rt rn (nI cd) sn (nI il) tk am at_ aa 0 0 (-1) wt wy 0 (nI rm) (nI ud) (nI nu) sd (nI qn) (nI qw) qo (nI qb) (nI qp) qa (nI qi) (nI oc))), (g 9, .inl (cI, 6, .inl rf2_20))] := hD
              have hP := hP.sub (ws' := [(mm, .inr (12, mo g 0 (nI pa) (nI pe) pd (nI pb) pp pf pg pn rt rn (nI cd) sn (nI il) tk am at_ aa 0 0 (-1) wt wy 0 (nI rm) (nI ud) (nI nu) sd (nI qn) (nI qw) qo (nI qb) (nI qp) qa (nI qi) (nI oc))), (g 20, .inl (cI, 4, .inl (l4 (nI l0) (nI l1) (nI dm) (nI l3)))), (g 31, .inl (cI, 120, .inl nw)), (g 0, .inl (cI, 1600, .inl (fun j => nI (tb j)))), (g 53, .inl (cI, 32, .inl rw_)), (g 9, .inl (cI, 6, .inl rf2_20))]) [4, 0, 1, 2, 3, 5] rfl
              have hD := hD.sub (ws' := [(mm, .inr (12, mo g 0 (nI pa) (nI pe) pd (nI pb) pp pf pg pn rt rn (nI cd) sn (nI il) tk am at_ aa 0 0 (-1) wt wy 0 (nI rm) (nI ud) (nI nu) sd (nI qn) (nI qw) qo (nI qb) (nI qp) qa (nI qi) (nI oc))), (g 20, .inl (cI, 4, .inl (l4 (nI l0) (nI l1) (nI dm) (nI l3)))), (g 31, .inl (cI, 120, .inl nw)), (g 0, .inl (cI, 1600, .inl (fun j => nI (tb j)))), (g 53, .inl (cI, 32, .inl rw_)), (g 9, .inl (cI, 6, .inl rf2_20))]) [4, 0, 1, 2, 3, 5] (by decide +kernel) rfl
              exact sk_iret hx hb hr rfl hlocks hK hP hD hS (⟨rm, rw_, rf2_20, by omega, rfl⟩) (Nat.le_of_ble_eq_true rfl) (Nat.le_of_ble_eq_true rfl) dX12_hear_86
          · have c_13 : ¬ (gb = 0) := fun h => c_13 ((neq gb 0 (by omega) (by omega)).mpr h)
            refine lv_aload_n hx hb dX12_hear_52 rfl (lv_at hl 3 rfl) ?_
            refine lv_aload_n hx hb dX12_hear_53 rfl (lv_at hl 3 rfl) ?_
            refine sk_get (v := .ref (g 0)) (C := RX12) (T := TX12) (N := 92) hx hb hts inlX12 hown hK hP 0 rfl rfl 0 (by decide) w_5_155 rfl dX12_hear_54 ?_
            refine lv_iload_n hx hb dX12_hear_57 rfl (lv_at hl 0 rfl) ?_
            refine va_iald hx hb hK.1 hP 3 0 rfl rfl (vin i 1600 (by omega) (by omega)) dX12_hear_58 ?_
            refine sk_top (nI (tb i)) (nrd tb i (by omega)) ?_
            have hb_22 := htb i
            refine lv_aload_n hx hb dX12_hear_59 rfl (lv_at hl 3 rfl) ?_
            refine sk_get (v := .ref (g 0)) (C := RX12) (T := TX12) (N := 92) hx hb hts inlX12 hown hK hP 0 rfl rfl 0 (by decide) w_5_155 rfl dX12_hear_60 ?_
            refine lv_iload_n hx hb dX12_hear_63 rfl (lv_at hl 0 rfl) ?_
            refine lv_iconst (v := 1) hx hb dX12_hear_64 (by decide) ?_
            refine lv_iadd hx hb dX12_hear_65 ?_
            refine sk_top (nI (i + 1)) (nI_add i 1) ?_
            refine va_iald hx hb hK.1 hP 3 0 rfl rfl (vin (i + 1) 1600 (by omega) (by omega)) dX12_hear_66 ?_
            refine sk_top (nI (tb (i + 1))) (nrd tb (i + 1) (by omega)) ?_
            have hb_23 := htb (i + 1)
            refine sk_Vi (q0 := 0) (n := 2) (rest := []) (wr := [(g 0, .inl (cI, 1600, .inl (fun j => nI (tb j)))), (g 53, .inl (cI, 32, .inl rw_)), (g 9, .inl (cI, 6, .inl rf))]) ⟨hx, hb, hml, hown, hts⟩ hl.1 (c_m_canBeTold l D cI cJ cC cZ cS mm g 0 pa pe pd pb pp pf pg pn rt rn cd sn il tk am at_ aa wt wy rm ud nu sd qn qw qo qb qp qa qi oc (nI (tb i)) (nI (tb (i + 1))) l0 l1 dm l3 nw (by omega) hnw) w_8_77 w_8_79 w_0_101 w_1_14 w_8_80 (by decide +kernel) ⟨⟨(Nat.le_of_ble_eq_true rfl), (Nat.le_of_ble_eq_true rfl)⟩, (Nat.le_of_ble_eq_true rfl), (Nat.le_of_ble_eq_true rfl)⟩ hK hP hD hS hA [0, 1, 2] [3, 4, 5] rfl rfl (by decide +kernel) (by decide +kernel) (by decide +kernel) rfl rfl rfl rfl (Nat.le_of_ble_eq_true rfl) dX12_hear_67 (fun r_25 u H locs hw hP hD hS => ?_)
            obtain ⟨b_24, hb1_26, rfl, rfl⟩ := hw
            have hP : va_P D vwCl [(g 0, .inl (cI, 1600, .inl (fun j => nI (tb j)))), (g 53, .inl (cI, 32, .inl rw_)), (g 9, .inl (cI, 6, .inl rf)), (mm, .inr (12, mo g 0 (nI pa) (nI pe) pd (nI pb) pp pf pg pn rt rn (nI cd) sn (nI il) tk am at_ aa 0 0 (-1) wt wy 0 (nI rm) (nI ud) (nI nu) sd (nI qn) (nI qw) qo (nI qb) (nI qp) qa (nI qi) (nI oc))), (g 20, .inl (cI, 4, .inl (l4 (nI l0) (nI l1) (nI dm) (nI l3)))), (g 31, .inl (cI, 120, .inl nw))] H := hP
            have hD : va_D A [(g 0, .inl (cI, 1600, .inl (fun j => nI (tb j)))), (g 53, .inl (cI, 32, .inl rw_)), (g 9, .inl (cI, 6, .inl rf)), (mm, .inr (12, mo g 0 (nI pa) (nI pe) pd (nI pb) pp pf pg pn rt rn (nI cd) sn (nI il) tk am at_ aa 0 0 (-1) wt wy 0 (nI rm) (nI ud) (nI nu) sd (nI qn) (nI qw) qo (nI qb) (nI qp) qa (nI qi) (nI oc))), (g 20, .inl (cI, 4, .inl (l4 (nI l0) (nI l1) (nI dm) (nI l3)))), (g 31, .inl (cI, 120, .inl nw))] := hD
            refine lv_istore_n (lv' := [(2, .int (nI b_24)), (3, .int (nI i)), (1, .int (nI ta)), (0, .ref mm)]) hx hb dX12_hear_70 rfl hl (by decide) rfl (fun ls hl => ?_)
            refine lv_iinc (v := nI (i + 2)) (lv' := [(3, .int (nI (i + 2))), (2, .int (nI b_24)), (1, .int (nI ta)), (0, .ref mm)]) hx hb dX12_hear_71 hl (k := 1) rfl (ninc i 2 (by decide)) (by decide) rfl (fun ls hl => ?_)
            refine lv_goto (tgt := 43) hx hb dX12_hear_74 (by decide) ?_
            have hP := hP.sub (ws' := [(mm, .inr (12, mo g 0 (nI pa) (nI pe) pd (nI pb) pp pf pg pn rt rn (nI cd) sn (nI il) tk am at_ aa 0 0 (-1) wt wy 0 (nI rm) (nI ud) (nI nu) sd (nI qn) (nI qw) qo (nI qb) (nI qp) qa (nI qi) (nI oc))), (g 20, .inl (cI, 4, .inl (l4 (nI l0) (nI l1) (nI dm) (nI l3)))), (g 31, .inl (cI, 120, .inl nw)), (g 0, .inl (cI, 1600, .inl (fun j => nI (tb j)))), (g 53, .inl (cI, 32, .inl rw_)), (g 9, .inl (cI, 6, .inl rf))]) [3, 4, 5, 0, 1, 2] rfl
            have hD := hD.sub (ws' := [(mm, .inr (12, mo g 0 (nI pa) (nI pe) pd (nI pb) pp pf pg pn rt rn (nI cd) sn (nI il) tk am at_ aa 0 0 (-1) wt wy 0 (nI rm) (nI ud) (nI nu) sd (nI qn) (nI qw) qo (nI qb) (nI qp) qa (nI qi) (nI oc))), (g 20, .inl (cI, 4, .inl (l4 (nI l0) (nI l1) (nI dm) (nI l3)))), (g 31, .inl (cI, 120, .inl nw)), (g 0, .inl (cI, 1600, .inl (fun j => nI (tb j)))), (g 53, .inl (cI, 32, .inl rw_)), (g 9, .inl (cI, 6, .inl rf))]) [3, 4, 5, 0, 1, 2] (by decide +kernel) rfl
            exact ih_lp_2 (i + 2) b_24 _ _ _ (by omega) (by omega) (by omega) hP hD hS (lv_sub hl [0, 1, 2, 3] rfl)
    exact lp_2 (ta + 2 - 0 + 1) 0 bq _ _ _ (Nat.lt_succ_self _) (by omega) (by omega) hP hD hS (lv_sub hl [0, 1, 2, 3] rfl)
  refine lv_aload_n hx hb dX12_hear_10 rfl (lv_at hl 1 rfl) ?_
  refine sk_get (v := .int (nI il)) (C := RX12) (T := TX12) (N := 92) hx hb hts inlX12 hown hK hP 0 rfl rfl 29 (by decide) w_5_184 rfl dX12_hear_11 ?_
  refine lv_if_eq (tgt := 39) hx hb dX12_hear_14 (by decide) (fun c_27 => ?_) (fun c_27 => ?_)
  · have c_27 : il = 0 := (neq il 0 (by omega) (by omega)).mp c_27
    refine lv_iconst (v := 0) hx hb dX12_hear_39 (by decide) ?_
    exact jn_1 0 _ _ _ (by omega) hP hD hS (lv_sub hl [0, 1] rfl)
  · have c_27 : ¬ (il = 0) := fun h => c_27 ((neq il 0 (by omega) (by omega)).mpr h)
    refine lv_iload_n hx hb dX12_hear_17 rfl (lv_at hl 0 rfl) ?_
    refine lv_if_le (tgt := 39) hx hb dX12_hear_18 (by decide) (fun c_28 => ?_) (fun c_28 => ?_)
    · have c_28 : ta ≤ 0 := (nle ta 0 (by omega) (by omega)).mp c_28
      refine lv_iconst (v := 0) hx hb dX12_hear_39 (by decide) ?_
      exact jn_1 0 _ _ _ (by omega) hP hD hS (lv_sub hl [0, 1] rfl)
    · have c_28 : ¬ (ta ≤ 0) := fun h => c_28 ((nle ta 0 (by omega) (by omega)).mpr h)
      refine lv_iload_n hx hb dX12_hear_21 rfl (lv_at hl 0 rfl) ?_
      refine lv_iconst (v := 2) hx hb dX12_hear_22 (by decide) ?_
      refine lv_irem hx hb dX12_hear_23 (by decide) ?_
      refine sk_top (nI (ta % 2)) (nrem ta 2 (by omega) (by omega) (by omega)) ?_
      refine lv_if_ne (tgt := 39) hx hb dX12_hear_24 (by decide) (fun c_29 => ?_) (fun c_29 => ?_)
      · have c_29 : ¬ (ta % 2 = 0) := fun h => c_29 ((neq (ta % 2) 0 (by omega) (by omega)).mpr h)
        refine lv_iconst (v := 0) hx hb dX12_hear_39 (by decide) ?_
        exact jn_1 0 _ _ _ (by omega) hP hD hS (lv_sub hl [0, 1] rfl)
      · have c_29 : ta % 2 = 0 := (neq (ta % 2) 0 (by omega) (by omega)).mp c_29
        refine lv_iload_n hx hb dX12_hear_27 rfl (lv_at hl 0 rfl) ?_
        refine lv_iconst (v := 2) hx hb dX12_hear_28 (by decide) ?_
        refine lv_idiv hx hb dX12_hear_29 (by decide) ?_
        refine sk_top (nI (ta / 2)) (ndiv ta 2 (by omega) (by omega) (by omega)) ?_
        refine lv_bipush (v := 16) hx hb dX12_hear_30 (by decide) ?_
        refine lv_icmp_gt (tgt := 39) hx hb dX12_hear_32 (by decide) (fun c_30 => ?_) (fun c_30 => ?_)
        · have c_30 : 16 < ta / 2 := (nlt 16 (ta / 2) (by omega) (by omega)).mp c_30
          refine lv_iconst (v := 0) hx hb dX12_hear_39 (by decide) ?_
          exact jn_1 0 _ _ _ (by omega) hP hD hS (lv_sub hl [0, 1] rfl)
        · have c_30 : ¬ (16 < ta / 2) := fun h => c_30 ((nlt 16 (ta / 2) (by omega) (by omega)).mpr h)
          refine lv_iconst (v := 1) hx hb dX12_hear_35 (by decide) ?_
          refine lv_goto (tgt := 40) hx hb dX12_hear_36 (by decide) ?_
          exact jn_1 1 _ _ _ (by omega) hP hD hS (lv_sub hl [0, 1] rfl)
theorem dX12_heard_0 : decode cX12_heard 0 = .ok (.aload_n 0, 1) := by decide +kernel
theorem dX12_heard_1 : decode cX12_heard 1 = .ok (.getfield 302, 3) := by decide +kernel
theorem dX12_heard_4 : decode cX12_heard 4 = .ok (.ifCond .ne 7, 3) := by decide +kernel
theorem dX12_heard_11 : decode cX12_heard 11 = .ok (.aload_n 0, 1) := by decide +kernel
theorem dX12_heard_12 : decode cX12_heard 12 = .ok (.invokevirtual 466, 3) := by decide +kernel
theorem dX12_heard_15 : decode cX12_heard 15 = .ok (.aload_n 0, 1) := by decide +kernel
theorem dX12_heard_16 : decode cX12_heard 16 = .ok (.getfield 382, 3) := by decide +kernel
theorem dX12_heard_19 : decode cX12_heard 19 = .ok (.lreturn, 1) := by decide +kernel
theorem dX12_heard_7 : decode cX12_heard 7 = .ok (.ldc2_w 421, 3) := by decide +kernel
theorem dX12_heard_10 : decode cX12_heard 10 = .ok (.lreturn, 1) := by decide +kernel
theorem w_8_105 : (Cond.methodLink RX12 466 yX12_laysHeard) ∈ wsL_law := sk_mem (ck_8 _ (List.mem_of_getElem? (i := 105) rfl)) rfl
theorem w_8_107 : (Cond.instanceMethod yX12_laysHeard) ∈ wsL_law := sk_mem (ck_8 _ (List.mem_of_getElem? (i := 107) rfl)) rfl
theorem w_0_105 : (Cond.selects RX12 yX12_laysHeard yX12_laysHeard) ∈ wsL_law := sk_mem (ck_0 _ (List.mem_of_getElem? (i := 105) rfl)) rfl
theorem w_8_104 : (Cond.code yX12_heard cX12_heard 1 (some .long)) ∈ wsL_law := sk_mem (ck_8 _ (List.mem_of_getElem? (i := 104) rfl)) rfl
set_option maxHeartbeats 4000000 in
set_option maxRecDepth 100000 in
theorem c_m_heard (l : Launch) (D : va_G) (cI cJ cC cZ cS : ClassId) (mm : Nat) (g : Nat → Nat) (ta : Nat) (pa : Nat) (pe : Nat) (pd : Int32) (pb : Nat) (pp : Int32) (pf : Int32) (pg : Int32) (pn : Int32) (rt : Int32) (rn : Int32) (cd : Nat) (sn : Int32) (il : Nat) (tk : Int32) (am : Int32) (at_ : Int32) (aa : Int32) (wt : Int32) (wy : Int64) (rm : Nat) (ud : Nat) (nu : Nat) (sd : Int64) (qn : Nat) (qw : Nat) (qo : Int32) (qb : Nat) (qp : Nat) (qa : Int64) (qi : Nat) (oc : Nat) (u0 : Int32) (u1 : Int32) (u2 : Int32) (u3 : Int32) (u4 : Int32) (u5 : Int32) (v0 : Int32) (v1 : Int32) (v2 : Int32) (v3 : Int32) (v4 : Int32) (v5 : Int32) (cs : Nat → Nat) (nw : Nat → Int32) (pt : Nat → Nat) (ql : Nat → Int64) (l0 : Nat) (l1 : Nat) (dm : Nat) (l3 : Nat) (ws_ : Nat → Int32) (yw : Nat → Int32) (yo : Nat → Int32) (be : Nat → Int64) (bf : Nat → Int64) (rw_ : Nat → Int32) (hil : il ≤ 1) (hild : il = 1 → 1 ≤ dm) (hdm : dm ≤ 9) (hp0 : progOk cs u3 v3) (hp1 : progOk cs u4 v4) (hp2 : progOk cs u5 v5) (hrm : rm ≤ 16) (hcs : ∀ j, cs j ≤ 20000) (hnw : nowOk nw) (hpt : ∀ j, pt j ≤ 9) : skM l yX12_heard cX12_heard 1 (some .long) 6 142 0 0 D (skT cI cJ cC cZ cS) [.ref mm] [(mm, .inr (12, mo g (nI ta) (nI pa) (nI pe) pd (nI pb) pp pf pg pn rt rn (nI cd) sn (nI il) tk am at_ aa 0 0 (-1) wt wy 0 (nI rm) (nI ud) (nI nu) sd (nI qn) (nI qw) qo (nI qb) (nI qp) qa (nI qi) (nI oc))), (g 24, .inl (cI, 6, .inl (l6 u0 u1 u2 u3 u4 u5))), (g 25, .inl (cI, 6, .inl (l6 v0 v1 v2 v3 v4 v5))), (g 26, .inl (cI, 3200, .inl (fun j => nI (cs j)))), (g 31, .inl (cI, 120, .inl nw)), (g 46, .inl (cI, 9, .inl (fun j => nI (pt j)))), (g 86, .inl (cJ, 1700, .inr (.inl ql))), (g 20, .inl (cI, 4, .inl (l4 (nI l0) (nI l1) (nI dm) (nI l3)))), (g 38, .inl (cI, 90, .inl ws_)), (g 36, .inl (cZ, 900, .inl yw)), (g 37, .inl (cZ, 900, .inl yo)), (g 43, .inl (cJ, 90, .inr (.inl be))), (g 44, .inl (cJ, 90, .inr (.inl bf))), (g 53, .inl (cI, 32, .inl rw_))] (skL D (skT cI cJ cC cZ cS) (fun (r : Int64) (u : va_W) => ∃ (tk2 : Int32), ∃ (qp2 : Nat), ∃ (am2 : Int32), ∃ (at_2 : Int32), ∃ (aa2 : Int32), ∃ (wy2 : Int64), ∃ (ql2 : Nat → Int64), ∃ (ws_2 : Nat → Int32), ∃ (yw2 : Nat → Int32), ∃ (yo2 : Nat → Int32), ∃ (be2 : Nat → Int64), ∃ (bf2 : Nat → Int64), u = [(mm, .inr (12, mo g (nI ta) (nI pa) (nI pe) pd (nI pb) pp pf pg pn rt rn (nI cd) sn (nI il) tk2 am2 at_2 aa2 0 0 (-1) wt wy2 0 (nI rm) (nI ud) (nI nu) sd (nI qn) (nI qw) qo (nI qb) (nI qp2) qa (nI qi) (nI oc))), (g 24, .inl (cI, 6, .inl (l6 u0 u1 u2 u3 u4 u5))), (g 25, .inl (cI, 6, .inl (l6 v0 v1 v2 v3 v4 v5))), (g 26, .inl (cI, 3200, .inl (fun j => nI (cs j)))), (g 31, .inl (cI, 120, .inl nw)), (g 46, .inl (cI, 9, .inl (fun j => nI (pt j)))), (g 86, .inl (cJ, 1700, .inr (.inl ql2))), (g 20, .inl (cI, 4, .inl (l4 (nI l0) (nI l1) (nI dm) (nI l3)))), (g 38, .inl (cI, 90, .inl ws_2)), (g 36, .inl (cZ, 900, .inl yw2)), (g 37, .inl (cZ, 900, .inl yo2)), (g 43, .inl (cJ, 90, .inr (.inl be2))), (g 44, .inl (cJ, 90, .inr (.inl bf2))), (g 53, .inl (cI, 32, .inl rw_))])) := by
  refine skM_of (by decide +kernel) (Nat.le_of_ble_eq_true rfl) ?_
  intro p e s m below meth c A ls E hP hD hl
  obtain ⟨hx, hb, hr, hml, hlocks, hin, hown, hts, hK, hA⟩ := E
  have hown : s.vm.findClass RX12 = some m.cls := hown
  have hS : va_S A s.heap s.heap [] := va_S.rf
  have hl : lv_has ls 1 [(0, .ref mm)] := hl
  refine lv_aload_n hx hb dX12_heard_0 rfl (lv_at hl 0 rfl) ?_
  refine sk_get (v := .int (nI il)) (C := RX12) (T := TX12) (N := 92) hx hb hts inlX12 hown hK hP 0 rfl rfl 29 (by decide) w_5_184 rfl dX12_heard_1 ?_
  refine lv_if_ne (tgt := 11) hx hb dX12_heard_4 (by decide) (fun c_1 => ?_) (fun c_1 => ?_)
  · have c_1 : ¬ (il = 0) := fun h => c_1 ((neq il 0 (by omega) (by omega)).mpr h)
    refine lv_aload_n hx hb dX12_heard_11 rfl (lv_at hl 0 rfl) ?_
    refine sk_Vv (q0 := 0) (n := 0) (rest := []) (wr := []) ⟨hx, hb, hml, hown, hts⟩ hl.1 (c_m_laysHeard l D cI cJ cC cZ cS mm g ta pa pe pd pb pp pf pg pn rt rn cd sn il tk am at_ aa wt wy rm ud nu sd qn qw qo qb qp qa qi oc u0 u1 u2 u3 u4 u5 v0 v1 v2 v3 v4 v5 cs nw pt ql l0 l1 dm l3 ws_ yw yo be bf rw_ (by omega) (by omega) hp0 hp1 hp2 (by omega) hcs hnw hpt) w_8_105 w_8_107 w_0_105 w_1_14 w_8_108 (by decide +kernel) ⟨⟨(Nat.le_of_ble_eq_true rfl), (Nat.le_of_ble_eq_true rfl)⟩, (Nat.le_of_ble_eq_true rfl), (Nat.le_of_ble_eq_true rfl)⟩ hK hP hD hS hA [0, 1, 2, 3, 4, 5, 6, 7, 8, 9, 10, 11, 12, 13] [] rfl rfl (by decide +kernel) (by decide +kernel) (by decide +kernel) rfl rfl rfl rfl (Nat.le_of_ble_eq_true rfl) dX12_heard_12 (fun u H locs hw hP hD hS => ?_)
    obtain ⟨tk2_2, qp2_3, am2_4, at_2_5, aa2_6, wy2_7, ql2_8, ws_2_9, yw2_10, yo2_11, be2_12, bf2_13, rfl⟩ := hw
    have hP : va_P D vwCl [(mm, .inr (12, mo g (nI ta) (nI pa) (nI pe) pd (nI pb) pp pf pg pn rt rn (nI cd) sn (nI il) tk2_2 am2_4 at_2_5 aa2_6 0 0 (-1) wt wy2_7 0 (nI rm) (nI ud) (nI nu) sd (nI qn) (nI qw) qo (nI qb) (nI qp2_3) qa (nI qi) (nI oc))), (g 24, .inl (cI, 6, .inl (l6 u0 u1 u2 u3 u4 u5))), (g 25, .inl (cI, 6, .inl (l6 v0 v1 v2 v3 v4 v5))), (g 26, .inl (cI, 3200, .inl (fun j => nI (cs j)))), (g 31, .inl (cI, 120, .inl nw)), (g 46, .inl (cI, 9, .inl (fun j => nI (pt j)))), (g 86, .inl (cJ, 1700, .inr (.inl ql2_8))), (g 20, .inl (cI, 4, .inl (l4 (nI l0) (nI l1) (nI dm) (nI l3)))), (g 38, .inl (cI, 90, .inl ws_2_9)), (g 36, .inl (cZ, 900, .inl yw2_10)), (g 37, .inl (cZ, 900, .inl yo2_11)), (g 43, .inl (cJ, 90, .inr (.inl be2_12))), (g 44, .inl (cJ, 90, .inr (.inl bf2_13))), (g 53, .inl (cI, 32, .inl rw_))] H := hP
    have hD : va_D A [(mm, .inr (12, mo g (nI ta) (nI pa) (nI pe) pd (nI pb) pp pf pg pn rt rn (nI cd) sn (nI il) tk2_2 am2_4 at_2_5 aa2_6 0 0 (-1) wt wy2_7 0 (nI rm) (nI ud) (nI nu) sd (nI qn) (nI qw) qo (nI qb) (nI qp2_3) qa (nI qi) (nI oc))), (g 24, .inl (cI, 6, .inl (l6 u0 u1 u2 u3 u4 u5))), (g 25, .inl (cI, 6, .inl (l6 v0 v1 v2 v3 v4 v5))), (g 26, .inl (cI, 3200, .inl (fun j => nI (cs j)))), (g 31, .inl (cI, 120, .inl nw)), (g 46, .inl (cI, 9, .inl (fun j => nI (pt j)))), (g 86, .inl (cJ, 1700, .inr (.inl ql2_8))), (g 20, .inl (cI, 4, .inl (l4 (nI l0) (nI l1) (nI dm) (nI l3)))), (g 38, .inl (cI, 90, .inl ws_2_9)), (g 36, .inl (cZ, 900, .inl yw2_10)), (g 37, .inl (cZ, 900, .inl yo2_11)), (g 43, .inl (cJ, 90, .inr (.inl be2_12))), (g 44, .inl (cJ, 90, .inr (.inl bf2_13))), (g 53, .inl (cI, 32, .inl rw_))] := hD
    refine lv_aload_n hx hb dX12_heard_15 rfl (lv_at hl 0 rfl) ?_
    refine sk_get (v := .long wy2_7) (C := RX12) (T := TX12) (N := 92) hx hb hts inlX12 hown hK hP 0 rfl rfl 45 (by decide) w_5_200 rfl dX12_heard_16 ?_
    exact sk_lret hx hb hr hlocks hK hP hD hS (⟨tk2_2, qp2_3, am2_4, at_2_5, aa2_6, wy2_7, ql2_8, ws_2_9, yw2_10, yo2_11, be2_12, bf2_13, rfl⟩) (Nat.le_of_ble_eq_true rfl) (Nat.le_of_ble_eq_true rfl) dX12_heard_19
  · have c_1 : il = 0 := (neq il 0 (by omega) (by omega)).mp c_1
    refine lv_ldc2 (v := (-1000000000000000)) hx hb hown (hts _ w_7_184) dX12_heard_7 ?_
    exact sk_lret hx hb hr hlocks hK hP hD hS (⟨tk, qp, am, at_, aa, wy, ql, ws_, yw, yo, be, bf, rfl⟩) (Nat.le_of_ble_eq_true rfl) (Nat.le_of_ble_eq_true rfl) dX12_heard_10
theorem dX12_tells_0 : decode cX12_tells 0 = .ok (.aload_n 0, 1) := by decide +kernel
theorem dX12_tells_1 : decode cX12_tells 1 = .ok (.getfield 302, 3) := by decide +kernel
theorem dX12_tells_4 : decode cX12_tells 4 = .ok (.ifCond .eq 13, 3) := by decide +kernel
theorem dX12_tells_17 : decode cX12_tells 17 = .ok (.ldc2_w 421, 3) := by decide +kernel
theorem dX12_tells_20 : decode cX12_tells 20 = .ok (.lreturn, 1) := by decide +kernel
theorem dX12_tells_7 : decode cX12_tells 7 = .ok (.iload_n 1, 1) := by decide +kernel
theorem dX12_tells_8 : decode cX12_tells 8 = .ok (.i2l, 1) := by decide +kernel
theorem dX12_tells_9 : decode cX12_tells 9 = .ok (.lconst 0, 1) := by decide +kernel
theorem dX12_tells_10 : decode cX12_tells 10 = .ok (.lconst 1, 1) := by decide +kernel
theorem dX12_tells_11 : decode cX12_tells 11 = .ok (.invokestatic 238, 3) := by decide +kernel
theorem dX12_tells_14 : decode cX12_tells 14 = .ok (.ifCond .ne 7, 3) := by decide +kernel
theorem dX12_tells_21 : decode cX12_tells 21 = .ok (.aload_n 0, 1) := by decide +kernel
theorem dX12_tells_22 : decode cX12_tells 22 = .ok (.invokevirtual 466, 3) := by decide +kernel
theorem dX12_tells_25 : decode cX12_tells 25 = .ok (.iconst (-1), 1) := by decide +kernel
theorem dX12_tells_26 : decode cX12_tells 26 = .ok (.istore_n 2, 1) := by decide +kernel
theorem dX12_tells_27 : decode cX12_tells 27 = .ok (.lconst 0, 1) := by decide +kernel
theorem dX12_tells_28 : decode cX12_tells 28 = .ok (.lstore_n 3, 1) := by decide +kernel
theorem dX12_tells_29 : decode cX12_tells 29 = .ok (.iconst 0, 1) := by decide +kernel
theorem dX12_tells_30 : decode cX12_tells 30 = .ok (.istore 5, 2) := by decide +kernel
theorem dX12_tells_32 : decode cX12_tells 32 = .ok (.iload 5, 2) := by decide +kernel
theorem dX12_tells_34 : decode cX12_tells 34 = .ok (.aload_n 0, 1) := by decide +kernel
theorem dX12_tells_35 : decode cX12_tells 35 = .ok (.invokevirtual 315, 3) := by decide +kernel
theorem dX12_tells_38 : decode cX12_tells 38 = .ok (.if_icmp .ge 99, 3) := by decide +kernel
theorem dX12_tells_137 : decode cX12_tells 137 = .ok (.iload_n 2, 1) := by decide +kernel
theorem dX12_tells_138 : decode cX12_tells 138 = .ok (.iconst (-1), 1) := by decide +kernel
theorem dX12_tells_139 : decode cX12_tells 139 = .ok (.if_icmp .ne 9, 3) := by decide +kernel
theorem dX12_tells_148 : decode cX12_tells 148 = .ok (.iload_n 1, 1) := by decide +kernel
theorem dX12_tells_149 : decode cX12_tells 149 = .ok (.ifCond .ne 8, 3) := by decide +kernel
theorem dX12_tells_157 : decode cX12_tells 157 = .ok (.lload_n 3, 1) := by decide +kernel
theorem dX12_tells_158 : decode cX12_tells 158 = .ok (.lreturn, 1) := by decide +kernel
theorem dX12_tells_152 : decode cX12_tells 152 = .ok (.iload_n 2, 1) := by decide +kernel
theorem dX12_tells_153 : decode cX12_tells 153 = .ok (.i2l, 1) := by decide +kernel
theorem dX12_tells_154 : decode cX12_tells 154 = .ok (.goto 4, 3) := by decide +kernel
theorem dX12_tells_142 : decode cX12_tells 142 = .ok (.ldc2_w 421, 3) := by decide +kernel
theorem dX12_tells_145 : decode cX12_tells 145 = .ok (.goto 13, 3) := by decide +kernel
theorem dX12_tells_41 : decode cX12_tells 41 = .ok (.aload_n 0, 1) := by decide +kernel
theorem dX12_tells_42 : decode cX12_tells 42 = .ok (.getfield 382, 3) := by decide +kernel
theorem dX12_tells_45 : decode cX12_tells 45 = .ok (.lconst 0, 1) := by decide +kernel
theorem dX12_tells_46 : decode cX12_tells 46 = .ok (.lcmp, 1) := by decide +kernel
theorem dX12_tells_47 : decode cX12_tells 47 = .ok (.ifCond .le 90, 3) := by decide +kernel
theorem dX12_tells_50 : decode cX12_tells 50 = .ok (.lconst 0, 1) := by decide +kernel
theorem dX12_tells_51 : decode cX12_tells 51 = .ok (.lstore 6, 2) := by decide +kernel
theorem dX12_tells_53 : decode cX12_tells 53 = .ok (.iconst 0, 1) := by decide +kernel
theorem dX12_tells_54 : decode cX12_tells 54 = .ok (.istore 8, 2) := by decide +kernel
theorem dX12_tells_56 : decode cX12_tells 56 = .ok (.iload 8, 2) := by decide +kernel
theorem dX12_tells_58 : decode cX12_tells 58 = .ok (.bipush 10, 2) := by decide +kernel
theorem dX12_tells_60 : decode cX12_tells 60 = .ok (.if_icmp .ge 50, 3) := by decide +kernel
theorem dX12_tells_110 : decode cX12_tells 110 = .ok (.iload_n 2, 1) := by decide +kernel
theorem dX12_tells_111 : decode cX12_tells 111 = .ok (.iconst (-1), 1) := by decide +kernel
theorem dX12_tells_112 : decode cX12_tells 112 = .ok (.if_icmp .eq 13, 3) := by decide +kernel
theorem dX12_tells_125 : decode cX12_tells 125 = .ok (.iload 5, 2) := by decide +kernel
theorem dX12_tells_127 : decode cX12_tells 127 = .ok (.istore_n 2, 1) := by decide +kernel
theorem dX12_tells_128 : decode cX12_tells 128 = .ok (.lload 6, 2) := by decide +kernel
theorem dX12_tells_130 : decode cX12_tells 130 = .ok (.lstore_n 3, 1) := by decide +kernel
theorem dX12_tells_131 : decode cX12_tells 131 = .ok (.iinc 5 1, 3) := by decide +kernel
theorem dX12_tells_134 : decode cX12_tells 134 = .ok (.goto (-102), 3) := by decide +kernel
theorem dX12_tells_115 : decode cX12_tells 115 = .ok (.lload 6, 2) := by decide +kernel
theorem dX12_tells_117 : decode cX12_tells 117 = .ok (.lload_n 3, 1) := by decide +kernel
theorem dX12_tells_118 : decode cX12_tells 118 = .ok (.lcmp, 1) := by decide +kernel
theorem dX12_tells_119 : decode cX12_tells 119 = .ok (.ifCond .lt 6, 3) := by decide +kernel
theorem dX12_tells_122 : decode cX12_tells 122 = .ok (.goto 9, 3) := by decide +kernel
theorem dX12_tells_63 : decode cX12_tells 63 = .ok (.aload_n 0, 1) := by decide +kernel
theorem dX12_tells_64 : decode cX12_tells 64 = .ok (.getfield 86, 3) := by decide +kernel
theorem dX12_tells_67 : decode cX12_tells 67 = .ok (.bipush 10, 2) := by decide +kernel
theorem dX12_tells_69 : decode cX12_tells 69 = .ok (.iload 5, 2) := by decide +kernel
theorem dX12_tells_71 : decode cX12_tells 71 = .ok (.imul, 1) := by decide +kernel
theorem dX12_tells_72 : decode cX12_tells 72 = .ok (.iload 8, 2) := by decide +kernel
theorem dX12_tells_74 : decode cX12_tells 74 = .ok (.iadd, 1) := by decide +kernel
theorem dX12_tells_75 : decode cX12_tells 75 = .ok (.laload, 1) := by decide +kernel
theorem dX12_tells_76 : decode cX12_tells 76 = .ok (.aload_n 0, 1) := by decide +kernel
theorem dX12_tells_77 : decode cX12_tells 77 = .ok (.getfield 82, 3) := by decide +kernel
theorem dX12_tells_80 : decode cX12_tells 80 = .ok (.bipush 10, 2) := by decide +kernel
theorem dX12_tells_82 : decode cX12_tells 82 = .ok (.iload 5, 2) := by decide +kernel
theorem dX12_tells_84 : decode cX12_tells 84 = .ok (.imul, 1) := by decide +kernel
theorem dX12_tells_85 : decode cX12_tells 85 = .ok (.iload 8, 2) := by decide +kernel
theorem dX12_tells_87 : decode cX12_tells 87 = .ok (.iadd, 1) := by decide +kernel
theorem dX12_tells_88 : decode cX12_tells 88 = .ok (.laload, 1) := by decide +kernel
theorem dX12_tells_89 : decode cX12_tells 89 = .ok (.lmul, 1) := by decide +kernel
theorem dX12_tells_90 : decode cX12_tells 90 = .ok (.lstore 9, 2) := by decide +kernel
theorem dX12_tells_92 : decode cX12_tells 92 = .ok (.lload 9, 2) := by decide +kernel
theorem dX12_tells_94 : decode cX12_tells 94 = .ok (.lload 6, 2) := by decide +kernel
theorem dX12_tells_96 : decode cX12_tells 96 = .ok (.lcmp, 1) := by decide +kernel
theorem dX12_tells_97 : decode cX12_tells 97 = .ok (.ifCond .le 7, 3) := by decide +kernel
theorem dX12_tells_104 : decode cX12_tells 104 = .ok (.iinc 8 1, 3) := by decide +kernel
theorem dX12_tells_107 : decode cX12_tells 107 = .ok (.goto (-51), 3) := by decide +kernel
theorem dX12_tells_100 : decode cX12_tells 100 = .ok (.lload 9, 2) := by decide +kernel
theorem dX12_tells_102 : decode cX12_tells 102 = .ok (.lstore 6, 2) := by decide +kernel
theorem w_8_112 : (Cond.code yX12_tells cX12_tells 11 (some .long)) ∈ wsL_law := sk_mem (ck_8 _ (List.mem_of_getElem? (i := 112) rfl)) rfl
set_option maxHeartbeats 4000000 in
set_option maxRecDepth 100000 in
theorem c_m_tells (l : Launch) (D : va_G) (cI cJ cC cZ cS : ClassId) (mm : Nat) (g : Nat → Nat) (ta : Nat) (pa : Nat) (pe : Nat) (pd : Int32) (pb : Nat) (pp : Int32) (pf : Int32) (pg : Int32) (pn : Int32) (rt : Int32) (rn : Int32) (cd : Nat) (sn : Int32) (il : Nat) (tk : Int32) (am : Int32) (at_ : Int32) (aa : Int32) (wt : Int32) (wy : Int64) (rm : Nat) (ud : Nat) (nu : Nat) (sd : Int64) (qn : Nat) (qw : Nat) (qo : Int32) (qb : Nat) (qp : Nat) (qa : Int64) (qi : Nat) (oc : Nat) (w : Int32) (u0 : Int32) (u1 : Int32) (u2 : Int32) (u3 : Int32) (u4 : Int32) (u5 : Int32) (v0 : Int32) (v1 : Int32) (v2 : Int32) (v3 : Int32) (v4 : Int32) (v5 : Int32) (cs : Nat → Nat) (nw : Nat → Int32) (pt : Nat → Nat) (ql : Nat → Int64) (l0 : Nat) (l1 : Nat) (dm : Nat) (l3 : Nat) (ws_ : Nat → Int32) (yw : Nat → Int32) (yo : Nat → Int32) (be : Nat → Int64) (bf : Nat → Int64) (rw_ : Nat → Int32) (hil : il ≤ 1) (hild : il = 1 → 1 ≤ dm) (hdm : dm ≤ 9) (hp0 : progOk cs u3 v3) (hp1 : progOk cs u4 v4) (hp2 : progOk cs u5 v5) (hrm : rm ≤ 16) (hcs : ∀ j, cs j ≤ 20000) (hnw : nowOk nw) (hpt : ∀ j, pt j ≤ 9) : skM l yX12_tells cX12_tells 11 (some .long) 6 142 0 0 D (skT cI cJ cC cZ cS) [.ref mm, .int w] [(mm, .inr (12, mo g (nI ta) (nI pa) (nI pe) pd (nI pb) pp pf pg pn rt rn (nI cd) sn (nI il) tk am at_ aa 0 0 (-1) wt wy 0 (nI rm) (nI ud) (nI nu) sd (nI qn) (nI qw) qo (nI qb) (nI qp) qa (nI qi) (nI oc))), (g 24, .inl (cI, 6, .inl (l6 u0 u1 u2 u3 u4 u5))), (g 25, .inl (cI, 6, .inl (l6 v0 v1 v2 v3 v4 v5))), (g 26, .inl (cI, 3200, .inl (fun j => nI (cs j)))), (g 31, .inl (cI, 120, .inl nw)), (g 46, .inl (cI, 9, .inl (fun j => nI (pt j)))), (g 86, .inl (cJ, 1700, .inr (.inl ql))), (g 20, .inl (cI, 4, .inl (l4 (nI l0) (nI l1) (nI dm) (nI l3)))), (g 38, .inl (cI, 90, .inl ws_)), (g 36, .inl (cZ, 900, .inl yw)), (g 37, .inl (cZ, 900, .inl yo)), (g 43, .inl (cJ, 90, .inr (.inl be))), (g 44, .inl (cJ, 90, .inr (.inl bf))), (g 53, .inl (cI, 32, .inl rw_))] (skL D (skT cI cJ cC cZ cS) (fun (r : Int64) (u : va_W) => ∃ (tk2 : Int32), ∃ (qp2 : Nat), ∃ (am2 : Int32), ∃ (at_2 : Int32), ∃ (aa2 : Int32), ∃ (wy2 : Int64), ∃ (ql2 : Nat → Int64), ∃ (ws_2 : Nat → Int32), ∃ (yw2 : Nat → Int32), ∃ (yo2 : Nat → Int32), ∃ (be2 : Nat → Int64), ∃ (bf2 : Nat → Int64), u = [(mm, .inr (12, mo g (nI ta) (nI pa) (nI pe) pd (nI pb) pp pf pg pn rt rn (nI cd) sn (nI il) tk2 am2 at_2 aa2 0 0 (-1) wt wy2 0 (nI rm) (nI ud) (nI nu) sd (nI qn) (nI qw) qo (nI qb) (nI qp2) qa (nI qi) (nI oc))), (g 24, .inl (cI, 6, .inl (l6 u0 u1 u2 u3 u4 u5))), (g 25, .inl (cI, 6, .inl (l6 v0 v1 v2 v3 v4 v5))), (g 26, .inl (cI, 3200, .inl (fun j => nI (cs j)))), (g 31, .inl (cI, 120, .inl nw)), (g 46, .inl (cI, 9, .inl (fun j => nI (pt j)))), (g 86, .inl (cJ, 1700, .inr (.inl ql2))), (g 20, .inl (cI, 4, .inl (l4 (nI l0) (nI l1) (nI dm) (nI l3)))), (g 38, .inl (cI, 90, .inl ws_2)), (g 36, .inl (cZ, 900, .inl yw2)), (g 37, .inl (cZ, 900, .inl yo2)), (g 43, .inl (cJ, 90, .inr (.inl be2))), (g 44, .inl (cJ, 90, .inr (.inl bf2))), (g 53, .inl (cI, 32, .inl rw_))])) := by
  refine skM_of (by decide +kernel) (Nat.le_of_ble_eq_true rfl) ?_
  intro p e s m below meth c A ls E hP hD hl
  obtain ⟨hx, hb, hr, hml, hlocks, hin, hown, hts, hK, hA⟩ := E
  have hown : s.vm.findClass RX12 = some m.cls := hown
  have hS : va_S A s.heap s.heap [] := va_S.rf
  have hl : lv_has ls 11 [(0, .ref mm), (1, .int w)] := hl
  refine lv_aload_n hx hb dX12_tells_0 rfl (lv_at hl 0 rfl) ?_
  refine sk_get (v := .int (nI il)) (C := RX12) (T := TX12) (N := 92) hx hb hts inlX12 hown hK hP 0 rfl rfl 29 (by decide) w_5_184 rfl dX12_tells_1 ?_
  refine lv_if_eq (tgt := 17) hx hb dX12_tells_4 (by decide) (fun c_1 => ?_) (fun c_1 => ?_)
  · have c_1 : il = 0 := (neq il 0 (by omega) (by omega)).mp c_1
    refine lv_ldc2 (v := (-1000000000000000)) hx hb hown (hts _ w_7_184) dX12_tells_17 ?_
    exact sk_lret hx hb hr hlocks hK hP hD hS (⟨tk, qp, am, at_, aa, wy, ql, ws_, yw, yo, be, bf, rfl⟩) (Nat.le_of_ble_eq_true rfl) (Nat.le_of_ble_eq_true rfl) dX12_tells_20
  · have c_1 : ¬ (il = 0) := fun h => c_1 ((neq il 0 (by omega) (by omega)).mpr h)
    refine lv_iload_n hx hb dX12_tells_7 rfl (lv_at hl 1 rfl) ?_
    refine lv_i2l hx hb dX12_tells_8 rfl ?_
    refine lv_lconst (v := 0) hx hb dX12_tells_9 (by decide) ?_
    refine lv_lconst (v := 1) hx hb dX12_tells_10 (by decide) ?_
    refine sk_Si (n := 3) (rest := []) (wr := [(mm, .inr (12, mo g (nI ta) (nI pa) (nI pe) pd (nI pb) pp pf pg pn rt rn (nI cd) sn (nI il) tk am at_ aa 0 0 (-1) wt wy 0 (nI rm) (nI ud) (nI nu) sd (nI qn) (nI qw) qo (nI qb) (nI qp) qa (nI qi) (nI oc))), (g 24, .inl (cI, 6, .inl (l6 u0 u1 u2 u3 u4 u5))), (g 25, .inl (cI, 6, .inl (l6 v0 v1 v2 v3 v4 v5))), (g 26, .inl (cI, 3200, .inl (fun j => nI (cs j)))), (g 31, .inl (cI, 120, .inl nw)), (g 46, .inl (cI, 9, .inl (fun j => nI (pt j)))), (g 86, .inl (cJ, 1700, .inr (.inl ql))), (g 20, .inl (cI, 4, .inl (l4 (nI l0) (nI l1) (nI dm) (nI l3)))), (g 38, .inl (cI, 90, .inl ws_)), (g 36, .inl (cZ, 900, .inl yw)), (g 37, .inl (cZ, 900, .inl yo)), (g 43, .inl (cJ, 90, .inr (.inl be))), (g 44, .inl (cJ, 90, .inr (.inl bf))), (g 53, .inl (cI, 32, .inl rw_))]) ⟨hx, hb, hml, hown, hts⟩ hl.1 (c_m_isIn l D cI cJ cC cZ cS (Int32.toInt64 w) 0 1) w_7_0 w_7_1 w_1_14 w_7_2 (by decide +kernel) ⟨⟨(Nat.le_of_ble_eq_true rfl), (Nat.le_of_ble_eq_true rfl)⟩, (Nat.le_of_ble_eq_true rfl), (Nat.le_of_ble_eq_true rfl)⟩ hK hP hD hS hA [] [0, 1, 2, 3, 4, 5, 6, 7, 8, 9, 10, 11, 12, 13] rfl rfl (by decide +kernel) (by decide +kernel) (by decide +kernel) rfl rfl (Nat.le_of_ble_eq_true rfl) dX12_tells_11 (fun r_3 u H locs hw hP hD hS => ?_)
    obtain ⟨b_2, hb1_4, rfl, rfl⟩ := hw
    have hP : va_P D vwCl [(mm, .inr (12, mo g (nI ta) (nI pa) (nI pe) pd (nI pb) pp pf pg pn rt rn (nI cd) sn (nI il) tk am at_ aa 0 0 (-1) wt wy 0 (nI rm) (nI ud) (nI nu) sd (nI qn) (nI qw) qo (nI qb) (nI qp) qa (nI qi) (nI oc))), (g 24, .inl (cI, 6, .inl (l6 u0 u1 u2 u3 u4 u5))), (g 25, .inl (cI, 6, .inl (l6 v0 v1 v2 v3 v4 v5))), (g 26, .inl (cI, 3200, .inl (fun j => nI (cs j)))), (g 31, .inl (cI, 120, .inl nw)), (g 46, .inl (cI, 9, .inl (fun j => nI (pt j)))), (g 86, .inl (cJ, 1700, .inr (.inl ql))), (g 20, .inl (cI, 4, .inl (l4 (nI l0) (nI l1) (nI dm) (nI l3)))), (g 38, .inl (cI, 90, .inl ws_)), (g 36, .inl (cZ, 900, .inl yw)), (g 37, .inl (cZ, 900, .inl yo)), (g 43, .inl (cJ, 90, .inr (.inl be))), (g 44, .inl (cJ, 90, .inr (.inl bf))), (g 53, .inl (cI, 32, .inl rw_))] H := hP
    have hD : va_D A [(mm, .inr (12, mo g (nI ta) (nI pa) (nI pe) pd (nI pb) pp pf pg pn rt rn (nI cd) sn (nI il) tk am at_ aa 0 0 (-1) wt wy 0 (nI rm) (nI ud) (nI nu) sd (nI qn) (nI qw) qo (nI qb) (nI qp) qa (nI qi) (nI oc))), (g 24, .inl (cI, 6, .inl (l6 u0 u1 u2 u3 u4 u5))), (g 25, .inl (cI, 6, .inl (l6 v0 v1 v2 v3 v4 v5))), (g 26, .inl (cI, 3200, .inl (fun j => nI (cs j)))), (g 31, .inl (cI, 120, .inl nw)), (g 46, .inl (cI, 9, .inl (fun j => nI (pt j)))), (g 86, .inl (cJ, 1700, .inr (.inl ql))), (g 20, .inl (cI, 4, .inl (l4 (nI l0) (nI l1) (nI dm) (nI l3)))), (g 38, .inl (cI, 90, .inl ws_)), (g 36, .inl (cZ, 900, .inl yw)), (g 37, .inl (cZ, 900, .inl yo)), (g 43, .inl (cJ, 90, .inr (.inl be))), (g 44, .inl (cJ, 90, .inr (.inl bf))), (g 53, .inl (cI, 32, .inl rw_))] := hD
    refine lv_if_ne (tgt := 21) hx hb dX12_tells_14 (by decide) (fun c_5 => ?_) (fun c_5 => ?_)
    · have c_5 : ¬ (b_2 = 0) := fun h => c_5 ((neq b_2 0 (by omega) (by omega)).mpr h)
      obtain ⟨kd_6, hkd_6, rfl⟩ := inK 2 (hb1_4.resolve_left (by omega)).2.1 (hb1_4.resolve_left (by omega)).2.2 (by decide)
      refine lv_aload_n hx hb dX12_tells_21 rfl (lv_at hl 0 rfl) ?_
      refine sk_Vv (q0 := 0) (n := 0) (rest := []) (wr := []) ⟨hx, hb, hml, hown, hts⟩ hl.1 (c_m_laysHeard l D cI cJ cC cZ cS mm g ta pa pe pd pb pp pf pg pn rt rn cd sn il tk am at_ aa wt wy rm ud nu sd qn qw qo qb qp qa qi oc u0 u1 u2 u3 u4 u5 v0 v1 v2 v3 v4 v5 cs nw pt ql l0 l1 dm l3 ws_ yw yo be bf rw_ (by omega) (by omega) hp0 hp1 hp2 (by omega) hcs hnw hpt) w_8_105 w_8_107 w_0_105 w_1_14 w_8_108 (by decide +kernel) ⟨⟨(Nat.le_of_ble_eq_true rfl), (Nat.le_of_ble_eq_true rfl)⟩, (Nat.le_of_ble_eq_true rfl), (Nat.le_of_ble_eq_true rfl)⟩ hK hP hD hS hA [0, 1, 2, 3, 4, 5, 6, 7, 8, 9, 10, 11, 12, 13] [] rfl rfl (by decide +kernel) (by decide +kernel) (by decide +kernel) rfl rfl rfl rfl (Nat.le_of_ble_eq_true rfl) dX12_tells_22 (fun u H locs hw hP hD hS => ?_)
      obtain ⟨tk2_7, qp2_8, am2_9, at_2_10, aa2_11, wy2_12, ql2_13, ws_2_14, yw2_15, yo2_16, be2_17, bf2_18, rfl⟩ := hw
      have hP : va_P D vwCl [(mm, .inr (12, mo g (nI ta) (nI pa) (nI pe) pd (nI pb) pp pf pg pn rt rn (nI cd) sn (nI il) tk2_7 am2_9 at_2_10 aa2_11 0 0 (-1) wt wy2_12 0 (nI rm) (nI ud) (nI nu) sd (nI qn) (nI qw) qo (nI qb) (nI qp2_8) qa (nI qi) (nI oc))), (g 24, .inl (cI, 6, .inl (l6 u0 u1 u2 u3 u4 u5))), (g 25, .inl (cI, 6, .inl (l6 v0 v1 v2 v3 v4 v5))), (g 26, .inl (cI, 3200, .inl (fun j => nI (cs j)))), (g 31, .inl (cI, 120, .inl nw)), (g 46, .inl (cI, 9, .inl (fun j => nI (pt j)))), (g 86, .inl (cJ, 1700, .inr (.inl ql2_13))), (g 20, .inl (cI, 4, .inl (l4 (nI l0) (nI l1) (nI dm) (nI l3)))), (g 38, .inl (cI, 90, .inl ws_2_14)), (g 36, .inl (cZ, 900, .inl yw2_15)), (g 37, .inl (cZ, 900, .inl yo2_16)), (g 43, .inl (cJ, 90, .inr (.inl be2_17))), (g 44, .inl (cJ, 90, .inr (.inl bf2_18))), (g 53, .inl (cI, 32, .inl rw_))] H := hP
      have hD : va_D A [(mm, .inr (12, mo g (nI ta) (nI pa) (nI pe) pd (nI pb) pp pf pg pn rt rn (nI cd) sn (nI il) tk2_7 am2_9 at_2_10 aa2_11 0 0 (-1) wt wy2_12 0 (nI rm) (nI ud) (nI nu) sd (nI qn) (nI qw) qo (nI qb) (nI qp2_8) qa (nI qi) (nI oc))), (g 24, .inl (cI, 6, .inl (l6 u0 u1 u2 u3 u4 u5))), (g 25, .inl (cI, 6, .inl (l6 v0 v1 v2 v3 v4 v5))), (g 26, .inl (cI, 3200, .inl (fun j => nI (cs j)))), (g 31, .inl (cI, 120, .inl nw)), (g 46, .inl (cI, 9, .inl (fun j => nI (pt j)))), (g 86, .inl (cJ, 1700, .inr (.inl ql2_13))), (g 20, .inl (cI, 4, .inl (l4 (nI l0) (nI l1) (nI dm) (nI l3)))), (g 38, .inl (cI, 90, .inl ws_2_14)), (g 36, .inl (cZ, 900, .inl yw2_15)), (g 37, .inl (cZ, 900, .inl yo2_16)), (g 43, .inl (cJ, 90, .inr (.inl be2_17))), (g 44, .inl (cJ, 90, .inr (.inl bf2_18))), (g 53, .inl (cI, 32, .inl rw_))] := hD
      refine lv_iconst (v := (-1)) hx hb dX12_tells_25 (by decide) ?_
      refine lv_istore_n (lv' := [(2, .int (-1)), (0, .ref mm), (1, .int (nI kd_6))]) hx hb dX12_tells_26 rfl hl (by decide) rfl (fun ls hl => ?_)
      refine lv_lconst (v := 0) hx hb dX12_tells_27 (by decide) ?_
      refine lv_lstore_n (lv' := [(3, .long 0), (2, .int (-1)), (0, .ref mm), (1, .int (nI kd_6))]) hx hb dX12_tells_28 rfl hl (by decide) rfl (fun ls hl => ?_)
      refine lv_iconst (v := 0) hx hb dX12_tells_29 (by decide) ?_
      refine lv_istore (lv' := [(5, .int 0), (3, .long 0), (2, .int (-1)), (0, .ref mm), (1, .int (nI kd_6))]) hx hb dX12_tells_30 hl (by decide) rfl (fun ls hl => ?_)
      have lp_19 : ∀ (n_20 : Nat) (i : Nat) (fe : Int64) (be_ : Int32) (H : Heap) (locs : List Loc) (ls : Array Slot), dm - i < n_20 → (i ≤ dm) → va_P D vwCl [(mm, .inr (12, mo g (nI ta) (nI pa) (nI pe) pd (nI pb) pp pf pg pn rt rn (nI cd) sn (nI il) tk2_7 am2_9 at_2_10 aa2_11 0 0 (-1) wt wy2_12 0 (nI rm) (nI ud) (nI nu) sd (nI qn) (nI qw) qo (nI qb) (nI qp2_8) qa (nI qi) (nI oc))), (g 24, .inl (cI, 6, .inl (l6 u0 u1 u2 u3 u4 u5))), (g 25, .inl (cI, 6, .inl (l6 v0 v1 v2 v3 v4 v5))), (g 26, .inl (cI, 3200, .inl (fun j => nI (cs j)))), (g 31, .inl (cI, 120, .inl nw)), (g 46, .inl (cI, 9, .inl (fun j => nI (pt j)))), (g 86, .inl (cJ, 1700, .inr (.inl ql2_13))), (g 20, .inl (cI, 4, .inl (l4 (nI l0) (nI l1) (nI dm) (nI l3)))), (g 38, .inl (cI, 90, .inl ws_2_14)), (g 36, .inl (cZ, 900, .inl yw2_15)), (g 37, .inl (cZ, 900, .inl yo2_16)), (g 43, .inl (cJ, 90, .inr (.inl be2_17))), (g 44, .inl (cJ, 90, .inr (.inl bf2_18))), (g 53, .inl (cI, 32, .inl rw_))] H → va_D A [(mm, .inr (12, mo g (nI ta) (nI pa) (nI pe) pd (nI pb) pp pf pg pn rt rn (nI cd) sn (nI il) tk2_7 am2_9 at_2_10 aa2_11 0 0 (-1) wt wy2_12 0 (nI rm) (nI ud) (nI nu) sd (nI qn) (nI qw) qo (nI qb) (nI qp2_8) qa (nI qi) (nI oc))), (g 24, .inl (cI, 6, .inl (l6 u0 u1 u2 u3 u4 u5))), (g 25, .inl (cI, 6, .inl (l6 v0 v1 v2 v3 v4 v5))), (g 26, .inl (cI, 3200, .inl (fun j => nI (cs j)))), (g 31, .inl (cI, 120, .inl nw)), (g 46, .inl (cI, 9, .inl (fun j => nI (pt j)))), (g 86, .inl (cJ, 1700, .inr (.inl ql2_13))), (g 20, .inl (cI, 4, .inl (l4 (nI l0) (nI l1) (nI dm) (nI l3)))), (g 38, .inl (cI, 90, .inl ws_2_14)), (g 36, .inl (cZ, 900, .inl yw2_15)), (g 37, .inl (cZ, 900, .inl yo2_16)), (g 43, .inl (cJ, 90, .inr (.inl be2_17))), (g 44, .inl (cJ, 90, .inr (.inl bf2_18))), (g 53, .inl (cI, 32, .inl rw_))] → va_S A s.heap H locs → lv_has ls 11 [(5, .int (nI i)), (3, .long fe), (2, .int be_), (0, .ref mm), (1, .int (nI kd_6))] → W p l e { frames := 6, cells := 0, slots := 0, locals := 142 } s m ([.ref mm, .int (nI kd_6)] : List Value).toArray below meth c H locs 0 0 (MQ below (skL D (skT cI cJ cC cZ cS) (fun (r : Int64) (u : va_W) => ∃ (tk2 : Int32), ∃ (qp2 : Nat), ∃ (am2 : Int32), ∃ (at_2 : Int32), ∃ (aa2 : Int32), ∃ (wy2 : Int64), ∃ (ql2 : Nat → Int64), ∃ (ws_2 : Nat → Int32), ∃ (yw2 : Nat → Int32), ∃ (yo2 : Nat → Int32), ∃ (be2 : Nat → Int64), ∃ (bf2 : Nat → Int64), u = [(mm, .inr (12, mo g (nI ta) (nI pa) (nI pe) pd (nI pb) pp pf pg pn rt rn (nI cd) sn (nI il) tk2 am2 at_2 aa2 0 0 (-1) wt wy2 0 (nI rm) (nI ud) (nI nu) sd (nI qn) (nI qw) qo (nI qb) (nI qp2) qa (nI qi) (nI oc))), (g 24, .inl (cI, 6, .inl (l6 u0 u1 u2 u3 u4 u5))), (g 25, .inl (cI, 6, .inl (l6 v0 v1 v2 v3 v4 v5))), (g 26, .inl (cI, 3200, .inl (fun j => nI (cs j)))), (g 31, .inl (cI, 120, .inl nw)), (g 46, .inl (cI, 9, .inl (fun j => nI (pt j)))), (g 86, .inl (cJ, 1700, .inr (.inl ql2))), (g 20, .inl (cI, 4, .inl (l4 (nI l0) (nI l1) (nI dm) (nI l3)))), (g 38, .inl (cI, 90, .inl ws_2)), (g 36, .inl (cZ, 900, .inl yw2)), (g 37, .inl (cZ, 900, .inl yo2)), (g 43, .inl (cJ, 90, .inr (.inl be2))), (g 44, .inl (cJ, 90, .inr (.inl bf2))), (g 53, .inl (cI, 32, .inl rw_))]) A) ([.ref mm, .int (nI kd_6)] : List Value).toArray s 0 0 A) (F0 m 32 ls []) := by
        intro n_20
        induction n_20 with
        | zero => intro i fe be_ H locs ls hm; exact absurd hm (Nat.not_lt_zero _)
        | succ n_20 ih_lp_19 =>
          intro i fe be_ H locs ls hm hi hP hD hS hl
          refine lv_iload hx hb dX12_tells_32 (lv_at hl 0 rfl) ?_
          refine lv_aload_n hx hb dX12_tells_34 rfl (lv_at hl 3 rfl) ?_
          refine sk_Vi (q0 := 0) (n := 0) (rest := [.int (nI i)]) (wr := [(g 24, .inl (cI, 6, .inl (l6 u0 u1 u2 u3 u4 u5))), (g 25, .inl (cI, 6, .inl (l6 v0 v1 v2 v3 v4 v5))), (g 26, .inl (cI, 3200, .inl (fun j => nI (cs j)))), (g 31, .inl (cI, 120, .inl nw)), (g 46, .inl (cI, 9, .inl (fun j => nI (pt j)))), (g 86, .inl (cJ, 1700, .inr (.inl ql2_13))), (g 38, .inl (cI, 90, .inl ws_2_14)), (g 36, .inl (cZ, 900, .inl yw2_15)), (g 37, .inl (cZ, 900, .inl yo2_16)), (g 43, .inl (cJ, 90, .inr (.inl be2_17))), (g 44, .inl (cJ, 90, .inr (.inl bf2_18))), (g 53, .inl (cI, 32, .inl rw_))]) ⟨hx, hb, hml, hown, hts⟩ hl.1 (c_m_dayMany l D cI cJ cC cZ cS mm g ta pa pe pd pb pp pf pg pn rt rn cd sn il tk2_7 am2_9 at_2_10 aa2_11 0 0 (-1) wt wy2_12 0 rm ud nu sd qn qw qo qb qp2_8 qa qi oc l0 l1 dm l3) w_7_98 w_7_100 w_0_69 w_1_14 w_7_101 (by decide +kernel) ⟨⟨(Nat.le_of_ble_eq_true rfl), (Nat.le_of_ble_eq_true rfl)⟩, (Nat.le_of_ble_eq_true rfl), (Nat.le_of_ble_eq_true rfl)⟩ hK hP hD hS hA [0, 7] [1, 2, 3, 4, 5, 6, 8, 9, 10, 11, 12, 13] rfl rfl (by decide +kernel) (by decide +kernel) (by decide +kernel) rfl rfl rfl rfl (Nat.le_of_ble_eq_true rfl) dX12_tells_35 (fun r_21 u H locs hw hP hD hS => ?_)
          obtain ⟨rfl, rfl⟩ := hw
          have hP : va_P D vwCl [(g 24, .inl (cI, 6, .inl (l6 u0 u1 u2 u3 u4 u5))), (g 25, .inl (cI, 6, .inl (l6 v0 v1 v2 v3 v4 v5))), (g 26, .inl (cI, 3200, .inl (fun j => nI (cs j)))), (g 31, .inl (cI, 120, .inl nw)), (g 46, .inl (cI, 9, .inl (fun j => nI (pt j)))), (g 86, .inl (cJ, 1700, .inr (.inl ql2_13))), (g 38, .inl (cI, 90, .inl ws_2_14)), (g 36, .inl (cZ, 900, .inl yw2_15)), (g 37, .inl (cZ, 900, .inl yo2_16)), (g 43, .inl (cJ, 90, .inr (.inl be2_17))), (g 44, .inl (cJ, 90, .inr (.inl bf2_18))), (g 53, .inl (cI, 32, .inl rw_)), (mm, .inr (12, mo g (nI ta) (nI pa) (nI pe) pd (nI pb) pp pf pg pn rt rn (nI cd) sn (nI il) tk2_7 am2_9 at_2_10 aa2_11 0 0 (-1) wt wy2_12 0 (nI rm) (nI ud) (nI nu) sd (nI qn) (nI qw) qo (nI qb) (nI qp2_8) qa (nI qi) (nI oc))), (g 20, .inl (cI, 4, .inl (l4 (nI l0) (nI l1) (nI dm) (nI l3))))] H := hP
          have hD : va_D A [(g 24, .inl (cI, 6, .inl (l6 u0 u1 u2 u3 u4 u5))), (g 25, .inl (cI, 6, .inl (l6 v0 v1 v2 v3 v4 v5))), (g 26, .inl (cI, 3200, .inl (fun j => nI (cs j)))), (g 31, .inl (cI, 120, .inl nw)), (g 46, .inl (cI, 9, .inl (fun j => nI (pt j)))), (g 86, .inl (cJ, 1700, .inr (.inl ql2_13))), (g 38, .inl (cI, 90, .inl ws_2_14)), (g 36, .inl (cZ, 900, .inl yw2_15)), (g 37, .inl (cZ, 900, .inl yo2_16)), (g 43, .inl (cJ, 90, .inr (.inl be2_17))), (g 44, .inl (cJ, 90, .inr (.inl bf2_18))), (g 53, .inl (cI, 32, .inl rw_)), (mm, .inr (12, mo g (nI ta) (nI pa) (nI pe) pd (nI pb) pp pf pg pn rt rn (nI cd) sn (nI il) tk2_7 am2_9 at_2_10 aa2_11 0 0 (-1) wt wy2_12 0 (nI rm) (nI ud) (nI nu) sd (nI qn) (nI qw) qo (nI qb) (nI qp2_8) qa (nI qi) (nI oc))), (g 20, .inl (cI, 4, .inl (l4 (nI l0) (nI l1) (nI dm) (nI l3))))] := hD
          refine lv_icmp_ge (tgt := 137) hx hb dX12_tells_38 (by decide) (fun c_22 => ?_) (fun c_22 => ?_)
          · have c_22 : dm ≤ i := (nle dm i (by omega) (by omega)).mp c_22
            refine lv_iload_n hx hb dX12_tells_137 rfl (lv_at hl 2 rfl) ?_
            refine lv_iconst (v := (-1)) hx hb dX12_tells_138 (by decide) ?_
            refine lv_icmp_ne (tgt := 148) hx hb dX12_tells_139 (by decide) (fun c_23 => ?_) (fun c_23 => ?_)
            · skip
              refine lv_iload_n hx hb dX12_tells_148 rfl (lv_at hl 4 rfl) ?_
              refine lv_if_ne (tgt := 157) hx hb dX12_tells_149 (by decide) (fun c_24 => ?_) (fun c_24 => ?_)
              · have c_24 : ¬ (kd_6 = 0) := fun h => c_24 ((neq kd_6 0 (by omega) (by omega)).mpr h)
                refine lv_lload_n hx hb dX12_tells_157 rfl (lv_at hl 1 rfl) ?_
                have hP := hP.sub (ws' := [(mm, .inr (12, mo g (nI ta) (nI pa) (nI pe) pd (nI pb) pp pf pg pn rt rn (nI cd) sn (nI il) tk2_7 am2_9 at_2_10 aa2_11 0 0 (-1) wt wy2_12 0 (nI rm) (nI ud) (nI nu) sd (nI qn) (nI qw) qo (nI qb) (nI qp2_8) qa (nI qi) (nI oc))), (g 24, .inl (cI, 6, .inl (l6 u0 u1 u2 u3 u4 u5))), (g 25, .inl (cI, 6, .inl (l6 v0 v1 v2 v3 v4 v5))), (g 26, .inl (cI, 3200, .inl (fun j => nI (cs j)))), (g 31, .inl (cI, 120, .inl nw)), (g 46, .inl (cI, 9, .inl (fun j => nI (pt j)))), (g 86, .inl (cJ, 1700, .inr (.inl ql2_13))), (g 20, .inl (cI, 4, .inl (l4 (nI l0) (nI l1) (nI dm) (nI l3)))), (g 38, .inl (cI, 90, .inl ws_2_14)), (g 36, .inl (cZ, 900, .inl yw2_15)), (g 37, .inl (cZ, 900, .inl yo2_16)), (g 43, .inl (cJ, 90, .inr (.inl be2_17))), (g 44, .inl (cJ, 90, .inr (.inl bf2_18))), (g 53, .inl (cI, 32, .inl rw_))]) [12, 0, 1, 2, 3, 4, 5, 13, 6, 7, 8, 9, 10, 11] rfl
                have hD := hD.sub (ws' := [(mm, .inr (12, mo g (nI ta) (nI pa) (nI pe) pd (nI pb) pp pf pg pn rt rn (nI cd) sn (nI il) tk2_7 am2_9 at_2_10 aa2_11 0 0 (-1) wt wy2_12 0 (nI rm) (nI ud) (nI nu) sd (nI qn) (nI qw) qo (nI qb) (nI qp2_8) qa (nI qi) (nI oc))), (g 24, .inl (cI, 6, .inl (l6 u0 u1 u2 u3 u4 u5))), (g 25, .inl (cI, 6, .inl (l6 v0 v1 v2 v3 v4 v5))), (g 26, .inl (cI, 3200, .inl (fun j => nI (cs j)))), (g 31, .inl (cI, 120, .inl nw)), (g 46, .inl (cI, 9, .inl (fun j => nI (pt j)))), (g 86, .inl (cJ, 1700, .inr (.inl ql2_13))), (g 20, .inl (cI, 4, .inl (l4 (nI l0) (nI l1) (nI dm) (nI l3)))), (g 38, .inl (cI, 90, .inl ws_2_14)), (g 36, .inl (cZ, 900, .inl yw2_15)), (g 37, .inl (cZ, 900, .inl yo2_16)), (g 43, .inl (cJ, 90, .inr (.inl be2_17))), (g 44, .inl (cJ, 90, .inr (.inl bf2_18))), (g 53, .inl (cI, 32, .inl rw_))]) [12, 0, 1, 2, 3, 4, 5, 13, 6, 7, 8, 9, 10, 11] (by decide +kernel) rfl
                exact sk_lret hx hb hr hlocks hK hP hD hS (⟨tk2_7, qp2_8, am2_9, at_2_10, aa2_11, wy2_12, ql2_13, ws_2_14, yw2_15, yo2_16, be2_17, bf2_18, rfl⟩) (Nat.le_of_ble_eq_true rfl) (Nat.le_of_ble_eq_true rfl) dX12_tells_158
              · have c_24 : kd_6 = 0 := (neq kd_6 0 (by omega) (by omega)).mp c_24
                refine lv_iload_n hx hb dX12_tells_152 rfl (lv_at hl 2 rfl) ?_
                refine lv_i2l hx hb dX12_tells_153 rfl ?_
                refine lv_goto (tgt := 158) hx hb dX12_tells_154 (by decide) ?_
                have hP := hP.sub (ws' := [(mm, .inr (12, mo g (nI ta) (nI pa) (nI pe) pd (nI pb) pp pf pg pn rt rn (nI cd) sn (nI il) tk2_7 am2_9 at_2_10 aa2_11 0 0 (-1) wt wy2_12 0 (nI rm) (nI ud) (nI nu) sd (nI qn) (nI qw) qo (nI qb) (nI qp2_8) qa (nI qi) (nI oc))), (g 24, .inl (cI, 6, .inl (l6 u0 u1 u2 u3 u4 u5))), (g 25, .inl (cI, 6, .inl (l6 v0 v1 v2 v3 v4 v5))), (g 26, .inl (cI, 3200, .inl (fun j => nI (cs j)))), (g 31, .inl (cI, 120, .inl nw)), (g 46, .inl (cI, 9, .inl (fun j => nI (pt j)))), (g 86, .inl (cJ, 1700, .inr (.inl ql2_13))), (g 20, .inl (cI, 4, .inl (l4 (nI l0) (nI l1) (nI dm) (nI l3)))), (g 38, .inl (cI, 90, .inl ws_2_14)), (g 36, .inl (cZ, 900, .inl yw2_15)), (g 37, .inl (cZ, 900, .inl yo2_16)), (g 43, .inl (cJ, 90, .inr (.inl be2_17))), (g 44, .inl (cJ, 90, .inr (.inl bf2_18))), (g 53, .inl (cI, 32, .inl rw_))]) [12, 0, 1, 2, 3, 4, 5, 13, 6, 7, 8, 9, 10, 11] rfl
                have hD := hD.sub (ws' := [(mm, .inr (12, mo g (nI ta) (nI pa) (nI pe) pd (nI pb) pp pf pg pn rt rn (nI cd) sn (nI il) tk2_7 am2_9 at_2_10 aa2_11 0 0 (-1) wt wy2_12 0 (nI rm) (nI ud) (nI nu) sd (nI qn) (nI qw) qo (nI qb) (nI qp2_8) qa (nI qi) (nI oc))), (g 24, .inl (cI, 6, .inl (l6 u0 u1 u2 u3 u4 u5))), (g 25, .inl (cI, 6, .inl (l6 v0 v1 v2 v3 v4 v5))), (g 26, .inl (cI, 3200, .inl (fun j => nI (cs j)))), (g 31, .inl (cI, 120, .inl nw)), (g 46, .inl (cI, 9, .inl (fun j => nI (pt j)))), (g 86, .inl (cJ, 1700, .inr (.inl ql2_13))), (g 20, .inl (cI, 4, .inl (l4 (nI l0) (nI l1) (nI dm) (nI l3)))), (g 38, .inl (cI, 90, .inl ws_2_14)), (g 36, .inl (cZ, 900, .inl yw2_15)), (g 37, .inl (cZ, 900, .inl yo2_16)), (g 43, .inl (cJ, 90, .inr (.inl be2_17))), (g 44, .inl (cJ, 90, .inr (.inl bf2_18))), (g 53, .inl (cI, 32, .inl rw_))]) [12, 0, 1, 2, 3, 4, 5, 13, 6, 7, 8, 9, 10, 11] (by decide +kernel) rfl
                exact sk_lret hx hb hr hlocks hK hP hD hS (⟨tk2_7, qp2_8, am2_9, at_2_10, aa2_11, wy2_12, ql2_13, ws_2_14, yw2_15, yo2_16, be2_17, bf2_18, rfl⟩) (Nat.le_of_ble_eq_true rfl) (Nat.le_of_ble_eq_true rfl) dX12_tells_158
            · skip
              refine lv_ldc2 (v := (-1000000000000000)) hx hb hown (hts _ w_7_184) dX12_tells_142 ?_
              refine lv_goto (tgt := 158) hx hb dX12_tells_145 (by decide) ?_
              have hP := hP.sub (ws' := [(mm, .inr (12, mo g (nI ta) (nI pa) (nI pe) pd (nI pb) pp pf pg pn rt rn (nI cd) sn (nI il) tk2_7 am2_9 at_2_10 aa2_11 0 0 (-1) wt wy2_12 0 (nI rm) (nI ud) (nI nu) sd (nI qn) (nI qw) qo (nI qb) (nI qp2_8) qa (nI qi) (nI oc))), (g 24, .inl (cI, 6, .inl (l6 u0 u1 u2 u3 u4 u5))), (g 25, .inl (cI, 6, .inl (l6 v0 v1 v2 v3 v4 v5))), (g 26, .inl (cI, 3200, .inl (fun j => nI (cs j)))), (g 31, .inl (cI, 120, .inl nw)), (g 46, .inl (cI, 9, .inl (fun j => nI (pt j)))), (g 86, .inl (cJ, 1700, .inr (.inl ql2_13))), (g 20, .inl (cI, 4, .inl (l4 (nI l0) (nI l1) (nI dm) (nI l3)))), (g 38, .inl (cI, 90, .inl ws_2_14)), (g 36, .inl (cZ, 900, .inl yw2_15)), (g 37, .inl (cZ, 900, .inl yo2_16)), (g 43, .inl (cJ, 90, .inr (.inl be2_17))), (g 44, .inl (cJ, 90, .inr (.inl bf2_18))), (g 53, .inl (cI, 32, .inl rw_))]) [12, 0, 1, 2, 3, 4, 5, 13, 6, 7, 8, 9, 10, 11] rfl
              have hD := hD.sub (ws' := [(mm, .inr (12, mo g (nI ta) (nI pa) (nI pe) pd (nI pb) pp pf pg pn rt rn (nI cd) sn (nI il) tk2_7 am2_9 at_2_10 aa2_11 0 0 (-1) wt wy2_12 0 (nI rm) (nI ud) (nI nu) sd (nI qn) (nI qw) qo (nI qb) (nI qp2_8) qa (nI qi) (nI oc))), (g 24, .inl (cI, 6, .inl (l6 u0 u1 u2 u3 u4 u5))), (g 25, .inl (cI, 6, .inl (l6 v0 v1 v2 v3 v4 v5))), (g 26, .inl (cI, 3200, .inl (fun j => nI (cs j)))), (g 31, .inl (cI, 120, .inl nw)), (g 46, .inl (cI, 9, .inl (fun j => nI (pt j)))), (g 86, .inl (cJ, 1700, .inr (.inl ql2_13))), (g 20, .inl (cI, 4, .inl (l4 (nI l0) (nI l1) (nI dm) (nI l3)))), (g 38, .inl (cI, 90, .inl ws_2_14)), (g 36, .inl (cZ, 900, .inl yw2_15)), (g 37, .inl (cZ, 900, .inl yo2_16)), (g 43, .inl (cJ, 90, .inr (.inl be2_17))), (g 44, .inl (cJ, 90, .inr (.inl bf2_18))), (g 53, .inl (cI, 32, .inl rw_))]) [12, 0, 1, 2, 3, 4, 5, 13, 6, 7, 8, 9, 10, 11] (by decide +kernel) rfl
              exact sk_lret hx hb hr hlocks hK hP hD hS (⟨tk2_7, qp2_8, am2_9, at_2_10, aa2_11, wy2_12, ql2_13, ws_2_14, yw2_15, yo2_16, be2_17, bf2_18, rfl⟩) (Nat.le_of_ble_eq_true rfl) (Nat.le_of_ble_eq_true rfl) dX12_tells_158
          · have c_22 : ¬ (dm ≤ i) := fun h => c_22 ((nle dm i (by omega) (by omega)).mpr h)
            refine lv_aload_n hx hb dX12_tells_41 rfl (lv_at hl 3 rfl) ?_
            refine sk_get (v := .long wy2_12) (C := RX12) (T := TX12) (N := 92) hx hb hts inlX12 hown hK hP 12 rfl rfl 45 (by decide) w_5_200 rfl dX12_tells_42 ?_
            refine lv_lconst (v := 0) hx hb dX12_tells_45 (by decide) ?_
            refine W.lcmp hx hb dX12_tells_46 ?_
            refine lv_if_le (tgt := 137) hx hb dX12_tells_47 (by decide) (fun c_25 => ?_) (fun c_25 => ?_)
            · skip
              refine lv_iload_n hx hb dX12_tells_137 rfl (lv_at hl 2 rfl) ?_
              refine lv_iconst (v := (-1)) hx hb dX12_tells_138 (by decide) ?_
              refine lv_icmp_ne (tgt := 148) hx hb dX12_tells_139 (by decide) (fun c_26 => ?_) (fun c_26 => ?_)
              · skip
                refine lv_iload_n hx hb dX12_tells_148 rfl (lv_at hl 4 rfl) ?_
                refine lv_if_ne (tgt := 157) hx hb dX12_tells_149 (by decide) (fun c_27 => ?_) (fun c_27 => ?_)
                · have c_27 : ¬ (kd_6 = 0) := fun h => c_27 ((neq kd_6 0 (by omega) (by omega)).mpr h)
                  refine lv_lload_n hx hb dX12_tells_157 rfl (lv_at hl 1 rfl) ?_
                  have hP := hP.sub (ws' := [(mm, .inr (12, mo g (nI ta) (nI pa) (nI pe) pd (nI pb) pp pf pg pn rt rn (nI cd) sn (nI il) tk2_7 am2_9 at_2_10 aa2_11 0 0 (-1) wt wy2_12 0 (nI rm) (nI ud) (nI nu) sd (nI qn) (nI qw) qo (nI qb) (nI qp2_8) qa (nI qi) (nI oc))), (g 24, .inl (cI, 6, .inl (l6 u0 u1 u2 u3 u4 u5))), (g 25, .inl (cI, 6, .inl (l6 v0 v1 v2 v3 v4 v5))), (g 26, .inl (cI, 3200, .inl (fun j => nI (cs j)))), (g 31, .inl (cI, 120, .inl nw)), (g 46, .inl (cI, 9, .inl (fun j => nI (pt j)))), (g 86, .inl (cJ, 1700, .inr (.inl ql2_13))), (g 20, .inl (cI, 4, .inl (l4 (nI l0) (nI l1) (nI dm) (nI l3)))), (g 38, .inl (cI, 90, .inl ws_2_14)), (g 36, .inl (cZ, 900, .inl yw2_15)), (g 37, .inl (cZ, 900, .inl yo2_16)), (g 43, .inl (cJ, 90, .inr (.inl be2_17))), (g 44, .inl (cJ, 90, .inr (.inl bf2_18))), (g 53, .inl (cI, 32, .inl rw_))]) [12, 0, 1, 2, 3, 4, 5, 13, 6, 7, 8, 9, 10, 11] rfl
                  have hD := hD.sub (ws' := [(mm, .inr (12, mo g (nI ta) (nI pa) (nI pe) pd (nI pb) pp pf pg pn rt rn (nI cd) sn (nI il) tk2_7 am2_9 at_2_10 aa2_11 0 0 (-1) wt wy2_12 0 (nI rm) (nI ud) (nI nu) sd (nI qn) (nI qw) qo (nI qb) (nI qp2_8) qa (nI qi) (nI oc))), (g 24, .inl (cI, 6, .inl (l6 u0 u1 u2 u3 u4 u5))), (g 25, .inl (cI, 6, .inl (l6 v0 v1 v2 v3 v4 v5))), (g 26, .inl (cI, 3200, .inl (fun j => nI (cs j)))), (g 31, .inl (cI, 120, .inl nw)), (g 46, .inl (cI, 9, .inl (fun j => nI (pt j)))), (g 86, .inl (cJ, 1700, .inr (.inl ql2_13))), (g 20, .inl (cI, 4, .inl (l4 (nI l0) (nI l1) (nI dm) (nI l3)))), (g 38, .inl (cI, 90, .inl ws_2_14)), (g 36, .inl (cZ, 900, .inl yw2_15)), (g 37, .inl (cZ, 900, .inl yo2_16)), (g 43, .inl (cJ, 90, .inr (.inl be2_17))), (g 44, .inl (cJ, 90, .inr (.inl bf2_18))), (g 53, .inl (cI, 32, .inl rw_))]) [12, 0, 1, 2, 3, 4, 5, 13, 6, 7, 8, 9, 10, 11] (by decide +kernel) rfl
                  exact sk_lret hx hb hr hlocks hK hP hD hS (⟨tk2_7, qp2_8, am2_9, at_2_10, aa2_11, wy2_12, ql2_13, ws_2_14, yw2_15, yo2_16, be2_17, bf2_18, rfl⟩) (Nat.le_of_ble_eq_true rfl) (Nat.le_of_ble_eq_true rfl) dX12_tells_158
                · have c_27 : kd_6 = 0 := (neq kd_6 0 (by omega) (by omega)).mp c_27
                  refine lv_iload_n hx hb dX12_tells_152 rfl (lv_at hl 2 rfl) ?_
                  refine lv_i2l hx hb dX12_tells_153 rfl ?_
                  refine lv_goto (tgt := 158) hx hb dX12_tells_154 (by decide) ?_
                  have hP := hP.sub (ws' := [(mm, .inr (12, mo g (nI ta) (nI pa) (nI pe) pd (nI pb) pp pf pg pn rt rn (nI cd) sn (nI il) tk2_7 am2_9 at_2_10 aa2_11 0 0 (-1) wt wy2_12 0 (nI rm) (nI ud) (nI nu) sd (nI qn) (nI qw) qo (nI qb) (nI qp2_8) qa (nI qi) (nI oc))), (g 24, .inl (cI, 6, .inl (l6 u0 u1 u2 u3 u4 u5))), (g 25, .inl (cI, 6, .inl (l6 v0 v1 v2 v3 v4 v5))), (g 26, .inl (cI, 3200, .inl (fun j => nI (cs j)))), (g 31, .inl (cI, 120, .inl nw)), (g 46, .inl (cI, 9, .inl (fun j => nI (pt j)))), (g 86, .inl (cJ, 1700, .inr (.inl ql2_13))), (g 20, .inl (cI, 4, .inl (l4 (nI l0) (nI l1) (nI dm) (nI l3)))), (g 38, .inl (cI, 90, .inl ws_2_14)), (g 36, .inl (cZ, 900, .inl yw2_15)), (g 37, .inl (cZ, 900, .inl yo2_16)), (g 43, .inl (cJ, 90, .inr (.inl be2_17))), (g 44, .inl (cJ, 90, .inr (.inl bf2_18))), (g 53, .inl (cI, 32, .inl rw_))]) [12, 0, 1, 2, 3, 4, 5, 13, 6, 7, 8, 9, 10, 11] rfl
                  have hD := hD.sub (ws' := [(mm, .inr (12, mo g (nI ta) (nI pa) (nI pe) pd (nI pb) pp pf pg pn rt rn (nI cd) sn (nI il) tk2_7 am2_9 at_2_10 aa2_11 0 0 (-1) wt wy2_12 0 (nI rm) (nI ud) (nI nu) sd (nI qn) (nI qw) qo (nI qb) (nI qp2_8) qa (nI qi) (nI oc))), (g 24, .inl (cI, 6, .inl (l6 u0 u1 u2 u3 u4 u5))), (g 25, .inl (cI, 6, .inl (l6 v0 v1 v2 v3 v4 v5))), (g 26, .inl (cI, 3200, .inl (fun j => nI (cs j)))), (g 31, .inl (cI, 120, .inl nw)), (g 46, .inl (cI, 9, .inl (fun j => nI (pt j)))), (g 86, .inl (cJ, 1700, .inr (.inl ql2_13))), (g 20, .inl (cI, 4, .inl (l4 (nI l0) (nI l1) (nI dm) (nI l3)))), (g 38, .inl (cI, 90, .inl ws_2_14)), (g 36, .inl (cZ, 900, .inl yw2_15)), (g 37, .inl (cZ, 900, .inl yo2_16)), (g 43, .inl (cJ, 90, .inr (.inl be2_17))), (g 44, .inl (cJ, 90, .inr (.inl bf2_18))), (g 53, .inl (cI, 32, .inl rw_))]) [12, 0, 1, 2, 3, 4, 5, 13, 6, 7, 8, 9, 10, 11] (by decide +kernel) rfl
                  exact sk_lret hx hb hr hlocks hK hP hD hS (⟨tk2_7, qp2_8, am2_9, at_2_10, aa2_11, wy2_12, ql2_13, ws_2_14, yw2_15, yo2_16, be2_17, bf2_18, rfl⟩) (Nat.le_of_ble_eq_true rfl) (Nat.le_of_ble_eq_true rfl) dX12_tells_158
              · skip
                refine lv_ldc2 (v := (-1000000000000000)) hx hb hown (hts _ w_7_184) dX12_tells_142 ?_
                refine lv_goto (tgt := 158) hx hb dX12_tells_145 (by decide) ?_
                have hP := hP.sub (ws' := [(mm, .inr (12, mo g (nI ta) (nI pa) (nI pe) pd (nI pb) pp pf pg pn rt rn (nI cd) sn (nI il) tk2_7 am2_9 at_2_10 aa2_11 0 0 (-1) wt wy2_12 0 (nI rm) (nI ud) (nI nu) sd (nI qn) (nI qw) qo (nI qb) (nI qp2_8) qa (nI qi) (nI oc))), (g 24, .inl (cI, 6, .inl (l6 u0 u1 u2 u3 u4 u5))), (g 25, .inl (cI, 6, .inl (l6 v0 v1 v2 v3 v4 v5))), (g 26, .inl (cI, 3200, .inl (fun j => nI (cs j)))), (g 31, .inl (cI, 120, .inl nw)), (g 46, .inl (cI, 9, .inl (fun j => nI (pt j)))), (g 86, .inl (cJ, 1700, .inr (.inl ql2_13))), (g 20, .inl (cI, 4, .inl (l4 (nI l0) (nI l1) (nI dm) (nI l3)))), (g 38, .inl (cI, 90, .inl ws_2_14)), (g 36, .inl (cZ, 900, .inl yw2_15)), (g 37, .inl (cZ, 900, .inl yo2_16)), (g 43, .inl (cJ, 90, .inr (.inl be2_17))), (g 44, .inl (cJ, 90, .inr (.inl bf2_18))), (g 53, .inl (cI, 32, .inl rw_))]) [12, 0, 1, 2, 3, 4, 5, 13, 6, 7, 8, 9, 10, 11] rfl
                have hD := hD.sub (ws' := [(mm, .inr (12, mo g (nI ta) (nI pa) (nI pe) pd (nI pb) pp pf pg pn rt rn (nI cd) sn (nI il) tk2_7 am2_9 at_2_10 aa2_11 0 0 (-1) wt wy2_12 0 (nI rm) (nI ud) (nI nu) sd (nI qn) (nI qw) qo (nI qb) (nI qp2_8) qa (nI qi) (nI oc))), (g 24, .inl (cI, 6, .inl (l6 u0 u1 u2 u3 u4 u5))), (g 25, .inl (cI, 6, .inl (l6 v0 v1 v2 v3 v4 v5))), (g 26, .inl (cI, 3200, .inl (fun j => nI (cs j)))), (g 31, .inl (cI, 120, .inl nw)), (g 46, .inl (cI, 9, .inl (fun j => nI (pt j)))), (g 86, .inl (cJ, 1700, .inr (.inl ql2_13))), (g 20, .inl (cI, 4, .inl (l4 (nI l0) (nI l1) (nI dm) (nI l3)))), (g 38, .inl (cI, 90, .inl ws_2_14)), (g 36, .inl (cZ, 900, .inl yw2_15)), (g 37, .inl (cZ, 900, .inl yo2_16)), (g 43, .inl (cJ, 90, .inr (.inl be2_17))), (g 44, .inl (cJ, 90, .inr (.inl bf2_18))), (g 53, .inl (cI, 32, .inl rw_))]) [12, 0, 1, 2, 3, 4, 5, 13, 6, 7, 8, 9, 10, 11] (by decide +kernel) rfl
                exact sk_lret hx hb hr hlocks hK hP hD hS (⟨tk2_7, qp2_8, am2_9, at_2_10, aa2_11, wy2_12, ql2_13, ws_2_14, yw2_15, yo2_16, be2_17, bf2_18, rfl⟩) (Nat.le_of_ble_eq_true rfl) (Nat.le_of_ble_eq_true rfl) dX12_tells_158
            · skip
              refine lv_lconst (v := 0) hx hb dX12_tells_50 (by decide) ?_
              refine lv_lstore (lv' := [(6, .long 0), (5, .int (nI i)), (3, .long fe), (2, .int be_), (0, .ref mm), (1, .int (nI kd_6))]) hx hb dX12_tells_51 hl (by decide) rfl (fun ls hl => ?_)
              refine lv_iconst (v := 0) hx hb dX12_tells_53 (by decide) ?_
              refine lv_istore (lv' := [(8, .int 0), (6, .long 0), (5, .int (nI i)), (3, .long fe), (2, .int be_), (0, .ref mm), (1, .int (nI kd_6))]) hx hb dX12_tells_54 hl (by decide) rfl (fun ls hl => ?_)
              have lp_28 : ∀ (n_29 : Nat) (jm : Nat) (mo_ : Int64) (H : Heap) (locs : List Loc) (ls : Array Slot), 10 - jm < n_29 → (jm ≤ 10) → va_P D vwCl [(g 24, .inl (cI, 6, .inl (l6 u0 u1 u2 u3 u4 u5))), (g 25, .inl (cI, 6, .inl (l6 v0 v1 v2 v3 v4 v5))), (g 26, .inl (cI, 3200, .inl (fun j => nI (cs j)))), (g 31, .inl (cI, 120, .inl nw)), (g 46, .inl (cI, 9, .inl (fun j => nI (pt j)))), (g 86, .inl (cJ, 1700, .inr (.inl ql2_13))), (g 38, .inl (cI, 90, .inl ws_2_14)), (g 36, .inl (cZ, 900, .inl yw2_15)), (g 37, .inl (cZ, 900, .inl yo2_16)), (g 43, .inl (cJ, 90, .inr (.inl be2_17))), (g 44, .inl (cJ, 90, .inr (.inl bf2_18))), (g 53, .inl (cI, 32, .inl rw_)), (mm, .inr (12, mo g (nI ta) (nI pa) (nI pe) pd (nI pb) pp pf pg pn rt rn (nI cd) sn (nI il) tk2_7 am2_9 at_2_10 aa2_11 0 0 (-1) wt wy2_12 0 (nI rm) (nI ud) (nI nu) sd (nI qn) (nI qw) qo (nI qb) (nI qp2_8) qa (nI qi) (nI oc))), (g 20, .inl (cI, 4, .inl (l4 (nI l0) (nI l1) (nI dm) (nI l3))))] H → va_D A [(g 24, .inl (cI, 6, .inl (l6 u0 u1 u2 u3 u4 u5))), (g 25, .inl (cI, 6, .inl (l6 v0 v1 v2 v3 v4 v5))), (g 26, .inl (cI, 3200, .inl (fun j => nI (cs j)))), (g 31, .inl (cI, 120, .inl nw)), (g 46, .inl (cI, 9, .inl (fun j => nI (pt j)))), (g 86, .inl (cJ, 1700, .inr (.inl ql2_13))), (g 38, .inl (cI, 90, .inl ws_2_14)), (g 36, .inl (cZ, 900, .inl yw2_15)), (g 37, .inl (cZ, 900, .inl yo2_16)), (g 43, .inl (cJ, 90, .inr (.inl be2_17))), (g 44, .inl (cJ, 90, .inr (.inl bf2_18))), (g 53, .inl (cI, 32, .inl rw_)), (mm, .inr (12, mo g (nI ta) (nI pa) (nI pe) pd (nI pb) pp pf pg pn rt rn (nI cd) sn (nI il) tk2_7 am2_9 at_2_10 aa2_11 0 0 (-1) wt wy2_12 0 (nI rm) (nI ud) (nI nu) sd (nI qn) (nI qw) qo (nI qb) (nI qp2_8) qa (nI qi) (nI oc))), (g 20, .inl (cI, 4, .inl (l4 (nI l0) (nI l1) (nI dm) (nI l3))))] → va_S A s.heap H locs → lv_has ls 11 [(8, .int (nI jm)), (6, .long mo_), (5, .int (nI i)), (3, .long fe), (2, .int be_), (0, .ref mm), (1, .int (nI kd_6))] → W p l e { frames := 6, cells := 0, slots := 0, locals := 142 } s m ([.ref mm, .int (nI kd_6)] : List Value).toArray below meth c H locs 0 0 (MQ below (skL D (skT cI cJ cC cZ cS) (fun (r : Int64) (u : va_W) => ∃ (tk2 : Int32), ∃ (qp2 : Nat), ∃ (am2 : Int32), ∃ (at_2 : Int32), ∃ (aa2 : Int32), ∃ (wy2 : Int64), ∃ (ql2 : Nat → Int64), ∃ (ws_2 : Nat → Int32), ∃ (yw2 : Nat → Int32), ∃ (yo2 : Nat → Int32), ∃ (be2 : Nat → Int64), ∃ (bf2 : Nat → Int64), u = [(mm, .inr (12, mo g (nI ta) (nI pa) (nI pe) pd (nI pb) pp pf pg pn rt rn (nI cd) sn (nI il) tk2 am2 at_2 aa2 0 0 (-1) wt wy2 0 (nI rm) (nI ud) (nI nu) sd (nI qn) (nI qw) qo (nI qb) (nI qp2) qa (nI qi) (nI oc))), (g 24, .inl (cI, 6, .inl (l6 u0 u1 u2 u3 u4 u5))), (g 25, .inl (cI, 6, .inl (l6 v0 v1 v2 v3 v4 v5))), (g 26, .inl (cI, 3200, .inl (fun j => nI (cs j)))), (g 31, .inl (cI, 120, .inl nw)), (g 46, .inl (cI, 9, .inl (fun j => nI (pt j)))), (g 86, .inl (cJ, 1700, .inr (.inl ql2))), (g 20, .inl (cI, 4, .inl (l4 (nI l0) (nI l1) (nI dm) (nI l3)))), (g 38, .inl (cI, 90, .inl ws_2)), (g 36, .inl (cZ, 900, .inl yw2)), (g 37, .inl (cZ, 900, .inl yo2)), (g 43, .inl (cJ, 90, .inr (.inl be2))), (g 44, .inl (cJ, 90, .inr (.inl bf2))), (g 53, .inl (cI, 32, .inl rw_))]) A) ([.ref mm, .int (nI kd_6)] : List Value).toArray s 0 0 A) (F0 m 56 ls []) := by
                intro n_29
                induction n_29 with
                | zero => intro jm mo_ H locs ls hm; exact absurd hm (Nat.not_lt_zero _)
                | succ n_29 ih_lp_28 =>
                  intro jm mo_ H locs ls hm hjm hP hD hS hl
                  refine lv_iload hx hb dX12_tells_56 (lv_at hl 0 rfl) ?_
                  refine lv_bipush (v := 10) hx hb dX12_tells_58 (by decide) ?_
                  refine lv_icmp_ge (tgt := 110) hx hb dX12_tells_60 (by decide) (fun c_30 => ?_) (fun c_30 => ?_)
                  · have c_30 : 10 ≤ jm := (nle 10 jm (by omega) (by omega)).mp c_30
                    refine lv_iload_n hx hb dX12_tells_110 rfl (lv_at hl 4 rfl) ?_
                    refine lv_iconst (v := (-1)) hx hb dX12_tells_111 (by decide) ?_
                    refine lv_icmp_eq (tgt := 125) hx hb dX12_tells_112 (by decide) (fun c_31 => ?_) (fun c_31 => ?_)
                    · skip
                      refine lv_iload hx hb dX12_tells_125 (lv_at hl 2 rfl) ?_
                      refine lv_istore_n (lv' := [(2, .int (nI i)), (8, .int (nI jm)), (6, .long mo_), (5, .int (nI i)), (3, .long fe), (0, .ref mm), (1, .int (nI kd_6))]) hx hb dX12_tells_127 rfl hl (by decide) rfl (fun ls hl => ?_)
                      refine lv_lload hx hb dX12_tells_128 (lv_at hl 2 rfl) ?_
                      refine lv_lstore_n (lv' := [(3, .long mo_), (2, .int (nI i)), (8, .int (nI jm)), (6, .long mo_), (5, .int (nI i)), (0, .ref mm), (1, .int (nI kd_6))]) hx hb dX12_tells_130 rfl hl (by decide) rfl (fun ls hl => ?_)
                      refine lv_iinc (v := nI (i + 1)) (lv' := [(5, .int (nI (i + 1))), (3, .long mo_), (2, .int (nI i)), (8, .int (nI jm)), (6, .long mo_), (0, .ref mm), (1, .int (nI kd_6))]) hx hb dX12_tells_131 hl (k := 4) rfl (ninc i 1 (by decide)) (by decide) rfl (fun ls hl => ?_)
                      refine lv_goto (tgt := 32) hx hb dX12_tells_134 (by decide) ?_
                      have hP := hP.sub (ws' := [(mm, .inr (12, mo g (nI ta) (nI pa) (nI pe) pd (nI pb) pp pf pg pn rt rn (nI cd) sn (nI il) tk2_7 am2_9 at_2_10 aa2_11 0 0 (-1) wt wy2_12 0 (nI rm) (nI ud) (nI nu) sd (nI qn) (nI qw) qo (nI qb) (nI qp2_8) qa (nI qi) (nI oc))), (g 24, .inl (cI, 6, .inl (l6 u0 u1 u2 u3 u4 u5))), (g 25, .inl (cI, 6, .inl (l6 v0 v1 v2 v3 v4 v5))), (g 26, .inl (cI, 3200, .inl (fun j => nI (cs j)))), (g 31, .inl (cI, 120, .inl nw)), (g 46, .inl (cI, 9, .inl (fun j => nI (pt j)))), (g 86, .inl (cJ, 1700, .inr (.inl ql2_13))), (g 20, .inl (cI, 4, .inl (l4 (nI l0) (nI l1) (nI dm) (nI l3)))), (g 38, .inl (cI, 90, .inl ws_2_14)), (g 36, .inl (cZ, 900, .inl yw2_15)), (g 37, .inl (cZ, 900, .inl yo2_16)), (g 43, .inl (cJ, 90, .inr (.inl be2_17))), (g 44, .inl (cJ, 90, .inr (.inl bf2_18))), (g 53, .inl (cI, 32, .inl rw_))]) [12, 0, 1, 2, 3, 4, 5, 13, 6, 7, 8, 9, 10, 11] rfl
                      have hD := hD.sub (ws' := [(mm, .inr (12, mo g (nI ta) (nI pa) (nI pe) pd (nI pb) pp pf pg pn rt rn (nI cd) sn (nI il) tk2_7 am2_9 at_2_10 aa2_11 0 0 (-1) wt wy2_12 0 (nI rm) (nI ud) (nI nu) sd (nI qn) (nI qw) qo (nI qb) (nI qp2_8) qa (nI qi) (nI oc))), (g 24, .inl (cI, 6, .inl (l6 u0 u1 u2 u3 u4 u5))), (g 25, .inl (cI, 6, .inl (l6 v0 v1 v2 v3 v4 v5))), (g 26, .inl (cI, 3200, .inl (fun j => nI (cs j)))), (g 31, .inl (cI, 120, .inl nw)), (g 46, .inl (cI, 9, .inl (fun j => nI (pt j)))), (g 86, .inl (cJ, 1700, .inr (.inl ql2_13))), (g 20, .inl (cI, 4, .inl (l4 (nI l0) (nI l1) (nI dm) (nI l3)))), (g 38, .inl (cI, 90, .inl ws_2_14)), (g 36, .inl (cZ, 900, .inl yw2_15)), (g 37, .inl (cZ, 900, .inl yo2_16)), (g 43, .inl (cJ, 90, .inr (.inl be2_17))), (g 44, .inl (cJ, 90, .inr (.inl bf2_18))), (g 53, .inl (cI, 32, .inl rw_))]) [12, 0, 1, 2, 3, 4, 5, 13, 6, 7, 8, 9, 10, 11] (by decide +kernel) rfl
                      exact ih_lp_19 (i + 1) mo_ (nI i) _ _ _ (by omega) (by omega) hP hD hS (lv_sub hl [0, 1, 2, 5, 6] rfl)
                    · skip
                      refine lv_lload hx hb dX12_tells_115 (lv_at hl 1 rfl) ?_
                      refine lv_lload_n hx hb dX12_tells_117 rfl (lv_at hl 3 rfl) ?_
                      refine W.lcmp hx hb dX12_tells_118 ?_
                      refine lv_if_lt (tgt := 125) hx hb dX12_tells_119 (by decide) (fun c_32 => ?_) (fun c_32 => ?_)
                      · skip
                        refine lv_iload hx hb dX12_tells_125 (lv_at hl 2 rfl) ?_
                        refine lv_istore_n (lv' := [(2, .int (nI i)), (8, .int (nI jm)), (6, .long mo_), (5, .int (nI i)), (3, .long fe), (0, .ref mm), (1, .int (nI kd_6))]) hx hb dX12_tells_127 rfl hl (by decide) rfl (fun ls hl => ?_)
                        refine lv_lload hx hb dX12_tells_128 (lv_at hl 2 rfl) ?_
                        refine lv_lstore_n (lv' := [(3, .long mo_), (2, .int (nI i)), (8, .int (nI jm)), (6, .long mo_), (5, .int (nI i)), (0, .ref mm), (1, .int (nI kd_6))]) hx hb dX12_tells_130 rfl hl (by decide) rfl (fun ls hl => ?_)
                        refine lv_iinc (v := nI (i + 1)) (lv' := [(5, .int (nI (i + 1))), (3, .long mo_), (2, .int (nI i)), (8, .int (nI jm)), (6, .long mo_), (0, .ref mm), (1, .int (nI kd_6))]) hx hb dX12_tells_131 hl (k := 4) rfl (ninc i 1 (by decide)) (by decide) rfl (fun ls hl => ?_)
                        refine lv_goto (tgt := 32) hx hb dX12_tells_134 (by decide) ?_
                        have hP := hP.sub (ws' := [(mm, .inr (12, mo g (nI ta) (nI pa) (nI pe) pd (nI pb) pp pf pg pn rt rn (nI cd) sn (nI il) tk2_7 am2_9 at_2_10 aa2_11 0 0 (-1) wt wy2_12 0 (nI rm) (nI ud) (nI nu) sd (nI qn) (nI qw) qo (nI qb) (nI qp2_8) qa (nI qi) (nI oc))), (g 24, .inl (cI, 6, .inl (l6 u0 u1 u2 u3 u4 u5))), (g 25, .inl (cI, 6, .inl (l6 v0 v1 v2 v3 v4 v5))), (g 26, .inl (cI, 3200, .inl (fun j => nI (cs j)))), (g 31, .inl (cI, 120, .inl nw)), (g 46, .inl (cI, 9, .inl (fun j => nI (pt j)))), (g 86, .inl (cJ, 1700, .inr (.inl ql2_13))), (g 20, .inl (cI, 4, .inl (l4 (nI l0) (nI l1) (nI dm) (nI l3)))), (g 38, .inl (cI, 90, .inl ws_2_14)), (g 36, .inl (cZ, 900, .inl yw2_15)), (g 37, .inl (cZ, 900, .inl yo2_16)), (g 43, .inl (cJ, 90, .inr (.inl be2_17))), (g 44, .inl (cJ, 90, .inr (.inl bf2_18))), (g 53, .inl (cI, 32, .inl rw_))]) [12, 0, 1, 2, 3, 4, 5, 13, 6, 7, 8, 9, 10, 11] rfl
                        have hD := hD.sub (ws' := [(mm, .inr (12, mo g (nI ta) (nI pa) (nI pe) pd (nI pb) pp pf pg pn rt rn (nI cd) sn (nI il) tk2_7 am2_9 at_2_10 aa2_11 0 0 (-1) wt wy2_12 0 (nI rm) (nI ud) (nI nu) sd (nI qn) (nI qw) qo (nI qb) (nI qp2_8) qa (nI qi) (nI oc))), (g 24, .inl (cI, 6, .inl (l6 u0 u1 u2 u3 u4 u5))), (g 25, .inl (cI, 6, .inl (l6 v0 v1 v2 v3 v4 v5))), (g 26, .inl (cI, 3200, .inl (fun j => nI (cs j)))), (g 31, .inl (cI, 120, .inl nw)), (g 46, .inl (cI, 9, .inl (fun j => nI (pt j)))), (g 86, .inl (cJ, 1700, .inr (.inl ql2_13))), (g 20, .inl (cI, 4, .inl (l4 (nI l0) (nI l1) (nI dm) (nI l3)))), (g 38, .inl (cI, 90, .inl ws_2_14)), (g 36, .inl (cZ, 900, .inl yw2_15)), (g 37, .inl (cZ, 900, .inl yo2_16)), (g 43, .inl (cJ, 90, .inr (.inl be2_17))), (g 44, .inl (cJ, 90, .inr (.inl bf2_18))), (g 53, .inl (cI, 32, .inl rw_))]) [12, 0, 1, 2, 3, 4, 5, 13, 6, 7, 8, 9, 10, 11] (by decide +kernel) rfl
                        exact ih_lp_19 (i + 1) mo_ (nI i) _ _ _ (by omega) (by omega) hP hD hS (lv_sub hl [0, 1, 2, 5, 6] rfl)
                      · skip
                        refine lv_goto (tgt := 131) hx hb dX12_tells_122 (by decide) ?_
                        refine lv_iinc (v := nI (i + 1)) (lv' := [(5, .int (nI (i + 1))), (8, .int (nI jm)), (6, .long mo_), (3, .long fe), (2, .int be_), (0, .ref mm), (1, .int (nI kd_6))]) hx hb dX12_tells_131 hl (k := 2) rfl (ninc i 1 (by decide)) (by decide) rfl (fun ls hl => ?_)
                        refine lv_goto (tgt := 32) hx hb dX12_tells_134 (by decide) ?_
                        have hP := hP.sub (ws' := [(mm, .inr (12, mo g (nI ta) (nI pa) (nI pe) pd (nI pb) pp pf pg pn rt rn (nI cd) sn (nI il) tk2_7 am2_9 at_2_10 aa2_11 0 0 (-1) wt wy2_12 0 (nI rm) (nI ud) (nI nu) sd (nI qn) (nI qw) qo (nI qb) (nI qp2_8) qa (nI qi) (nI oc))), (g 24, .inl (cI, 6, .inl (l6 u0 u1 u2 u3 u4 u5))), (g 25, .inl (cI, 6, .inl (l6 v0 v1 v2 v3 v4 v5))), (g 26, .inl (cI, 3200, .inl (fun j => nI (cs j)))), (g 31, .inl (cI, 120, .inl nw)), (g 46, .inl (cI, 9, .inl (fun j => nI (pt j)))), (g 86, .inl (cJ, 1700, .inr (.inl ql2_13))), (g 20, .inl (cI, 4, .inl (l4 (nI l0) (nI l1) (nI dm) (nI l3)))), (g 38, .inl (cI, 90, .inl ws_2_14)), (g 36, .inl (cZ, 900, .inl yw2_15)), (g 37, .inl (cZ, 900, .inl yo2_16)), (g 43, .inl (cJ, 90, .inr (.inl be2_17))), (g 44, .inl (cJ, 90, .inr (.inl bf2_18))), (g 53, .inl (cI, 32, .inl rw_))]) [12, 0, 1, 2, 3, 4, 5, 13, 6, 7, 8, 9, 10, 11] rfl
                        have hD := hD.sub (ws' := [(mm, .inr (12, mo g (nI ta) (nI pa) (nI pe) pd (nI pb) pp pf pg pn rt rn (nI cd) sn (nI il) tk2_7 am2_9 at_2_10 aa2_11 0 0 (-1) wt wy2_12 0 (nI rm) (nI ud) (nI nu) sd (nI qn) (nI qw) qo (nI qb) (nI qp2_8) qa (nI qi) (nI oc))), (g 24, .inl (cI, 6, .inl (l6 u0 u1 u2 u3 u4 u5))), (g 25, .inl (cI, 6, .inl (l6 v0 v1 v2 v3 v4 v5))), (g 26, .inl (cI, 3200, .inl (fun j => nI (cs j)))), (g 31, .inl (cI, 120, .inl nw)), (g 46, .inl (cI, 9, .inl (fun j => nI (pt j)))), (g 86, .inl (cJ, 1700, .inr (.inl ql2_13))), (g 20, .inl (cI, 4, .inl (l4 (nI l0) (nI l1) (nI dm) (nI l3)))), (g 38, .inl (cI, 90, .inl ws_2_14)), (g 36, .inl (cZ, 900, .inl yw2_15)), (g 37, .inl (cZ, 900, .inl yo2_16)), (g 43, .inl (cJ, 90, .inr (.inl be2_17))), (g 44, .inl (cJ, 90, .inr (.inl bf2_18))), (g 53, .inl (cI, 32, .inl rw_))]) [12, 0, 1, 2, 3, 4, 5, 13, 6, 7, 8, 9, 10, 11] (by decide +kernel) rfl
                        exact ih_lp_19 (i + 1) fe be_ _ _ _ (by omega) (by omega) hP hD hS (lv_sub hl [0, 3, 4, 5, 6] rfl)
                  · have c_30 : ¬ (10 ≤ jm) := fun h => c_30 ((nle 10 jm (by omega) (by omega)).mpr h)
                    refine lv_aload_n hx hb dX12_tells_63 rfl (lv_at hl 5 rfl) ?_
                    refine sk_get (v := .ref (g 44)) (C := RX12) (T := TX12) (N := 92) hx hb hts inlX12 hown hK hP 12 rfl rfl 44 (by decide) w_5_199 rfl dX12_tells_64 ?_
                    refine lv_bipush (v := 10) hx hb dX12_tells_67 (by decide) ?_
                    refine lv_iload hx hb dX12_tells_69 (lv_at hl 2 rfl) ?_
                    refine lv_imul hx hb dX12_tells_71 ?_
                    refine sk_top (nI (10 * i)) (nmul 10 i) ?_
                    refine lv_iload hx hb dX12_tells_72 (lv_at hl 0 rfl) ?_
                    refine lv_iadd hx hb dX12_tells_74 ?_
                    refine sk_top (nI (10 * i + jm)) (nI_add (10 * i) jm) ?_
                    refine va_lald hx hb hK.1 hP 10 1 rfl rfl (vin (10 * i + jm) 90 (by omega) (by omega)) dX12_tells_75 ?_
                    refine lv_topl (fun v_33 ev_33 => ?_)
                    refine lv_aload_n hx hb dX12_tells_76 rfl (lv_at hl 5 rfl) ?_
                    refine sk_get (v := .ref (g 43)) (C := RX12) (T := TX12) (N := 92) hx hb hts inlX12 hown hK hP 12 rfl rfl 43 (by decide) w_5_198 rfl dX12_tells_77 ?_
                    refine lv_bipush (v := 10) hx hb dX12_tells_80 (by decide) ?_
                    refine lv_iload hx hb dX12_tells_82 (lv_at hl 2 rfl) ?_
                    refine lv_imul hx hb dX12_tells_84 ?_
                    refine sk_top (nI (10 * i)) (nmul 10 i) ?_
                    refine lv_iload hx hb dX12_tells_85 (lv_at hl 0 rfl) ?_
                    refine lv_iadd hx hb dX12_tells_87 ?_
                    refine sk_top (nI (10 * i + jm)) (nI_add (10 * i) jm) ?_
                    refine va_lald hx hb hK.1 hP 9 1 rfl rfl (vin (10 * i + jm) 90 (by omega) (by omega)) dX12_tells_88 ?_
                    refine lv_topl (fun v_34 ev_34 => ?_)
                    refine lv_lmul hx hb dX12_tells_89 ?_
                    refine lv_topl (fun v_35 ev_35 => ?_)
                    refine lv_lstore (lv' := [(9, .long v_35), (8, .int (nI jm)), (6, .long mo_), (5, .int (nI i)), (3, .long fe), (2, .int be_), (0, .ref mm), (1, .int (nI kd_6))]) hx hb dX12_tells_90 hl (by decide) rfl (fun ls hl => ?_)
                    refine lv_lload hx hb dX12_tells_92 (lv_at hl 0 rfl) ?_
                    refine lv_lload hx hb dX12_tells_94 (lv_at hl 2 rfl) ?_
                    refine W.lcmp hx hb dX12_tells_96 ?_
                    refine lv_if_le (tgt := 104) hx hb dX12_tells_97 (by decide) (fun c_36 => ?_) (fun c_36 => ?_)
                    · skip
                      refine lv_iinc (v := nI (jm + 1)) (lv' := [(8, .int (nI (jm + 1))), (9, .long v_35), (6, .long mo_), (5, .int (nI i)), (3, .long fe), (2, .int be_), (0, .ref mm), (1, .int (nI kd_6))]) hx hb dX12_tells_104 hl (k := 1) rfl (ninc jm 1 (by decide)) (by decide) rfl (fun ls hl => ?_)
                      refine lv_goto (tgt := 56) hx hb dX12_tells_107 (by decide) ?_
                      exact ih_lp_28 (jm + 1) mo_ _ _ _ (by omega) (by omega) hP hD hS (lv_sub hl [0, 2, 3, 4, 5, 6, 7] rfl)
                    · skip
                      refine lv_lload hx hb dX12_tells_100 (lv_at hl 0 rfl) ?_
                      refine lv_lstore (lv' := [(6, .long v_35), (9, .long v_35), (8, .int (nI jm)), (5, .int (nI i)), (3, .long fe), (2, .int be_), (0, .ref mm), (1, .int (nI kd_6))]) hx hb dX12_tells_102 hl (by decide) rfl (fun ls hl => ?_)
                      refine lv_iinc (v := nI (jm + 1)) (lv' := [(8, .int (nI (jm + 1))), (6, .long v_35), (9, .long v_35), (5, .int (nI i)), (3, .long fe), (2, .int be_), (0, .ref mm), (1, .int (nI kd_6))]) hx hb dX12_tells_104 hl (k := 2) rfl (ninc jm 1 (by decide)) (by decide) rfl (fun ls hl => ?_)
                      refine lv_goto (tgt := 56) hx hb dX12_tells_107 (by decide) ?_
                      exact ih_lp_28 (jm + 1) v_35 _ _ _ (by omega) (by omega) hP hD hS (lv_sub hl [0, 1, 3, 4, 5, 6, 7] rfl)
              exact lp_28 (10 - 0 + 1) 0 0 _ _ _ (Nat.lt_succ_self _) (by omega) hP hD hS (lv_sub hl [0, 1, 2, 3, 4, 5, 6] rfl)
      exact lp_19 (dm - 0 + 1) 0 0 (-1) _ _ _ (Nat.lt_succ_self _) (by omega) hP hD hS (lv_sub hl [0, 1, 2, 3, 4] rfl)
    · have c_5 : b_2 = 0 := (neq b_2 0 (by omega) (by omega)).mp c_5
      refine lv_ldc2 (v := (-1000000000000000)) hx hb hown (hts _ w_7_184) dX12_tells_17 ?_
      exact sk_lret hx hb hr hlocks hK hP hD hS (⟨tk, qp, am, at_, aa, wy, ql, ws_, yw, yo, be, bf, rfl⟩) (Nat.le_of_ble_eq_true rfl) (Nat.le_of_ble_eq_true rfl) dX12_tells_20
set_option maxHeartbeats 4000000 in
set_option maxRecDepth 100000 in
theorem c_m_isInX (l : Launch) (D : va_G) (cI cJ cC cZ cS : ClassId) (v : Int64) (y : Int64) (z : Int64)  : skM l yX12_isIn cX12_isIn 6 (some .boolean) 0 0 0 0 D (skT cI cJ cC cZ cS) [.long v, .long y, .long z] [] (skI D (skT cI cJ cC cZ cS) (fun (r : Int32) (u : va_W) => ∃ (b : Nat), ((b = 0 ∧ ¬ (y ≤ v ∧ v ≤ z)) ∨ (b = 1 ∧ y ≤ v ∧ v ≤ z)) ∧ r = nI b ∧ u = [])) := by
  refine skM_of (by decide +kernel) (Nat.le_of_ble_eq_true rfl) ?_
  intro p e s m below meth c A ls E hP hD hl
  obtain ⟨hx, hb, hr, hml, hlocks, hin, hown, hts, hK, hA⟩ := E
  have hown : s.vm.findClass RX12 = some m.cls := hown
  have hS : va_S A s.heap s.heap [] := va_S.rf
  have hl : lv_has ls 6 [(0, .long v), (2, .long y), (4, .long z)] := hl
  refine lv_lload_n hx hb dX12_isIn_0 rfl (lv_at hl 0 rfl) ?_
  refine lv_lload_n hx hb dX12_isIn_1 rfl (lv_at hl 1 rfl) ?_
  refine W.lcmp hx hb dX12_isIn_2 ?_
  refine lv_if_lt (tgt := 17) hx hb dX12_isIn_3 (by decide) (fun c_1 => ?_) (fun c_1 => ?_)
  · skip
    refine lv_iconst (v := 0) hx hb dX12_isIn_17 (by decide) ?_
    exact sk_iret hx hb hr rfl hlocks hK hP hD hS (⟨0, Or.inl ⟨rfl, fun q => absurd q.1 (Int64.not_le.mpr ((lg_cmp_lt _ _).mp c_1))⟩, rfl, rfl⟩) (Nat.le_of_ble_eq_true rfl) (Nat.le_of_ble_eq_true rfl) dX12_isIn_18
  · skip
    refine lv_lload_n hx hb dX12_isIn_6 rfl (lv_at hl 0 rfl) ?_
    refine lv_lload hx hb dX12_isIn_7 (lv_at hl 2 rfl) ?_
    refine W.lcmp hx hb dX12_isIn_9 ?_
    refine lv_if_gt (tgt := 17) hx hb dX12_isIn_10 (by decide) (fun c_2 => ?_) (fun c_2 => ?_)
    · skip
      refine lv_iconst (v := 0) hx hb dX12_isIn_17 (by decide) ?_
      exact sk_iret hx hb hr rfl hlocks hK hP hD hS (⟨0, Or.inl ⟨rfl, fun q => absurd q.2 (Int64.not_le.mpr ((lg_cmp_gt _ _).mp c_2))⟩, rfl, rfl⟩) (Nat.le_of_ble_eq_true rfl) (Nat.le_of_ble_eq_true rfl) dX12_isIn_18
    · skip
      refine lv_iconst (v := 1) hx hb dX12_isIn_13 (by decide) ?_
      refine lv_goto (tgt := 18) hx hb dX12_isIn_14 (by decide) ?_
      exact sk_iret hx hb hr rfl hlocks hK hP hD hS (⟨1, Or.inr ⟨rfl, lg_ge c_1, lg_le c_2⟩, rfl, rfl⟩) (Nat.le_of_ble_eq_true rfl) (Nat.le_of_ble_eq_true rfl) dX12_isIn_18
theorem sd_of {p e n : Nat} (h : (p + 1440 * e - e * n) % 1440 = 0) : sd p e n := h
theorem dX12_same_0 : decode cX12_same 0 = .ok (.iload_n 1, 1) := by decide +kernel
theorem dX12_same_1 : decode cX12_same 1 = .ok (.i2l, 1) := by decide +kernel
theorem dX12_same_2 : decode cX12_same 2 = .ok (.lconst 0, 1) := by decide +kernel
theorem dX12_same_3 : decode cX12_same 3 = .ok (.ldc2_w 469, 3) := by decide +kernel
theorem dX12_same_6 : decode cX12_same 6 = .ok (.invokestatic 238, 3) := by decide +kernel
theorem dX12_same_9 : decode cX12_same 9 = .ok (.ifCond .eq 15, 3) := by decide +kernel
theorem dX12_same_24 : decode cX12_same 24 = .ok (.iconst (-1), 1) := by decide +kernel
theorem dX12_same_25 : decode cX12_same 25 = .ok (.ireturn, 1) := by decide +kernel
theorem dX12_same_12 : decode cX12_same 12 = .ok (.iload_n 2, 1) := by decide +kernel
theorem dX12_same_13 : decode cX12_same 13 = .ok (.i2l, 1) := by decide +kernel
theorem dX12_same_14 : decode cX12_same 14 = .ok (.lconst 0, 1) := by decide +kernel
theorem dX12_same_15 : decode cX12_same 15 = .ok (.ldc2_w 469, 3) := by decide +kernel
theorem dX12_same_18 : decode cX12_same 18 = .ok (.invokestatic 238, 3) := by decide +kernel
theorem dX12_same_21 : decode cX12_same 21 = .ok (.ifCond .ne 5, 3) := by decide +kernel
theorem dX12_same_26 : decode cX12_same 26 = .ok (.iload_n 1, 1) := by decide +kernel
theorem dX12_same_27 : decode cX12_same 27 = .ok (.istore_n 3, 1) := by decide +kernel
theorem dX12_same_28 : decode cX12_same 28 = .ok (.iconst 0, 1) := by decide +kernel
theorem dX12_same_29 : decode cX12_same 29 = .ok (.istore 4, 2) := by decide +kernel
theorem dX12_same_31 : decode cX12_same 31 = .ok (.iload 4, 2) := by decide +kernel
theorem dX12_same_33 : decode cX12_same 33 = .ok (.sipush 1440, 3) := by decide +kernel
theorem dX12_same_36 : decode cX12_same 36 = .ok (.if_icmp .ge 28, 3) := by decide +kernel
theorem dX12_same_64 : decode cX12_same 64 = .ok (.iconst (-1), 1) := by decide +kernel
theorem dX12_same_65 : decode cX12_same 65 = .ok (.ireturn, 1) := by decide +kernel
theorem dX12_same_39 : decode cX12_same 39 = .ok (.iload_n 3, 1) := by decide +kernel
theorem dX12_same_40 : decode cX12_same 40 = .ok (.ifCond .ne 6, 3) := by decide +kernel
theorem dX12_same_46 : decode cX12_same 46 = .ok (.iload_n 3, 1) := by decide +kernel
theorem dX12_same_47 : decode cX12_same 47 = .ok (.sipush 1440, 3) := by decide +kernel
theorem dX12_same_50 : decode cX12_same 50 = .ok (.iadd, 1) := by decide +kernel
theorem dX12_same_51 : decode cX12_same 51 = .ok (.iload_n 2, 1) := by decide +kernel
theorem dX12_same_52 : decode cX12_same 52 = .ok (.isub, 1) := by decide +kernel
theorem dX12_same_53 : decode cX12_same 53 = .ok (.sipush 1440, 3) := by decide +kernel
theorem dX12_same_56 : decode cX12_same 56 = .ok (.irem, 1) := by decide +kernel
theorem dX12_same_57 : decode cX12_same 57 = .ok (.istore_n 3, 1) := by decide +kernel
theorem dX12_same_58 : decode cX12_same 58 = .ok (.iinc 4 1, 3) := by decide +kernel
theorem dX12_same_61 : decode cX12_same 61 = .ok (.goto (-30), 3) := by decide +kernel
theorem dX12_same_43 : decode cX12_same 43 = .ok (.iload 4, 2) := by decide +kernel
theorem dX12_same_45 : decode cX12_same 45 = .ok (.ireturn, 1) := by decide +kernel
theorem w_8_117 : (Cond.constantLong RX12 469 (1439)) ∈ wsL_law := sk_mem (ck_8 _ (List.mem_of_getElem? (i := 117) rfl)) rfl
theorem w_8_116 : (Cond.code yX12_same cX12_same 5 (some .int)) ∈ wsL_law := sk_mem (ck_8 _ (List.mem_of_getElem? (i := 116) rfl)) rfl
set_option maxHeartbeats 4000000 in
set_option maxRecDepth 100000 in
theorem c_m_same (l : Launch) (D : va_G) (cI cJ cC cZ cS : ClassId) (mm : Nat) (g : Nat → Nat) (ta : Nat) (pa : Nat) (pe : Nat) (pd : Int32) (pb : Nat) (pp : Int32) (pf : Int32) (pg : Int32) (pn : Int32) (rt : Int32) (rn : Int32) (cd : Nat) (sn : Int32) (il : Nat) (tk : Int32) (am : Int32) (at_ : Int32) (aa : Int32) (wt : Int32) (wy : Int64) (rm : Nat) (ud : Nat) (nu : Nat) (sd : Int64) (qn : Nat) (qw : Nat) (qo : Int32) (qb : Nat) (qp : Nat) (qa : Int64) (qi : Nat) (oc : Nat) (o : Int32) (w : Int32)  : skM l yX12_same cX12_same 5 (some .int) 1 25 0 0 D (skT cI cJ cC cZ cS) [.ref mm, .int o, .int w] [(mm, .inr (12, mo g (nI ta) (nI pa) (nI pe) pd (nI pb) pp pf pg pn rt rn (nI cd) sn (nI il) tk am at_ aa 0 0 (-1) wt wy 0 (nI rm) (nI ud) (nI nu) sd (nI qn) (nI qw) qo (nI qb) (nI qp) qa (nI qi) (nI oc)))] (skI D (skT cI cJ cC cZ cS) (fun (r : Int32) (u : va_W) => smR o w r ∧ u = [(mm, .inr (12, mo g (nI ta) (nI pa) (nI pe) pd (nI pb) pp pf pg pn rt rn (nI cd) sn (nI il) tk am at_ aa 0 0 (-1) wt wy 0 (nI rm) (nI ud) (nI nu) sd (nI qn) (nI qw) qo (nI qb) (nI qp) qa (nI qi) (nI oc)))])) := by
  refine skM_of (by decide +kernel) (Nat.le_of_ble_eq_true rfl) ?_
  intro p e s m below meth c A ls E hP hD hl
  obtain ⟨hx, hb, hr, hml, hlocks, hin, hown, hts, hK, hA⟩ := E
  have hown : s.vm.findClass RX12 = some m.cls := hown
  have hS : va_S A s.heap s.heap [] := va_S.rf
  have hl : lv_has ls 5 [(0, .ref mm), (1, .int o), (2, .int w)] := hl
  refine lv_iload_n hx hb dX12_same_0 rfl (lv_at hl 1 rfl) ?_
  refine lv_i2l hx hb dX12_same_1 rfl ?_
  refine lv_lconst (v := 0) hx hb dX12_same_2 (by decide) ?_
  refine lv_ldc2 (v := 1439) hx hb hown (hts _ w_8_117) dX12_same_3 ?_
  refine sk_Si (n := 3) (rest := []) (wr := [(mm, .inr (12, mo g (nI ta) (nI pa) (nI pe) pd (nI pb) pp pf pg pn rt rn (nI cd) sn (nI il) tk am at_ aa 0 0 (-1) wt wy 0 (nI rm) (nI ud) (nI nu) sd (nI qn) (nI qw) qo (nI qb) (nI qp) qa (nI qi) (nI oc)))]) ⟨hx, hb, hml, hown, hts⟩ hl.1 (c_m_isInX l D cI cJ cC cZ cS (Int32.toInt64 o) 0 1439) w_7_0 w_7_1 w_1_14 w_7_2 (by decide +kernel) ⟨⟨(Nat.le_of_ble_eq_true rfl), (Nat.le_of_ble_eq_true rfl)⟩, (Nat.le_of_ble_eq_true rfl), (Nat.le_of_ble_eq_true rfl)⟩ hK hP hD hS hA [] [0] rfl rfl (by decide +kernel) (by decide +kernel) (by decide +kernel) rfl rfl (Nat.le_of_ble_eq_true rfl) dX12_same_6 (fun r_2 u H locs hw hP hD hS => ?_)
  obtain ⟨b_1, hb1_3, rfl, rfl⟩ := hw
  have hP : va_P D vwCl [(mm, .inr (12, mo g (nI ta) (nI pa) (nI pe) pd (nI pb) pp pf pg pn rt rn (nI cd) sn (nI il) tk am at_ aa 0 0 (-1) wt wy 0 (nI rm) (nI ud) (nI nu) sd (nI qn) (nI qw) qo (nI qb) (nI qp) qa (nI qi) (nI oc)))] H := hP
  have hD : va_D A [(mm, .inr (12, mo g (nI ta) (nI pa) (nI pe) pd (nI pb) pp pf pg pn rt rn (nI cd) sn (nI il) tk am at_ aa 0 0 (-1) wt wy 0 (nI rm) (nI ud) (nI nu) sd (nI qn) (nI qw) qo (nI qb) (nI qp) qa (nI qi) (nI oc)))] := hD
  refine lv_if_eq (tgt := 24) hx hb dX12_same_9 (by decide) (fun c_4 => ?_) (fun c_4 => ?_)
  · have c_4 : b_1 = 0 := (neq b_1 0 (by omega) (by omega)).mp c_4
    refine lv_iconst (v := (-1)) hx hb dX12_same_24 (by decide) ?_
    exact sk_iret hx hb hr rfl hlocks hK hP hD hS (⟨(Or.inr ⟨outA (hb1_3.resolve_right (by omega)).2, rfl⟩), rfl⟩) (Nat.le_of_ble_eq_true rfl) (Nat.le_of_ble_eq_true rfl) dX12_same_25
  · have c_4 : ¬ (b_1 = 0) := fun h => c_4 ((neq b_1 0 (by omega) (by omega)).mpr h)
    obtain ⟨kd_5, hkd_5, rfl⟩ := inK 1440 (hb1_3.resolve_left (by omega)).2.1 (hb1_3.resolve_left (by omega)).2.2 (by decide)
    refine lv_iload_n hx hb dX12_same_12 rfl (lv_at hl 2 rfl) ?_
    refine lv_i2l hx hb dX12_same_13 rfl ?_
    refine lv_lconst (v := 0) hx hb dX12_same_14 (by decide) ?_
    refine lv_ldc2 (v := 1439) hx hb hown (hts _ w_8_117) dX12_same_15 ?_
    refine sk_Si (n := 3) (rest := []) (wr := [(mm, .inr (12, mo g (nI ta) (nI pa) (nI pe) pd (nI pb) pp pf pg pn rt rn (nI cd) sn (nI il) tk am at_ aa 0 0 (-1) wt wy 0 (nI rm) (nI ud) (nI nu) sd (nI qn) (nI qw) qo (nI qb) (nI qp) qa (nI qi) (nI oc)))]) ⟨hx, hb, hml, hown, hts⟩ hl.1 (c_m_isInX l D cI cJ cC cZ cS (Int32.toInt64 w) 0 1439) w_7_0 w_7_1 w_1_14 w_7_2 (by decide +kernel) ⟨⟨(Nat.le_of_ble_eq_true rfl), (Nat.le_of_ble_eq_true rfl)⟩, (Nat.le_of_ble_eq_true rfl), (Nat.le_of_ble_eq_true rfl)⟩ hK hP hD hS hA [] [0] rfl rfl (by decide +kernel) (by decide +kernel) (by decide +kernel) rfl rfl (Nat.le_of_ble_eq_true rfl) dX12_same_18 (fun r_7 u H locs hw hP hD hS => ?_)
    obtain ⟨b_6, hb1_8, rfl, rfl⟩ := hw
    have hP : va_P D vwCl [(mm, .inr (12, mo g (nI ta) (nI pa) (nI pe) pd (nI pb) pp pf pg pn rt rn (nI cd) sn (nI il) tk am at_ aa 0 0 (-1) wt wy 0 (nI rm) (nI ud) (nI nu) sd (nI qn) (nI qw) qo (nI qb) (nI qp) qa (nI qi) (nI oc)))] H := hP
    have hD : va_D A [(mm, .inr (12, mo g (nI ta) (nI pa) (nI pe) pd (nI pb) pp pf pg pn rt rn (nI cd) sn (nI il) tk am at_ aa 0 0 (-1) wt wy 0 (nI rm) (nI ud) (nI nu) sd (nI qn) (nI qw) qo (nI qb) (nI qp) qa (nI qi) (nI oc)))] := hD
    refine lv_if_ne (tgt := 26) hx hb dX12_same_21 (by decide) (fun c_9 => ?_) (fun c_9 => ?_)
    · have c_9 : ¬ (b_6 = 0) := fun h => c_9 ((neq b_6 0 (by omega) (by omega)).mpr h)
      obtain ⟨kd_10, hkd_10, rfl⟩ := inK 1440 (hb1_8.resolve_left (by omega)).2.1 (hb1_8.resolve_left (by omega)).2.2 (by decide)
      refine lv_iload_n hx hb dX12_same_26 rfl (lv_at hl 1 rfl) ?_
      refine lv_istore_n (lv' := [(3, .int (nI kd_5)), (0, .ref mm), (1, .int (nI kd_5)), (2, .int (nI kd_10))]) hx hb dX12_same_27 rfl hl (by decide) rfl (fun ls hl => ?_)
      refine lv_iconst (v := 0) hx hb dX12_same_28 (by decide) ?_
      refine lv_istore (lv' := [(4, .int 0), (3, .int (nI kd_5)), (0, .ref mm), (1, .int (nI kd_5)), (2, .int (nI kd_10))]) hx hb dX12_same_29 hl (by decide) rfl (fun ls hl => ?_)
      have lp_11 : ∀ (n_12 : Nat) (i : Nat) (vv : Nat) (H : Heap) (locs : List Loc) (ls : Array Slot), 1440 - i < n_12 → (i ≤ 1440) → (vv < 1440) → (vv = (kd_5 + 1440 * kd_10 - kd_10 * i) % 1440) → (sno kd_5 kd_10 i) → va_P D vwCl [(mm, .inr (12, mo g (nI ta) (nI pa) (nI pe) pd (nI pb) pp pf pg pn rt rn (nI cd) sn (nI il) tk am at_ aa 0 0 (-1) wt wy 0 (nI rm) (nI ud) (nI nu) sd (nI qn) (nI qw) qo (nI qb) (nI qp) qa (nI qi) (nI oc)))] H → va_D A [(mm, .inr (12, mo g (nI ta) (nI pa) (nI pe) pd (nI pb) pp pf pg pn rt rn (nI cd) sn (nI il) tk am at_ aa 0 0 (-1) wt wy 0 (nI rm) (nI ud) (nI nu) sd (nI qn) (nI qw) qo (nI qb) (nI qp) qa (nI qi) (nI oc)))] → va_S A s.heap H locs → lv_has ls 5 [(4, .int (nI i)), (3, .int (nI vv)), (0, .ref mm), (1, .int (nI kd_5)), (2, .int (nI kd_10))] → W p l e { frames := 1, cells := 0, slots := 0, locals := 25 } s m ([.ref mm, .int (nI kd_5), .int (nI kd_10)] : List Value).toArray below meth c H locs 0 0 (MQ below (skI D (skT cI cJ cC cZ cS) (fun (r : Int32) (u : va_W) => smR (nI kd_5) (nI kd_10) r ∧ u = [(mm, .inr (12, mo g (nI ta) (nI pa) (nI pe) pd (nI pb) pp pf pg pn rt rn (nI cd) sn (nI il) tk am at_ aa 0 0 (-1) wt wy 0 (nI rm) (nI ud) (nI nu) sd (nI qn) (nI qw) qo (nI qb) (nI qp) qa (nI qi) (nI oc)))]) A) ([.ref mm, .int (nI kd_5), .int (nI kd_10)] : List Value).toArray s 0 0 A) (F0 m 31 ls []) := by
        intro n_12
        induction n_12 with
        | zero => intro i vv H locs ls hm; exact absurd hm (Nat.not_lt_zero _)
        | succ n_12 ih_lp_11 =>
          intro i vv H locs ls hm hi hv9 hvv hno hP hD hS hl
          refine lv_iload hx hb dX12_same_31 (lv_at hl 0 rfl) ?_
          refine lv_sipush (v := 1440) hx hb dX12_same_33 (by decide) ?_
          refine lv_icmp_ge (tgt := 64) hx hb dX12_same_36 (by decide) (fun c_13 => ?_) (fun c_13 => ?_)
          · have c_13 : 1440 ≤ i := (nle 1440 i (by omega) (by omega)).mp c_13
            refine lv_iconst (v := (-1)) hx hb dX12_same_64 (by decide) ?_
            exact sk_iret hx hb hr rfl hlocks hK hP hD hS (⟨(sm_none (by omega) (by omega) (by omega) hno), rfl⟩) (Nat.le_of_ble_eq_true rfl) (Nat.le_of_ble_eq_true rfl) dX12_same_65
          · have c_13 : ¬ (1440 ≤ i) := fun h => c_13 ((nle 1440 i (by omega) (by omega)).mpr h)
            refine lv_iload_n hx hb dX12_same_39 rfl (lv_at hl 1 rfl) ?_
            refine lv_if_ne (tgt := 46) hx hb dX12_same_40 (by decide) (fun c_14 => ?_) (fun c_14 => ?_)
            · have c_14 : ¬ (vv = 0) := fun h => c_14 ((neq vv 0 (by omega) (by omega)).mpr h)
              refine lv_iload_n hx hb dX12_same_46 rfl (lv_at hl 1 rfl) ?_
              refine lv_sipush (v := 1440) hx hb dX12_same_47 (by decide) ?_
              refine lv_iadd hx hb dX12_same_50 ?_
              refine sk_top (nI (vv + 1440)) (nI_add vv 1440) ?_
              refine lv_iload_n hx hb dX12_same_51 rfl (lv_at hl 4 rfl) ?_
              refine lv_isub hx hb dX12_same_52 ?_
              refine sk_top (nI (vv + 1440 - kd_10)) (nsub (vv + 1440) kd_10 (by omega)) ?_
              refine lv_sipush (v := 1440) hx hb dX12_same_53 (by decide) ?_
              refine lv_irem hx hb dX12_same_56 (by decide) ?_
              refine sk_top (nI ((vv + 1440 - kd_10) % 1440)) (nrem (vv + 1440 - kd_10) 1440 (by omega) (by omega) (by omega)) ?_
              refine lv_istore_n (lv' := [(3, .int (nI ((vv + 1440 - kd_10) % 1440))), (4, .int (nI i)), (0, .ref mm), (1, .int (nI kd_5)), (2, .int (nI kd_10))]) hx hb dX12_same_57 rfl hl (by decide) rfl (fun ls hl => ?_)
              refine lv_iinc (v := nI (i + 1)) (lv' := [(4, .int (nI (i + 1))), (3, .int (nI ((vv + 1440 - kd_10) % 1440))), (0, .ref mm), (1, .int (nI kd_5)), (2, .int (nI kd_10))]) hx hb dX12_same_58 hl (k := 1) rfl (ninc i 1 (by decide)) (by decide) rfl (fun ls hl => ?_)
              refine lv_goto (tgt := 31) hx hb dX12_same_61 (by decide) ?_
              exact ih_lp_11 (i + 1) ((vv + 1440 - kd_10) % 1440) _ _ _ (by omega) (by omega) (by omega) (sm_next (by omega) (by omega) hvv) (sno_s hno (fun h => absurd (show _ = 0 from h) (by omega))) hP hD hS (lv_sub hl [0, 1, 2, 3, 4] rfl)
            · have c_14 : vv = 0 := (neq vv 0 (by omega) (by omega)).mp c_14
              refine lv_iload hx hb dX12_same_43 (lv_at hl 0 rfl) ?_
              exact sk_iret hx hb hr rfl hlocks hK hP hD hS (⟨(sm_found (by omega) (by omega) (by omega) (sd_of (hvv.symm.trans (by omega))) hno), rfl⟩) (Nat.le_of_ble_eq_true rfl) (Nat.le_of_ble_eq_true rfl) dX12_same_45
      exact lp_11 (1440 - 0 + 1) 0 kd_5 _ _ _ (Nat.lt_succ_self _) (by omega) (by omega) (sm_0 (by omega)) sno_0 hP hD hS (lv_sub hl [0, 1, 2, 3, 4] rfl)
    · have c_9 : b_6 = 0 := (neq b_6 0 (by omega) (by omega)).mp c_9
      refine lv_iconst (v := (-1)) hx hb dX12_same_24 (by decide) ?_
      exact sk_iret hx hb hr rfl hlocks hK hP hD hS (⟨(Or.inr ⟨outB (hb1_8.resolve_right (by omega)).2, rfl⟩), rfl⟩) (Nat.le_of_ble_eq_true rfl) (Nat.le_of_ble_eq_true rfl) dX12_same_25
theorem dX12_keeps_0 : decode cX12_keeps 0 = .ok (.aload_n 0, 1) := by decide +kernel
theorem dX12_keeps_1 : decode cX12_keeps 1 = .ok (.aload_n 0, 1) := by decide +kernel
theorem dX12_keeps_2 : decode cX12_keeps 2 = .ok (.getfield 471, 3) := by decide +kernel
theorem dX12_keeps_5 : decode cX12_keeps 5 = .ok (.iconst 1, 1) := by decide +kernel
theorem dX12_keeps_6 : decode cX12_keeps 6 = .ok (.iadd, 1) := by decide +kernel
theorem dX12_keeps_7 : decode cX12_keeps 7 = .ok (.bipush 20, 2) := by decide +kernel
theorem dX12_keeps_9 : decode cX12_keeps 9 = .ok (.irem, 1) := by decide +kernel
theorem dX12_keeps_10 : decode cX12_keeps 10 = .ok (.putfield 471, 3) := by decide +kernel
theorem dX12_keeps_13 : decode cX12_keeps 13 = .ok (.iconst 0, 1) := by decide +kernel
theorem dX12_keeps_14 : decode cX12_keeps 14 = .ok (.istore_n 1, 1) := by decide +kernel
theorem dX12_keeps_15 : decode cX12_keeps 15 = .ok (.iload_n 1, 1) := by decide +kernel
theorem dX12_keeps_16 : decode cX12_keeps 16 = .ok (.bipush 120, 2) := by decide +kernel
theorem dX12_keeps_18 : decode cX12_keeps 18 = .ok (.if_icmp .ge 29, 3) := by decide +kernel
theorem dX12_keeps_47 : decode cX12_keeps 47 = .ok (.aload_n 0, 1) := by decide +kernel
theorem dX12_keeps_48 : decode cX12_keeps 48 = .ok (.getfield 309, 3) := by decide +kernel
theorem dX12_keeps_51 : decode cX12_keeps 51 = .ok (.bipush 20, 2) := by decide +kernel
theorem dX12_keeps_53 : decode cX12_keeps 53 = .ok (.if_icmp .ge 13, 3) := by decide +kernel
theorem dX12_keeps_66 : decode cX12_keeps 66 = .ok (.return_, 1) := by decide +kernel
theorem dX12_keeps_56 : decode cX12_keeps 56 = .ok (.aload_n 0, 1) := by decide +kernel
theorem dX12_keeps_57 : decode cX12_keeps 57 = .ok (.dup, 1) := by decide +kernel
theorem dX12_keeps_58 : decode cX12_keeps 58 = .ok (.getfield 309, 3) := by decide +kernel
theorem dX12_keeps_61 : decode cX12_keeps 61 = .ok (.iconst 1, 1) := by decide +kernel
theorem dX12_keeps_62 : decode cX12_keeps 62 = .ok (.iadd, 1) := by decide +kernel
theorem dX12_keeps_63 : decode cX12_keeps 63 = .ok (.putfield 309, 3) := by decide +kernel
theorem dX12_keeps_21 : decode cX12_keeps 21 = .ok (.aload_n 0, 1) := by decide +kernel
theorem dX12_keeps_22 : decode cX12_keeps 22 = .ok (.getfield 107, 3) := by decide +kernel
theorem dX12_keeps_25 : decode cX12_keeps 25 = .ok (.bipush 120, 2) := by decide +kernel
theorem dX12_keeps_27 : decode cX12_keeps 27 = .ok (.aload_n 0, 1) := by decide +kernel
theorem dX12_keeps_28 : decode cX12_keeps 28 = .ok (.getfield 471, 3) := by decide +kernel
theorem dX12_keeps_31 : decode cX12_keeps 31 = .ok (.imul, 1) := by decide +kernel
theorem dX12_keeps_32 : decode cX12_keeps 32 = .ok (.iload_n 1, 1) := by decide +kernel
theorem dX12_keeps_33 : decode cX12_keeps 33 = .ok (.iadd, 1) := by decide +kernel
theorem dX12_keeps_34 : decode cX12_keeps 34 = .ok (.aload_n 0, 1) := by decide +kernel
theorem dX12_keeps_35 : decode cX12_keeps 35 = .ok (.getfield 63, 3) := by decide +kernel
theorem dX12_keeps_38 : decode cX12_keeps 38 = .ok (.iload_n 1, 1) := by decide +kernel
theorem dX12_keeps_39 : decode cX12_keeps 39 = .ok (.iaload, 1) := by decide +kernel
theorem dX12_keeps_40 : decode cX12_keeps 40 = .ok (.iastore, 1) := by decide +kernel
theorem dX12_keeps_41 : decode cX12_keeps 41 = .ok (.iinc 1 1, 3) := by decide +kernel
theorem dX12_keeps_44 : decode cX12_keeps 44 = .ok (.goto (-29), 3) := by decide +kernel
theorem w_5_211 : (Cond.fieldLink RX12 471 "SameKeeperModel" "newest" "I") ∈ wsL_law := sk_mem (ck_5 _ (List.mem_of_getElem? (i := 211) rfl)) rfl
theorem w_5_209 : (Cond.fieldLink RX12 107 "SameKeeperModel" "kept0" "[I") ∈ wsL_law := sk_mem (ck_5 _ (List.mem_of_getElem? (i := 209) rfl)) rfl
theorem w_8_133 : (Cond.code yX12_keeps cX12_keeps 2 none) ∈ wsL_law := sk_mem (ck_8 _ (List.mem_of_getElem? (i := 133) rfl)) rfl
set_option maxHeartbeats 4000000 in
set_option maxRecDepth 100000 in
theorem c_m_keeps (l : Launch) (D : va_G) (cI cJ cC cZ cS : ClassId) (mm : Nat) (g : Nat → Nat) (ta : Nat) (pa : Nat) (pe : Nat) (pd : Int32) (pb : Nat) (pp : Int32) (pf : Int32) (pg : Int32) (pn : Int32) (rt : Int32) (rn : Int32) (cd : Nat) (sn : Int32) (il : Nat) (tk : Int32) (am : Int32) (at_ : Int32) (aa : Int32) (wt : Int32) (wy : Int64) (rm : Nat) (ud : Nat) (nu : Nat) (sd : Int64) (qn : Nat) (qw : Nat) (qo : Int32) (qb : Nat) (qp : Nat) (qa : Int64) (qi : Nat) (oc : Nat) (nw : Nat → Int32) (kp : Nat → Int32) (hnu : nu < 20) (hud : ud ≤ 20) (hnw : nowOk nw) (hkp : keptOk kp) : skM l yX12_keeps cX12_keeps 2 none 0 0 0 0 D (skT cI cJ cC cZ cS) [.ref mm] [(mm, .inr (12, mo g (nI ta) (nI pa) (nI pe) pd (nI pb) pp pf pg pn rt rn (nI cd) sn (nI il) tk am at_ aa 0 0 (-1) wt wy 0 (nI rm) (nI ud) (nI nu) sd (nI qn) (nI qw) qo (nI qb) (nI qp) qa (nI qi) (nI oc))), (g 31, .inl (cI, 120, .inl nw)), (g 54, .inl (cI, 2400, .inl kp))] (skV D (skT cI cJ cC cZ cS) (fun (u : va_W) => ∃ (nu2 : Nat), ∃ (ud2 : Nat), ∃ (kp2 : Nat → Int32), nu2 < 20 ∧ ud2 ≤ 20 ∧ keptOk kp2 ∧ u = [(mm, .inr (12, mo g (nI ta) (nI pa) (nI pe) pd (nI pb) pp pf pg pn rt rn (nI cd) sn (nI il) tk am at_ aa 0 0 (-1) wt wy 0 (nI rm) (nI ud2) (nI nu2) sd (nI qn) (nI qw) qo (nI qb) (nI qp) qa (nI qi) (nI oc))), (g 31, .inl (cI, 120, .inl nw)), (g 54, .inl (cI, 2400, .inl kp2))])) := by
  refine skM_of (by decide +kernel) (Nat.le_of_ble_eq_true rfl) ?_
  intro p e s m below meth c A ls E hP hD hl
  obtain ⟨hx, hb, hr, hml, hlocks, hin, hown, hts, hK, hA⟩ := E
  have hown : s.vm.findClass RX12 = some m.cls := hown
  have hS : va_S A s.heap s.heap [] := va_S.rf
  have hl : lv_has ls 2 [(0, .ref mm)] := hl
  refine lv_aload_n hx hb dX12_keeps_0 rfl (lv_at hl 0 rfl) ?_
  refine lv_aload_n hx hb dX12_keeps_1 rfl (lv_at hl 0 rfl) ?_
  refine sk_get (v := .int (nI nu)) (C := RX12) (T := TX12) (N := 92) hx hb hts inlX12 hown hK hP 0 rfl rfl 56 (by decide) w_5_211 rfl dX12_keeps_2 ?_
  refine lv_iconst (v := 1) hx hb dX12_keeps_5 (by decide) ?_
  refine lv_iadd hx hb dX12_keeps_6 ?_
  refine sk_top (nI (nu + 1)) (nI_add nu 1) ?_
  refine lv_bipush (v := 20) hx hb dX12_keeps_7 (by decide) ?_
  refine lv_irem hx hb dX12_keeps_9 (by decide) ?_
  refine sk_top (nI ((nu + 1) % 20)) (nrem (nu + 1) 20 (by omega) (by omega) (by omega)) ?_
  refine sk_put (ws' := [(mm, .inr (12, mo g (nI ta) (nI pa) (nI pe) pd (nI pb) pp pf pg pn rt rn (nI cd) sn (nI il) tk am at_ aa 0 0 (-1) wt wy 0 (nI rm) (nI ud) (nI ((nu + 1) % 20)) sd (nI qn) (nI qw) qo (nI qb) (nI qp) qa (nI qi) (nI oc))), (g 31, .inl (cI, 120, .inl nw)), (g 54, .inl (cI, 2400, .inl kp))]) (C := RX12) (T := TX12) (N := 92) (v := .int (nI ((nu + 1) % 20))) hx hb hts inlX12 tyX12 tyX12_ok nmX12 hown hK hP hD hS 0 rfl rfl 56 (by decide) w_5_211 rfl rfl rfl (Nat.le_of_ble_eq_true rfl) rfl dX12_keeps_10 (fun H locs hP hD hS => ?_)
  refine lv_iconst (v := 0) hx hb dX12_keeps_13 (by decide) ?_
  refine lv_istore_n (lv' := [(1, .int 0), (0, .ref mm)]) hx hb dX12_keeps_14 rfl hl (by decide) rfl (fun ls hl => ?_)
  have lp_1 : ∀ (n_2 : Nat) (i : Nat) (zk : Nat → Int32) (H : Heap) (locs : List Loc) (ls : Array Slot), 120 - i < n_2 → (keptOk zk) → (i ≤ 120) → va_P D vwCl [(mm, .inr (12, mo g (nI ta) (nI pa) (nI pe) pd (nI pb) pp pf pg pn rt rn (nI cd) sn (nI il) tk am at_ aa 0 0 (-1) wt wy 0 (nI rm) (nI ud) (nI ((nu + 1) % 20)) sd (nI qn) (nI qw) qo (nI qb) (nI qp) qa (nI qi) (nI oc))), (g 31, .inl (cI, 120, .inl nw)), (g 54, .inl (cI, 2400, .inl zk))] H → va_D A [(mm, .inr (12, mo g (nI ta) (nI pa) (nI pe) pd (nI pb) pp pf pg pn rt rn (nI cd) sn (nI il) tk am at_ aa 0 0 (-1) wt wy 0 (nI rm) (nI ud) (nI ((nu + 1) % 20)) sd (nI qn) (nI qw) qo (nI qb) (nI qp) qa (nI qi) (nI oc))), (g 31, .inl (cI, 120, .inl nw)), (g 54, .inl (cI, 2400, .inl zk))] → va_S A s.heap H locs → lv_has ls 2 [(1, .int (nI i)), (0, .ref mm)] → W p l e { frames := 0, cells := 0, slots := 0, locals := 0 } s m ([.ref mm] : List Value).toArray below meth c H locs 0 0 (MQ below (skV D (skT cI cJ cC cZ cS) (fun (u : va_W) => ∃ (nu2 : Nat), ∃ (ud2 : Nat), ∃ (kp2 : Nat → Int32), nu2 < 20 ∧ ud2 ≤ 20 ∧ keptOk kp2 ∧ u = [(mm, .inr (12, mo g (nI ta) (nI pa) (nI pe) pd (nI pb) pp pf pg pn rt rn (nI cd) sn (nI il) tk am at_ aa 0 0 (-1) wt wy 0 (nI rm) (nI ud2) (nI nu2) sd (nI qn) (nI qw) qo (nI qb) (nI qp) qa (nI qi) (nI oc))), (g 31, .inl (cI, 120, .inl nw)), (g 54, .inl (cI, 2400, .inl kp2))]) A) ([.ref mm] : List Value).toArray s 0 0 A) (F0 m 15 ls []) := by
    intro n_2
    induction n_2 with
    | zero => intro i zk H locs ls hm; exact absurd hm (Nat.not_lt_zero _)
    | succ n_2 ih_lp_1 =>
      intro i zk H locs ls hm hzk hi hP hD hS hl
      refine lv_iload_n hx hb dX12_keeps_15 rfl (lv_at hl 0 rfl) ?_
      refine lv_bipush (v := 120) hx hb dX12_keeps_16 (by decide) ?_
      refine lv_icmp_ge (tgt := 47) hx hb dX12_keeps_18 (by decide) (fun c_3 => ?_) (fun c_3 => ?_)
      · have c_3 : 120 ≤ i := (nle 120 i (by omega) (by omega)).mp c_3
        refine lv_aload_n hx hb dX12_keeps_47 rfl (lv_at hl 1 rfl) ?_
        refine sk_get (v := .int (nI ud)) (C := RX12) (T := TX12) (N := 92) hx hb hts inlX12 hown hK hP 0 rfl rfl 55 (by decide) w_5_210 rfl dX12_keeps_48 ?_
        refine lv_bipush (v := 20) hx hb dX12_keeps_51 (by decide) ?_
        refine lv_icmp_ge (tgt := 66) hx hb dX12_keeps_53 (by decide) (fun c_4 => ?_) (fun c_4 => ?_)
        · have c_4 : 20 ≤ ud := (nle 20 ud (by omega) (by omega)).mp c_4
          exact sk_vret hx hb hr hlocks hK hP hD hS (⟨(nu + 1) % 20, ud, zk, by omega, by omega, hzk, rfl⟩) (Nat.le_of_ble_eq_true rfl) (Nat.le_of_ble_eq_true rfl) dX12_keeps_66
        · have c_4 : ¬ (20 ≤ ud) := fun h => c_4 ((nle 20 ud (by omega) (by omega)).mpr h)
          refine lv_aload_n hx hb dX12_keeps_56 rfl (lv_at hl 1 rfl) ?_
          refine lv_dup hx hb dX12_keeps_57 rfl ?_
          refine sk_get (v := .int (nI ud)) (C := RX12) (T := TX12) (N := 92) hx hb hts inlX12 hown hK hP 0 rfl rfl 55 (by decide) w_5_210 rfl dX12_keeps_58 ?_
          refine lv_iconst (v := 1) hx hb dX12_keeps_61 (by decide) ?_
          refine lv_iadd hx hb dX12_keeps_62 ?_
          refine sk_top (nI (ud + 1)) (nI_add ud 1) ?_
          refine sk_put (ws' := [(mm, .inr (12, mo g (nI ta) (nI pa) (nI pe) pd (nI pb) pp pf pg pn rt rn (nI cd) sn (nI il) tk am at_ aa 0 0 (-1) wt wy 0 (nI rm) (nI (ud + 1)) (nI ((nu + 1) % 20)) sd (nI qn) (nI qw) qo (nI qb) (nI qp) qa (nI qi) (nI oc))), (g 31, .inl (cI, 120, .inl nw)), (g 54, .inl (cI, 2400, .inl zk))]) (C := RX12) (T := TX12) (N := 92) (v := .int (nI (ud + 1))) hx hb hts inlX12 tyX12 tyX12_ok nmX12 hown hK hP hD hS 0 rfl rfl 55 (by decide) w_5_210 rfl rfl rfl (Nat.le_of_ble_eq_true rfl) rfl dX12_keeps_63 (fun H locs hP hD hS => ?_)
          exact sk_vret hx hb hr hlocks hK hP hD hS (⟨(nu + 1) % 20, ud + 1, zk, by omega, by omega, hzk, rfl⟩) (Nat.le_of_ble_eq_true rfl) (Nat.le_of_ble_eq_true rfl) dX12_keeps_66
      · have c_3 : ¬ (120 ≤ i) := fun h => c_3 ((nle 120 i (by omega) (by omega)).mpr h)
        refine lv_aload_n hx hb dX12_keeps_21 rfl (lv_at hl 1 rfl) ?_
        refine sk_get (v := .ref (g 54)) (C := RX12) (T := TX12) (N := 92) hx hb hts inlX12 hown hK hP 0 rfl rfl 54 (by decide) w_5_209 rfl dX12_keeps_22 ?_
        refine lv_bipush (v := 120) hx hb dX12_keeps_25 (by decide) ?_
        refine lv_aload_n hx hb dX12_keeps_27 rfl (lv_at hl 1 rfl) ?_
        refine sk_get (v := .int (nI ((nu + 1) % 20))) (C := RX12) (T := TX12) (N := 92) hx hb hts inlX12 hown hK hP 0 rfl rfl 56 (by decide) w_5_211 rfl dX12_keeps_28 ?_
        refine lv_imul hx hb dX12_keeps_31 ?_
        refine sk_top (nI (120 * ((nu + 1) % 20))) (nmul 120 ((nu + 1) % 20)) ?_
        refine lv_iload_n hx hb dX12_keeps_32 rfl (lv_at hl 0 rfl) ?_
        refine lv_iadd hx hb dX12_keeps_33 ?_
        refine sk_top (nI (120 * ((nu + 1) % 20) + i)) (nI_add (120 * ((nu + 1) % 20)) i) ?_
        refine lv_aload_n hx hb dX12_keeps_34 rfl (lv_at hl 1 rfl) ?_
        refine sk_get (v := .ref (g 31)) (C := RX12) (T := TX12) (N := 92) hx hb hts inlX12 hown hK hP 0 rfl rfl 31 (by decide) w_5_186 rfl dX12_keeps_35 ?_
        refine lv_iload_n hx hb dX12_keeps_38 rfl (lv_at hl 0 rfl) ?_
        refine va_iald hx hb hK.1 hP 1 0 rfl rfl (vin i 120 (by omega) (by omega)) dX12_keeps_39 ?_
        refine lv_topi (fun v_5 ev_5 => ?_)
        refine sk_iastP (Pr := keptOk) (ws' := fun f_6 => [(mm, .inr (12, mo g (nI ta) (nI pa) (nI pe) pd (nI pb) pp pf pg pn rt rn (nI cd) sn (nI il) tk am at_ aa 0 0 (-1) wt wy 0 (nI rm) (nI ud) (nI ((nu + 1) % 20)) sd (nI qn) (nI qw) qo (nI qb) (nI qp) qa (nI qi) (nI oc))), (g 31, .inl (cI, 120, .inl nw)), (g 54, .inl (cI, 2400, .inl f_6))]) hx hb hK hP hD hS 2 0 rfl rfl (vin (120 * ((nu + 1) % 20) + i) 2400 (by omega) (by omega)) (fun _ => rfl) (keptOk_cp hzk hnw (by omega) (by omega) ev_5.symm) dX12_keeps_40 (fun f_6 H locs hf_7 hP hD hS => ?_)
        refine lv_iinc (v := nI (i + 1)) (lv' := [(1, .int (nI (i + 1))), (0, .ref mm)]) hx hb dX12_keeps_41 hl (k := 0) rfl (ninc i 1 (by decide)) (by decide) rfl (fun ls hl => ?_)
        refine lv_goto (tgt := 15) hx hb dX12_keeps_44 (by decide) ?_
        exact ih_lp_1 (i + 1) f_6 _ _ _ (by omega) hf_7 (by omega) hP hD hS (lv_sub hl [0, 1] rfl)
  exact lp_1 (120 - 0 + 1) 0 kp _ _ _ (Nat.lt_succ_self _) hkp (by omega) hP hD hS (lv_sub hl [0, 1] rfl)
theorem dX12_undo_0 : decode cX12_undo 0 = .ok (.aload_n 0, 1) := by decide +kernel
theorem dX12_undo_1 : decode cX12_undo 1 = .ok (.getfield 309, 3) := by decide +kernel
theorem dX12_undo_4 : decode cX12_undo 4 = .ok (.ifCond .ne 15, 3) := by decide +kernel
theorem dX12_undo_19 : decode cX12_undo 19 = .ok (.iconst 0, 1) := by decide +kernel
theorem dX12_undo_20 : decode cX12_undo 20 = .ok (.istore_n 1, 1) := by decide +kernel
theorem dX12_undo_21 : decode cX12_undo 21 = .ok (.iload_n 1, 1) := by decide +kernel
theorem dX12_undo_22 : decode cX12_undo 22 = .ok (.bipush 120, 2) := by decide +kernel
theorem dX12_undo_24 : decode cX12_undo 24 = .ok (.if_icmp .ge 29, 3) := by decide +kernel
theorem dX12_undo_53 : decode cX12_undo 53 = .ok (.aload_n 0, 1) := by decide +kernel
theorem dX12_undo_54 : decode cX12_undo 54 = .ok (.aload_n 0, 1) := by decide +kernel
theorem dX12_undo_55 : decode cX12_undo 55 = .ok (.getfield 471, 3) := by decide +kernel
theorem dX12_undo_58 : decode cX12_undo 58 = .ok (.bipush 20, 2) := by decide +kernel
theorem dX12_undo_60 : decode cX12_undo 60 = .ok (.iadd, 1) := by decide +kernel
theorem dX12_undo_61 : decode cX12_undo 61 = .ok (.iconst 1, 1) := by decide +kernel
theorem dX12_undo_62 : decode cX12_undo 62 = .ok (.isub, 1) := by decide +kernel
theorem dX12_undo_63 : decode cX12_undo 63 = .ok (.bipush 20, 2) := by decide +kernel
theorem dX12_undo_65 : decode cX12_undo 65 = .ok (.irem, 1) := by decide +kernel
theorem dX12_undo_66 : decode cX12_undo 66 = .ok (.putfield 471, 3) := by decide +kernel
theorem dX12_undo_69 : decode cX12_undo 69 = .ok (.aload_n 0, 1) := by decide +kernel
theorem dX12_undo_70 : decode cX12_undo 70 = .ok (.dup, 1) := by decide +kernel
theorem dX12_undo_71 : decode cX12_undo 71 = .ok (.getfield 309, 3) := by decide +kernel
theorem dX12_undo_74 : decode cX12_undo 74 = .ok (.iconst 1, 1) := by decide +kernel
theorem dX12_undo_75 : decode cX12_undo 75 = .ok (.isub, 1) := by decide +kernel
theorem dX12_undo_76 : decode cX12_undo 76 = .ok (.putfield 309, 3) := by decide +kernel
theorem dX12_undo_79 : decode cX12_undo 79 = .ok (.iconst 1, 1) := by decide +kernel
theorem dX12_undo_80 : decode cX12_undo 80 = .ok (.ireturn, 1) := by decide +kernel
theorem dX12_undo_27 : decode cX12_undo 27 = .ok (.aload_n 0, 1) := by decide +kernel
theorem dX12_undo_28 : decode cX12_undo 28 = .ok (.getfield 63, 3) := by decide +kernel
theorem dX12_undo_31 : decode cX12_undo 31 = .ok (.iload_n 1, 1) := by decide +kernel
theorem dX12_undo_32 : decode cX12_undo 32 = .ok (.aload_n 0, 1) := by decide +kernel
theorem dX12_undo_33 : decode cX12_undo 33 = .ok (.getfield 107, 3) := by decide +kernel
theorem dX12_undo_36 : decode cX12_undo 36 = .ok (.bipush 120, 2) := by decide +kernel
theorem dX12_undo_38 : decode cX12_undo 38 = .ok (.aload_n 0, 1) := by decide +kernel
theorem dX12_undo_39 : decode cX12_undo 39 = .ok (.getfield 471, 3) := by decide +kernel
theorem dX12_undo_42 : decode cX12_undo 42 = .ok (.imul, 1) := by decide +kernel
theorem dX12_undo_43 : decode cX12_undo 43 = .ok (.iload_n 1, 1) := by decide +kernel
theorem dX12_undo_44 : decode cX12_undo 44 = .ok (.iadd, 1) := by decide +kernel
theorem dX12_undo_45 : decode cX12_undo 45 = .ok (.iaload, 1) := by decide +kernel
theorem dX12_undo_46 : decode cX12_undo 46 = .ok (.iastore, 1) := by decide +kernel
theorem dX12_undo_47 : decode cX12_undo 47 = .ok (.iinc 1 1, 3) := by decide +kernel
theorem dX12_undo_50 : decode cX12_undo 50 = .ok (.goto (-29), 3) := by decide +kernel
theorem dX12_undo_7 : decode cX12_undo 7 = .ok (.aload_n 0, 1) := by decide +kernel
theorem dX12_undo_8 : decode cX12_undo 8 = .ok (.getfield 17, 3) := by decide +kernel
theorem dX12_undo_11 : decode cX12_undo 11 = .ok (.iconst 4, 1) := by decide +kernel
theorem dX12_undo_12 : decode cX12_undo 12 = .ok (.dup2, 1) := by decide +kernel
theorem dX12_undo_13 : decode cX12_undo 13 = .ok (.iaload, 1) := by decide +kernel
theorem dX12_undo_14 : decode cX12_undo 14 = .ok (.iconst 1, 1) := by decide +kernel
theorem dX12_undo_15 : decode cX12_undo 15 = .ok (.iadd, 1) := by decide +kernel
theorem dX12_undo_16 : decode cX12_undo 16 = .ok (.iastore, 1) := by decide +kernel
theorem dX12_undo_17 : decode cX12_undo 17 = .ok (.iconst 0, 1) := by decide +kernel
theorem dX12_undo_18 : decode cX12_undo 18 = .ok (.ireturn, 1) := by decide +kernel
theorem w_8_121 : (Cond.code yX12_undo cX12_undo 2 (some .boolean)) ∈ wsL_law := sk_mem (ck_8 _ (List.mem_of_getElem? (i := 121) rfl)) rfl
set_option maxHeartbeats 4000000 in
set_option maxRecDepth 100000 in
theorem c_m_undo (l : Launch) (D : va_G) (cI cJ cC cZ cS : ClassId) (mm : Nat) (g : Nat → Nat) (ta : Nat) (pa : Nat) (pe : Nat) (pd : Int32) (pb : Nat) (pp : Int32) (pf : Int32) (pg : Int32) (pn : Int32) (rt : Int32) (rn : Int32) (cd : Nat) (sn : Int32) (il : Nat) (tk : Int32) (am : Int32) (at_ : Int32) (aa : Int32) (wt : Int32) (wy : Int64) (rm : Nat) (ud : Nat) (nu : Nat) (sd : Int64) (qn : Nat) (qw : Nat) (qo : Int32) (qb : Nat) (qp : Nat) (qa : Int64) (qi : Nat) (oc : Nat) (nw : Nat → Int32) (kp : Nat → Int32) (rf : Nat → Int32) (hnu : nu < 20) (hud : ud ≤ 20) (hnw : nowOk nw) (hkp : keptOk kp) : skM l yX12_undo cX12_undo 2 (some .boolean) 0 0 0 0 D (skT cI cJ cC cZ cS) [.ref mm] [(mm, .inr (12, mo g (nI ta) (nI pa) (nI pe) pd (nI pb) pp pf pg pn rt rn (nI cd) sn (nI il) tk am at_ aa 0 0 (-1) wt wy 0 (nI rm) (nI ud) (nI nu) sd (nI qn) (nI qw) qo (nI qb) (nI qp) qa (nI qi) (nI oc))), (g 31, .inl (cI, 120, .inl nw)), (g 54, .inl (cI, 2400, .inl kp)), (g 9, .inl (cI, 6, .inl rf))] (skI D (skT cI cJ cC cZ cS) (fun (r : Int32) (u : va_W) => ∃ (b : Nat), ∃ (nu2 : Nat), ∃ (ud2 : Nat), ∃ (nw2 : Nat → Int32), ∃ (rf2 : Nat → Int32), nu2 < 20 ∧ ud2 ≤ 20 ∧ b ≤ 1 ∧ nowOk nw2 ∧ r = nI b ∧ u = [(mm, .inr (12, mo g (nI ta) (nI pa) (nI pe) pd (nI pb) pp pf pg pn rt rn (nI cd) sn (nI il) tk am at_ aa 0 0 (-1) wt wy 0 (nI rm) (nI ud2) (nI nu2) sd (nI qn) (nI qw) qo (nI qb) (nI qp) qa (nI qi) (nI oc))), (g 31, .inl (cI, 120, .inl nw2)), (g 54, .inl (cI, 2400, .inl kp)), (g 9, .inl (cI, 6, .inl rf2))])) := by
  refine skM_of (by decide +kernel) (Nat.le_of_ble_eq_true rfl) ?_
  intro p e s m below meth c A ls E hP hD hl
  obtain ⟨hx, hb, hr, hml, hlocks, hin, hown, hts, hK, hA⟩ := E
  have hown : s.vm.findClass RX12 = some m.cls := hown
  have hS : va_S A s.heap s.heap [] := va_S.rf
  have hl : lv_has ls 2 [(0, .ref mm)] := hl
  refine lv_aload_n hx hb dX12_undo_0 rfl (lv_at hl 0 rfl) ?_
  refine sk_get (v := .int (nI ud)) (C := RX12) (T := TX12) (N := 92) hx hb hts inlX12 hown hK hP 0 rfl rfl 55 (by decide) w_5_210 rfl dX12_undo_1 ?_
  refine lv_if_ne (tgt := 19) hx hb dX12_undo_4 (by decide) (fun c_1 => ?_) (fun c_1 => ?_)
  · have c_1 : ¬ (ud = 0) := fun h => c_1 ((neq ud 0 (by omega) (by omega)).mpr h)
    refine lv_iconst (v := 0) hx hb dX12_undo_19 (by decide) ?_
    refine lv_istore_n (lv' := [(1, .int 0), (0, .ref mm)]) hx hb dX12_undo_20 rfl hl (by decide) rfl (fun ls hl => ?_)
    have lp_2 : ∀ (n_3 : Nat) (i : Nat) (zn : Nat → Int32) (H : Heap) (locs : List Loc) (ls : Array Slot), 120 - i < n_3 → (nowOk zn) → (i ≤ 120) → va_P D vwCl [(mm, .inr (12, mo g (nI ta) (nI pa) (nI pe) pd (nI pb) pp pf pg pn rt rn (nI cd) sn (nI il) tk am at_ aa 0 0 (-1) wt wy 0 (nI rm) (nI ud) (nI nu) sd (nI qn) (nI qw) qo (nI qb) (nI qp) qa (nI qi) (nI oc))), (g 31, .inl (cI, 120, .inl zn)), (g 54, .inl (cI, 2400, .inl kp)), (g 9, .inl (cI, 6, .inl rf))] H → va_D A [(mm, .inr (12, mo g (nI ta) (nI pa) (nI pe) pd (nI pb) pp pf pg pn rt rn (nI cd) sn (nI il) tk am at_ aa 0 0 (-1) wt wy 0 (nI rm) (nI ud) (nI nu) sd (nI qn) (nI qw) qo (nI qb) (nI qp) qa (nI qi) (nI oc))), (g 31, .inl (cI, 120, .inl zn)), (g 54, .inl (cI, 2400, .inl kp)), (g 9, .inl (cI, 6, .inl rf))] → va_S A s.heap H locs → lv_has ls 2 [(1, .int (nI i)), (0, .ref mm)] → W p l e { frames := 0, cells := 0, slots := 0, locals := 0 } s m ([.ref mm] : List Value).toArray below meth c H locs 0 0 (MQ below (skI D (skT cI cJ cC cZ cS) (fun (r : Int32) (u : va_W) => ∃ (b : Nat), ∃ (nu2 : Nat), ∃ (ud2 : Nat), ∃ (nw2 : Nat → Int32), ∃ (rf2 : Nat → Int32), nu2 < 20 ∧ ud2 ≤ 20 ∧ b ≤ 1 ∧ nowOk nw2 ∧ r = nI b ∧ u = [(mm, .inr (12, mo g (nI ta) (nI pa) (nI pe) pd (nI pb) pp pf pg pn rt rn (nI cd) sn (nI il) tk am at_ aa 0 0 (-1) wt wy 0 (nI rm) (nI ud2) (nI nu2) sd (nI qn) (nI qw) qo (nI qb) (nI qp) qa (nI qi) (nI oc))), (g 31, .inl (cI, 120, .inl nw2)), (g 54, .inl (cI, 2400, .inl kp)), (g 9, .inl (cI, 6, .inl rf2))]) A) ([.ref mm] : List Value).toArray s 0 0 A) (F0 m 21 ls []) := by
      intro n_3
      induction n_3 with
      | zero => intro i zn H locs ls hm; exact absurd hm (Nat.not_lt_zero _)
      | succ n_3 ih_lp_2 =>
        intro i zn H locs ls hm hzn hi hP hD hS hl
        refine lv_iload_n hx hb dX12_undo_21 rfl (lv_at hl 0 rfl) ?_
        refine lv_bipush (v := 120) hx hb dX12_undo_22 (by decide) ?_
        refine lv_icmp_ge (tgt := 53) hx hb dX12_undo_24 (by decide) (fun c_4 => ?_) (fun c_4 => ?_)
        · have c_4 : 120 ≤ i := (nle 120 i (by omega) (by omega)).mp c_4
          refine lv_aload_n hx hb dX12_undo_53 rfl (lv_at hl 1 rfl) ?_
          refine lv_aload_n hx hb dX12_undo_54 rfl (lv_at hl 1 rfl) ?_
          refine sk_get (v := .int (nI nu)) (C := RX12) (T := TX12) (N := 92) hx hb hts inlX12 hown hK hP 0 rfl rfl 56 (by decide) w_5_211 rfl dX12_undo_55 ?_
          refine lv_bipush (v := 20) hx hb dX12_undo_58 (by decide) ?_
          refine lv_iadd hx hb dX12_undo_60 ?_
          refine sk_top (nI (nu + 20)) (nI_add nu 20) ?_
          refine lv_iconst (v := 1) hx hb dX12_undo_61 (by decide) ?_
          refine lv_isub hx hb dX12_undo_62 ?_
          refine sk_top (nI (nu + 20 - 1)) (nsub (nu + 20) 1 (by omega)) ?_
          refine lv_bipush (v := 20) hx hb dX12_undo_63 (by decide) ?_
          refine lv_irem hx hb dX12_undo_65 (by decide) ?_
          refine sk_top (nI ((nu + 20 - 1) % 20)) (nrem (nu + 20 - 1) 20 (by omega) (by omega) (by omega)) ?_
          refine sk_put (ws' := [(mm, .inr (12, mo g (nI ta) (nI pa) (nI pe) pd (nI pb) pp pf pg pn rt rn (nI cd) sn (nI il) tk am at_ aa 0 0 (-1) wt wy 0 (nI rm) (nI ud) (nI ((nu + 20 - 1) % 20)) sd (nI qn) (nI qw) qo (nI qb) (nI qp) qa (nI qi) (nI oc))), (g 31, .inl (cI, 120, .inl zn)), (g 54, .inl (cI, 2400, .inl kp)), (g 9, .inl (cI, 6, .inl rf))]) (C := RX12) (T := TX12) (N := 92) (v := .int (nI ((nu + 20 - 1) % 20))) hx hb hts inlX12 tyX12 tyX12_ok nmX12 hown hK hP hD hS 0 rfl rfl 56 (by decide) w_5_211 rfl rfl rfl (Nat.le_of_ble_eq_true rfl) rfl dX12_undo_66 (fun H locs hP hD hS => ?_)
          refine lv_aload_n hx hb dX12_undo_69 rfl (lv_at hl 1 rfl) ?_
          refine lv_dup hx hb dX12_undo_70 rfl ?_
          refine sk_get (v := .int (nI ud)) (C := RX12) (T := TX12) (N := 92) hx hb hts inlX12 hown hK hP 0 rfl rfl 55 (by decide) w_5_210 rfl dX12_undo_71 ?_
          refine lv_iconst (v := 1) hx hb dX12_undo_74 (by decide) ?_
          refine lv_isub hx hb dX12_undo_75 ?_
          refine sk_top (nI (ud - 1)) (nsub ud 1 (by omega)) ?_
          refine sk_put (ws' := [(mm, .inr (12, mo g (nI ta) (nI pa) (nI pe) pd (nI pb) pp pf pg pn rt rn (nI cd) sn (nI il) tk am at_ aa 0 0 (-1) wt wy 0 (nI rm) (nI (ud - 1)) (nI ((nu + 20 - 1) % 20)) sd (nI qn) (nI qw) qo (nI qb) (nI qp) qa (nI qi) (nI oc))), (g 31, .inl (cI, 120, .inl zn)), (g 54, .inl (cI, 2400, .inl kp)), (g 9, .inl (cI, 6, .inl rf))]) (C := RX12) (T := TX12) (N := 92) (v := .int (nI (ud - 1))) hx hb hts inlX12 tyX12 tyX12_ok nmX12 hown hK hP hD hS 0 rfl rfl 55 (by decide) w_5_210 rfl rfl rfl (Nat.le_of_ble_eq_true rfl) rfl dX12_undo_76 (fun H locs hP hD hS => ?_)
          refine lv_iconst (v := 1) hx hb dX12_undo_79 (by decide) ?_
          exact sk_iret hx hb hr rfl hlocks hK hP hD hS (⟨1, (nu + 20 - 1) % 20, ud - 1, zn, rf, by omega, by omega, by omega, hzn, rfl, rfl⟩) (Nat.le_of_ble_eq_true rfl) (Nat.le_of_ble_eq_true rfl) dX12_undo_80
        · have c_4 : ¬ (120 ≤ i) := fun h => c_4 ((nle 120 i (by omega) (by omega)).mpr h)
          refine lv_aload_n hx hb dX12_undo_27 rfl (lv_at hl 1 rfl) ?_
          refine sk_get (v := .ref (g 31)) (C := RX12) (T := TX12) (N := 92) hx hb hts inlX12 hown hK hP 0 rfl rfl 31 (by decide) w_5_186 rfl dX12_undo_28 ?_
          refine lv_iload_n hx hb dX12_undo_31 rfl (lv_at hl 0 rfl) ?_
          refine lv_aload_n hx hb dX12_undo_32 rfl (lv_at hl 1 rfl) ?_
          refine sk_get (v := .ref (g 54)) (C := RX12) (T := TX12) (N := 92) hx hb hts inlX12 hown hK hP 0 rfl rfl 54 (by decide) w_5_209 rfl dX12_undo_33 ?_
          refine lv_bipush (v := 120) hx hb dX12_undo_36 (by decide) ?_
          refine lv_aload_n hx hb dX12_undo_38 rfl (lv_at hl 1 rfl) ?_
          refine sk_get (v := .int (nI nu)) (C := RX12) (T := TX12) (N := 92) hx hb hts inlX12 hown hK hP 0 rfl rfl 56 (by decide) w_5_211 rfl dX12_undo_39 ?_
          refine lv_imul hx hb dX12_undo_42 ?_
          refine sk_top (nI (120 * nu)) (nmul 120 nu) ?_
          refine lv_iload_n hx hb dX12_undo_43 rfl (lv_at hl 0 rfl) ?_
          refine lv_iadd hx hb dX12_undo_44 ?_
          refine sk_top (nI (120 * nu + i)) (nI_add (120 * nu) i) ?_
          refine va_iald hx hb hK.1 hP 2 0 rfl rfl (vin (120 * nu + i) 2400 (by omega) (by omega)) dX12_undo_45 ?_
          refine lv_topi (fun v_5 ev_5 => ?_)
          refine sk_iastP (Pr := nowOk) (ws' := fun f_6 => [(mm, .inr (12, mo g (nI ta) (nI pa) (nI pe) pd (nI pb) pp pf pg pn rt rn (nI cd) sn (nI il) tk am at_ aa 0 0 (-1) wt wy 0 (nI rm) (nI ud) (nI nu) sd (nI qn) (nI qw) qo (nI qb) (nI qp) qa (nI qi) (nI oc))), (g 31, .inl (cI, 120, .inl f_6)), (g 54, .inl (cI, 2400, .inl kp)), (g 9, .inl (cI, 6, .inl rf))]) hx hb hK hP hD hS 1 0 rfl rfl (vin i 120 (by omega) (by omega)) (fun _ => rfl) (nowOk_un hzn hkp (by omega) (by omega) ev_5.symm) dX12_undo_46 (fun f_6 H locs hf_7 hP hD hS => ?_)
          refine lv_iinc (v := nI (i + 1)) (lv' := [(1, .int (nI (i + 1))), (0, .ref mm)]) hx hb dX12_undo_47 hl (k := 0) rfl (ninc i 1 (by decide)) (by decide) rfl (fun ls hl => ?_)
          refine lv_goto (tgt := 21) hx hb dX12_undo_50 (by decide) ?_
          exact ih_lp_2 (i + 1) f_6 _ _ _ (by omega) hf_7 (by omega) hP hD hS (lv_sub hl [0, 1] rfl)
    exact lp_2 (120 - 0 + 1) 0 nw _ _ _ (Nat.lt_succ_self _) hnw (by omega) hP hD hS (lv_sub hl [0, 1] rfl)
  · have c_1 : ud = 0 := (neq ud 0 (by omega) (by omega)).mp c_1
    refine lv_aload_n hx hb dX12_undo_7 rfl (lv_at hl 0 rfl) ?_
    refine sk_get (v := .ref (g 9)) (C := RX12) (T := TX12) (N := 92) hx hb hts inlX12 hown hK hP 0 rfl rfl 9 (by decide) w_5_164 rfl dX12_undo_8 ?_
    refine lv_iconst (v := 4) hx hb dX12_undo_11 (by decide) ?_
    refine lv_dup2_11 hx hb dX12_undo_12 rfl rfl ?_
    refine va_iald hx hb hK.1 hP 3 0 rfl rfl (by unfold vp_in; decide) dX12_undo_13 ?_
    refine lv_topi (fun v_8 ev_8 => ?_)
    refine lv_iconst (v := 1) hx hb dX12_undo_14 (by decide) ?_
    refine lv_iadd hx hb dX12_undo_15 ?_
    refine lv_topi (fun v_9 ev_9 => ?_)
    refine sk_iastO (ws' := fun f_10 => [(mm, .inr (12, mo g (nI ta) (nI pa) (nI pe) pd (nI pb) pp pf pg pn rt rn (nI cd) sn (nI il) tk am at_ aa 0 0 (-1) wt wy 0 (nI rm) (nI ud) (nI nu) sd (nI qn) (nI qw) qo (nI qb) (nI qp) qa (nI qi) (nI oc))), (g 31, .inl (cI, 120, .inl nw)), (g 54, .inl (cI, 2400, .inl kp)), (g 9, .inl (cI, 6, .inl f_10))]) hx hb hK hP hD hS 3 0 rfl rfl (by unfold vp_in; decide) (fun _ => rfl) dX12_undo_16 (fun f_10 H locs hP hD hS => ?_)
    refine lv_iconst (v := 0) hx hb dX12_undo_17 (by decide) ?_
    exact sk_iret hx hb hr rfl hlocks hK hP hD hS (⟨0, nu, ud, nw, f_10, by omega, by omega, by omega, hnw, rfl, rfl⟩) (Nat.le_of_ble_eq_true rfl) (Nat.le_of_ble_eq_true rfl) dX12_undo_18
theorem dX12_becomes_0 : decode cX12_becomes 0 = .ok (.aload_n 0, 1) := by decide +kernel
theorem dX12_becomes_1 : decode cX12_becomes 1 = .ok (.iload_n 1, 1) := by decide +kernel
theorem dX12_becomes_2 : decode cX12_becomes 2 = .ok (.invokevirtual 413, 3) := by decide +kernel
theorem dX12_becomes_5 : decode cX12_becomes 5 = .ok (.ifCond .eq 24, 3) := by decide +kernel
theorem dX12_becomes_29 : decode cX12_becomes 29 = .ok (.aload_n 0, 1) := by decide +kernel
theorem dX12_becomes_30 : decode cX12_becomes 30 = .ok (.getfield 17, 3) := by decide +kernel
theorem dX12_becomes_33 : decode cX12_becomes 33 = .ok (.iconst 2, 1) := by decide +kernel
theorem dX12_becomes_34 : decode cX12_becomes 34 = .ok (.dup2, 1) := by decide +kernel
theorem dX12_becomes_35 : decode cX12_becomes 35 = .ok (.iaload, 1) := by decide +kernel
theorem dX12_becomes_36 : decode cX12_becomes 36 = .ok (.iconst 1, 1) := by decide +kernel
theorem dX12_becomes_37 : decode cX12_becomes 37 = .ok (.iadd, 1) := by decide +kernel
theorem dX12_becomes_38 : decode cX12_becomes 38 = .ok (.iastore, 1) := by decide +kernel
theorem dX12_becomes_39 : decode cX12_becomes 39 = .ok (.iconst 0, 1) := by decide +kernel
theorem dX12_becomes_40 : decode cX12_becomes 40 = .ok (.ireturn, 1) := by decide +kernel
theorem dX12_becomes_8 : decode cX12_becomes 8 = .ok (.iload 4, 2) := by decide +kernel
theorem dX12_becomes_10 : decode cX12_becomes 10 = .ok (.ifCond .eq 19, 3) := by decide +kernel
theorem dX12_becomes_13 : decode cX12_becomes 13 = .ok (.aload_n 0, 1) := by decide +kernel
theorem dX12_becomes_14 : decode cX12_becomes 14 = .ok (.getfield 63, 3) := by decide +kernel
theorem dX12_becomes_17 : decode cX12_becomes 17 = .ok (.iconst 2, 1) := by decide +kernel
theorem dX12_becomes_18 : decode cX12_becomes 18 = .ok (.iconst 3, 1) := by decide +kernel
theorem dX12_becomes_19 : decode cX12_becomes 19 = .ok (.iload_n 1, 1) := by decide +kernel
theorem dX12_becomes_20 : decode cX12_becomes 20 = .ok (.imul, 1) := by decide +kernel
theorem dX12_becomes_21 : decode cX12_becomes 21 = .ok (.iadd, 1) := by decide +kernel
theorem dX12_becomes_22 : decode cX12_becomes 22 = .ok (.iload_n 2, 1) := by decide +kernel
theorem dX12_becomes_23 : decode cX12_becomes 23 = .ok (.iadd, 1) := by decide +kernel
theorem dX12_becomes_24 : decode cX12_becomes 24 = .ok (.iaload, 1) := by decide +kernel
theorem dX12_becomes_25 : decode cX12_becomes 25 = .ok (.iload_n 3, 1) := by decide +kernel
theorem dX12_becomes_26 : decode cX12_becomes 26 = .ok (.if_icmp .ne 15, 3) := by decide +kernel
theorem dX12_becomes_41 : decode cX12_becomes 41 = .ok (.aload_n 0, 1) := by decide +kernel
theorem dX12_becomes_42 : decode cX12_becomes 42 = .ok (.invokevirtual 474, 3) := by decide +kernel
theorem dX12_becomes_45 : decode cX12_becomes 45 = .ok (.aload_n 0, 1) := by decide +kernel
theorem dX12_becomes_46 : decode cX12_becomes 46 = .ok (.getfield 63, 3) := by decide +kernel
theorem dX12_becomes_49 : decode cX12_becomes 49 = .ok (.iconst 2, 1) := by decide +kernel
theorem dX12_becomes_50 : decode cX12_becomes 50 = .ok (.iconst 3, 1) := by decide +kernel
theorem dX12_becomes_51 : decode cX12_becomes 51 = .ok (.iload_n 1, 1) := by decide +kernel
theorem dX12_becomes_52 : decode cX12_becomes 52 = .ok (.imul, 1) := by decide +kernel
theorem dX12_becomes_53 : decode cX12_becomes 53 = .ok (.iadd, 1) := by decide +kernel
theorem dX12_becomes_54 : decode cX12_becomes 54 = .ok (.iload_n 2, 1) := by decide +kernel
theorem dX12_becomes_55 : decode cX12_becomes 55 = .ok (.iadd, 1) := by decide +kernel
theorem dX12_becomes_56 : decode cX12_becomes 56 = .ok (.iload_n 3, 1) := by decide +kernel
theorem dX12_becomes_57 : decode cX12_becomes 57 = .ok (.iastore, 1) := by decide +kernel
theorem dX12_becomes_58 : decode cX12_becomes 58 = .ok (.iconst 1, 1) := by decide +kernel
theorem dX12_becomes_59 : decode cX12_becomes 59 = .ok (.ireturn, 1) := by decide +kernel
theorem w_8_130 : (Cond.methodLink RX12 474 yX12_keeps) ∈ wsL_law := sk_mem (ck_8 _ (List.mem_of_getElem? (i := 130) rfl)) rfl
theorem w_8_132 : (Cond.instanceMethod yX12_keeps) ∈ wsL_law := sk_mem (ck_8 _ (List.mem_of_getElem? (i := 132) rfl)) rfl
theorem w_0_107 : (Cond.selects RX12 yX12_keeps yX12_keeps) ∈ wsL_law := sk_mem (ck_0 _ (List.mem_of_getElem? (i := 107) rfl)) rfl
theorem w_8_129 : (Cond.code yX12_becomes cX12_becomes 5 (some .boolean)) ∈ wsL_law := sk_mem (ck_8 _ (List.mem_of_getElem? (i := 129) rfl)) rfl
set_option maxHeartbeats 4000000 in
set_option maxRecDepth 100000 in
theorem c_m_becomes (l : Launch) (D : va_G) (cI cJ cC cZ cS : ClassId) (mm : Nat) (g : Nat → Nat) (ta : Nat) (pa : Nat) (pe : Nat) (pd : Int32) (pb : Nat) (pp : Int32) (pf : Int32) (pg : Int32) (pn : Int32) (rt : Int32) (rn : Int32) (cd : Nat) (sn : Int32) (il : Nat) (tk : Int32) (am : Int32) (at_ : Int32) (aa : Int32) (wt : Int32) (wy : Int64) (rm : Nat) (ud : Nat) (nu : Nat) (sd : Int64) (qn : Nat) (qw : Nat) (qo : Int32) (qb : Nat) (qp : Nat) (qa : Int64) (qi : Nat) (oc : Nat) (d : Int32) (w : Nat) (o : Int32) (b0 : Nat) (l0 : Nat) (l1 : Nat) (dm : Nat) (l3 : Nat) (nw : Nat → Int32) (kp : Nat → Int32) (rf : Nat → Int32) (hdm : dm ≤ 9) (hnu : nu < 20) (hud : ud ≤ 20) (hw : w ≤ 2) (hb0 : b0 ≤ 1) (hnw : nowOk nw) (hkp : keptOk kp) : skM l yX12_becomes cX12_becomes 5 (some .boolean) 2 46 0 0 D (skT cI cJ cC cZ cS) [.ref mm, .int d, .int (nI w), .int o, .int (nI b0)] [(mm, .inr (12, mo g (nI ta) (nI pa) (nI pe) pd (nI pb) pp pf pg pn rt rn (nI cd) sn (nI il) tk am at_ aa 0 0 (-1) wt wy 0 (nI rm) (nI ud) (nI nu) sd (nI qn) (nI qw) qo (nI qb) (nI qp) qa (nI qi) (nI oc))), (g 20, .inl (cI, 4, .inl (l4 (nI l0) (nI l1) (nI dm) (nI l3)))), (g 31, .inl (cI, 120, .inl nw)), (g 54, .inl (cI, 2400, .inl kp)), (g 9, .inl (cI, 6, .inl rf))] (skI D (skT cI cJ cC cZ cS) (fun (r : Int32) (u : va_W) => ∃ (b : Nat), ∃ (nu2 : Nat), ∃ (ud2 : Nat), ∃ (nw2 : Nat → Int32), ∃ (kp2 : Nat → Int32), ∃ (rf2 : Nat → Int32), nu2 < 20 ∧ ud2 ≤ 20 ∧ b ≤ 1 ∧ nowOk nw2 ∧ keptOk kp2 ∧ r = nI b ∧ u = [(mm, .inr (12, mo g (nI ta) (nI pa) (nI pe) pd (nI pb) pp pf pg pn rt rn (nI cd) sn (nI il) tk am at_ aa 0 0 (-1) wt wy 0 (nI rm) (nI ud2) (nI nu2) sd (nI qn) (nI qw) qo (nI qb) (nI qp) qa (nI qi) (nI oc))), (g 20, .inl (cI, 4, .inl (l4 (nI l0) (nI l1) (nI dm) (nI l3)))), (g 31, .inl (cI, 120, .inl nw2)), (g 54, .inl (cI, 2400, .inl kp2)), (g 9, .inl (cI, 6, .inl rf2))])) := by
  refine skM_of (by decide +kernel) (Nat.le_of_ble_eq_true rfl) ?_
  intro p e s m below meth c A ls E hP hD hl
  obtain ⟨hx, hb, hr, hml, hlocks, hin, hown, hts, hK, hA⟩ := E
  have hown : s.vm.findClass RX12 = some m.cls := hown
  have hS : va_S A s.heap s.heap [] := va_S.rf
  have hl : lv_has ls 5 [(0, .ref mm), (1, .int d), (2, .int (nI w)), (3, .int o), (4, .int (nI b0))] := hl
  refine lv_aload_n hx hb dX12_becomes_0 rfl (lv_at hl 0 rfl) ?_
  refine lv_iload_n hx hb dX12_becomes_1 rfl (lv_at hl 1 rfl) ?_
  refine sk_Vi (q0 := 0) (n := 1) (rest := []) (wr := [(g 31, .inl (cI, 120, .inl nw)), (g 54, .inl (cI, 2400, .inl kp)), (g 9, .inl (cI, 6, .inl rf))]) ⟨hx, hb, hml, hown, hts⟩ hl.1 (c_m_isDay l D cI cJ cC cZ cS mm g ta pa pe pd pb pp pf pg pn rt rn cd sn il tk am at_ aa 0 0 (-1) wt wy 0 rm ud nu sd qn qw qo qb qp qa qi oc d l0 l1 dm l3 (by omega)) w_7_117 w_7_119 w_0_72 w_1_14 w_7_120 (by decide +kernel) ⟨⟨(Nat.le_of_ble_eq_true rfl), (Nat.le_of_ble_eq_true rfl)⟩, (Nat.le_of_ble_eq_true rfl), (Nat.le_of_ble_eq_true rfl)⟩ hK hP hD hS hA [0, 1] [2, 3, 4] rfl rfl (by decide +kernel) (by decide +kernel) (by decide +kernel) rfl rfl rfl rfl (Nat.le_of_ble_eq_true rfl) dX12_becomes_2 (fun r_2 u H locs hw hP hD hS => ?_)
  obtain ⟨b_1, hb1_3, rfl, rfl⟩ := hw
  have hP : va_P D vwCl [(g 31, .inl (cI, 120, .inl nw)), (g 54, .inl (cI, 2400, .inl kp)), (g 9, .inl (cI, 6, .inl rf)), (mm, .inr (12, mo g (nI ta) (nI pa) (nI pe) pd (nI pb) pp pf pg pn rt rn (nI cd) sn (nI il) tk am at_ aa 0 0 (-1) wt wy 0 (nI rm) (nI ud) (nI nu) sd (nI qn) (nI qw) qo (nI qb) (nI qp) qa (nI qi) (nI oc))), (g 20, .inl (cI, 4, .inl (l4 (nI l0) (nI l1) (nI dm) (nI l3))))] H := hP
  have hD : va_D A [(g 31, .inl (cI, 120, .inl nw)), (g 54, .inl (cI, 2400, .inl kp)), (g 9, .inl (cI, 6, .inl rf)), (mm, .inr (12, mo g (nI ta) (nI pa) (nI pe) pd (nI pb) pp pf pg pn rt rn (nI cd) sn (nI il) tk am at_ aa 0 0 (-1) wt wy 0 (nI rm) (nI ud) (nI nu) sd (nI qn) (nI qw) qo (nI qb) (nI qp) qa (nI qi) (nI oc))), (g 20, .inl (cI, 4, .inl (l4 (nI l0) (nI l1) (nI dm) (nI l3))))] := hD
  refine lv_if_eq (tgt := 29) hx hb dX12_becomes_5 (by decide) (fun c_4 => ?_) (fun c_4 => ?_)
  · have c_4 : b_1 = 0 := (neq b_1 0 (by omega) (by omega)).mp c_4
    refine lv_aload_n hx hb dX12_becomes_29 rfl (lv_at hl 0 rfl) ?_
    refine sk_get (v := .ref (g 9)) (C := RX12) (T := TX12) (N := 92) hx hb hts inlX12 hown hK hP 3 rfl rfl 9 (by decide) w_5_164 rfl dX12_becomes_30 ?_
    refine lv_iconst (v := 2) hx hb dX12_becomes_33 (by decide) ?_
    refine lv_dup2_11 hx hb dX12_becomes_34 rfl rfl ?_
    refine va_iald hx hb hK.1 hP 2 0 rfl rfl (by unfold vp_in; decide) dX12_becomes_35 ?_
    refine lv_topi (fun v_5 ev_5 => ?_)
    refine lv_iconst (v := 1) hx hb dX12_becomes_36 (by decide) ?_
    refine lv_iadd hx hb dX12_becomes_37 ?_
    refine lv_topi (fun v_6 ev_6 => ?_)
    refine sk_iastO (ws' := fun f_7 => [(g 31, .inl (cI, 120, .inl nw)), (g 54, .inl (cI, 2400, .inl kp)), (g 9, .inl (cI, 6, .inl f_7)), (mm, .inr (12, mo g (nI ta) (nI pa) (nI pe) pd (nI pb) pp pf pg pn rt rn (nI cd) sn (nI il) tk am at_ aa 0 0 (-1) wt wy 0 (nI rm) (nI ud) (nI nu) sd (nI qn) (nI qw) qo (nI qb) (nI qp) qa (nI qi) (nI oc))), (g 20, .inl (cI, 4, .inl (l4 (nI l0) (nI l1) (nI dm) (nI l3))))]) hx hb hK hP hD hS 2 0 rfl rfl (by unfold vp_in; decide) (fun _ => rfl) dX12_becomes_38 (fun f_7 H locs hP hD hS => ?_)
    refine lv_iconst (v := 0) hx hb dX12_becomes_39 (by decide) ?_
    have hP := hP.sub (ws' := [(mm, .inr (12, mo g (nI ta) (nI pa) (nI pe) pd (nI pb) pp pf pg pn rt rn (nI cd) sn (nI il) tk am at_ aa 0 0 (-1) wt wy 0 (nI rm) (nI ud) (nI nu) sd (nI qn) (nI qw) qo (nI qb) (nI qp) qa (nI qi) (nI oc))), (g 20, .inl (cI, 4, .inl (l4 (nI l0) (nI l1) (nI dm) (nI l3)))), (g 31, .inl (cI, 120, .inl nw)), (g 54, .inl (cI, 2400, .inl kp)), (g 9, .inl (cI, 6, .inl f_7))]) [3, 4, 0, 1, 2] rfl
    have hD := hD.sub (ws' := [(mm, .inr (12, mo g (nI ta) (nI pa) (nI pe) pd (nI pb) pp pf pg pn rt rn (nI cd) sn (nI il) tk am at_ aa 0 0 (-1) wt wy 0 (nI rm) (nI ud) (nI nu) sd (nI qn) (nI qw) qo (nI qb) (nI qp) qa (nI qi) (nI oc))), (g 20, .inl (cI, 4, .inl (l4 (nI l0) (nI l1) (nI dm) (nI l3)))), (g 31, .inl (cI, 120, .inl nw)), (g 54, .inl (cI, 2400, .inl kp)), (g 9, .inl (cI, 6, .inl f_7))]) [3, 4, 0, 1, 2] (by decide +kernel) rfl
    exact sk_iret hx hb hr rfl hlocks hK hP hD hS (⟨0, nu, ud, nw, kp, f_7, by omega, by omega, by omega, hnw, hkp, rfl, rfl⟩) (Nat.le_of_ble_eq_true rfl) (Nat.le_of_ble_eq_true rfl) dX12_becomes_40
  · have c_4 : ¬ (b_1 = 0) := fun h => c_4 ((neq b_1 0 (by omega) (by omega)).mpr h)
    obtain ⟨kd_8, hkd_8, rfl⟩ := (hb1_3.resolve_left (by omega)).2
    refine lv_iload hx hb dX12_becomes_8 (lv_at hl 4 rfl) ?_
    refine lv_if_eq (tgt := 29) hx hb dX12_becomes_10 (by decide) (fun c_9 => ?_) (fun c_9 => ?_)
    · have c_9 : b0 = 0 := (neq b0 0 (by omega) (by omega)).mp c_9
      refine lv_aload_n hx hb dX12_becomes_29 rfl (lv_at hl 0 rfl) ?_
      refine sk_get (v := .ref (g 9)) (C := RX12) (T := TX12) (N := 92) hx hb hts inlX12 hown hK hP 3 rfl rfl 9 (by decide) w_5_164 rfl dX12_becomes_30 ?_
      refine lv_iconst (v := 2) hx hb dX12_becomes_33 (by decide) ?_
      refine lv_dup2_11 hx hb dX12_becomes_34 rfl rfl ?_
      refine va_iald hx hb hK.1 hP 2 0 rfl rfl (by unfold vp_in; decide) dX12_becomes_35 ?_
      refine lv_topi (fun v_10 ev_10 => ?_)
      refine lv_iconst (v := 1) hx hb dX12_becomes_36 (by decide) ?_
      refine lv_iadd hx hb dX12_becomes_37 ?_
      refine lv_topi (fun v_11 ev_11 => ?_)
      refine sk_iastO (ws' := fun f_12 => [(g 31, .inl (cI, 120, .inl nw)), (g 54, .inl (cI, 2400, .inl kp)), (g 9, .inl (cI, 6, .inl f_12)), (mm, .inr (12, mo g (nI ta) (nI pa) (nI pe) pd (nI pb) pp pf pg pn rt rn (nI cd) sn (nI il) tk am at_ aa 0 0 (-1) wt wy 0 (nI rm) (nI ud) (nI nu) sd (nI qn) (nI qw) qo (nI qb) (nI qp) qa (nI qi) (nI oc))), (g 20, .inl (cI, 4, .inl (l4 (nI l0) (nI l1) (nI dm) (nI l3))))]) hx hb hK hP hD hS 2 0 rfl rfl (by unfold vp_in; decide) (fun _ => rfl) dX12_becomes_38 (fun f_12 H locs hP hD hS => ?_)
      refine lv_iconst (v := 0) hx hb dX12_becomes_39 (by decide) ?_
      have hP := hP.sub (ws' := [(mm, .inr (12, mo g (nI ta) (nI pa) (nI pe) pd (nI pb) pp pf pg pn rt rn (nI cd) sn (nI il) tk am at_ aa 0 0 (-1) wt wy 0 (nI rm) (nI ud) (nI nu) sd (nI qn) (nI qw) qo (nI qb) (nI qp) qa (nI qi) (nI oc))), (g 20, .inl (cI, 4, .inl (l4 (nI l0) (nI l1) (nI dm) (nI l3)))), (g 31, .inl (cI, 120, .inl nw)), (g 54, .inl (cI, 2400, .inl kp)), (g 9, .inl (cI, 6, .inl f_12))]) [3, 4, 0, 1, 2] rfl
      have hD := hD.sub (ws' := [(mm, .inr (12, mo g (nI ta) (nI pa) (nI pe) pd (nI pb) pp pf pg pn rt rn (nI cd) sn (nI il) tk am at_ aa 0 0 (-1) wt wy 0 (nI rm) (nI ud) (nI nu) sd (nI qn) (nI qw) qo (nI qb) (nI qp) qa (nI qi) (nI oc))), (g 20, .inl (cI, 4, .inl (l4 (nI l0) (nI l1) (nI dm) (nI l3)))), (g 31, .inl (cI, 120, .inl nw)), (g 54, .inl (cI, 2400, .inl kp)), (g 9, .inl (cI, 6, .inl f_12))]) [3, 4, 0, 1, 2] (by decide +kernel) rfl
      exact sk_iret hx hb hr rfl hlocks hK hP hD hS (⟨0, nu, ud, nw, kp, f_12, by omega, by omega, by omega, hnw, hkp, rfl, rfl⟩) (Nat.le_of_ble_eq_true rfl) (Nat.le_of_ble_eq_true rfl) dX12_becomes_40
    · have c_9 : ¬ (b0 = 0) := fun h => c_9 ((neq b0 0 (by omega) (by omega)).mpr h)
      refine lv_aload_n hx hb dX12_becomes_13 rfl (lv_at hl 0 rfl) ?_
      refine sk_get (v := .ref (g 31)) (C := RX12) (T := TX12) (N := 92) hx hb hts inlX12 hown hK hP 3 rfl rfl 31 (by decide) w_5_186 rfl dX12_becomes_14 ?_
      refine lv_iconst (v := 2) hx hb dX12_becomes_17 (by decide) ?_
      refine lv_iconst (v := 3) hx hb dX12_becomes_18 (by decide) ?_
      refine lv_iload_n hx hb dX12_becomes_19 rfl (lv_at hl 1 rfl) ?_
      refine lv_imul hx hb dX12_becomes_20 ?_
      refine sk_top (nI (3 * kd_8)) (nmul 3 kd_8) ?_
      refine lv_iadd hx hb dX12_becomes_21 ?_
      refine sk_top (nI (2 + (3 * kd_8))) (nI_add 2 (3 * kd_8)) ?_
      refine lv_iload_n hx hb dX12_becomes_22 rfl (lv_at hl 2 rfl) ?_
      refine lv_iadd hx hb dX12_becomes_23 ?_
      refine sk_top (nI (2 + (3 * kd_8) + w)) (nI_add (2 + (3 * kd_8)) w) ?_
      refine va_iald hx hb hK.1 hP 0 0 rfl rfl (vin (2 + (3 * kd_8) + w) 120 (by omega) (by omega)) dX12_becomes_24 ?_
      refine lv_topi (fun v_13 ev_13 => ?_)
      refine lv_iload_n hx hb dX12_becomes_25 rfl (lv_at hl 3 rfl) ?_
      refine lv_icmp_ne (tgt := 41) hx hb dX12_becomes_26 (by decide) (fun c_14 => ?_) (fun c_14 => ?_)
      · skip
        refine lv_aload_n hx hb dX12_becomes_41 rfl (lv_at hl 0 rfl) ?_
        refine sk_Vv (q0 := 0) (n := 0) (rest := []) (wr := [(g 9, .inl (cI, 6, .inl rf)), (g 20, .inl (cI, 4, .inl (l4 (nI l0) (nI l1) (nI dm) (nI l3))))]) ⟨hx, hb, hml, hown, hts⟩ hl.1 (c_m_keeps l D cI cJ cC cZ cS mm g ta pa pe pd pb pp pf pg pn rt rn cd sn il tk am at_ aa wt wy rm ud nu sd qn qw qo qb qp qa qi oc nw kp (by omega) (by omega) hnw hkp) w_8_130 w_8_132 w_0_107 w_1_14 w_8_133 (by decide +kernel) ⟨⟨(Nat.le_of_ble_eq_true rfl), (Nat.le_of_ble_eq_true rfl)⟩, (Nat.le_of_ble_eq_true rfl), (Nat.le_of_ble_eq_true rfl)⟩ hK hP hD hS hA [3, 0, 1] [2, 4] rfl rfl (by decide +kernel) (by decide +kernel) (by decide +kernel) rfl rfl rfl rfl (Nat.le_of_ble_eq_true rfl) dX12_becomes_42 (fun u H locs hw hP hD hS => ?_)
        obtain ⟨nu2_15, ud2_16, kp2_17, hnu2_18, hud2_19, hkp2_20, rfl⟩ := hw
        have hP : va_P D vwCl [(g 9, .inl (cI, 6, .inl rf)), (g 20, .inl (cI, 4, .inl (l4 (nI l0) (nI l1) (nI dm) (nI l3)))), (mm, .inr (12, mo g (nI ta) (nI pa) (nI pe) pd (nI pb) pp pf pg pn rt rn (nI cd) sn (nI il) tk am at_ aa 0 0 (-1) wt wy 0 (nI rm) (nI ud2_16) (nI nu2_15) sd (nI qn) (nI qw) qo (nI qb) (nI qp) qa (nI qi) (nI oc))), (g 31, .inl (cI, 120, .inl nw)), (g 54, .inl (cI, 2400, .inl kp2_17))] H := hP
        have hD : va_D A [(g 9, .inl (cI, 6, .inl rf)), (g 20, .inl (cI, 4, .inl (l4 (nI l0) (nI l1) (nI dm) (nI l3)))), (mm, .inr (12, mo g (nI ta) (nI pa) (nI pe) pd (nI pb) pp pf pg pn rt rn (nI cd) sn (nI il) tk am at_ aa 0 0 (-1) wt wy 0 (nI rm) (nI ud2_16) (nI nu2_15) sd (nI qn) (nI qw) qo (nI qb) (nI qp) qa (nI qi) (nI oc))), (g 31, .inl (cI, 120, .inl nw)), (g 54, .inl (cI, 2400, .inl kp2_17))] := hD
        refine lv_aload_n hx hb dX12_becomes_45 rfl (lv_at hl 0 rfl) ?_
        refine sk_get (v := .ref (g 31)) (C := RX12) (T := TX12) (N := 92) hx hb hts inlX12 hown hK hP 2 rfl rfl 31 (by decide) w_5_186 rfl dX12_becomes_46 ?_
        refine lv_iconst (v := 2) hx hb dX12_becomes_49 (by decide) ?_
        refine lv_iconst (v := 3) hx hb dX12_becomes_50 (by decide) ?_
        refine lv_iload_n hx hb dX12_becomes_51 rfl (lv_at hl 1 rfl) ?_
        refine lv_imul hx hb dX12_becomes_52 ?_
        refine sk_top (nI (3 * kd_8)) (nmul 3 kd_8) ?_
        refine lv_iadd hx hb dX12_becomes_53 ?_
        refine sk_top (nI (2 + (3 * kd_8))) (nI_add 2 (3 * kd_8)) ?_
        refine lv_iload_n hx hb dX12_becomes_54 rfl (lv_at hl 2 rfl) ?_
        refine lv_iadd hx hb dX12_becomes_55 ?_
        refine sk_top (nI (2 + (3 * kd_8) + w)) (nI_add (2 + (3 * kd_8)) w) ?_
        refine lv_iload_n hx hb dX12_becomes_56 rfl (lv_at hl 3 rfl) ?_
        refine sk_iastP (Pr := nowOk) (ws' := fun f_21 => [(g 9, .inl (cI, 6, .inl rf)), (g 20, .inl (cI, 4, .inl (l4 (nI l0) (nI l1) (nI dm) (nI l3)))), (mm, .inr (12, mo g (nI ta) (nI pa) (nI pe) pd (nI pb) pp pf pg pn rt rn (nI cd) sn (nI il) tk am at_ aa 0 0 (-1) wt wy 0 (nI rm) (nI ud2_16) (nI nu2_15) sd (nI qn) (nI qw) qo (nI qb) (nI qp) qa (nI qi) (nI oc))), (g 31, .inl (cI, 120, .inl f_21)), (g 54, .inl (cI, 2400, .inl kp2_17))]) hx hb hK hP hD hS 3 0 rfl rfl (vin (2 + (3 * kd_8) + w) 120 (by omega) (by omega)) (fun _ => rfl) (nowOk_ne hnw (2 + (3 * kd_8) + w) _ (by omega) (by omega) (by omega)) dX12_becomes_57 (fun f_21 H locs hf_22 hP hD hS => ?_)
        refine lv_iconst (v := 1) hx hb dX12_becomes_58 (by decide) ?_
        have hP := hP.sub (ws' := [(mm, .inr (12, mo g (nI ta) (nI pa) (nI pe) pd (nI pb) pp pf pg pn rt rn (nI cd) sn (nI il) tk am at_ aa 0 0 (-1) wt wy 0 (nI rm) (nI ud2_16) (nI nu2_15) sd (nI qn) (nI qw) qo (nI qb) (nI qp) qa (nI qi) (nI oc))), (g 20, .inl (cI, 4, .inl (l4 (nI l0) (nI l1) (nI dm) (nI l3)))), (g 31, .inl (cI, 120, .inl f_21)), (g 54, .inl (cI, 2400, .inl kp2_17)), (g 9, .inl (cI, 6, .inl rf))]) [2, 1, 3, 4, 0] rfl
        have hD := hD.sub (ws' := [(mm, .inr (12, mo g (nI ta) (nI pa) (nI pe) pd (nI pb) pp pf pg pn rt rn (nI cd) sn (nI il) tk am at_ aa 0 0 (-1) wt wy 0 (nI rm) (nI ud2_16) (nI nu2_15) sd (nI qn) (nI qw) qo (nI qb) (nI qp) qa (nI qi) (nI oc))), (g 20, .inl (cI, 4, .inl (l4 (nI l0) (nI l1) (nI dm) (nI l3)))), (g 31, .inl (cI, 120, .inl f_21)), (g 54, .inl (cI, 2400, .inl kp2_17)), (g 9, .inl (cI, 6, .inl rf))]) [2, 1, 3, 4, 0] (by decide +kernel) rfl
        exact sk_iret hx hb hr rfl hlocks hK hP hD hS (⟨1, nu2_15, ud2_16, f_21, kp2_17, rf, by omega, by omega, by omega, hf_22, hkp2_20, rfl, rfl⟩) (Nat.le_of_ble_eq_true rfl) (Nat.le_of_ble_eq_true rfl) dX12_becomes_59
      · skip
        refine lv_aload_n hx hb dX12_becomes_29 rfl (lv_at hl 0 rfl) ?_
        refine sk_get (v := .ref (g 9)) (C := RX12) (T := TX12) (N := 92) hx hb hts inlX12 hown hK hP 3 rfl rfl 9 (by decide) w_5_164 rfl dX12_becomes_30 ?_
        refine lv_iconst (v := 2) hx hb dX12_becomes_33 (by decide) ?_
        refine lv_dup2_11 hx hb dX12_becomes_34 rfl rfl ?_
        refine va_iald hx hb hK.1 hP 2 0 rfl rfl (by unfold vp_in; decide) dX12_becomes_35 ?_
        refine lv_topi (fun v_23 ev_23 => ?_)
        refine lv_iconst (v := 1) hx hb dX12_becomes_36 (by decide) ?_
        refine lv_iadd hx hb dX12_becomes_37 ?_
        refine lv_topi (fun v_24 ev_24 => ?_)
        refine sk_iastO (ws' := fun f_25 => [(g 31, .inl (cI, 120, .inl nw)), (g 54, .inl (cI, 2400, .inl kp)), (g 9, .inl (cI, 6, .inl f_25)), (mm, .inr (12, mo g (nI ta) (nI pa) (nI pe) pd (nI pb) pp pf pg pn rt rn (nI cd) sn (nI il) tk am at_ aa 0 0 (-1) wt wy 0 (nI rm) (nI ud) (nI nu) sd (nI qn) (nI qw) qo (nI qb) (nI qp) qa (nI qi) (nI oc))), (g 20, .inl (cI, 4, .inl (l4 (nI l0) (nI l1) (nI dm) (nI l3))))]) hx hb hK hP hD hS 2 0 rfl rfl (by unfold vp_in; decide) (fun _ => rfl) dX12_becomes_38 (fun f_25 H locs hP hD hS => ?_)
        refine lv_iconst (v := 0) hx hb dX12_becomes_39 (by decide) ?_
        have hP := hP.sub (ws' := [(mm, .inr (12, mo g (nI ta) (nI pa) (nI pe) pd (nI pb) pp pf pg pn rt rn (nI cd) sn (nI il) tk am at_ aa 0 0 (-1) wt wy 0 (nI rm) (nI ud) (nI nu) sd (nI qn) (nI qw) qo (nI qb) (nI qp) qa (nI qi) (nI oc))), (g 20, .inl (cI, 4, .inl (l4 (nI l0) (nI l1) (nI dm) (nI l3)))), (g 31, .inl (cI, 120, .inl nw)), (g 54, .inl (cI, 2400, .inl kp)), (g 9, .inl (cI, 6, .inl f_25))]) [3, 4, 0, 1, 2] rfl
        have hD := hD.sub (ws' := [(mm, .inr (12, mo g (nI ta) (nI pa) (nI pe) pd (nI pb) pp pf pg pn rt rn (nI cd) sn (nI il) tk am at_ aa 0 0 (-1) wt wy 0 (nI rm) (nI ud) (nI nu) sd (nI qn) (nI qw) qo (nI qb) (nI qp) qa (nI qi) (nI oc))), (g 20, .inl (cI, 4, .inl (l4 (nI l0) (nI l1) (nI dm) (nI l3)))), (g 31, .inl (cI, 120, .inl nw)), (g 54, .inl (cI, 2400, .inl kp)), (g 9, .inl (cI, 6, .inl f_25))]) [3, 4, 0, 1, 2] (by decide +kernel) rfl
        exact sk_iret hx hb hr rfl hlocks hK hP hD hS (⟨0, nu, ud, nw, kp, f_25, by omega, by omega, by omega, hnw, hkp, rfl, rfl⟩) (Nat.le_of_ble_eq_true rfl) (Nat.le_of_ble_eq_true rfl) dX12_becomes_40
theorem dX12_set_0 : decode cX12_set 0 = .ok (.aload_n 0, 1) := by decide +kernel
theorem dX12_set_1 : decode cX12_set 1 = .ok (.iload_n 1, 1) := by decide +kernel
theorem dX12_set_2 : decode cX12_set 2 = .ok (.iload_n 2, 1) := by decide +kernel
theorem dX12_set_3 : decode cX12_set 3 = .ok (.iconst 1, 1) := by decide +kernel
theorem dX12_set_4 : decode cX12_set 4 = .ok (.if_icmp .ne 7, 3) := by decide +kernel
theorem dX12_set_11 : decode cX12_set 11 = .ok (.iconst 0, 1) := by decide +kernel
theorem dX12_set_12 : decode cX12_set 12 = .ok (.iload_n 3, 1) := by decide +kernel
theorem dX12_set_13 : decode cX12_set 13 = .ok (.iload_n 2, 1) := by decide +kernel
theorem dX12_set_14 : decode cX12_set 14 = .ok (.i2l, 1) := by decide +kernel
theorem dX12_set_15 : decode cX12_set 15 = .ok (.lconst 0, 1) := by decide +kernel
theorem dX12_set_16 : decode cX12_set 16 = .ok (.lconst 1, 1) := by decide +kernel
theorem dX12_set_17 : decode cX12_set 17 = .ok (.invokestatic 238, 3) := by decide +kernel
theorem dX12_set_20 : decode cX12_set 20 = .ok (.ifCond .eq 19, 3) := by decide +kernel
theorem dX12_set_39 : decode cX12_set 39 = .ok (.iconst 0, 1) := by decide +kernel
theorem dX12_set_40 : decode cX12_set 40 = .ok (.invokevirtual 477, 3) := by decide +kernel
theorem dX12_set_43 : decode cX12_set 43 = .ok (.ireturn, 1) := by decide +kernel
theorem dX12_set_23 : decode cX12_set 23 = .ok (.iload_n 3, 1) := by decide +kernel
theorem dX12_set_24 : decode cX12_set 24 = .ok (.i2l, 1) := by decide +kernel
theorem dX12_set_25 : decode cX12_set 25 = .ok (.lconst 0, 1) := by decide +kernel
theorem dX12_set_26 : decode cX12_set 26 = .ok (.ldc2_w 318, 3) := by decide +kernel
theorem dX12_set_29 : decode cX12_set 29 = .ok (.invokestatic 238, 3) := by decide +kernel
theorem dX12_set_32 : decode cX12_set 32 = .ok (.ifCond .eq 7, 3) := by decide +kernel
theorem dX12_set_35 : decode cX12_set 35 = .ok (.iconst 1, 1) := by decide +kernel
theorem dX12_set_36 : decode cX12_set 36 = .ok (.goto 4, 3) := by decide +kernel
theorem dX12_set_7 : decode cX12_set 7 = .ok (.iconst 1, 1) := by decide +kernel
theorem dX12_set_8 : decode cX12_set 8 = .ok (.goto 4, 3) := by decide +kernel
theorem w_8_126 : (Cond.methodLink RX12 477 yX12_becomes) ∈ wsL_law := sk_mem (ck_8 _ (List.mem_of_getElem? (i := 126) rfl)) rfl
theorem w_8_128 : (Cond.instanceMethod yX12_becomes) ∈ wsL_law := sk_mem (ck_8 _ (List.mem_of_getElem? (i := 128) rfl)) rfl
theorem w_0_106 : (Cond.selects RX12 yX12_becomes yX12_becomes) ∈ wsL_law := sk_mem (ck_0 _ (List.mem_of_getElem? (i := 106) rfl)) rfl
theorem w_8_125 : (Cond.code yX12_set cX12_set 4 (some .boolean)) ∈ wsL_law := sk_mem (ck_8 _ (List.mem_of_getElem? (i := 125) rfl)) rfl
set_option maxHeartbeats 4000000 in
set_option maxRecDepth 100000 in
theorem c_m_set (l : Launch) (D : va_G) (cI cJ cC cZ cS : ClassId) (mm : Nat) (g : Nat → Nat) (ta : Nat) (pa : Nat) (pe : Nat) (pd : Int32) (pb : Nat) (pp : Int32) (pf : Int32) (pg : Int32) (pn : Int32) (rt : Int32) (rn : Int32) (cd : Nat) (sn : Int32) (il : Nat) (tk : Int32) (am : Int32) (at_ : Int32) (aa : Int32) (wt : Int32) (wy : Int64) (rm : Nat) (ud : Nat) (nu : Nat) (sd : Int64) (qn : Nat) (qw : Nat) (qo : Int32) (qb : Nat) (qp : Nat) (qa : Int64) (qi : Nat) (oc : Nat) (d : Int32) (w : Int32) (o : Int32) (l0 : Nat) (l1 : Nat) (dm : Nat) (l3 : Nat) (nw : Nat → Int32) (kp : Nat → Int32) (rf : Nat → Int32) (hdm : dm ≤ 9) (hnu : nu < 20) (hud : ud ≤ 20) (hnw : nowOk nw) (hkp : keptOk kp) : skM l yX12_set cX12_set 4 (some .boolean) 3 70 0 0 D (skT cI cJ cC cZ cS) [.ref mm, .int d, .int w, .int o] [(mm, .inr (12, mo g (nI ta) (nI pa) (nI pe) pd (nI pb) pp pf pg pn rt rn (nI cd) sn (nI il) tk am at_ aa 0 0 (-1) wt wy 0 (nI rm) (nI ud) (nI nu) sd (nI qn) (nI qw) qo (nI qb) (nI qp) qa (nI qi) (nI oc))), (g 20, .inl (cI, 4, .inl (l4 (nI l0) (nI l1) (nI dm) (nI l3)))), (g 31, .inl (cI, 120, .inl nw)), (g 54, .inl (cI, 2400, .inl kp)), (g 9, .inl (cI, 6, .inl rf))] (skI D (skT cI cJ cC cZ cS) (fun (r : Int32) (u : va_W) => ∃ (b : Nat), ∃ (nu2 : Nat), ∃ (ud2 : Nat), ∃ (nw2 : Nat → Int32), ∃ (kp2 : Nat → Int32), ∃ (rf2 : Nat → Int32), nu2 < 20 ∧ ud2 ≤ 20 ∧ b ≤ 1 ∧ nowOk nw2 ∧ keptOk kp2 ∧ r = nI b ∧ u = [(mm, .inr (12, mo g (nI ta) (nI pa) (nI pe) pd (nI pb) pp pf pg pn rt rn (nI cd) sn (nI il) tk am at_ aa 0 0 (-1) wt wy 0 (nI rm) (nI ud2) (nI nu2) sd (nI qn) (nI qw) qo (nI qb) (nI qp) qa (nI qi) (nI oc))), (g 20, .inl (cI, 4, .inl (l4 (nI l0) (nI l1) (nI dm) (nI l3)))), (g 31, .inl (cI, 120, .inl nw2)), (g 54, .inl (cI, 2400, .inl kp2)), (g 9, .inl (cI, 6, .inl rf2))])) := by
  refine skM_of (by decide +kernel) (Nat.le_of_ble_eq_true rfl) ?_
  intro p e s m below meth c A ls E hP hD hl
  obtain ⟨hx, hb, hr, hml, hlocks, hin, hown, hts, hK, hA⟩ := E
  have hown : s.vm.findClass RX12 = some m.cls := hown
  have hS : va_S A s.heap s.heap [] := va_S.rf
  have hl : lv_has ls 4 [(0, .ref mm), (1, .int d), (2, .int w), (3, .int o)] := hl
  refine lv_aload_n hx hb dX12_set_0 rfl (lv_at hl 0 rfl) ?_
  refine lv_iload_n hx hb dX12_set_1 rfl (lv_at hl 1 rfl) ?_
  refine lv_iload_n hx hb dX12_set_2 rfl (lv_at hl 2 rfl) ?_
  refine lv_iconst (v := 1) hx hb dX12_set_3 (by decide) ?_
  refine lv_icmp_ne (tgt := 11) hx hb dX12_set_4 (by decide) (fun c_1 => ?_) (fun c_1 => ?_)
  · skip
    refine lv_iconst (v := 0) hx hb dX12_set_11 (by decide) ?_
    refine lv_iload_n hx hb dX12_set_12 rfl (lv_at hl 3 rfl) ?_
    refine lv_iload_n hx hb dX12_set_13 rfl (lv_at hl 2 rfl) ?_
    refine lv_i2l hx hb dX12_set_14 rfl ?_
    refine lv_lconst (v := 0) hx hb dX12_set_15 (by decide) ?_
    refine lv_lconst (v := 1) hx hb dX12_set_16 (by decide) ?_
    refine sk_Si (n := 3) (rest := [.int o, .int 0, .int d, .ref mm]) (wr := [(mm, .inr (12, mo g (nI ta) (nI pa) (nI pe) pd (nI pb) pp pf pg pn rt rn (nI cd) sn (nI il) tk am at_ aa 0 0 (-1) wt wy 0 (nI rm) (nI ud) (nI nu) sd (nI qn) (nI qw) qo (nI qb) (nI qp) qa (nI qi) (nI oc))), (g 20, .inl (cI, 4, .inl (l4 (nI l0) (nI l1) (nI dm) (nI l3)))), (g 31, .inl (cI, 120, .inl nw)), (g 54, .inl (cI, 2400, .inl kp)), (g 9, .inl (cI, 6, .inl rf))]) ⟨hx, hb, hml, hown, hts⟩ hl.1 (c_m_isIn l D cI cJ cC cZ cS (Int32.toInt64 w) 0 1) w_7_0 w_7_1 w_1_14 w_7_2 (by decide +kernel) ⟨⟨(Nat.le_of_ble_eq_true rfl), (Nat.le_of_ble_eq_true rfl)⟩, (Nat.le_of_ble_eq_true rfl), (Nat.le_of_ble_eq_true rfl)⟩ hK hP hD hS hA [] [0, 1, 2, 3, 4] rfl rfl (by decide +kernel) (by decide +kernel) (by decide +kernel) rfl rfl (Nat.le_of_ble_eq_true rfl) dX12_set_17 (fun r_3 u H locs hw hP hD hS => ?_)
    obtain ⟨b_2, hb1_4, rfl, rfl⟩ := hw
    have hP : va_P D vwCl [(mm, .inr (12, mo g (nI ta) (nI pa) (nI pe) pd (nI pb) pp pf pg pn rt rn (nI cd) sn (nI il) tk am at_ aa 0 0 (-1) wt wy 0 (nI rm) (nI ud) (nI nu) sd (nI qn) (nI qw) qo (nI qb) (nI qp) qa (nI qi) (nI oc))), (g 20, .inl (cI, 4, .inl (l4 (nI l0) (nI l1) (nI dm) (nI l3)))), (g 31, .inl (cI, 120, .inl nw)), (g 54, .inl (cI, 2400, .inl kp)), (g 9, .inl (cI, 6, .inl rf))] H := hP
    have hD : va_D A [(mm, .inr (12, mo g (nI ta) (nI pa) (nI pe) pd (nI pb) pp pf pg pn rt rn (nI cd) sn (nI il) tk am at_ aa 0 0 (-1) wt wy 0 (nI rm) (nI ud) (nI nu) sd (nI qn) (nI qw) qo (nI qb) (nI qp) qa (nI qi) (nI oc))), (g 20, .inl (cI, 4, .inl (l4 (nI l0) (nI l1) (nI dm) (nI l3)))), (g 31, .inl (cI, 120, .inl nw)), (g 54, .inl (cI, 2400, .inl kp)), (g 9, .inl (cI, 6, .inl rf))] := hD
    refine lv_if_eq (tgt := 39) hx hb dX12_set_20 (by decide) (fun c_5 => ?_) (fun c_5 => ?_)
    · have c_5 : b_2 = 0 := (neq b_2 0 (by omega) (by omega)).mp c_5
      refine lv_iconst (v := 0) hx hb dX12_set_39 (by decide) ?_
      refine sk_Vi (q0 := 0) (n := 4) (rest := []) (wr := []) ⟨hx, hb, hml, hown, hts⟩ hl.1 (c_m_becomes l D cI cJ cC cZ cS mm g ta pa pe pd pb pp pf pg pn rt rn cd sn il tk am at_ aa wt wy rm ud nu sd qn qw qo qb qp qa qi oc d 0 o 0 l0 l1 dm l3 nw kp rf (by omega) (by omega) (by omega) (by omega) (by omega) hnw hkp) w_8_126 w_8_128 w_0_106 w_1_14 w_8_129 (by decide +kernel) ⟨⟨(Nat.le_of_ble_eq_true rfl), (Nat.le_of_ble_eq_true rfl)⟩, (Nat.le_of_ble_eq_true rfl), (Nat.le_of_ble_eq_true rfl)⟩ hK hP hD hS hA [0, 1, 2, 3, 4] [] rfl rfl (by decide +kernel) (by decide +kernel) (by decide +kernel) rfl rfl rfl rfl (Nat.le_of_ble_eq_true rfl) dX12_set_40 (fun r_12 u H locs hw hP hD hS => ?_)
      obtain ⟨b_6, nu2_7, ud2_8, nw2_9, kp2_10, rf2_11, hnu2_13, hud2_14, hb1_15, hnw2_16, hkp2_17, rfl, rfl⟩ := hw
      have hP : va_P D vwCl [(mm, .inr (12, mo g (nI ta) (nI pa) (nI pe) pd (nI pb) pp pf pg pn rt rn (nI cd) sn (nI il) tk am at_ aa 0 0 (-1) wt wy 0 (nI rm) (nI ud2_8) (nI nu2_7) sd (nI qn) (nI qw) qo (nI qb) (nI qp) qa (nI qi) (nI oc))), (g 20, .inl (cI, 4, .inl (l4 (nI l0) (nI l1) (nI dm) (nI l3)))), (g 31, .inl (cI, 120, .inl nw2_9)), (g 54, .inl (cI, 2400, .inl kp2_10)), (g 9, .inl (cI, 6, .inl rf2_11))] H := hP
      have hD : va_D A [(mm, .inr (12, mo g (nI ta) (nI pa) (nI pe) pd (nI pb) pp pf pg pn rt rn (nI cd) sn (nI il) tk am at_ aa 0 0 (-1) wt wy 0 (nI rm) (nI ud2_8) (nI nu2_7) sd (nI qn) (nI qw) qo (nI qb) (nI qp) qa (nI qi) (nI oc))), (g 20, .inl (cI, 4, .inl (l4 (nI l0) (nI l1) (nI dm) (nI l3)))), (g 31, .inl (cI, 120, .inl nw2_9)), (g 54, .inl (cI, 2400, .inl kp2_10)), (g 9, .inl (cI, 6, .inl rf2_11))] := hD
      exact sk_iret hx hb hr (nbool b_6 (by omega)) hlocks hK hP hD hS (⟨b_6, nu2_7, ud2_8, nw2_9, kp2_10, rf2_11, by omega, by omega, by omega, hnw2_16, hkp2_17, rfl, rfl⟩) (Nat.le_of_ble_eq_true rfl) (Nat.le_of_ble_eq_true rfl) dX12_set_43
    · have c_5 : ¬ (b_2 = 0) := fun h => c_5 ((neq b_2 0 (by omega) (by omega)).mpr h)
      obtain ⟨kd_18, hkd_18, rfl⟩ := inK 2 (hb1_4.resolve_left (by omega)).2.1 (hb1_4.resolve_left (by omega)).2.2 (by decide)
      refine lv_iload_n hx hb dX12_set_23 rfl (lv_at hl 3 rfl) ?_
      refine lv_i2l hx hb dX12_set_24 rfl ?_
      refine lv_lconst (v := 0) hx hb dX12_set_25 (by decide) ?_
      refine lv_ldc2 (v := 9) hx hb hown (hts _ w_7_130) dX12_set_26 ?_
      refine sk_Si (n := 3) (rest := [.int o, .int 0, .int d, .ref mm]) (wr := [(mm, .inr (12, mo g (nI ta) (nI pa) (nI pe) pd (nI pb) pp pf pg pn rt rn (nI cd) sn (nI il) tk am at_ aa 0 0 (-1) wt wy 0 (nI rm) (nI ud) (nI nu) sd (nI qn) (nI qw) qo (nI qb) (nI qp) qa (nI qi) (nI oc))), (g 20, .inl (cI, 4, .inl (l4 (nI l0) (nI l1) (nI dm) (nI l3)))), (g 31, .inl (cI, 120, .inl nw)), (g 54, .inl (cI, 2400, .inl kp)), (g 9, .inl (cI, 6, .inl rf))]) ⟨hx, hb, hml, hown, hts⟩ hl.1 (c_m_isIn l D cI cJ cC cZ cS (Int32.toInt64 o) 0 9) w_7_0 w_7_1 w_1_14 w_7_2 (by decide +kernel) ⟨⟨(Nat.le_of_ble_eq_true rfl), (Nat.le_of_ble_eq_true rfl)⟩, (Nat.le_of_ble_eq_true rfl), (Nat.le_of_ble_eq_true rfl)⟩ hK hP hD hS hA [] [0, 1, 2, 3, 4] rfl rfl (by decide +kernel) (by decide +kernel) (by decide +kernel) rfl rfl (Nat.le_of_ble_eq_true rfl) dX12_set_29 (fun r_20 u H locs hw hP hD hS => ?_)
      obtain ⟨b_19, hb1_21, rfl, rfl⟩ := hw
      have hP : va_P D vwCl [(mm, .inr (12, mo g (nI ta) (nI pa) (nI pe) pd (nI pb) pp pf pg pn rt rn (nI cd) sn (nI il) tk am at_ aa 0 0 (-1) wt wy 0 (nI rm) (nI ud) (nI nu) sd (nI qn) (nI qw) qo (nI qb) (nI qp) qa (nI qi) (nI oc))), (g 20, .inl (cI, 4, .inl (l4 (nI l0) (nI l1) (nI dm) (nI l3)))), (g 31, .inl (cI, 120, .inl nw)), (g 54, .inl (cI, 2400, .inl kp)), (g 9, .inl (cI, 6, .inl rf))] H := hP
      have hD : va_D A [(mm, .inr (12, mo g (nI ta) (nI pa) (nI pe) pd (nI pb) pp pf pg pn rt rn (nI cd) sn (nI il) tk am at_ aa 0 0 (-1) wt wy 0 (nI rm) (nI ud) (nI nu) sd (nI qn) (nI qw) qo (nI qb) (nI qp) qa (nI qi) (nI oc))), (g 20, .inl (cI, 4, .inl (l4 (nI l0) (nI l1) (nI dm) (nI l3)))), (g 31, .inl (cI, 120, .inl nw)), (g 54, .inl (cI, 2400, .inl kp)), (g 9, .inl (cI, 6, .inl rf))] := hD
      refine lv_if_eq (tgt := 39) hx hb dX12_set_32 (by decide) (fun c_22 => ?_) (fun c_22 => ?_)
      · have c_22 : b_19 = 0 := (neq b_19 0 (by omega) (by omega)).mp c_22
        refine lv_iconst (v := 0) hx hb dX12_set_39 (by decide) ?_
        refine sk_Vi (q0 := 0) (n := 4) (rest := []) (wr := []) ⟨hx, hb, hml, hown, hts⟩ hl.1 (c_m_becomes l D cI cJ cC cZ cS mm g ta pa pe pd pb pp pf pg pn rt rn cd sn il tk am at_ aa wt wy rm ud nu sd qn qw qo qb qp qa qi oc d 0 o 0 l0 l1 dm l3 nw kp rf (by omega) (by omega) (by omega) (by omega) (by omega) hnw hkp) w_8_126 w_8_128 w_0_106 w_1_14 w_8_129 (by decide +kernel) ⟨⟨(Nat.le_of_ble_eq_true rfl), (Nat.le_of_ble_eq_true rfl)⟩, (Nat.le_of_ble_eq_true rfl), (Nat.le_of_ble_eq_true rfl)⟩ hK hP hD hS hA [0, 1, 2, 3, 4] [] rfl rfl (by decide +kernel) (by decide +kernel) (by decide +kernel) rfl rfl rfl rfl (Nat.le_of_ble_eq_true rfl) dX12_set_40 (fun r_29 u H locs hw hP hD hS => ?_)
        obtain ⟨b_23, nu2_24, ud2_25, nw2_26, kp2_27, rf2_28, hnu2_30, hud2_31, hb1_32, hnw2_33, hkp2_34, rfl, rfl⟩ := hw
        have hP : va_P D vwCl [(mm, .inr (12, mo g (nI ta) (nI pa) (nI pe) pd (nI pb) pp pf pg pn rt rn (nI cd) sn (nI il) tk am at_ aa 0 0 (-1) wt wy 0 (nI rm) (nI ud2_25) (nI nu2_24) sd (nI qn) (nI qw) qo (nI qb) (nI qp) qa (nI qi) (nI oc))), (g 20, .inl (cI, 4, .inl (l4 (nI l0) (nI l1) (nI dm) (nI l3)))), (g 31, .inl (cI, 120, .inl nw2_26)), (g 54, .inl (cI, 2400, .inl kp2_27)), (g 9, .inl (cI, 6, .inl rf2_28))] H := hP
        have hD : va_D A [(mm, .inr (12, mo g (nI ta) (nI pa) (nI pe) pd (nI pb) pp pf pg pn rt rn (nI cd) sn (nI il) tk am at_ aa 0 0 (-1) wt wy 0 (nI rm) (nI ud2_25) (nI nu2_24) sd (nI qn) (nI qw) qo (nI qb) (nI qp) qa (nI qi) (nI oc))), (g 20, .inl (cI, 4, .inl (l4 (nI l0) (nI l1) (nI dm) (nI l3)))), (g 31, .inl (cI, 120, .inl nw2_26)), (g 54, .inl (cI, 2400, .inl kp2_27)), (g 9, .inl (cI, 6, .inl rf2_28))] := hD
        exact sk_iret hx hb hr (nbool b_23 (by omega)) hlocks hK hP hD hS (⟨b_23, nu2_24, ud2_25, nw2_26, kp2_27, rf2_28, by omega, by omega, by omega, hnw2_33, hkp2_34, rfl, rfl⟩) (Nat.le_of_ble_eq_true rfl) (Nat.le_of_ble_eq_true rfl) dX12_set_43
      · have c_22 : ¬ (b_19 = 0) := fun h => c_22 ((neq b_19 0 (by omega) (by omega)).mpr h)
        obtain ⟨kd_35, hkd_35, rfl⟩ := inK 10 (hb1_21.resolve_left (by omega)).2.1 (hb1_21.resolve_left (by omega)).2.2 (by decide)
        refine lv_iconst (v := 1) hx hb dX12_set_35 (by decide) ?_
        refine lv_goto (tgt := 40) hx hb dX12_set_36 (by decide) ?_
        refine sk_Vi (q0 := 0) (n := 4) (rest := []) (wr := []) ⟨hx, hb, hml, hown, hts⟩ hl.1 (c_m_becomes l D cI cJ cC cZ cS mm g ta pa pe pd pb pp pf pg pn rt rn cd sn il tk am at_ aa wt wy rm ud nu sd qn qw qo qb qp qa qi oc d 0 (nI kd_35) 1 l0 l1 dm l3 nw kp rf (by omega) (by omega) (by omega) (by omega) (by omega) hnw hkp) w_8_126 w_8_128 w_0_106 w_1_14 w_8_129 (by decide +kernel) ⟨⟨(Nat.le_of_ble_eq_true rfl), (Nat.le_of_ble_eq_true rfl)⟩, (Nat.le_of_ble_eq_true rfl), (Nat.le_of_ble_eq_true rfl)⟩ hK hP hD hS hA [0, 1, 2, 3, 4] [] rfl rfl (by decide +kernel) (by decide +kernel) (by decide +kernel) rfl rfl rfl rfl (Nat.le_of_ble_eq_true rfl) dX12_set_40 (fun r_42 u H locs hw hP hD hS => ?_)
        obtain ⟨b_36, nu2_37, ud2_38, nw2_39, kp2_40, rf2_41, hnu2_43, hud2_44, hb1_45, hnw2_46, hkp2_47, rfl, rfl⟩ := hw
        have hP : va_P D vwCl [(mm, .inr (12, mo g (nI ta) (nI pa) (nI pe) pd (nI pb) pp pf pg pn rt rn (nI cd) sn (nI il) tk am at_ aa 0 0 (-1) wt wy 0 (nI rm) (nI ud2_38) (nI nu2_37) sd (nI qn) (nI qw) qo (nI qb) (nI qp) qa (nI qi) (nI oc))), (g 20, .inl (cI, 4, .inl (l4 (nI l0) (nI l1) (nI dm) (nI l3)))), (g 31, .inl (cI, 120, .inl nw2_39)), (g 54, .inl (cI, 2400, .inl kp2_40)), (g 9, .inl (cI, 6, .inl rf2_41))] H := hP
        have hD : va_D A [(mm, .inr (12, mo g (nI ta) (nI pa) (nI pe) pd (nI pb) pp pf pg pn rt rn (nI cd) sn (nI il) tk am at_ aa 0 0 (-1) wt wy 0 (nI rm) (nI ud2_38) (nI nu2_37) sd (nI qn) (nI qw) qo (nI qb) (nI qp) qa (nI qi) (nI oc))), (g 20, .inl (cI, 4, .inl (l4 (nI l0) (nI l1) (nI dm) (nI l3)))), (g 31, .inl (cI, 120, .inl nw2_39)), (g 54, .inl (cI, 2400, .inl kp2_40)), (g 9, .inl (cI, 6, .inl rf2_41))] := hD
        exact sk_iret hx hb hr (nbool b_36 (by omega)) hlocks hK hP hD hS (⟨b_36, nu2_37, ud2_38, nw2_39, kp2_40, rf2_41, by omega, by omega, by omega, hnw2_46, hkp2_47, rfl, rfl⟩) (Nat.le_of_ble_eq_true rfl) (Nat.le_of_ble_eq_true rfl) dX12_set_43
  · skip
    refine lv_iconst (v := 1) hx hb dX12_set_7 (by decide) ?_
    refine lv_goto (tgt := 12) hx hb dX12_set_8 (by decide) ?_
    refine lv_iload_n hx hb dX12_set_12 rfl (lv_at hl 3 rfl) ?_
    refine lv_iload_n hx hb dX12_set_13 rfl (lv_at hl 2 rfl) ?_
    refine lv_i2l hx hb dX12_set_14 rfl ?_
    refine lv_lconst (v := 0) hx hb dX12_set_15 (by decide) ?_
    refine lv_lconst (v := 1) hx hb dX12_set_16 (by decide) ?_
    refine sk_Si (n := 3) (rest := [.int o, .int 1, .int d, .ref mm]) (wr := [(mm, .inr (12, mo g (nI ta) (nI pa) (nI pe) pd (nI pb) pp pf pg pn rt rn (nI cd) sn (nI il) tk am at_ aa 0 0 (-1) wt wy 0 (nI rm) (nI ud) (nI nu) sd (nI qn) (nI qw) qo (nI qb) (nI qp) qa (nI qi) (nI oc))), (g 20, .inl (cI, 4, .inl (l4 (nI l0) (nI l1) (nI dm) (nI l3)))), (g 31, .inl (cI, 120, .inl nw)), (g 54, .inl (cI, 2400, .inl kp)), (g 9, .inl (cI, 6, .inl rf))]) ⟨hx, hb, hml, hown, hts⟩ hl.1 (c_m_isIn l D cI cJ cC cZ cS (Int32.toInt64 w) 0 1) w_7_0 w_7_1 w_1_14 w_7_2 (by decide +kernel) ⟨⟨(Nat.le_of_ble_eq_true rfl), (Nat.le_of_ble_eq_true rfl)⟩, (Nat.le_of_ble_eq_true rfl), (Nat.le_of_ble_eq_true rfl)⟩ hK hP hD hS hA [] [0, 1, 2, 3, 4] rfl rfl (by decide +kernel) (by decide +kernel) (by decide +kernel) rfl rfl (Nat.le_of_ble_eq_true rfl) dX12_set_17 (fun r_49 u H locs hw hP hD hS => ?_)
    obtain ⟨b_48, hb1_50, rfl, rfl⟩ := hw
    have hP : va_P D vwCl [(mm, .inr (12, mo g (nI ta) (nI pa) (nI pe) pd (nI pb) pp pf pg pn rt rn (nI cd) sn (nI il) tk am at_ aa 0 0 (-1) wt wy 0 (nI rm) (nI ud) (nI nu) sd (nI qn) (nI qw) qo (nI qb) (nI qp) qa (nI qi) (nI oc))), (g 20, .inl (cI, 4, .inl (l4 (nI l0) (nI l1) (nI dm) (nI l3)))), (g 31, .inl (cI, 120, .inl nw)), (g 54, .inl (cI, 2400, .inl kp)), (g 9, .inl (cI, 6, .inl rf))] H := hP
    have hD : va_D A [(mm, .inr (12, mo g (nI ta) (nI pa) (nI pe) pd (nI pb) pp pf pg pn rt rn (nI cd) sn (nI il) tk am at_ aa 0 0 (-1) wt wy 0 (nI rm) (nI ud) (nI nu) sd (nI qn) (nI qw) qo (nI qb) (nI qp) qa (nI qi) (nI oc))), (g 20, .inl (cI, 4, .inl (l4 (nI l0) (nI l1) (nI dm) (nI l3)))), (g 31, .inl (cI, 120, .inl nw)), (g 54, .inl (cI, 2400, .inl kp)), (g 9, .inl (cI, 6, .inl rf))] := hD
    refine lv_if_eq (tgt := 39) hx hb dX12_set_20 (by decide) (fun c_51 => ?_) (fun c_51 => ?_)
    · have c_51 : b_48 = 0 := (neq b_48 0 (by omega) (by omega)).mp c_51
      refine lv_iconst (v := 0) hx hb dX12_set_39 (by decide) ?_
      refine sk_Vi (q0 := 0) (n := 4) (rest := []) (wr := []) ⟨hx, hb, hml, hown, hts⟩ hl.1 (c_m_becomes l D cI cJ cC cZ cS mm g ta pa pe pd pb pp pf pg pn rt rn cd sn il tk am at_ aa wt wy rm ud nu sd qn qw qo qb qp qa qi oc d 1 o 0 l0 l1 dm l3 nw kp rf (by omega) (by omega) (by omega) (by omega) (by omega) hnw hkp) w_8_126 w_8_128 w_0_106 w_1_14 w_8_129 (by decide +kernel) ⟨⟨(Nat.le_of_ble_eq_true rfl), (Nat.le_of_ble_eq_true rfl)⟩, (Nat.le_of_ble_eq_true rfl), (Nat.le_of_ble_eq_true rfl)⟩ hK hP hD hS hA [0, 1, 2, 3, 4] [] rfl rfl (by decide +kernel) (by decide +kernel) (by decide +kernel) rfl rfl rfl rfl (Nat.le_of_ble_eq_true rfl) dX12_set_40 (fun r_58 u H locs hw hP hD hS => ?_)
      obtain ⟨b_52, nu2_53, ud2_54, nw2_55, kp2_56, rf2_57, hnu2_59, hud2_60, hb1_61, hnw2_62, hkp2_63, rfl, rfl⟩ := hw
      have hP : va_P D vwCl [(mm, .inr (12, mo g (nI ta) (nI pa) (nI pe) pd (nI pb) pp pf pg pn rt rn (nI cd) sn (nI il) tk am at_ aa 0 0 (-1) wt wy 0 (nI rm) (nI ud2_54) (nI nu2_53) sd (nI qn) (nI qw) qo (nI qb) (nI qp) qa (nI qi) (nI oc))), (g 20, .inl (cI, 4, .inl (l4 (nI l0) (nI l1) (nI dm) (nI l3)))), (g 31, .inl (cI, 120, .inl nw2_55)), (g 54, .inl (cI, 2400, .inl kp2_56)), (g 9, .inl (cI, 6, .inl rf2_57))] H := hP
      have hD : va_D A [(mm, .inr (12, mo g (nI ta) (nI pa) (nI pe) pd (nI pb) pp pf pg pn rt rn (nI cd) sn (nI il) tk am at_ aa 0 0 (-1) wt wy 0 (nI rm) (nI ud2_54) (nI nu2_53) sd (nI qn) (nI qw) qo (nI qb) (nI qp) qa (nI qi) (nI oc))), (g 20, .inl (cI, 4, .inl (l4 (nI l0) (nI l1) (nI dm) (nI l3)))), (g 31, .inl (cI, 120, .inl nw2_55)), (g 54, .inl (cI, 2400, .inl kp2_56)), (g 9, .inl (cI, 6, .inl rf2_57))] := hD
      exact sk_iret hx hb hr (nbool b_52 (by omega)) hlocks hK hP hD hS (⟨b_52, nu2_53, ud2_54, nw2_55, kp2_56, rf2_57, by omega, by omega, by omega, hnw2_62, hkp2_63, rfl, rfl⟩) (Nat.le_of_ble_eq_true rfl) (Nat.le_of_ble_eq_true rfl) dX12_set_43
    · have c_51 : ¬ (b_48 = 0) := fun h => c_51 ((neq b_48 0 (by omega) (by omega)).mpr h)
      obtain ⟨kd_64, hkd_64, rfl⟩ := inK 2 (hb1_50.resolve_left (by omega)).2.1 (hb1_50.resolve_left (by omega)).2.2 (by decide)
      refine lv_iload_n hx hb dX12_set_23 rfl (lv_at hl 3 rfl) ?_
      refine lv_i2l hx hb dX12_set_24 rfl ?_
      refine lv_lconst (v := 0) hx hb dX12_set_25 (by decide) ?_
      refine lv_ldc2 (v := 9) hx hb hown (hts _ w_7_130) dX12_set_26 ?_
      refine sk_Si (n := 3) (rest := [.int o, .int 1, .int d, .ref mm]) (wr := [(mm, .inr (12, mo g (nI ta) (nI pa) (nI pe) pd (nI pb) pp pf pg pn rt rn (nI cd) sn (nI il) tk am at_ aa 0 0 (-1) wt wy 0 (nI rm) (nI ud) (nI nu) sd (nI qn) (nI qw) qo (nI qb) (nI qp) qa (nI qi) (nI oc))), (g 20, .inl (cI, 4, .inl (l4 (nI l0) (nI l1) (nI dm) (nI l3)))), (g 31, .inl (cI, 120, .inl nw)), (g 54, .inl (cI, 2400, .inl kp)), (g 9, .inl (cI, 6, .inl rf))]) ⟨hx, hb, hml, hown, hts⟩ hl.1 (c_m_isIn l D cI cJ cC cZ cS (Int32.toInt64 o) 0 9) w_7_0 w_7_1 w_1_14 w_7_2 (by decide +kernel) ⟨⟨(Nat.le_of_ble_eq_true rfl), (Nat.le_of_ble_eq_true rfl)⟩, (Nat.le_of_ble_eq_true rfl), (Nat.le_of_ble_eq_true rfl)⟩ hK hP hD hS hA [] [0, 1, 2, 3, 4] rfl rfl (by decide +kernel) (by decide +kernel) (by decide +kernel) rfl rfl (Nat.le_of_ble_eq_true rfl) dX12_set_29 (fun r_66 u H locs hw hP hD hS => ?_)
      obtain ⟨b_65, hb1_67, rfl, rfl⟩ := hw
      have hP : va_P D vwCl [(mm, .inr (12, mo g (nI ta) (nI pa) (nI pe) pd (nI pb) pp pf pg pn rt rn (nI cd) sn (nI il) tk am at_ aa 0 0 (-1) wt wy 0 (nI rm) (nI ud) (nI nu) sd (nI qn) (nI qw) qo (nI qb) (nI qp) qa (nI qi) (nI oc))), (g 20, .inl (cI, 4, .inl (l4 (nI l0) (nI l1) (nI dm) (nI l3)))), (g 31, .inl (cI, 120, .inl nw)), (g 54, .inl (cI, 2400, .inl kp)), (g 9, .inl (cI, 6, .inl rf))] H := hP
      have hD : va_D A [(mm, .inr (12, mo g (nI ta) (nI pa) (nI pe) pd (nI pb) pp pf pg pn rt rn (nI cd) sn (nI il) tk am at_ aa 0 0 (-1) wt wy 0 (nI rm) (nI ud) (nI nu) sd (nI qn) (nI qw) qo (nI qb) (nI qp) qa (nI qi) (nI oc))), (g 20, .inl (cI, 4, .inl (l4 (nI l0) (nI l1) (nI dm) (nI l3)))), (g 31, .inl (cI, 120, .inl nw)), (g 54, .inl (cI, 2400, .inl kp)), (g 9, .inl (cI, 6, .inl rf))] := hD
      refine lv_if_eq (tgt := 39) hx hb dX12_set_32 (by decide) (fun c_68 => ?_) (fun c_68 => ?_)
      · have c_68 : b_65 = 0 := (neq b_65 0 (by omega) (by omega)).mp c_68
        refine lv_iconst (v := 0) hx hb dX12_set_39 (by decide) ?_
        refine sk_Vi (q0 := 0) (n := 4) (rest := []) (wr := []) ⟨hx, hb, hml, hown, hts⟩ hl.1 (c_m_becomes l D cI cJ cC cZ cS mm g ta pa pe pd pb pp pf pg pn rt rn cd sn il tk am at_ aa wt wy rm ud nu sd qn qw qo qb qp qa qi oc d 1 o 0 l0 l1 dm l3 nw kp rf (by omega) (by omega) (by omega) (by omega) (by omega) hnw hkp) w_8_126 w_8_128 w_0_106 w_1_14 w_8_129 (by decide +kernel) ⟨⟨(Nat.le_of_ble_eq_true rfl), (Nat.le_of_ble_eq_true rfl)⟩, (Nat.le_of_ble_eq_true rfl), (Nat.le_of_ble_eq_true rfl)⟩ hK hP hD hS hA [0, 1, 2, 3, 4] [] rfl rfl (by decide +kernel) (by decide +kernel) (by decide +kernel) rfl rfl rfl rfl (Nat.le_of_ble_eq_true rfl) dX12_set_40 (fun r_75 u H locs hw hP hD hS => ?_)
        obtain ⟨b_69, nu2_70, ud2_71, nw2_72, kp2_73, rf2_74, hnu2_76, hud2_77, hb1_78, hnw2_79, hkp2_80, rfl, rfl⟩ := hw
        have hP : va_P D vwCl [(mm, .inr (12, mo g (nI ta) (nI pa) (nI pe) pd (nI pb) pp pf pg pn rt rn (nI cd) sn (nI il) tk am at_ aa 0 0 (-1) wt wy 0 (nI rm) (nI ud2_71) (nI nu2_70) sd (nI qn) (nI qw) qo (nI qb) (nI qp) qa (nI qi) (nI oc))), (g 20, .inl (cI, 4, .inl (l4 (nI l0) (nI l1) (nI dm) (nI l3)))), (g 31, .inl (cI, 120, .inl nw2_72)), (g 54, .inl (cI, 2400, .inl kp2_73)), (g 9, .inl (cI, 6, .inl rf2_74))] H := hP
        have hD : va_D A [(mm, .inr (12, mo g (nI ta) (nI pa) (nI pe) pd (nI pb) pp pf pg pn rt rn (nI cd) sn (nI il) tk am at_ aa 0 0 (-1) wt wy 0 (nI rm) (nI ud2_71) (nI nu2_70) sd (nI qn) (nI qw) qo (nI qb) (nI qp) qa (nI qi) (nI oc))), (g 20, .inl (cI, 4, .inl (l4 (nI l0) (nI l1) (nI dm) (nI l3)))), (g 31, .inl (cI, 120, .inl nw2_72)), (g 54, .inl (cI, 2400, .inl kp2_73)), (g 9, .inl (cI, 6, .inl rf2_74))] := hD
        exact sk_iret hx hb hr (nbool b_69 (by omega)) hlocks hK hP hD hS (⟨b_69, nu2_70, ud2_71, nw2_72, kp2_73, rf2_74, by omega, by omega, by omega, hnw2_79, hkp2_80, rfl, rfl⟩) (Nat.le_of_ble_eq_true rfl) (Nat.le_of_ble_eq_true rfl) dX12_set_43
      · have c_68 : ¬ (b_65 = 0) := fun h => c_68 ((neq b_65 0 (by omega) (by omega)).mpr h)
        obtain ⟨kd_81, hkd_81, rfl⟩ := inK 10 (hb1_67.resolve_left (by omega)).2.1 (hb1_67.resolve_left (by omega)).2.2 (by decide)
        refine lv_iconst (v := 1) hx hb dX12_set_35 (by decide) ?_
        refine lv_goto (tgt := 40) hx hb dX12_set_36 (by decide) ?_
        refine sk_Vi (q0 := 0) (n := 4) (rest := []) (wr := []) ⟨hx, hb, hml, hown, hts⟩ hl.1 (c_m_becomes l D cI cJ cC cZ cS mm g ta pa pe pd pb pp pf pg pn rt rn cd sn il tk am at_ aa wt wy rm ud nu sd qn qw qo qb qp qa qi oc d 1 (nI kd_81) 1 l0 l1 dm l3 nw kp rf (by omega) (by omega) (by omega) (by omega) (by omega) hnw hkp) w_8_126 w_8_128 w_0_106 w_1_14 w_8_129 (by decide +kernel) ⟨⟨(Nat.le_of_ble_eq_true rfl), (Nat.le_of_ble_eq_true rfl)⟩, (Nat.le_of_ble_eq_true rfl), (Nat.le_of_ble_eq_true rfl)⟩ hK hP hD hS hA [0, 1, 2, 3, 4] [] rfl rfl (by decide +kernel) (by decide +kernel) (by decide +kernel) rfl rfl rfl rfl (Nat.le_of_ble_eq_true rfl) dX12_set_40 (fun r_88 u H locs hw hP hD hS => ?_)
        obtain ⟨b_82, nu2_83, ud2_84, nw2_85, kp2_86, rf2_87, hnu2_89, hud2_90, hb1_91, hnw2_92, hkp2_93, rfl, rfl⟩ := hw
        have hP : va_P D vwCl [(mm, .inr (12, mo g (nI ta) (nI pa) (nI pe) pd (nI pb) pp pf pg pn rt rn (nI cd) sn (nI il) tk am at_ aa 0 0 (-1) wt wy 0 (nI rm) (nI ud2_84) (nI nu2_83) sd (nI qn) (nI qw) qo (nI qb) (nI qp) qa (nI qi) (nI oc))), (g 20, .inl (cI, 4, .inl (l4 (nI l0) (nI l1) (nI dm) (nI l3)))), (g 31, .inl (cI, 120, .inl nw2_85)), (g 54, .inl (cI, 2400, .inl kp2_86)), (g 9, .inl (cI, 6, .inl rf2_87))] H := hP
        have hD : va_D A [(mm, .inr (12, mo g (nI ta) (nI pa) (nI pe) pd (nI pb) pp pf pg pn rt rn (nI cd) sn (nI il) tk am at_ aa 0 0 (-1) wt wy 0 (nI rm) (nI ud2_84) (nI nu2_83) sd (nI qn) (nI qw) qo (nI qb) (nI qp) qa (nI qi) (nI oc))), (g 20, .inl (cI, 4, .inl (l4 (nI l0) (nI l1) (nI dm) (nI l3)))), (g 31, .inl (cI, 120, .inl nw2_85)), (g 54, .inl (cI, 2400, .inl kp2_86)), (g 9, .inl (cI, 6, .inl rf2_87))] := hD
        exact sk_iret hx hb hr (nbool b_82 (by omega)) hlocks hK hP hD hS (⟨b_82, nu2_83, ud2_84, nw2_85, kp2_86, rf2_87, by omega, by omega, by omega, hnw2_92, hkp2_93, rfl, rfl⟩) (Nat.le_of_ble_eq_true rfl) (Nat.le_of_ble_eq_true rfl) dX12_set_43
theorem dX12_mute_0 : decode cX12_mute 0 = .ok (.aload_n 0, 1) := by decide +kernel
theorem dX12_mute_1 : decode cX12_mute 1 = .ok (.iload_n 1, 1) := by decide +kernel
theorem dX12_mute_2 : decode cX12_mute 2 = .ok (.iconst 2, 1) := by decide +kernel
theorem dX12_mute_3 : decode cX12_mute 3 = .ok (.iload_n 2, 1) := by decide +kernel
theorem dX12_mute_4 : decode cX12_mute 4 = .ok (.iload_n 2, 1) := by decide +kernel
theorem dX12_mute_5 : decode cX12_mute 5 = .ok (.i2l, 1) := by decide +kernel
theorem dX12_mute_6 : decode cX12_mute 6 = .ok (.lconst 0, 1) := by decide +kernel
theorem dX12_mute_7 : decode cX12_mute 7 = .ok (.lconst 1, 1) := by decide +kernel
theorem dX12_mute_8 : decode cX12_mute 8 = .ok (.invokestatic 238, 3) := by decide +kernel
theorem dX12_mute_11 : decode cX12_mute 11 = .ok (.invokevirtual 477, 3) := by decide +kernel
theorem dX12_mute_14 : decode cX12_mute 14 = .ok (.ireturn, 1) := by decide +kernel
theorem w_8_137 : (Cond.code yX12_mute cX12_mute 3 (some .boolean)) ∈ wsL_law := sk_mem (ck_8 _ (List.mem_of_getElem? (i := 137) rfl)) rfl
set_option maxHeartbeats 4000000 in
set_option maxRecDepth 100000 in
theorem c_m_mute (l : Launch) (D : va_G) (cI cJ cC cZ cS : ClassId) (mm : Nat) (g : Nat → Nat) (ta : Nat) (pa : Nat) (pe : Nat) (pd : Int32) (pb : Nat) (pp : Int32) (pf : Int32) (pg : Int32) (pn : Int32) (rt : Int32) (rn : Int32) (cd : Nat) (sn : Int32) (il : Nat) (tk : Int32) (am : Int32) (at_ : Int32) (aa : Int32) (wt : Int32) (wy : Int64) (rm : Nat) (ud : Nat) (nu : Nat) (sd : Int64) (qn : Nat) (qw : Nat) (qo : Int32) (qb : Nat) (qp : Nat) (qa : Int64) (qi : Nat) (oc : Nat) (d : Int32) (o : Int32) (l0 : Nat) (l1 : Nat) (dm : Nat) (l3 : Nat) (nw : Nat → Int32) (kp : Nat → Int32) (rf : Nat → Int32) (hdm : dm ≤ 9) (hnu : nu < 20) (hud : ud ≤ 20) (hnw : nowOk nw) (hkp : keptOk kp) : skM l yX12_mute cX12_mute 3 (some .boolean) 3 70 0 0 D (skT cI cJ cC cZ cS) [.ref mm, .int d, .int o] [(mm, .inr (12, mo g (nI ta) (nI pa) (nI pe) pd (nI pb) pp pf pg pn rt rn (nI cd) sn (nI il) tk am at_ aa 0 0 (-1) wt wy 0 (nI rm) (nI ud) (nI nu) sd (nI qn) (nI qw) qo (nI qb) (nI qp) qa (nI qi) (nI oc))), (g 20, .inl (cI, 4, .inl (l4 (nI l0) (nI l1) (nI dm) (nI l3)))), (g 31, .inl (cI, 120, .inl nw)), (g 54, .inl (cI, 2400, .inl kp)), (g 9, .inl (cI, 6, .inl rf))] (skI D (skT cI cJ cC cZ cS) (fun (r : Int32) (u : va_W) => ∃ (b : Nat), ∃ (nu2 : Nat), ∃ (ud2 : Nat), ∃ (nw2 : Nat → Int32), ∃ (kp2 : Nat → Int32), ∃ (rf2 : Nat → Int32), nu2 < 20 ∧ ud2 ≤ 20 ∧ b ≤ 1 ∧ nowOk nw2 ∧ keptOk kp2 ∧ r = nI b ∧ u = [(mm, .inr (12, mo g (nI ta) (nI pa) (nI pe) pd (nI pb) pp pf pg pn rt rn (nI cd) sn (nI il) tk am at_ aa 0 0 (-1) wt wy 0 (nI rm) (nI ud2) (nI nu2) sd (nI qn) (nI qw) qo (nI qb) (nI qp) qa (nI qi) (nI oc))), (g 20, .inl (cI, 4, .inl (l4 (nI l0) (nI l1) (nI dm) (nI l3)))), (g 31, .inl (cI, 120, .inl nw2)), (g 54, .inl (cI, 2400, .inl kp2)), (g 9, .inl (cI, 6, .inl rf2))])) := by
  refine skM_of (by decide +kernel) (Nat.le_of_ble_eq_true rfl) ?_
  intro p e s m below meth c A ls E hP hD hl
  obtain ⟨hx, hb, hr, hml, hlocks, hin, hown, hts, hK, hA⟩ := E
  have hown : s.vm.findClass RX12 = some m.cls := hown
  have hS : va_S A s.heap s.heap [] := va_S.rf
  have hl : lv_has ls 3 [(0, .ref mm), (1, .int d), (2, .int o)] := hl
  refine lv_aload_n hx hb dX12_mute_0 rfl (lv_at hl 0 rfl) ?_
  refine lv_iload_n hx hb dX12_mute_1 rfl (lv_at hl 1 rfl) ?_
  refine lv_iconst (v := 2) hx hb dX12_mute_2 (by decide) ?_
  refine lv_iload_n hx hb dX12_mute_3 rfl (lv_at hl 2 rfl) ?_
  refine lv_iload_n hx hb dX12_mute_4 rfl (lv_at hl 2 rfl) ?_
  refine lv_i2l hx hb dX12_mute_5 rfl ?_
  refine lv_lconst (v := 0) hx hb dX12_mute_6 (by decide) ?_
  refine lv_lconst (v := 1) hx hb dX12_mute_7 (by decide) ?_
  refine sk_Si (n := 3) (rest := [.int o, .int 2, .int d, .ref mm]) (wr := [(mm, .inr (12, mo g (nI ta) (nI pa) (nI pe) pd (nI pb) pp pf pg pn rt rn (nI cd) sn (nI il) tk am at_ aa 0 0 (-1) wt wy 0 (nI rm) (nI ud) (nI nu) sd (nI qn) (nI qw) qo (nI qb) (nI qp) qa (nI qi) (nI oc))), (g 20, .inl (cI, 4, .inl (l4 (nI l0) (nI l1) (nI dm) (nI l3)))), (g 31, .inl (cI, 120, .inl nw)), (g 54, .inl (cI, 2400, .inl kp)), (g 9, .inl (cI, 6, .inl rf))]) ⟨hx, hb, hml, hown, hts⟩ hl.1 (c_m_isIn l D cI cJ cC cZ cS (Int32.toInt64 o) 0 1) w_7_0 w_7_1 w_1_14 w_7_2 (by decide +kernel) ⟨⟨(Nat.le_of_ble_eq_true rfl), (Nat.le_of_ble_eq_true rfl)⟩, (Nat.le_of_ble_eq_true rfl), (Nat.le_of_ble_eq_true rfl)⟩ hK hP hD hS hA [] [0, 1, 2, 3, 4] rfl rfl (by decide +kernel) (by decide +kernel) (by decide +kernel) rfl rfl (Nat.le_of_ble_eq_true rfl) dX12_mute_8 (fun r_2 u H locs hw hP hD hS => ?_)
  obtain ⟨b_1, hb1_3, rfl, rfl⟩ := hw
  have hP : va_P D vwCl [(mm, .inr (12, mo g (nI ta) (nI pa) (nI pe) pd (nI pb) pp pf pg pn rt rn (nI cd) sn (nI il) tk am at_ aa 0 0 (-1) wt wy 0 (nI rm) (nI ud) (nI nu) sd (nI qn) (nI qw) qo (nI qb) (nI qp) qa (nI qi) (nI oc))), (g 20, .inl (cI, 4, .inl (l4 (nI l0) (nI l1) (nI dm) (nI l3)))), (g 31, .inl (cI, 120, .inl nw)), (g 54, .inl (cI, 2400, .inl kp)), (g 9, .inl (cI, 6, .inl rf))] H := hP
  have hD : va_D A [(mm, .inr (12, mo g (nI ta) (nI pa) (nI pe) pd (nI pb) pp pf pg pn rt rn (nI cd) sn (nI il) tk am at_ aa 0 0 (-1) wt wy 0 (nI rm) (nI ud) (nI nu) sd (nI qn) (nI qw) qo (nI qb) (nI qp) qa (nI qi) (nI oc))), (g 20, .inl (cI, 4, .inl (l4 (nI l0) (nI l1) (nI dm) (nI l3)))), (g 31, .inl (cI, 120, .inl nw)), (g 54, .inl (cI, 2400, .inl kp)), (g 9, .inl (cI, 6, .inl rf))] := hD
  have hb9 : b_1 ≤ 1 := by rcases hb1_3 with h | h <;> omega
  refine sk_Vi (q0 := 0) (n := 4) (rest := []) (wr := []) ⟨hx, hb, hml, hown, hts⟩ hl.1 (c_m_becomes l D cI cJ cC cZ cS mm g ta pa pe pd pb pp pf pg pn rt rn cd sn il tk am at_ aa wt wy rm ud nu sd qn qw qo qb qp qa qi oc d 2 o b_1 l0 l1 dm l3 nw kp rf (by omega) (by omega) (by omega) (by omega) (by omega) hnw hkp) w_8_126 w_8_128 w_0_106 w_1_14 w_8_129 (by decide +kernel) ⟨⟨(Nat.le_of_ble_eq_true rfl), (Nat.le_of_ble_eq_true rfl)⟩, (Nat.le_of_ble_eq_true rfl), (Nat.le_of_ble_eq_true rfl)⟩ hK hP hD hS hA [0, 1, 2, 3, 4] [] rfl rfl (by decide +kernel) (by decide +kernel) (by decide +kernel) rfl rfl rfl rfl (Nat.le_of_ble_eq_true rfl) dX12_mute_11 (fun r_10 u H locs hw hP hD hS => ?_)
  obtain ⟨b_4, nu2_5, ud2_6, nw2_7, kp2_8, rf2_9, hnu2_11, hud2_12, hb1_13, hnw2_14, hkp2_15, rfl, rfl⟩ := hw
  have hP : va_P D vwCl [(mm, .inr (12, mo g (nI ta) (nI pa) (nI pe) pd (nI pb) pp pf pg pn rt rn (nI cd) sn (nI il) tk am at_ aa 0 0 (-1) wt wy 0 (nI rm) (nI ud2_6) (nI nu2_5) sd (nI qn) (nI qw) qo (nI qb) (nI qp) qa (nI qi) (nI oc))), (g 20, .inl (cI, 4, .inl (l4 (nI l0) (nI l1) (nI dm) (nI l3)))), (g 31, .inl (cI, 120, .inl nw2_7)), (g 54, .inl (cI, 2400, .inl kp2_8)), (g 9, .inl (cI, 6, .inl rf2_9))] H := hP
  have hD : va_D A [(mm, .inr (12, mo g (nI ta) (nI pa) (nI pe) pd (nI pb) pp pf pg pn rt rn (nI cd) sn (nI il) tk am at_ aa 0 0 (-1) wt wy 0 (nI rm) (nI ud2_6) (nI nu2_5) sd (nI qn) (nI qw) qo (nI qb) (nI qp) qa (nI qi) (nI oc))), (g 20, .inl (cI, 4, .inl (l4 (nI l0) (nI l1) (nI dm) (nI l3)))), (g 31, .inl (cI, 120, .inl nw2_7)), (g 54, .inl (cI, 2400, .inl kp2_8)), (g 9, .inl (cI, 6, .inl rf2_9))] := hD
  exact sk_iret hx hb hr (nbool b_4 (by omega)) hlocks hK hP hD hS (⟨b_4, nu2_5, ud2_6, nw2_7, kp2_8, rf2_9, by omega, by omega, by omega, hnw2_14, hkp2_15, rfl, rfl⟩) (Nat.le_of_ble_eq_true rfl) (Nat.le_of_ble_eq_true rfl) dX12_mute_14
