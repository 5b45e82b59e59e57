set_option maxHeartbeats 4000000 in
set_option maxRecDepth 100000 in
theorem c_m_laysWaysS (l : Launch) (D : va_G) (cI cJ cC cZ cS : ClassId) (mm : Nat) (g : Nat → Nat) (ta : Nat) (pa : Nat) (pe : Nat) (pd : Int32) (pb : Nat) (pp : Int32) (pf : Int32) (pg : Int32) (pn : Int32) (rt : Int32) (rn : Int32) (cd : Nat) (sn : Int32) (il : Nat) (tk : Int32) (am : Int32) (at_ : Int32) (aa : Int32) (mt_ : Int32) (bh : Nat) (wd : Int32) (wt : Int32) (wy : Int64) (it_ : Nat) (rm : Nat) (ud : Nat) (nu : Nat) (sd : Int64) (qn : Nat) (qw : Nat) (qo : Int32) (qb : Nat) (qp : Nat) (qa : Int64) (qi : Nat) (oc : Nat) (l0 : Nat) (l1 : Nat) (dm : Nat) (l3 : Nat) (nw : Nat → Int32) (ws_ : Nat → Int32) (rw_ : Nat → Int32) (yo : Nat → Int32) (yw : Nat → Int32) (be : Nat → Int64) (bf : Nat → Int64) (hdm : dm ≤ 9) (hdm1 : 1 ≤ dm) (hrm : rm ≤ 16) (hbh : bh ≤ 1) (hnw : nowOk nw) : skM l yX12_laysWays cX12_laysWays 7 none 3 68 0 0 D (skT cI cJ cC cZ cS) [.ref mm] [(mm, .inr (12, mo g (nI ta) (nI pa) (nI pe) pd (nI pb) pp pf pg pn rt rn (nI cd) sn (nI il) tk am at_ aa mt_ (nI bh) wd wt wy (nI it_) (nI rm) (nI ud) (nI nu) sd (nI qn) (nI qw) qo (nI qb) (nI qp) qa (nI qi) (nI oc))), (g 20, .inl (cI, 4, .inl (l4 (nI l0) (nI l1) (nI dm) (nI l3)))), (g 31, .inl (cI, 120, .inl nw)), (g 38, .inl (cI, 90, .inl ws_)), (g 53, .inl (cI, 32, .inl rw_)), (g 37, .inl (cZ, 900, .inl yo)), (g 36, .inl (cZ, 900, .inl yw)), (g 43, .inl (cJ, 90, .inr (.inl be))), (g 44, .inl (cJ, 90, .inr (.inl bf)))] (skV D (skT cI cJ cC cZ cS) (fun (u : va_W) => ∃ (wy2 : Int64), ∃ (be2 : Nat → Int64), ∃ (bf2 : Nat → Int64), u = [(mm, .inr (12, mo g (nI ta) (nI pa) (nI pe) pd (nI pb) pp pf pg pn rt rn (nI cd) sn (nI il) tk am at_ aa mt_ (nI bh) wd wt wy2 (nI it_) (nI rm) (nI ud) (nI nu) sd (nI qn) (nI qw) qo (nI qb) (nI qp) qa (nI qi) (nI oc))), (g 20, .inl (cI, 4, .inl (l4 (nI l0) (nI l1) (nI dm) (nI l3)))), (g 31, .inl (cI, 120, .inl nw)), (g 38, .inl (cI, 90, .inl ws_)), (g 53, .inl (cI, 32, .inl rw_)), (g 37, .inl (cZ, 900, .inl yo)), (g 36, .inl (cZ, 900, .inl yw)), (g 43, .inl (cJ, 90, .inr (.inl be2))), (g 44, .inl (cJ, 90, .inr (.inl bf2)))])) := by
  refine skM_of (by decide +kernel) (Nat.le_of_ble_eq_true rfl) ?_
  intro p e s m below meth c A ls E hP hD hl
  obtain ⟨hx, hb, hr, hml, hlocks, hin, hown, hts, hK, hA⟩ := E
  have hown : s.vm.findClass RX12 = some m.cls := hown
  have hS : va_S A s.heap s.heap [] := va_S.rf
  have hl : lv_has ls 7 [(0, .ref mm)] := hl
  refine lv_aload_n hx hb dX12_laysWays_0 rfl (lv_at hl 0 rfl) ?_
  refine sk_Vi (q0 := 0) (n := 0) (rest := []) (wr := [(g 31, .inl (cI, 120, .inl nw)), (g 38, .inl (cI, 90, .inl ws_)), (g 53, .inl (cI, 32, .inl rw_)), (g 37, .inl (cZ, 900, .inl yo)), (g 36, .inl (cZ, 900, .inl yw)), (g 43, .inl (cJ, 90, .inr (.inl be))), (g 44, .inl (cJ, 90, .inr (.inl bf)))]) ⟨hx, hb, hml, hown, hts⟩ hl.1 (c_m_dayMany l D cI cJ cC cZ cS mm g ta pa pe pd pb pp pf pg pn rt rn cd sn il tk am at_ aa mt_ bh wd wt wy it_ rm ud nu sd qn qw qo qb qp qa qi oc l0 l1 dm l3) w_7_98 w_7_100 w_0_69 w_1_14 w_7_101 (by decide +kernel) ⟨⟨(Nat.le_of_ble_eq_true rfl), (Nat.le_of_ble_eq_true rfl)⟩, (Nat.le_of_ble_eq_true rfl), (Nat.le_of_ble_eq_true rfl)⟩ hK hP hD hS hA [0, 1] [2, 3, 4, 5, 6, 7, 8] rfl rfl (by decide +kernel) (by decide +kernel) (by decide +kernel) rfl rfl rfl rfl (Nat.le_of_ble_eq_true rfl) dX12_laysWays_1 (fun r_1 u H locs hw hP hD hS => ?_)
  obtain ⟨rfl, rfl⟩ := hw
  have hP : va_P D vwCl [(g 31, .inl (cI, 120, .inl nw)), (g 38, .inl (cI, 90, .inl ws_)), (g 53, .inl (cI, 32, .inl rw_)), (g 37, .inl (cZ, 900, .inl yo)), (g 36, .inl (cZ, 900, .inl yw)), (g 43, .inl (cJ, 90, .inr (.inl be))), (g 44, .inl (cJ, 90, .inr (.inl bf))), (mm, .inr (12, mo g (nI ta) (nI pa) (nI pe) pd (nI pb) pp pf pg pn rt rn (nI cd) sn (nI il) tk am at_ aa mt_ (nI bh) wd wt wy (nI it_) (nI rm) (nI ud) (nI nu) sd (nI qn) (nI qw) qo (nI qb) (nI qp) qa (nI qi) (nI oc))), (g 20, .inl (cI, 4, .inl (l4 (nI l0) (nI l1) (nI dm) (nI l3))))] H := hP
  have hD : va_D A [(g 31, .inl (cI, 120, .inl nw)), (g 38, .inl (cI, 90, .inl ws_)), (g 53, .inl (cI, 32, .inl rw_)), (g 37, .inl (cZ, 900, .inl yo)), (g 36, .inl (cZ, 900, .inl yw)), (g 43, .inl (cJ, 90, .inr (.inl be))), (g 44, .inl (cJ, 90, .inr (.inl bf))), (mm, .inr (12, mo g (nI ta) (nI pa) (nI pe) pd (nI pb) pp pf pg pn rt rn (nI cd) sn (nI il) tk am at_ aa mt_ (nI bh) wd wt wy (nI it_) (nI rm) (nI ud) (nI nu) sd (nI qn) (nI qw) qo (nI qb) (nI qp) qa (nI qi) (nI oc))), (g 20, .inl (cI, 4, .inl (l4 (nI l0) (nI l1) (nI dm) (nI l3))))] := hD
  refine lv_iconst (v := 1) hx hb dX12_laysWays_4 (by decide) ?_
  refine lv_isub hx hb dX12_laysWays_5 ?_
  refine lv_istore_n (lv' := [(1, .int (nI dm - 1)), (0, .ref mm)]) hx hb dX12_laysWays_6 rfl hl (by decide) rfl (fun ls hl => ?_)
  refine lv_iload_n hx hb dX12_laysWays_7 rfl (lv_at hl 0 rfl) ?_
  refine lv_istore_n (lv' := [(2, .int (nI dm - 1)), (1, .int (nI dm - 1)), (0, .ref mm)]) hx hb dX12_laysWays_8 rfl hl (by decide) rfl (fun ls hl => ?_)
  have lp_2 : ∀ (n_3 : Nat) (dd : Nat) (zb : Nat → Int64) (H : Heap) (locs : List Loc) (ls : Array Slot), dd < n_3 → (dd ≤ dm) → va_P D vwCl [(g 31, .inl (cI, 120, .inl nw)), (g 38, .inl (cI, 90, .inl ws_)), (g 53, .inl (cI, 32, .inl rw_)), (g 37, .inl (cZ, 900, .inl yo)), (g 36, .inl (cZ, 900, .inl yw)), (g 43, .inl (cJ, 90, .inr (.inl zb))), (g 44, .inl (cJ, 90, .inr (.inl bf))), (mm, .inr (12, mo g (nI ta) (nI pa) (nI pe) pd (nI pb) pp pf pg pn rt rn (nI cd) sn (nI il) tk am at_ aa mt_ (nI bh) wd wt wy (nI it_) (nI rm) (nI ud) (nI nu) sd (nI qn) (nI qw) qo (nI qb) (nI qp) qa (nI qi) (nI oc))), (g 20, .inl (cI, 4, .inl (l4 (nI l0) (nI l1) (nI dm) (nI l3))))] H → va_D A [(g 31, .inl (cI, 120, .inl nw)), (g 38, .inl (cI, 90, .inl ws_)), (g 53, .inl (cI, 32, .inl rw_)), (g 37, .inl (cZ, 900, .inl yo)), (g 36, .inl (cZ, 900, .inl yw)), (g 43, .inl (cJ, 90, .inr (.inl zb))), (g 44, .inl (cJ, 90, .inr (.inl bf))), (mm, .inr (12, mo g (nI ta) (nI pa) (nI pe) pd (nI pb) pp pf pg pn rt rn (nI cd) sn (nI il) tk am at_ aa mt_ (nI bh) wd wt wy (nI it_) (nI rm) (nI ud) (nI nu) sd (nI qn) (nI qw) qo (nI qb) (nI qp) qa (nI qi) (nI oc))), (g 20, .inl (cI, 4, .inl (l4 (nI l0) (nI l1) (nI dm) (nI l3))))] → va_S A s.heap H locs → lv_has ls 7 [(2, .int (nI dd - 1)), (1, .int (nI dm - 1)), (0, .ref mm)] → W p l e { frames := 3, cells := 0, slots := 0, locals := 68 } s m ([.ref mm] : List Value).toArray below meth c H locs 0 0 (MQ below (skV D (skT cI cJ cC cZ cS) (fun (u : va_W) => ∃ (wy2 : Int64), ∃ (be2 : Nat → Int64), ∃ (bf2 : Nat → Int64), u = [(mm, .inr (12, mo g (nI ta) (nI pa) (nI pe) pd (nI pb) pp pf pg pn rt rn (nI cd) sn (nI il) tk am at_ aa mt_ (nI bh) wd wt wy2 (nI it_) (nI rm) (nI ud) (nI nu) sd (nI qn) (nI qw) qo (nI qb) (nI qp) qa (nI qi) (nI oc))), (g 20, .inl (cI, 4, .inl (l4 (nI l0) (nI l1) (nI dm) (nI l3)))), (g 31, .inl (cI, 120, .inl nw)), (g 38, .inl (cI, 90, .inl ws_)), (g 53, .inl (cI, 32, .inl rw_)), (g 37, .inl (cZ, 900, .inl yo)), (g 36, .inl (cZ, 900, .inl yw)), (g 43, .inl (cJ, 90, .inr (.inl be2))), (g 44, .inl (cJ, 90, .inr (.inl bf2)))]) A) ([.ref mm] : List Value).toArray s 0 0 A) (F0 m 9 ls []) := by
    intro n_3
    induction n_3 with
    | zero => intro dd zb H locs ls hm; exact absurd hm (Nat.not_lt_zero _)
    | succ n_3 ih_lp_2 =>
      intro dd zb H locs ls hm hdd hP hD hS hl
      refine lv_iload_n hx hb dX12_laysWays_9 rfl (lv_at hl 0 rfl) ?_
      refine lv_if_lt (tgt := 111) hx hb dX12_laysWays_10 (by decide) (fun c_4 => ?_) (fun c_4 => ?_)
      · have c_4 : dd = 0 := npm0 dd (by omega) c_4
        refine lv_aload_n hx hb dX12_laysWays_111 rfl (lv_at hl 2 rfl) ?_
        refine lv_lconst (v := 0) hx hb dX12_laysWays_112 (by decide) ?_
        refine sk_put (ws' := [(g 31, .inl (cI, 120, .inl nw)), (g 38, .inl (cI, 90, .inl ws_)), (g 53, .inl (cI, 32, .inl rw_)), (g 37, .inl (cZ, 900, .inl yo)), (g 36, .inl (cZ, 900, .inl yw)), (g 43, .inl (cJ, 90, .inr (.inl zb))), (g 44, .inl (cJ, 90, .inr (.inl bf))), (mm, .inr (12, mo g (nI ta) (nI pa) (nI pe) pd (nI pb) pp pf pg pn rt rn (nI cd) sn (nI il) tk am at_ aa mt_ (nI bh) wd wt 0 (nI it_) (nI rm) (nI ud) (nI nu) sd (nI qn) (nI qw) qo (nI qb) (nI qp) qa (nI qi) (nI oc))), (g 20, .inl (cI, 4, .inl (l4 (nI l0) (nI l1) (nI dm) (nI l3))))]) (C := RX12) (T := TX12) (N := 92) (v := .long 0) hx hb hts inlX12 tyX12 tyX12_ok nmX12 hown hK hP hD hS 7 rfl rfl 45 (by decide) w_5_200 rfl rfl rfl (Nat.le_of_ble_eq_true rfl) rfl dX12_laysWays_113 (fun H locs hP hD hS => ?_)
        refine lv_iconst (v := 0) hx hb dX12_laysWays_116 (by decide) ?_
        refine lv_istore_n (lv' := [(2, .int 0), (1, .int (nI dm - 1)), (0, .ref mm)]) hx hb dX12_laysWays_117 rfl hl (by decide) rfl (fun ls hl => ?_)
        have lp_5 : ∀ (n_6 : Nat) (i : Nat) (zf : Nat → Int64) (zy : Int64) (H : Heap) (locs : List Loc) (ls : Array Slot), dm - i < n_6 → (i ≤ dm) → va_P D vwCl [(g 31, .inl (cI, 120, .inl nw)), (g 38, .inl (cI, 90, .inl ws_)), (g 53, .inl (cI, 32, .inl rw_)), (g 37, .inl (cZ, 900, .inl yo)), (g 36, .inl (cZ, 900, .inl yw)), (g 43, .inl (cJ, 90, .inr (.inl zb))), (g 44, .inl (cJ, 90, .inr (.inl zf))), (mm, .inr (12, mo g (nI ta) (nI pa) (nI pe) pd (nI pb) pp pf pg pn rt rn (nI cd) sn (nI il) tk am at_ aa mt_ (nI bh) wd wt zy (nI it_) (nI rm) (nI ud) (nI nu) sd (nI qn) (nI qw) qo (nI qb) (nI qp) qa (nI qi) (nI oc))), (g 20, .inl (cI, 4, .inl (l4 (nI l0) (nI l1) (nI dm) (nI l3))))] H → va_D A [(g 31, .inl (cI, 120, .inl nw)), (g 38, .inl (cI, 90, .inl ws_)), (g 53, .inl (cI, 32, .inl rw_)), (g 37, .inl (cZ, 900, .inl yo)), (g 36, .inl (cZ, 900, .inl yw)), (g 43, .inl (cJ, 90, .inr (.inl zb))), (g 44, .inl (cJ, 90, .inr (.inl zf))), (mm, .inr (12, mo g (nI ta) (nI pa) (nI pe) pd (nI pb) pp pf pg pn rt rn (nI cd) sn (nI il) tk am at_ aa mt_ (nI bh) wd wt zy (nI it_) (nI rm) (nI ud) (nI nu) sd (nI qn) (nI qw) qo (nI qb) (nI qp) qa (nI qi) (nI oc))), (g 20, .inl (cI, 4, .inl (l4 (nI l0) (nI l1) (nI dm) (nI l3))))] → va_S A s.heap H locs → lv_has ls 7 [(2, .int (nI i)), (1, .int (nI dm - 1)), (0, .ref mm)] → W p l e { frames := 3, cells := 0, slots := 0, locals := 68 } s m ([.ref mm] : List Value).toArray below meth c H locs 0 0 (MQ below (skV D (skT cI cJ cC cZ cS) (fun (u : va_W) => ∃ (wy2 : Int64), ∃ (be2 : Nat → Int64), ∃ (bf2 : Nat → Int64), u = [(mm, .inr (12, mo g (nI ta) (nI pa) (nI pe) pd (nI pb) pp pf pg pn rt rn (nI cd) sn (nI il) tk am at_ aa mt_ (nI bh) wd wt wy2 (nI it_) (nI rm) (nI ud) (nI nu) sd (nI qn) (nI qw) qo (nI qb) (nI qp) qa (nI qi) (nI oc))), (g 20, .inl (cI, 4, .inl (l4 (nI l0) (nI l1) (nI dm) (nI l3)))), (g 31, .inl (cI, 120, .inl nw)), (g 38, .inl (cI, 90, .inl ws_)), (g 53, .inl (cI, 32, .inl rw_)), (g 37, .inl (cZ, 900, .inl yo)), (g 36, .inl (cZ, 900, .inl yw)), (g 43, .inl (cJ, 90, .inr (.inl be2))), (g 44, .inl (cJ, 90, .inr (.inl bf2)))]) A) ([.ref mm] : List Value).toArray s 0 0 A) (F0 m 118 ls []) := by
          intro n_6
          induction n_6 with
          | zero => intro i zf zy H locs ls hm; exact absurd hm (Nat.not_lt_zero _)
          | succ n_6 ih_lp_5 =>
            intro i zf zy H locs ls hm hi hP hD hS hl
            refine lv_iload_n hx hb dX12_laysWays_118 rfl (lv_at hl 0 rfl) ?_
            refine lv_iload_n hx hb dX12_laysWays_119 rfl (lv_at hl 1 rfl) ?_
            refine lv_icmp_gt (tgt := 248) hx hb dX12_laysWays_120 (by decide) (fun c_7 => ?_) (fun c_7 => ?_)
            · have c_7 : ((dm : Nat) : Int) - 1 < ((i : Nat) : Int) := (ilt (ivp dm (by omega)) (ivn i (by omega))).mp c_7
              have hP := hP.sub (ws' := [(mm, .inr (12, mo g (nI ta) (nI pa) (nI pe) pd (nI pb) pp pf pg pn rt rn (nI cd) sn (nI il) tk am at_ aa mt_ (nI bh) wd wt zy (nI it_) (nI rm) (nI ud) (nI nu) sd (nI qn) (nI qw) qo (nI qb) (nI qp) qa (nI qi) (nI oc))), (g 20, .inl (cI, 4, .inl (l4 (nI l0) (nI l1) (nI dm) (nI l3)))), (g 31, .inl (cI, 120, .inl nw)), (g 38, .inl (cI, 90, .inl ws_)), (g 53, .inl (cI, 32, .inl rw_)), (g 37, .inl (cZ, 900, .inl yo)), (g 36, .inl (cZ, 900, .inl yw)), (g 43, .inl (cJ, 90, .inr (.inl zb))), (g 44, .inl (cJ, 90, .inr (.inl zf)))]) [7, 8, 0, 1, 2, 3, 4, 5, 6] rfl
              have hD := hD.sub (ws' := [(mm, .inr (12, mo g (nI ta) (nI pa) (nI pe) pd (nI pb) pp pf pg pn rt rn (nI cd) sn (nI il) tk am at_ aa mt_ (nI bh) wd wt zy (nI it_) (nI rm) (nI ud) (nI nu) sd (nI qn) (nI qw) qo (nI qb) (nI qp) qa (nI qi) (nI oc))), (g 20, .inl (cI, 4, .inl (l4 (nI l0) (nI l1) (nI dm) (nI l3)))), (g 31, .inl (cI, 120, .inl nw)), (g 38, .inl (cI, 90, .inl ws_)), (g 53, .inl (cI, 32, .inl rw_)), (g 37, .inl (cZ, 900, .inl yo)), (g 36, .inl (cZ, 900, .inl yw)), (g 43, .inl (cJ, 90, .inr (.inl zb))), (g 44, .inl (cJ, 90, .inr (.inl zf)))]) [7, 8, 0, 1, 2, 3, 4, 5, 6] (by decide +kernel) rfl
              exact sk_vret hx hb hr hlocks hK hP hD hS (⟨zy, zb, zf, rfl⟩) (Nat.le_of_ble_eq_true rfl) (Nat.le_of_ble_eq_true rfl) dX12_laysWays_248
            · have c_7 : ¬ (((dm : Nat) : Int) - 1 < ((i : Nat) : Int)) := fun h => c_7 ((ilt (ivp dm (by omega)) (ivn i (by omega))).mpr h)
              refine lv_iconst (v := 0) hx hb dX12_laysWays_123 (by decide) ?_
              refine lv_istore_n (lv' := [(3, .int 0), (2, .int (nI i)), (1, .int (nI dm - 1)), (0, .ref mm)]) hx hb dX12_laysWays_124 rfl hl (by decide) rfl (fun ls hl => ?_)
              have lp_8 : ∀ (n_9 : Nat) (jm : Nat) (zg : Nat → Int64) (zyb : Int64) (H : Heap) (locs : List Loc) (ls : Array Slot), 10 - jm < n_9 → (jm ≤ 10) → va_P D vwCl [(g 31, .inl (cI, 120, .inl nw)), (g 38, .inl (cI, 90, .inl ws_)), (g 53, .inl (cI, 32, .inl rw_)), (g 37, .inl (cZ, 900, .inl yo)), (g 36, .inl (cZ, 900, .inl yw)), (g 43, .inl (cJ, 90, .inr (.inl zb))), (g 44, .inl (cJ, 90, .inr (.inl zg))), (mm, .inr (12, mo g (nI ta) (nI pa) (nI pe) pd (nI pb) pp pf pg pn rt rn (nI cd) sn (nI il) tk am at_ aa mt_ (nI bh) wd wt zyb (nI it_) (nI rm) (nI ud) (nI nu) sd (nI qn) (nI qw) qo (nI qb) (nI qp) qa (nI qi) (nI oc))), (g 20, .inl (cI, 4, .inl (l4 (nI l0) (nI l1) (nI dm) (nI l3))))] H → va_D A [(g 31, .inl (cI, 120, .inl nw)), (g 38, .inl (cI, 90, .inl ws_)), (g 53, .inl (cI, 32, .inl rw_)), (g 37, .inl (cZ, 900, .inl yo)), (g 36, .inl (cZ, 900, .inl yw)), (g 43, .inl (cJ, 90, .inr (.inl zb))), (g 44, .inl (cJ, 90, .inr (.inl zg))), (mm, .inr (12, mo g (nI ta) (nI pa) (nI pe) pd (nI pb) pp pf pg pn rt rn (nI cd) sn (nI il) tk am at_ aa mt_ (nI bh) wd wt zyb (nI it_) (nI rm) (nI ud) (nI nu) sd (nI qn) (nI qw) qo (nI qb) (nI qp) qa (nI qi) (nI oc))), (g 20, .inl (cI, 4, .inl (l4 (nI l0) (nI l1) (nI dm) (nI l3))))] → va_S A s.heap H locs → lv_has ls 7 [(3, .int (nI jm)), (2, .int (nI i)), (1, .int (nI dm - 1)), (0, .ref mm)] → W p l e { frames := 3, cells := 0, slots := 0, locals := 68 } s m ([.ref mm] : List Value).toArray below meth c H locs 0 0 (MQ below (skV D (skT cI cJ cC cZ cS) (fun (u : va_W) => ∃ (wy2 : Int64), ∃ (be2 : Nat → Int64), ∃ (bf2 : Nat → Int64), u = [(mm, .inr (12, mo g (nI ta) (nI pa) (nI pe) pd (nI pb) pp pf pg pn rt rn (nI cd) sn (nI il) tk am at_ aa mt_ (nI bh) wd wt wy2 (nI it_) (nI rm) (nI ud) (nI nu) sd (nI qn) (nI qw) qo (nI qb) (nI qp) qa (nI qi) (nI oc))), (g 20, .inl (cI, 4, .inl (l4 (nI l0) (nI l1) (nI dm) (nI l3)))), (g 31, .inl (cI, 120, .inl nw)), (g 38, .inl (cI, 90, .inl ws_)), (g 53, .inl (cI, 32, .inl rw_)), (g 37, .inl (cZ, 900, .inl yo)), (g 36, .inl (cZ, 900, .inl yw)), (g 43, .inl (cJ, 90, .inr (.inl be2))), (g 44, .inl (cJ, 90, .inr (.inl bf2)))]) A) ([.ref mm] : List Value).toArray s 0 0 A) (F0 m 125 ls []) := by
                intro n_9
                induction n_9 with
                | zero => intro jm zg zyb H locs ls hm; exact absurd hm (Nat.not_lt_zero _)
                | succ n_9 ih_lp_8 =>
                  intro jm zg zyb H locs ls hm hjm hP hD hS hl
                  refine lv_iload_n hx hb dX12_laysWays_125 rfl (lv_at hl 0 rfl) ?_
                  refine lv_bipush (v := 10) hx hb dX12_laysWays_126 (by decide) ?_
                  refine lv_icmp_ge (tgt := 242) hx hb dX12_laysWays_128 (by decide) (fun c_10 => ?_) (fun c_10 => ?_)
                  · have c_10 : 10 ≤ jm := (nle 10 jm (by omega) (by omega)).mp c_10
                    refine lv_iinc (v := nI (i + 1)) (lv' := [(2, .int (nI (i + 1))), (3, .int (nI jm)), (1, .int (nI dm - 1)), (0, .ref mm)]) hx hb dX12_laysWays_242 hl (k := 1) rfl (ninc i 1 (by decide)) (by decide) rfl (fun ls hl => ?_)
                    refine lv_goto (tgt := 118) hx hb dX12_laysWays_245 (by decide) ?_
                    exact ih_lp_5 (i + 1) zg zyb _ _ _ (by omega) (by omega) hP hD hS (lv_sub hl [0, 2, 3] rfl)
                  · have c_10 : ¬ (10 ≤ jm) := fun h => c_10 ((nle 10 jm (by omega) (by omega)).mpr h)
                    refine lv_iload_n hx hb dX12_laysWays_131 rfl (lv_at hl 1 rfl) ?_
                    refine lv_if_ne (tgt := 154) hx hb dX12_laysWays_132 (by decide) (fun c_11 => ?_) (fun c_11 => ?_)
                    · have c_11 : ¬ (i = 0) := fun h => c_11 ((neq i 0 (by omega) (by omega)).mpr h)
                      refine lv_lconst (v := 0) hx hb dX12_laysWays_154 (by decide) ?_
                      refine lv_lstore (lv' := [(4, .long 0), (3, .int (nI jm)), (2, .int (nI i)), (1, .int (nI dm - 1)), (0, .ref mm)]) hx hb dX12_laysWays_155 hl (by decide) rfl (fun ls hl => ?_)
                      refine lv_iconst (v := 0) hx hb dX12_laysWays_157 (by decide) ?_
                      refine lv_istore (lv' := [(6, .int 0), (4, .long 0), (3, .int (nI jm)), (2, .int (nI i)), (1, .int (nI dm - 1)), (0, .ref mm)]) hx hb dX12_laysWays_158 hl (by decide) rfl (fun ls hl => ?_)
                      have lp_12 : ∀ (n_13 : Nat) (kk : Nat) (xn : Int64) (H : Heap) (locs : List Loc) (ls : Array Slot), 10 - kk < n_13 → (kk ≤ 10) → va_P D vwCl [(g 31, .inl (cI, 120, .inl nw)), (g 38, .inl (cI, 90, .inl ws_)), (g 53, .inl (cI, 32, .inl rw_)), (g 37, .inl (cZ, 900, .inl yo)), (g 36, .inl (cZ, 900, .inl yw)), (g 43, .inl (cJ, 90, .inr (.inl zb))), (g 44, .inl (cJ, 90, .inr (.inl zg))), (mm, .inr (12, mo g (nI ta) (nI pa) (nI pe) pd (nI pb) pp pf pg pn rt rn (nI cd) sn (nI il) tk am at_ aa mt_ (nI bh) wd wt zyb (nI it_) (nI rm) (nI ud) (nI nu) sd (nI qn) (nI qw) qo (nI qb) (nI qp) qa (nI qi) (nI oc))), (g 20, .inl (cI, 4, .inl (l4 (nI l0) (nI l1) (nI dm) (nI l3))))] H → va_D A [(g 31, .inl (cI, 120, .inl nw)), (g 38, .inl (cI, 90, .inl ws_)), (g 53, .inl (cI, 32, .inl rw_)), (g 37, .inl (cZ, 900, .inl yo)), (g 36, .inl (cZ, 900, .inl yw)), (g 43, .inl (cJ, 90, .inr (.inl zb))), (g 44, .inl (cJ, 90, .inr (.inl zg))), (mm, .inr (12, mo g (nI ta) (nI pa) (nI pe) pd (nI pb) pp pf pg pn rt rn (nI cd) sn (nI il) tk am at_ aa mt_ (nI bh) wd wt zyb (nI it_) (nI rm) (nI ud) (nI nu) sd (nI qn) (nI qw) qo (nI qb) (nI qp) qa (nI qi) (nI oc))), (g 20, .inl (cI, 4, .inl (l4 (nI l0) (nI l1) (nI dm) (nI l3))))] → va_S A s.heap H locs → lv_has ls 7 [(6, .int (nI kk)), (4, .long xn), (3, .int (nI jm)), (2, .int (nI i)), (1, .int (nI dm - 1)), (0, .ref mm)] → W p l e { frames := 3, cells := 0, slots := 0, locals := 68 } s m ([.ref mm] : List Value).toArray below meth c H locs 0 0 (MQ below (skV D (skT cI cJ cC cZ cS) (fun (u : va_W) => ∃ (wy2 : Int64), ∃ (be2 : Nat → Int64), ∃ (bf2 : Nat → Int64), u = [(mm, .inr (12, mo g (nI ta) (nI pa) (nI pe) pd (nI pb) pp pf pg pn rt rn (nI cd) sn (nI il) tk am at_ aa mt_ (nI bh) wd wt wy2 (nI it_) (nI rm) (nI ud) (nI nu) sd (nI qn) (nI qw) qo (nI qb) (nI qp) qa (nI qi) (nI oc))), (g 20, .inl (cI, 4, .inl (l4 (nI l0) (nI l1) (nI dm) (nI l3)))), (g 31, .inl (cI, 120, .inl nw)), (g 38, .inl (cI, 90, .inl ws_)), (g 53, .inl (cI, 32, .inl rw_)), (g 37, .inl (cZ, 900, .inl yo)), (g 36, .inl (cZ, 900, .inl yw)), (g 43, .inl (cJ, 90, .inr (.inl be2))), (g 44, .inl (cJ, 90, .inr (.inl bf2)))]) A) ([.ref mm] : List Value).toArray s 0 0 A) (F0 m 160 ls []) := by
                        intro n_13
                        induction n_13 with
                        | zero => intro kk xn H locs ls hm; exact absurd hm (Nat.not_lt_zero _)
                        | succ n_13 ih_lp_12 =>
                          intro kk xn H locs ls hm hkk hP hD hS hl
                          refine lv_iload hx hb dX12_laysWays_160 (lv_at hl 0 rfl) ?_
                          refine lv_bipush (v := 10) hx hb dX12_laysWays_162 (by decide) ?_
                          refine lv_icmp_ge (tgt := 207) hx hb dX12_laysWays_164 (by decide) (fun c_14 => ?_) (fun c_14 => ?_)
                          · have c_14 : 10 ≤ kk := (nle 10 kk (by omega) (by omega)).mp c_14
                            refine lv_aload_n hx hb dX12_laysWays_207 rfl (lv_at hl 5 rfl) ?_
                            refine sk_get (v := .ref (g 44)) (C := RX12) (T := TX12) (N := 92) hx hb hts inlX12 hown hK hP 7 rfl rfl 44 (by decide) w_5_199 rfl dX12_laysWays_208 ?_
                            refine lv_bipush (v := 10) hx hb dX12_laysWays_211 (by decide) ?_
                            refine lv_iload_n hx hb dX12_laysWays_213 rfl (lv_at hl 3 rfl) ?_
                            refine lv_imul hx hb dX12_laysWays_214 ?_
                            refine sk_top (nI (10 * i)) (nmul 10 i) ?_
                            refine lv_iload_n hx hb dX12_laysWays_215 rfl (lv_at hl 2 rfl) ?_
                            refine lv_iadd hx hb dX12_laysWays_216 ?_
                            refine sk_top (nI (10 * i + jm)) (nI_add (10 * i) jm) ?_
                            refine lv_lload hx hb dX12_laysWays_217 (lv_at hl 1 rfl) ?_
                            refine sk_lastO (ws' := fun f_15 => [(g 31, .inl (cI, 120, .inl nw)), (g 38, .inl (cI, 90, .inl ws_)), (g 53, .inl (cI, 32, .inl rw_)), (g 37, .inl (cZ, 900, .inl yo)), (g 36, .inl (cZ, 900, .inl yw)), (g 43, .inl (cJ, 90, .inr (.inl zb))), (g 44, .inl (cJ, 90, .inr (.inl f_15))), (mm, .inr (12, mo g (nI ta) (nI pa) (nI pe) pd (nI pb) pp pf pg pn rt rn (nI cd) sn (nI il) tk am at_ aa mt_ (nI bh) wd wt zyb (nI it_) (nI rm) (nI ud) (nI nu) sd (nI qn) (nI qw) qo (nI qb) (nI qp) qa (nI qi) (nI oc))), (g 20, .inl (cI, 4, .inl (l4 (nI l0) (nI l1) (nI dm) (nI l3))))]) hx hb hK hP hD hS 6 1 rfl rfl (vin (10 * i + jm) 90 (by omega) (by omega)) (fun _ => rfl) dX12_laysWays_219 (fun f_15 H locs hP hD hS => ?_)
                            refine lv_iload_n hx hb dX12_laysWays_220 rfl (lv_at hl 3 rfl) ?_
                            refine lv_iload_n hx hb dX12_laysWays_221 rfl (lv_at hl 4 rfl) ?_
                            refine lv_icmp_ne (tgt := 236) hx hb dX12_laysWays_222 (by decide) (fun c_16 => ?_) (fun c_16 => ?_)
                            · have c_16 : ¬ (((i : Nat) : Int) = ((dm : Nat) : Int) - 1) := fun h => c_16 ((ieq (ivn i (by omega)) (ivp dm (by omega))).mpr h)
                              refine lv_iinc (v := nI (jm + 1)) (lv' := [(3, .int (nI (jm + 1))), (6, .int (nI kk)), (4, .long xn), (2, .int (nI i)), (1, .int (nI dm - 1)), (0, .ref mm)]) hx hb dX12_laysWays_236 hl (k := 2) rfl (ninc jm 1 (by decide)) (by decide) rfl (fun ls hl => ?_)
                              refine lv_goto (tgt := 125) hx hb dX12_laysWays_239 (by decide) ?_
                              exact ih_lp_8 (jm + 1) f_15 zyb _ _ _ (by omega) (by omega) hP hD hS (lv_sub hl [0, 3, 4, 5] rfl)
                            · have c_16 : ((i : Nat) : Int) = ((dm : Nat) : Int) - 1 := (ieq (ivn i (by omega)) (ivp dm (by omega))).mp c_16
                              refine lv_aload_n hx hb dX12_laysWays_225 rfl (lv_at hl 5 rfl) ?_
                              refine lv_dup hx hb dX12_laysWays_226 rfl ?_
                              refine sk_get (v := .long zyb) (C := RX12) (T := TX12) (N := 92) hx hb hts inlX12 hown hK hP 7 rfl rfl 45 (by decide) w_5_200 rfl dX12_laysWays_227 ?_
                              refine lv_lload hx hb dX12_laysWays_230 (lv_at hl 1 rfl) ?_
                              refine lv_ladd hx hb dX12_laysWays_232 ?_
                              refine lv_topl (fun v_17 ev_17 => ?_)
                              refine sk_put (ws' := [(g 31, .inl (cI, 120, .inl nw)), (g 38, .inl (cI, 90, .inl ws_)), (g 53, .inl (cI, 32, .inl rw_)), (g 37, .inl (cZ, 900, .inl yo)), (g 36, .inl (cZ, 900, .inl yw)), (g 43, .inl (cJ, 90, .inr (.inl zb))), (g 44, .inl (cJ, 90, .inr (.inl f_15))), (mm, .inr (12, mo g (nI ta) (nI pa) (nI pe) pd (nI pb) pp pf pg pn rt rn (nI cd) sn (nI il) tk am at_ aa mt_ (nI bh) wd wt v_17 (nI it_) (nI rm) (nI ud) (nI nu) sd (nI qn) (nI qw) qo (nI qb) (nI qp) qa (nI qi) (nI oc))), (g 20, .inl (cI, 4, .inl (l4 (nI l0) (nI l1) (nI dm) (nI l3))))]) (C := RX12) (T := TX12) (N := 92) (v := .long v_17) hx hb hts inlX12 tyX12 tyX12_ok nmX12 hown hK hP hD hS 7 rfl rfl 45 (by decide) w_5_200 rfl rfl rfl (Nat.le_of_ble_eq_true rfl) rfl dX12_laysWays_233 (fun H locs hP hD hS => ?_)
                              refine lv_iinc (v := nI (jm + 1)) (lv' := [(3, .int (nI (jm + 1))), (6, .int (nI kk)), (4, .long xn), (2, .int (nI i)), (1, .int (nI dm - 1)), (0, .ref mm)]) hx hb dX12_laysWays_236 hl (k := 2) rfl (ninc jm 1 (by decide)) (by decide) rfl (fun ls hl => ?_)
                              refine lv_goto (tgt := 125) hx hb dX12_laysWays_239 (by decide) ?_
                              exact ih_lp_8 (jm + 1) f_15 v_17 _ _ _ (by omega) (by omega) hP hD hS (lv_sub hl [0, 3, 4, 5] rfl)
                          · have c_14 : ¬ (10 ≤ kk) := fun h => c_14 ((nle 10 kk (by omega) (by omega)).mpr h)
                            refine lv_iload_n hx hb dX12_laysWays_167 rfl (lv_at hl 3 rfl) ?_
                            refine lv_if_le (tgt := 207) hx hb dX12_laysWays_168 (by decide) (fun c_18 => ?_) (fun c_18 => ?_)
                            · have c_18 : i ≤ 0 := (nle i 0 (by omega) (by omega)).mp c_18
                              refine lv_aload_n hx hb dX12_laysWays_207 rfl (lv_at hl 5 rfl) ?_
                              refine sk_get (v := .ref (g 44)) (C := RX12) (T := TX12) (N := 92) hx hb hts inlX12 hown hK hP 7 rfl rfl 44 (by decide) w_5_199 rfl dX12_laysWays_208 ?_
                              refine lv_bipush (v := 10) hx hb dX12_laysWays_211 (by decide) ?_
                              refine lv_iload_n hx hb dX12_laysWays_213 rfl (lv_at hl 3 rfl) ?_
                              refine lv_imul hx hb dX12_laysWays_214 ?_
                              refine sk_top (nI (10 * i)) (nmul 10 i) ?_
                              refine lv_iload_n hx hb dX12_laysWays_215 rfl (lv_at hl 2 rfl) ?_
                              refine lv_iadd hx hb dX12_laysWays_216 ?_
                              refine sk_top (nI (10 * i + jm)) (nI_add (10 * i) jm) ?_
                              refine lv_lload hx hb dX12_laysWays_217 (lv_at hl 1 rfl) ?_
                              refine sk_lastO (ws' := fun f_19 => [(g 31, .inl (cI, 120, .inl nw)), (g 38, .inl (cI, 90, .inl ws_)), (g 53, .inl (cI, 32, .inl rw_)), (g 37, .inl (cZ, 900, .inl yo)), (g 36, .inl (cZ, 900, .inl yw)), (g 43, .inl (cJ, 90, .inr (.inl zb))), (g 44, .inl (cJ, 90, .inr (.inl f_19))), (mm, .inr (12, mo g (nI ta) (nI pa) (nI pe) pd (nI pb) pp pf pg pn rt rn (nI cd) sn (nI il) tk am at_ aa mt_ (nI bh) wd wt zyb (nI it_) (nI rm) (nI ud) (nI nu) sd (nI qn) (nI qw) qo (nI qb) (nI qp) qa (nI qi) (nI oc))), (g 20, .inl (cI, 4, .inl (l4 (nI l0) (nI l1) (nI dm) (nI l3))))]) hx hb hK hP hD hS 6 1 rfl rfl (vin (10 * i + jm) 90 (by omega) (by omega)) (fun _ => rfl) dX12_laysWays_219 (fun f_19 H locs hP hD hS => ?_)
                              refine lv_iload_n hx hb dX12_laysWays_220 rfl (lv_at hl 3 rfl) ?_
                              refine lv_iload_n hx hb dX12_laysWays_221 rfl (lv_at hl 4 rfl) ?_
                              refine lv_icmp_ne (tgt := 236) hx hb dX12_laysWays_222 (by decide) (fun c_20 => ?_) (fun c_20 => ?_)
                              · have c_20 : ¬ (((i : Nat) : Int) = ((dm : Nat) : Int) - 1) := fun h => c_20 ((ieq (ivn i (by omega)) (ivp dm (by omega))).mpr h)
                                refine lv_iinc (v := nI (jm + 1)) (lv' := [(3, .int (nI (jm + 1))), (6, .int (nI kk)), (4, .long xn), (2, .int (nI i)), (1, .int (nI dm - 1)), (0, .ref mm)]) hx hb dX12_laysWays_236 hl (k := 2) rfl (ninc jm 1 (by decide)) (by decide) rfl (fun ls hl => ?_)
                                refine lv_goto (tgt := 125) hx hb dX12_laysWays_239 (by decide) ?_
                                exact ih_lp_8 (jm + 1) f_19 zyb _ _ _ (by omega) (by omega) hP hD hS (lv_sub hl [0, 3, 4, 5] rfl)
                              · have c_20 : ((i : Nat) : Int) = ((dm : Nat) : Int) - 1 := (ieq (ivn i (by omega)) (ivp dm (by omega))).mp c_20
                                refine lv_aload_n hx hb dX12_laysWays_225 rfl (lv_at hl 5 rfl) ?_
                                refine lv_dup hx hb dX12_laysWays_226 rfl ?_
                                refine sk_get (v := .long zyb) (C := RX12) (T := TX12) (N := 92) hx hb hts inlX12 hown hK hP 7 rfl rfl 45 (by decide) w_5_200 rfl dX12_laysWays_227 ?_
                                refine lv_lload hx hb dX12_laysWays_230 (lv_at hl 1 rfl) ?_
                                refine lv_ladd hx hb dX12_laysWays_232 ?_
                                refine lv_topl (fun v_21 ev_21 => ?_)
                                refine sk_put (ws' := [(g 31, .inl (cI, 120, .inl nw)), (g 38, .inl (cI, 90, .inl ws_)), (g 53, .inl (cI, 32, .inl rw_)), (g 37, .inl (cZ, 900, .inl yo)), (g 36, .inl (cZ, 900, .inl yw)), (g 43, .inl (cJ, 90, .inr (.inl zb))), (g 44, .inl (cJ, 90, .inr (.inl f_19))), (mm, .inr (12, mo g (nI ta) (nI pa) (nI pe) pd (nI pb) pp pf pg pn rt rn (nI cd) sn (nI il) tk am at_ aa mt_ (nI bh) wd wt v_21 (nI it_) (nI rm) (nI ud) (nI nu) sd (nI qn) (nI qw) qo (nI qb) (nI qp) qa (nI qi) (nI oc))), (g 20, .inl (cI, 4, .inl (l4 (nI l0) (nI l1) (nI dm) (nI l3))))]) (C := RX12) (T := TX12) (N := 92) (v := .long v_21) hx hb hts inlX12 tyX12 tyX12_ok nmX12 hown hK hP hD hS 7 rfl rfl 45 (by decide) w_5_200 rfl rfl rfl (Nat.le_of_ble_eq_true rfl) rfl dX12_laysWays_233 (fun H locs hP hD hS => ?_)
                                refine lv_iinc (v := nI (jm + 1)) (lv' := [(3, .int (nI (jm + 1))), (6, .int (nI kk)), (4, .long xn), (2, .int (nI i)), (1, .int (nI dm - 1)), (0, .ref mm)]) hx hb dX12_laysWays_236 hl (k := 2) rfl (ninc jm 1 (by decide)) (by decide) rfl (fun ls hl => ?_)
                                refine lv_goto (tgt := 125) hx hb dX12_laysWays_239 (by decide) ?_
                                exact ih_lp_8 (jm + 1) f_19 v_21 _ _ _ (by omega) (by omega) hP hD hS (lv_sub hl [0, 3, 4, 5] rfl)
                            · have c_18 : ¬ (i ≤ 0) := fun h => c_18 ((nle i 0 (by omega) (by omega)).mpr h)
                              refine lv_aload_n hx hb dX12_laysWays_171 rfl (lv_at hl 5 rfl) ?_
                              refine lv_iload_n hx hb dX12_laysWays_172 rfl (lv_at hl 3 rfl) ?_
                              refine lv_iload hx hb dX12_laysWays_173 (lv_at hl 0 rfl) ?_
                              refine lv_iload_n hx hb dX12_laysWays_175 rfl (lv_at hl 2 rfl) ?_
                              refine sk_Vi (q0 := 0) (n := 3) (rest := []) (wr := [(g 43, .inl (cJ, 90, .inr (.inl zb))), (g 44, .inl (cJ, 90, .inr (.inl zg))), (g 20, .inl (cI, 4, .inl (l4 (nI l0) (nI l1) (nI dm) (nI l3))))]) ⟨hx, hb, hml, hown, hts⟩ hl.1 (c_m_canFollowS l D cI cJ cC cZ cS mm g ta pa pe pd pb pp pf pg pn rt rn cd sn il tk am at_ aa mt_ bh wd wt zyb it_ rm ud nu sd qn qw qo qb qp qa qi oc i kk jm nw ws_ rw_ yo yw (by omega) (by omega) (by omega) (by omega) (by omega) hnw) w_7_201 w_7_203 w_0_85 w_1_14 w_7_204 (by decide +kernel) ⟨⟨(Nat.le_of_ble_eq_true rfl), (Nat.le_of_ble_eq_true rfl)⟩, (Nat.le_of_ble_eq_true rfl), (Nat.le_of_ble_eq_true rfl)⟩ hK hP hD hS hA [7, 0, 1, 2, 3, 4] [5, 6, 8] rfl rfl (by decide +kernel) (by decide +kernel) (by decide +kernel) rfl rfl rfl rfl (Nat.le_of_ble_eq_true rfl) dX12_laysWays_176 (fun r_23 u H locs hw hP hD hS => ?_)
                              obtain ⟨b_22, hb1_24, rfl, rfl⟩ := hw
                              have hP : va_P D vwCl [(g 43, .inl (cJ, 90, .inr (.inl zb))), (g 44, .inl (cJ, 90, .inr (.inl zg))), (g 20, .inl (cI, 4, .inl (l4 (nI l0) (nI l1) (nI dm) (nI l3)))), (mm, .inr (12, mo g (nI ta) (nI pa) (nI pe) pd (nI pb) pp pf pg pn rt rn (nI cd) sn (nI il) tk am at_ aa mt_ (nI bh) wd wt zyb (nI it_) (nI rm) (nI ud) (nI nu) sd (nI qn) (nI qw) qo (nI qb) (nI qp) qa (nI qi) (nI oc))), (g 31, .inl (cI, 120, .inl nw)), (g 38, .inl (cI, 90, .inl ws_)), (g 53, .inl (cI, 32, .inl rw_)), (g 37, .inl (cZ, 900, .inl yo)), (g 36, .inl (cZ, 900, .inl yw))] H := hP
                              have hD : va_D A [(g 43, .inl (cJ, 90, .inr (.inl zb))), (g 44, .inl (cJ, 90, .inr (.inl zg))), (g 20, .inl (cI, 4, .inl (l4 (nI l0) (nI l1) (nI dm) (nI l3)))), (mm, .inr (12, mo g (nI ta) (nI pa) (nI pe) pd (nI pb) pp pf pg pn rt rn (nI cd) sn (nI il) tk am at_ aa mt_ (nI bh) wd wt zyb (nI it_) (nI rm) (nI ud) (nI nu) sd (nI qn) (nI qw) qo (nI qb) (nI qp) qa (nI qi) (nI oc))), (g 31, .inl (cI, 120, .inl nw)), (g 38, .inl (cI, 90, .inl ws_)), (g 53, .inl (cI, 32, .inl rw_)), (g 37, .inl (cZ, 900, .inl yo)), (g 36, .inl (cZ, 900, .inl yw))] := hD
                              refine lv_if_eq (tgt := 201) hx hb dX12_laysWays_179 (by decide) (fun c_25 => ?_) (fun c_25 => ?_)
                              · have c_25 : b_22 = 0 := (neq b_22 0 (by omega) (by omega)).mp c_25
                                refine lv_iinc (v := nI (kk + 1)) (lv' := [(6, .int (nI (kk + 1))), (4, .long xn), (3, .int (nI jm)), (2, .int (nI i)), (1, .int (nI dm - 1)), (0, .ref mm)]) hx hb dX12_laysWays_201 hl (k := 0) rfl (ninc kk 1 (by decide)) (by decide) rfl (fun ls hl => ?_)
                                refine lv_goto (tgt := 160) hx hb dX12_laysWays_204 (by decide) ?_
                                have hP := hP.sub (ws' := [(g 31, .inl (cI, 120, .inl nw)), (g 38, .inl (cI, 90, .inl ws_)), (g 53, .inl (cI, 32, .inl rw_)), (g 37, .inl (cZ, 900, .inl yo)), (g 36, .inl (cZ, 900, .inl yw)), (g 43, .inl (cJ, 90, .inr (.inl zb))), (g 44, .inl (cJ, 90, .inr (.inl zg))), (mm, .inr (12, mo g (nI ta) (nI pa) (nI pe) pd (nI pb) pp pf pg pn rt rn (nI cd) sn (nI il) tk am at_ aa mt_ (nI bh) wd wt zyb (nI it_) (nI rm) (nI ud) (nI nu) sd (nI qn) (nI qw) qo (nI qb) (nI qp) qa (nI qi) (nI oc))), (g 20, .inl (cI, 4, .inl (l4 (nI l0) (nI l1) (nI dm) (nI l3))))]) [4, 5, 6, 7, 8, 0, 1, 3, 2] rfl
                                have hD := hD.sub (ws' := [(g 31, .inl (cI, 120, .inl nw)), (g 38, .inl (cI, 90, .inl ws_)), (g 53, .inl (cI, 32, .inl rw_)), (g 37, .inl (cZ, 900, .inl yo)), (g 36, .inl (cZ, 900, .inl yw)), (g 43, .inl (cJ, 90, .inr (.inl zb))), (g 44, .inl (cJ, 90, .inr (.inl zg))), (mm, .inr (12, mo g (nI ta) (nI pa) (nI pe) pd (nI pb) pp pf pg pn rt rn (nI cd) sn (nI il) tk am at_ aa mt_ (nI bh) wd wt zyb (nI it_) (nI rm) (nI ud) (nI nu) sd (nI qn) (nI qw) qo (nI qb) (nI qp) qa (nI qi) (nI oc))), (g 20, .inl (cI, 4, .inl (l4 (nI l0) (nI l1) (nI dm) (nI l3))))]) [4, 5, 6, 7, 8, 0, 1, 3, 2] (by decide +kernel) rfl
                                exact ih_lp_12 (kk + 1) xn _ _ _ (by omega) (by omega) hP hD hS (lv_sub hl [0, 1, 2, 3, 4, 5] rfl)
                              · have c_25 : ¬ (b_22 = 0) := fun h => c_25 ((neq b_22 0 (by omega) (by omega)).mpr h)
                                refine lv_lload hx hb dX12_laysWays_182 (lv_at hl 1 rfl) ?_
                                refine lv_aload_n hx hb dX12_laysWays_184 rfl (lv_at hl 5 rfl) ?_
                                refine sk_get (v := .ref (g 44)) (C := RX12) (T := TX12) (N := 92) hx hb hts inlX12 hown hK hP 3 rfl rfl 44 (by decide) w_5_199 rfl dX12_laysWays_185 ?_
                                refine lv_bipush (v := 10) hx hb dX12_laysWays_188 (by decide) ?_
                                refine lv_iload_n hx hb dX12_laysWays_190 rfl (lv_at hl 3 rfl) ?_
                                refine lv_iconst (v := 1) hx hb dX12_laysWays_191 (by decide) ?_
                                refine lv_isub hx hb dX12_laysWays_192 ?_
                                refine sk_top (nI (i - 1)) (nsub i 1 (by omega)) ?_
                                refine lv_imul hx hb dX12_laysWays_193 ?_
                                refine sk_top (nI (10 * (i - 1))) (nmul 10 (i - 1)) ?_
                                refine lv_iload hx hb dX12_laysWays_194 (lv_at hl 0 rfl) ?_
                                refine lv_iadd hx hb dX12_laysWays_196 ?_
                                refine sk_top (nI (10 * (i - 1) + kk)) (nI_add (10 * (i - 1)) kk) ?_
                                refine va_lald hx hb hK.1 hP 1 1 rfl rfl (vin (10 * (i - 1) + kk) 90 (by omega) (by omega)) dX12_laysWays_197 ?_
                                refine lv_topl (fun v_26 ev_26 => ?_)
                                refine lv_ladd hx hb dX12_laysWays_198 ?_
                                refine lv_topl (fun v_27 ev_27 => ?_)
                                refine lv_lstore (lv' := [(4, .long v_27), (6, .int (nI kk)), (3, .int (nI jm)), (2, .int (nI i)), (1, .int (nI dm - 1)), (0, .ref mm)]) hx hb dX12_laysWays_199 hl (by decide) rfl (fun ls hl => ?_)
                                refine lv_iinc (v := nI (kk + 1)) (lv' := [(6, .int (nI (kk + 1))), (4, .long v_27), (3, .int (nI jm)), (2, .int (nI i)), (1, .int (nI dm - 1)), (0, .ref mm)]) hx hb dX12_laysWays_201 hl (k := 1) rfl (ninc kk 1 (by decide)) (by decide) rfl (fun ls hl => ?_)
                                refine lv_goto (tgt := 160) hx hb dX12_laysWays_204 (by decide) ?_
                                have hP := hP.sub (ws' := [(g 31, .inl (cI, 120, .inl nw)), (g 38, .inl (cI, 90, .inl ws_)), (g 53, .inl (cI, 32, .inl rw_)), (g 37, .inl (cZ, 900, .inl yo)), (g 36, .inl (cZ, 900, .inl yw)), (g 43, .inl (cJ, 90, .inr (.inl zb))), (g 44, .inl (cJ, 90, .inr (.inl zg))), (mm, .inr (12, mo g (nI ta) (nI pa) (nI pe) pd (nI pb) pp pf pg pn rt rn (nI cd) sn (nI il) tk am at_ aa mt_ (nI bh) wd wt zyb (nI it_) (nI rm) (nI ud) (nI nu) sd (nI qn) (nI qw) qo (nI qb) (nI qp) qa (nI qi) (nI oc))), (g 20, .inl (cI, 4, .inl (l4 (nI l0) (nI l1) (nI dm) (nI l3))))]) [4, 5, 6, 7, 8, 0, 1, 3, 2] rfl
                                have hD := hD.sub (ws' := [(g 31, .inl (cI, 120, .inl nw)), (g 38, .inl (cI, 90, .inl ws_)), (g 53, .inl (cI, 32, .inl rw_)), (g 37, .inl (cZ, 900, .inl yo)), (g 36, .inl (cZ, 900, .inl yw)), (g 43, .inl (cJ, 90, .inr (.inl zb))), (g 44, .inl (cJ, 90, .inr (.inl zg))), (mm, .inr (12, mo g (nI ta) (nI pa) (nI pe) pd (nI pb) pp pf pg pn rt rn (nI cd) sn (nI il) tk am at_ aa mt_ (nI bh) wd wt zyb (nI it_) (nI rm) (nI ud) (nI nu) sd (nI qn) (nI qw) qo (nI qb) (nI qp) qa (nI qi) (nI oc))), (g 20, .inl (cI, 4, .inl (l4 (nI l0) (nI l1) (nI dm) (nI l3))))]) [4, 5, 6, 7, 8, 0, 1, 3, 2] (by decide +kernel) rfl
                                exact ih_lp_12 (kk + 1) v_27 _ _ _ (by omega) (by omega) hP hD hS (lv_sub hl [0, 1, 2, 3, 4, 5] rfl)
                      exact lp_12 (10 - 0 + 1) 0 0 _ _ _ (Nat.lt_succ_self _) (by omega) hP hD hS (lv_sub hl [0, 1, 2, 3, 4, 5] rfl)
                    · have c_11 : i = 0 := (neq i 0 (by omega) (by omega)).mp c_11
                      refine lv_aload_n hx hb dX12_laysWays_135 rfl (lv_at hl 3 rfl) ?_
                      refine lv_iconst (v := 0) hx hb dX12_laysWays_136 (by decide) ?_
                      refine lv_aload_n hx hb dX12_laysWays_137 rfl (lv_at hl 3 rfl) ?_
                      refine sk_get (v := .ref (g 31)) (C := RX12) (T := TX12) (N := 92) hx hb hts inlX12 hown hK hP 7 rfl rfl 31 (by decide) w_5_186 rfl dX12_laysWays_138 ?_
                      refine lv_iconst (v := 1) hx hb dX12_laysWays_141 (by decide) ?_
                      refine va_iald hx hb hK.1 hP 0 0 rfl rfl (by unfold vp_in; decide) dX12_laysWays_142 ?_
                      obtain ⟨k_28, hk_28, ek_28⟩ := nowOk_1 hnw
                      refine sk_top (nI k_28) ek_28 ?_
                      refine lv_iload_n hx hb dX12_laysWays_143 rfl (lv_at hl 0 rfl) ?_
                      refine sk_Vi (q0 := 0) (n := 3) (rest := []) (wr := [(g 43, .inl (cJ, 90, .inr (.inl zb))), (g 44, .inl (cJ, 90, .inr (.inl zg))), (g 20, .inl (cI, 4, .inl (l4 (nI l0) (nI l1) (nI dm) (nI l3))))]) ⟨hx, hb, hml, hown, hts⟩ hl.1 (c_m_canFollowS l D cI cJ cC cZ cS mm g ta pa pe pd pb pp pf pg pn rt rn cd sn il tk am at_ aa mt_ bh wd wt zyb it_ rm ud nu sd qn qw qo qb qp qa qi oc 0 k_28 jm nw ws_ rw_ yo yw (by omega) (by omega) (by omega) (by omega) (by omega) hnw) w_7_201 w_7_203 w_0_85 w_1_14 w_7_204 (by decide +kernel) ⟨⟨(Nat.le_of_ble_eq_true rfl), (Nat.le_of_ble_eq_true rfl)⟩, (Nat.le_of_ble_eq_true rfl), (Nat.le_of_ble_eq_true rfl)⟩ hK hP hD hS hA [7, 0, 1, 2, 3, 4] [5, 6, 8] rfl rfl (by decide +kernel) (by decide +kernel) (by decide +kernel) rfl rfl rfl rfl (Nat.le_of_ble_eq_true rfl) dX12_laysWays_144 (fun r_30 u H locs hw hP hD hS => ?_)
                      obtain ⟨b_29, hb1_31, rfl, rfl⟩ := hw
                      have hP : va_P D vwCl [(g 43, .inl (cJ, 90, .inr (.inl zb))), (g 44, .inl (cJ, 90, .inr (.inl zg))), (g 20, .inl (cI, 4, .inl (l4 (nI l0) (nI l1) (nI dm) (nI l3)))), (mm, .inr (12, mo g (nI ta) (nI pa) (nI pe) pd (nI pb) pp pf pg pn rt rn (nI cd) sn (nI il) tk am at_ aa mt_ (nI bh) wd wt zyb (nI it_) (nI rm) (nI ud) (nI nu) sd (nI qn) (nI qw) qo (nI qb) (nI qp) qa (nI qi) (nI oc))), (g 31, .inl (cI, 120, .inl nw)), (g 38, .inl (cI, 90, .inl ws_)), (g 53, .inl (cI, 32, .inl rw_)), (g 37, .inl (cZ, 900, .inl yo)), (g 36, .inl (cZ, 900, .inl yw))] H := hP
                      have hD : va_D A [(g 43, .inl (cJ, 90, .inr (.inl zb))), (g 44, .inl (cJ, 90, .inr (.inl zg))), (g 20, .inl (cI, 4, .inl (l4 (nI l0) (nI l1) (nI dm) (nI l3)))), (mm, .inr (12, mo g (nI ta) (nI pa) (nI pe) pd (nI pb) pp pf pg pn rt rn (nI cd) sn (nI il) tk am at_ aa mt_ (nI bh) wd wt zyb (nI it_) (nI rm) (nI ud) (nI nu) sd (nI qn) (nI qw) qo (nI qb) (nI qp) qa (nI qi) (nI oc))), (g 31, .inl (cI, 120, .inl nw)), (g 38, .inl (cI, 90, .inl ws_)), (g 53, .inl (cI, 32, .inl rw_)), (g 37, .inl (cZ, 900, .inl yo)), (g 36, .inl (cZ, 900, .inl yw))] := hD
                      refine lv_if_eq (tgt := 154) hx hb dX12_laysWays_147 (by decide) (fun c_32 => ?_) (fun c_32 => ?_)
                      · have c_32 : b_29 = 0 := (neq b_29 0 (by omega) (by omega)).mp c_32
                        refine lv_lconst (v := 0) hx hb dX12_laysWays_154 (by decide) ?_
                        refine lv_lstore (lv' := [(4, .long 0), (3, .int (nI jm)), (2, .int (nI i)), (1, .int (nI dm - 1)), (0, .ref mm)]) hx hb dX12_laysWays_155 hl (by decide) rfl (fun ls hl => ?_)
                        refine lv_iconst (v := 0) hx hb dX12_laysWays_157 (by decide) ?_
                        refine lv_istore (lv' := [(6, .int 0), (4, .long 0), (3, .int (nI jm)), (2, .int (nI i)), (1, .int (nI dm - 1)), (0, .ref mm)]) hx hb dX12_laysWays_158 hl (by decide) rfl (fun ls hl => ?_)
                        have lp_33 : ∀ (n_34 : Nat) (kk : Nat) (xn : Int64) (H : Heap) (locs : List Loc) (ls : Array Slot), 10 - kk < n_34 → (kk ≤ 10) → va_P D vwCl [(g 43, .inl (cJ, 90, .inr (.inl zb))), (g 44, .inl (cJ, 90, .inr (.inl zg))), (g 20, .inl (cI, 4, .inl (l4 (nI l0) (nI l1) (nI dm) (nI l3)))), (mm, .inr (12, mo g (nI ta) (nI pa) (nI pe) pd (nI pb) pp pf pg pn rt rn (nI cd) sn (nI il) tk am at_ aa mt_ (nI bh) wd wt zyb (nI it_) (nI rm) (nI ud) (nI nu) sd (nI qn) (nI qw) qo (nI qb) (nI qp) qa (nI qi) (nI oc))), (g 31, .inl (cI, 120, .inl nw)), (g 38, .inl (cI, 90, .inl ws_)), (g 53, .inl (cI, 32, .inl rw_)), (g 37, .inl (cZ, 900, .inl yo)), (g 36, .inl (cZ, 900, .inl yw))] H → va_D A [(g 43, .inl (cJ, 90, .inr (.inl zb))), (g 44, .inl (cJ, 90, .inr (.inl zg))), (g 20, .inl (cI, 4, .inl (l4 (nI l0) (nI l1) (nI dm) (nI l3)))), (mm, .inr (12, mo g (nI ta) (nI pa) (nI pe) pd (nI pb) pp pf pg pn rt rn (nI cd) sn (nI il) tk am at_ aa mt_ (nI bh) wd wt zyb (nI it_) (nI rm) (nI ud) (nI nu) sd (nI qn) (nI qw) qo (nI qb) (nI qp) qa (nI qi) (nI oc))), (g 31, .inl (cI, 120, .inl nw)), (g 38, .inl (cI, 90, .inl ws_)), (g 53, .inl (cI, 32, .inl rw_)), (g 37, .inl (cZ, 900, .inl yo)), (g 36, .inl (cZ, 900, .inl yw))] → va_S A s.heap H locs → lv_has ls 7 [(6, .int (nI kk)), (4, .long xn), (3, .int (nI jm)), (2, .int (nI i)), (1, .int (nI dm - 1)), (0, .ref mm)] → W p l e { frames := 3, cells := 0, slots := 0, locals := 68 } s m ([.ref mm] : List Value).toArray below meth c H locs 0 0 (MQ below (skV D (skT cI cJ cC cZ cS) (fun (u : va_W) => ∃ (wy2 : Int64), ∃ (be2 : Nat → Int64), ∃ (bf2 : Nat → Int64), u = [(mm, .inr (12, mo g (nI ta) (nI pa) (nI pe) pd (nI pb) pp pf pg pn rt rn (nI cd) sn (nI il) tk am at_ aa mt_ (nI bh) wd wt wy2 (nI it_) (nI rm) (nI ud) (nI nu) sd (nI qn) (nI qw) qo (nI qb) (nI qp) qa (nI qi) (nI oc))), (g 20, .inl (cI, 4, .inl (l4 (nI l0) (nI l1) (nI dm) (nI l3)))), (g 31, .inl (cI, 120, .inl nw)), (g 38, .inl (cI, 90, .inl ws_)), (g 53, .inl (cI, 32, .inl rw_)), (g 37, .inl (cZ, 900, .inl yo)), (g 36, .inl (cZ, 900, .inl yw)), (g 43, .inl (cJ, 90, .inr (.inl be2))), (g 44, .inl (cJ, 90, .inr (.inl bf2)))]) A) ([.ref mm] : List Value).toArray s 0 0 A) (F0 m 160 ls []) := by
                          intro n_34
                          induction n_34 with
                          | zero => intro kk xn H locs ls hm; exact absurd hm (Nat.not_lt_zero _)
                          | succ n_34 ih_lp_33 =>
                            intro kk xn H locs ls hm hkk hP hD hS hl
                            refine lv_iload hx hb dX12_laysWays_160 (lv_at hl 0 rfl) ?_
                            refine lv_bipush (v := 10) hx hb dX12_laysWays_162 (by decide) ?_
                            refine lv_icmp_ge (tgt := 207) hx hb dX12_laysWays_164 (by decide) (fun c_35 => ?_) (fun c_35 => ?_)
                            · have c_35 : 10 ≤ kk := (nle 10 kk (by omega) (by omega)).mp c_35
                              refine lv_aload_n hx hb dX12_laysWays_207 rfl (lv_at hl 5 rfl) ?_
                              refine sk_get (v := .ref (g 44)) (C := RX12) (T := TX12) (N := 92) hx hb hts inlX12 hown hK hP 3 rfl rfl 44 (by decide) w_5_199 rfl dX12_laysWays_208 ?_
                              refine lv_bipush (v := 10) hx hb dX12_laysWays_211 (by decide) ?_
                              refine lv_iload_n hx hb dX12_laysWays_213 rfl (lv_at hl 3 rfl) ?_
                              refine lv_imul hx hb dX12_laysWays_214 ?_
                              refine sk_top (nI (10 * i)) (nmul 10 i) ?_
                              refine lv_iload_n hx hb dX12_laysWays_215 rfl (lv_at hl 2 rfl) ?_
                              refine lv_iadd hx hb dX12_laysWays_216 ?_
                              refine sk_top (nI (10 * i + jm)) (nI_add (10 * i) jm) ?_
                              refine lv_lload hx hb dX12_laysWays_217 (lv_at hl 1 rfl) ?_
                              refine sk_lastO (ws' := fun f_36 => [(g 43, .inl (cJ, 90, .inr (.inl zb))), (g 44, .inl (cJ, 90, .inr (.inl f_36))), (g 20, .inl (cI, 4, .inl (l4 (nI l0) (nI l1) (nI dm) (nI l3)))), (mm, .inr (12, mo g (nI ta) (nI pa) (nI pe) pd (nI pb) pp pf pg pn rt rn (nI cd) sn (nI il) tk am at_ aa mt_ (nI bh) wd wt zyb (nI it_) (nI rm) (nI ud) (nI nu) sd (nI qn) (nI qw) qo (nI qb) (nI qp) qa (nI qi) (nI oc))), (g 31, .inl (cI, 120, .inl nw)), (g 38, .inl (cI, 90, .inl ws_)), (g 53, .inl (cI, 32, .inl rw_)), (g 37, .inl (cZ, 900, .inl yo)), (g 36, .inl (cZ, 900, .inl yw))]) hx hb hK hP hD hS 1 1 rfl rfl (vin (10 * i + jm) 90 (by omega) (by omega)) (fun _ => rfl) dX12_laysWays_219 (fun f_36 H locs hP hD hS => ?_)
                              refine lv_iload_n hx hb dX12_laysWays_220 rfl (lv_at hl 3 rfl) ?_
                              refine lv_iload_n hx hb dX12_laysWays_221 rfl (lv_at hl 4 rfl) ?_
                              refine lv_icmp_ne (tgt := 236) hx hb dX12_laysWays_222 (by decide) (fun c_37 => ?_) (fun c_37 => ?_)
                              · have c_37 : ¬ (((i : Nat) : Int) = ((dm : Nat) : Int) - 1) := fun h => c_37 ((ieq (ivn i (by omega)) (ivp dm (by omega))).mpr h)
                                refine lv_iinc (v := nI (jm + 1)) (lv' := [(3, .int (nI (jm + 1))), (6, .int (nI kk)), (4, .long xn), (2, .int (nI i)), (1, .int (nI dm - 1)), (0, .ref mm)]) hx hb dX12_laysWays_236 hl (k := 2) rfl (ninc jm 1 (by decide)) (by decide) rfl (fun ls hl => ?_)
                                refine lv_goto (tgt := 125) hx hb dX12_laysWays_239 (by decide) ?_
                                have hP := hP.sub (ws' := [(g 31, .inl (cI, 120, .inl nw)), (g 38, .inl (cI, 90, .inl ws_)), (g 53, .inl (cI, 32, .inl rw_)), (g 37, .inl (cZ, 900, .inl yo)), (g 36, .inl (cZ, 900, .inl yw)), (g 43, .inl (cJ, 90, .inr (.inl zb))), (g 44, .inl (cJ, 90, .inr (.inl f_36))), (mm, .inr (12, mo g (nI ta) (nI pa) (nI pe) pd (nI pb) pp pf pg pn rt rn (nI cd) sn (nI il) tk am at_ aa mt_ (nI bh) wd wt zyb (nI it_) (nI rm) (nI ud) (nI nu) sd (nI qn) (nI qw) qo (nI qb) (nI qp) qa (nI qi) (nI oc))), (g 20, .inl (cI, 4, .inl (l4 (nI l0) (nI l1) (nI dm) (nI l3))))]) [4, 5, 6, 7, 8, 0, 1, 3, 2] rfl
                                have hD := hD.sub (ws' := [(g 31, .inl (cI, 120, .inl nw)), (g 38, .inl (cI, 90, .inl ws_)), (g 53, .inl (cI, 32, .inl rw_)), (g 37, .inl (cZ, 900, .inl yo)), (g 36, .inl (cZ, 900, .inl yw)), (g 43, .inl (cJ, 90, .inr (.inl zb))), (g 44, .inl (cJ, 90, .inr (.inl f_36))), (mm, .inr (12, mo g (nI ta) (nI pa) (nI pe) pd (nI pb) pp pf pg pn rt rn (nI cd) sn (nI il) tk am at_ aa mt_ (nI bh) wd wt zyb (nI it_) (nI rm) (nI ud) (nI nu) sd (nI qn) (nI qw) qo (nI qb) (nI qp) qa (nI qi) (nI oc))), (g 20, .inl (cI, 4, .inl (l4 (nI l0) (nI l1) (nI dm) (nI l3))))]) [4, 5, 6, 7, 8, 0, 1, 3, 2] (by decide +kernel) rfl
                                exact ih_lp_8 (jm + 1) f_36 zyb _ _ _ (by omega) (by omega) hP hD hS (lv_sub hl [0, 3, 4, 5] rfl)
                              · have c_37 : ((i : Nat) : Int) = ((dm : Nat) : Int) - 1 := (ieq (ivn i (by omega)) (ivp dm (by omega))).mp c_37
                                refine lv_aload_n hx hb dX12_laysWays_225 rfl (lv_at hl 5 rfl) ?_
                                refine lv_dup hx hb dX12_laysWays_226 rfl ?_
                                refine sk_get (v := .long zyb) (C := RX12) (T := TX12) (N := 92) hx hb hts inlX12 hown hK hP 3 rfl rfl 45 (by decide) w_5_200 rfl dX12_laysWays_227 ?_
                                refine lv_lload hx hb dX12_laysWays_230 (lv_at hl 1 rfl) ?_
                                refine lv_ladd hx hb dX12_laysWays_232 ?_
                                refine lv_topl (fun v_38 ev_38 => ?_)
                                refine sk_put (ws' := [(g 43, .inl (cJ, 90, .inr (.inl zb))), (g 44, .inl (cJ, 90, .inr (.inl f_36))), (g 20, .inl (cI, 4, .inl (l4 (nI l0) (nI l1) (nI dm) (nI l3)))), (mm, .inr (12, mo g (nI ta) (nI pa) (nI pe) pd (nI pb) pp pf pg pn rt rn (nI cd) sn (nI il) tk am at_ aa mt_ (nI bh) wd wt v_38 (nI it_) (nI rm) (nI ud) (nI nu) sd (nI qn) (nI qw) qo (nI qb) (nI qp) qa (nI qi) (nI oc))), (g 31, .inl (cI, 120, .inl nw)), (g 38, .inl (cI, 90, .inl ws_)), (g 53, .inl (cI, 32, .inl rw_)), (g 37, .inl (cZ, 900, .inl yo)), (g 36, .inl (cZ, 900, .inl yw))]) (C := RX12) (T := TX12) (N := 92) (v := .long v_38) hx hb hts inlX12 tyX12 tyX12_ok nmX12 hown hK hP hD hS 3 rfl rfl 45 (by decide) w_5_200 rfl rfl rfl (Nat.le_of_ble_eq_true rfl) rfl dX12_laysWays_233 (fun H locs hP hD hS => ?_)
                                refine lv_iinc (v := nI (jm + 1)) (lv' := [(3, .int (nI (jm + 1))), (6, .int (nI kk)), (4, .long xn), (2, .int (nI i)), (1, .int (nI dm - 1)), (0, .ref mm)]) hx hb dX12_laysWays_236 hl (k := 2) rfl (ninc jm 1 (by decide)) (by decide) rfl (fun ls hl => ?_)
                                refine lv_goto (tgt := 125) hx hb dX12_laysWays_239 (by decide) ?_
                                have hP := hP.sub (ws' := [(g 31, .inl (cI, 120, .inl nw)), (g 38, .inl (cI, 90, .inl ws_)), (g 53, .inl (cI, 32, .inl rw_)), (g 37, .inl (cZ, 900, .inl yo)), (g 36, .inl (cZ, 900, .inl yw)), (g 43, .inl (cJ, 90, .inr (.inl zb))), (g 44, .inl (cJ, 90, .inr (.inl f_36))), (mm, .inr (12, mo g (nI ta) (nI pa) (nI pe) pd (nI pb) pp pf pg pn rt rn (nI cd) sn (nI il) tk am at_ aa mt_ (nI bh) wd wt v_38 (nI it_) (nI rm) (nI ud) (nI nu) sd (nI qn) (nI qw) qo (nI qb) (nI qp) qa (nI qi) (nI oc))), (g 20, .inl (cI, 4, .inl (l4 (nI l0) (nI l1) (nI dm) (nI l3))))]) [4, 5, 6, 7, 8, 0, 1, 3, 2] rfl
                                have hD := hD.sub (ws' := [(g 31, .inl (cI, 120, .inl nw)), (g 38, .inl (cI, 90, .inl ws_)), (g 53, .inl (cI, 32, .inl rw_)), (g 37, .inl (cZ, 900, .inl yo)), (g 36, .inl (cZ, 900, .inl yw)), (g 43, .inl (cJ, 90, .inr (.inl zb))), (g 44, .inl (cJ, 90, .inr (.inl f_36))), (mm, .inr (12, mo g (nI ta) (nI pa) (nI pe) pd (nI pb) pp pf pg pn rt rn (nI cd) sn (nI il) tk am at_ aa mt_ (nI bh) wd wt v_38 (nI it_) (nI rm) (nI ud) (nI nu) sd (nI qn) (nI qw) qo (nI qb) (nI qp) qa (nI qi) (nI oc))), (g 20, .inl (cI, 4, .inl (l4 (nI l0) (nI l1) (nI dm) (nI l3))))]) [4, 5, 6, 7, 8, 0, 1, 3, 2] (by decide +kernel) rfl
                                exact ih_lp_8 (jm + 1) f_36 v_38 _ _ _ (by omega) (by omega) hP hD hS (lv_sub hl [0, 3, 4, 5] rfl)
                            · have c_35 : ¬ (10 ≤ kk) := fun h => c_35 ((nle 10 kk (by omega) (by omega)).mpr h)
                              refine lv_iload_n hx hb dX12_laysWays_167 rfl (lv_at hl 3 rfl) ?_
                              refine lv_if_le (tgt := 207) hx hb dX12_laysWays_168 (by decide) (fun c_39 => ?_) (fun c_39 => ?_)
                              · have c_39 : i ≤ 0 := (nle i 0 (by omega) (by omega)).mp c_39
                                refine lv_aload_n hx hb dX12_laysWays_207 rfl (lv_at hl 5 rfl) ?_
                                refine sk_get (v := .ref (g 44)) (C := RX12) (T := TX12) (N := 92) hx hb hts inlX12 hown hK hP 3 rfl rfl 44 (by decide) w_5_199 rfl dX12_laysWays_208 ?_
                                refine lv_bipush (v := 10) hx hb dX12_laysWays_211 (by decide) ?_
                                refine lv_iload_n hx hb dX12_laysWays_213 rfl (lv_at hl 3 rfl) ?_
                                refine lv_imul hx hb dX12_laysWays_214 ?_
                                refine sk_top (nI (10 * i)) (nmul 10 i) ?_
                                refine lv_iload_n hx hb dX12_laysWays_215 rfl (lv_at hl 2 rfl) ?_
                                refine lv_iadd hx hb dX12_laysWays_216 ?_
                                refine sk_top (nI (10 * i + jm)) (nI_add (10 * i) jm) ?_
                                refine lv_lload hx hb dX12_laysWays_217 (lv_at hl 1 rfl) ?_
                                refine sk_lastO (ws' := fun f_40 => [(g 43, .inl (cJ, 90, .inr (.inl zb))), (g 44, .inl (cJ, 90, .inr (.inl f_40))), (g 20, .inl (cI, 4, .inl (l4 (nI l0) (nI l1) (nI dm) (nI l3)))), (mm, .inr (12, mo g (nI ta) (nI pa) (nI pe) pd (nI pb) pp pf pg pn rt rn (nI cd) sn (nI il) tk am at_ aa mt_ (nI bh) wd wt zyb (nI it_) (nI rm) (nI ud) (nI nu) sd (nI qn) (nI qw) qo (nI qb) (nI qp) qa (nI qi) (nI oc))), (g 31, .inl (cI, 120, .inl nw)), (g 38, .inl (cI, 90, .inl ws_)), (g 53, .inl (cI, 32, .inl rw_)), (g 37, .inl (cZ, 900, .inl yo)), (g 36, .inl (cZ, 900, .inl yw))]) hx hb hK hP hD hS 1 1 rfl rfl (vin (10 * i + jm) 90 (by omega) (by omega)) (fun _ => rfl) dX12_laysWays_219 (fun f_40 H locs hP hD hS => ?_)
                                refine lv_iload_n hx hb dX12_laysWays_220 rfl (lv_at hl 3 rfl) ?_
                                refine lv_iload_n hx hb dX12_laysWays_221 rfl (lv_at hl 4 rfl) ?_
                                refine lv_icmp_ne (tgt := 236) hx hb dX12_laysWays_222 (by decide) (fun c_41 => ?_) (fun c_41 => ?_)
                                · have c_41 : ¬ (((i : Nat) : Int) = ((dm : Nat) : Int) - 1) := fun h => c_41 ((ieq (ivn i (by omega)) (ivp dm (by omega))).mpr h)
                                  refine lv_iinc (v := nI (jm + 1)) (lv' := [(3, .int (nI (jm + 1))), (6, .int (nI kk)), (4, .long xn), (2, .int (nI i)), (1, .int (nI dm - 1)), (0, .ref mm)]) hx hb dX12_laysWays_236 hl (k := 2) rfl (ninc jm 1 (by decide)) (by decide) rfl (fun ls hl => ?_)
                                  refine lv_goto (tgt := 125) hx hb dX12_laysWays_239 (by decide) ?_
                                  have hP := hP.sub (ws' := [(g 31, .inl (cI, 120, .inl nw)), (g 38, .inl (cI, 90, .inl ws_)), (g 53, .inl (cI, 32, .inl rw_)), (g 37, .inl (cZ, 900, .inl yo)), (g 36, .inl (cZ, 900, .inl yw)), (g 43, .inl (cJ, 90, .inr (.inl zb))), (g 44, .inl (cJ, 90, .inr (.inl f_40))), (mm, .inr (12, mo g (nI ta) (nI pa) (nI pe) pd (nI pb) pp pf pg pn rt rn (nI cd) sn (nI il) tk am at_ aa mt_ (nI bh) wd wt zyb (nI it_) (nI rm) (nI ud) (nI nu) sd (nI qn) (nI qw) qo (nI qb) (nI qp) qa (nI qi) (nI oc))), (g 20, .inl (cI, 4, .inl (l4 (nI l0) (nI l1) (nI dm) (nI l3))))]) [4, 5, 6, 7, 8, 0, 1, 3, 2] rfl
                                  have hD := hD.sub (ws' := [(g 31, .inl (cI, 120, .inl nw)), (g 38, .inl (cI, 90, .inl ws_)), (g 53, .inl (cI, 32, .inl rw_)), (g 37, .inl (cZ, 900, .inl yo)), (g 36, .inl (cZ, 900, .inl yw)), (g 43, .inl (cJ, 90, .inr (.inl zb))), (g 44, .inl (cJ, 90, .inr (.inl f_40))), (mm, .inr (12, mo g (nI ta) (nI pa) (nI pe) pd (nI pb) pp pf pg pn rt rn (nI cd) sn (nI il) tk am at_ aa mt_ (nI bh) wd wt zyb (nI it_) (nI rm) (nI ud) (nI nu) sd (nI qn) (nI qw) qo (nI qb) (nI qp) qa (nI qi) (nI oc))), (g 20, .inl (cI, 4, .inl (l4 (nI l0) (nI l1) (nI dm) (nI l3))))]) [4, 5, 6, 7, 8, 0, 1, 3, 2] (by decide +kernel) rfl
                                  exact ih_lp_8 (jm + 1) f_40 zyb _ _ _ (by omega) (by omega) hP hD hS (lv_sub hl [0, 3, 4, 5] rfl)
                                · have c_41 : ((i : Nat) : Int) = ((dm : Nat) : Int) - 1 := (ieq (ivn i (by omega)) (ivp dm (by omega))).mp c_41
                                  refine lv_aload_n hx hb dX12_laysWays_225 rfl (lv_at hl 5 rfl) ?_
                                  refine lv_dup hx hb dX12_laysWays_226 rfl ?_
                                  refine sk_get (v := .long zyb) (C := RX12) (T := TX12) (N := 92) hx hb hts inlX12 hown hK hP 3 rfl rfl 45 (by decide) w_5_200 rfl dX12_laysWays_227 ?_
                                  refine lv_lload hx hb dX12_laysWays_230 (lv_at hl 1 rfl) ?_
                                  refine lv_ladd hx hb dX12_laysWays_232 ?_
                                  refine lv_topl (fun v_42 ev_42 => ?_)
                                  refine sk_put (ws' := [(g 43, .inl (cJ, 90, .inr (.inl zb))), (g 44, .inl (cJ, 90, .inr (.inl f_40))), (g 20, .inl (cI, 4, .inl (l4 (nI l0) (nI l1) (nI dm) (nI l3)))), (mm, .inr (12, mo g (nI ta) (nI pa) (nI pe) pd (nI pb) pp pf pg pn rt rn (nI cd) sn (nI il) tk am at_ aa mt_ (nI bh) wd wt v_42 (nI it_) (nI rm) (nI ud) (nI nu) sd (nI qn) (nI qw) qo (nI qb) (nI qp) qa (nI qi) (nI oc))), (g 31, .inl (cI, 120, .inl nw)), (g 38, .inl (cI, 90, .inl ws_)), (g 53, .inl (cI, 32, .inl rw_)), (g 37, .inl (cZ, 900, .inl yo)), (g 36, .inl (cZ, 900, .inl yw))]) (C := RX12) (T := TX12) (N := 92) (v := .long v_42) hx hb hts inlX12 tyX12 tyX12_ok nmX12 hown hK hP hD hS 3 rfl rfl 45 (by decide) w_5_200 rfl rfl rfl (Nat.le_of_ble_eq_true rfl) rfl dX12_laysWays_233 (fun H locs hP hD hS => ?_)
                                  refine lv_iinc (v := nI (jm + 1)) (lv' := [(3, .int (nI (jm + 1))), (6, .int (nI kk)), (4, .long xn), (2, .int (nI i)), (1, .int (nI dm - 1)), (0, .ref mm)]) hx hb dX12_laysWays_236 hl (k := 2) rfl (ninc jm 1 (by decide)) (by decide) rfl (fun ls hl => ?_)
                                  refine lv_goto (tgt := 125) hx hb dX12_laysWays_239 (by decide) ?_
                                  have hP := hP.sub (ws' := [(g 31, .inl (cI, 120, .inl nw)), (g 38, .inl (cI, 90, .inl ws_)), (g 53, .inl (cI, 32, .inl rw_)), (g 37, .inl (cZ, 900, .inl yo)), (g 36, .inl (cZ, 900, .inl yw)), (g 43, .inl (cJ, 90, .inr (.inl zb))), (g 44, .inl (cJ, 90, .inr (.inl f_40))), (mm, .inr (12, mo g (nI ta) (nI pa) (nI pe) pd (nI pb) pp pf pg pn rt rn (nI cd) sn (nI il) tk am at_ aa mt_ (nI bh) wd wt v_42 (nI it_) (nI rm) (nI ud) (nI nu) sd (nI qn) (nI qw) qo (nI qb) (nI qp) qa (nI qi) (nI oc))), (g 20, .inl (cI, 4, .inl (l4 (nI l0) (nI l1) (nI dm) (nI l3))))]) [4, 5, 6, 7, 8, 0, 1, 3, 2] rfl
                                  have hD := hD.sub (ws' := [(g 31, .inl (cI, 120, .inl nw)), (g 38, .inl (cI, 90, .inl ws_)), (g 53, .inl (cI, 32, .inl rw_)), (g 37, .inl (cZ, 900, .inl yo)), (g 36, .inl (cZ, 900, .inl yw)), (g 43, .inl (cJ, 90, .inr (.inl zb))), (g 44, .inl (cJ, 90, .inr (.inl f_40))), (mm, .inr (12, mo g (nI ta) (nI pa) (nI pe) pd (nI pb) pp pf pg pn rt rn (nI cd) sn (nI il) tk am at_ aa mt_ (nI bh) wd wt v_42 (nI it_) (nI rm) (nI ud) (nI nu) sd (nI qn) (nI qw) qo (nI qb) (nI qp) qa (nI qi) (nI oc))), (g 20, .inl (cI, 4, .inl (l4 (nI l0) (nI l1) (nI dm) (nI l3))))]) [4, 5, 6, 7, 8, 0, 1, 3, 2] (by decide +kernel) rfl
                                  exact ih_lp_8 (jm + 1) f_40 v_42 _ _ _ (by omega) (by omega) hP hD hS (lv_sub hl [0, 3, 4, 5] rfl)
                              · have c_39 : ¬ (i ≤ 0) := fun h => c_39 ((nle i 0 (by omega) (by omega)).mpr h)
                                refine lv_aload_n hx hb dX12_laysWays_171 rfl (lv_at hl 5 rfl) ?_
                                refine lv_iload_n hx hb dX12_laysWays_172 rfl (lv_at hl 3 rfl) ?_
                                refine lv_iload hx hb dX12_laysWays_173 (lv_at hl 0 rfl) ?_
                                refine lv_iload_n hx hb dX12_laysWays_175 rfl (lv_at hl 2 rfl) ?_
                                refine sk_Vi (q0 := 0) (n := 3) (rest := []) (wr := [(g 43, .inl (cJ, 90, .inr (.inl zb))), (g 44, .inl (cJ, 90, .inr (.inl zg))), (g 20, .inl (cI, 4, .inl (l4 (nI l0) (nI l1) (nI dm) (nI l3))))]) ⟨hx, hb, hml, hown, hts⟩ hl.1 (c_m_canFollowS l D cI cJ cC cZ cS mm g ta pa pe pd pb pp pf pg pn rt rn cd sn il tk am at_ aa mt_ bh wd wt zyb it_ rm ud nu sd qn qw qo qb qp qa qi oc i kk jm nw ws_ rw_ yo yw (by omega) (by omega) (by omega) (by omega) (by omega) hnw) w_7_201 w_7_203 w_0_85 w_1_14 w_7_204 (by decide +kernel) ⟨⟨(Nat.le_of_ble_eq_true rfl), (Nat.le_of_ble_eq_true rfl)⟩, (Nat.le_of_ble_eq_true rfl), (Nat.le_of_ble_eq_true rfl)⟩ hK hP hD hS hA [3, 4, 5, 6, 7, 8] [0, 1, 2] rfl rfl (by decide +kernel) (by decide +kernel) (by decide +kernel) rfl rfl rfl rfl (Nat.le_of_ble_eq_true rfl) dX12_laysWays_176 (fun r_44 u H locs hw hP hD hS => ?_)
                                obtain ⟨b_43, hb1_45, rfl, rfl⟩ := hw
                                have hP : va_P D vwCl [(g 43, .inl (cJ, 90, .inr (.inl zb))), (g 44, .inl (cJ, 90, .inr (.inl zg))), (g 20, .inl (cI, 4, .inl (l4 (nI l0) (nI l1) (nI dm) (nI l3)))), (mm, .inr (12, mo g (nI ta) (nI pa) (nI pe) pd (nI pb) pp pf pg pn rt rn (nI cd) sn (nI il) tk am at_ aa mt_ (nI bh) wd wt zyb (nI it_) (nI rm) (nI ud) (nI nu) sd (nI qn) (nI qw) qo (nI qb) (nI qp) qa (nI qi) (nI oc))), (g 31, .inl (cI, 120, .inl nw)), (g 38, .inl (cI, 90, .inl ws_)), (g 53, .inl (cI, 32, .inl rw_)), (g 37, .inl (cZ, 900, .inl yo)), (g 36, .inl (cZ, 900, .inl yw))] H := hP
                                have hD : va_D A [(g 43, .inl (cJ, 90, .inr (.inl zb))), (g 44, .inl (cJ, 90, .inr (.inl zg))), (g 20, .inl (cI, 4, .inl (l4 (nI l0) (nI l1) (nI dm) (nI l3)))), (mm, .inr (12, mo g (nI ta) (nI pa) (nI pe) pd (nI pb) pp pf pg pn rt rn (nI cd) sn (nI il) tk am at_ aa mt_ (nI bh) wd wt zyb (nI it_) (nI rm) (nI ud) (nI nu) sd (nI qn) (nI qw) qo (nI qb) (nI qp) qa (nI qi) (nI oc))), (g 31, .inl (cI, 120, .inl nw)), (g 38, .inl (cI, 90, .inl ws_)), (g 53, .inl (cI, 32, .inl rw_)), (g 37, .inl (cZ, 900, .inl yo)), (g 36, .inl (cZ, 900, .inl yw))] := hD
                                refine lv_if_eq (tgt := 201) hx hb dX12_laysWays_179 (by decide) (fun c_46 => ?_) (fun c_46 => ?_)
                                · have c_46 : b_43 = 0 := (neq b_43 0 (by omega) (by omega)).mp c_46
                                  refine lv_iinc (v := nI (kk + 1)) (lv' := [(6, .int (nI (kk + 1))), (4, .long xn), (3, .int (nI jm)), (2, .int (nI i)), (1, .int (nI dm - 1)), (0, .ref mm)]) hx hb dX12_laysWays_201 hl (k := 0) rfl (ninc kk 1 (by decide)) (by decide) rfl (fun ls hl => ?_)
                                  refine lv_goto (tgt := 160) hx hb dX12_laysWays_204 (by decide) ?_
                                  exact ih_lp_33 (kk + 1) xn _ _ _ (by omega) (by omega) hP hD hS (lv_sub hl [0, 1, 2, 3, 4, 5] rfl)
                                · have c_46 : ¬ (b_43 = 0) := fun h => c_46 ((neq b_43 0 (by omega) (by omega)).mpr h)
                                  refine lv_lload hx hb dX12_laysWays_182 (lv_at hl 1 rfl) ?_
                                  refine lv_aload_n hx hb dX12_laysWays_184 rfl (lv_at hl 5 rfl) ?_
                                  refine sk_get (v := .ref (g 44)) (C := RX12) (T := TX12) (N := 92) hx hb hts inlX12 hown hK hP 3 rfl rfl 44 (by decide) w_5_199 rfl dX12_laysWays_185 ?_
                                  refine lv_bipush (v := 10) hx hb dX12_laysWays_188 (by decide) ?_
                                  refine lv_iload_n hx hb dX12_laysWays_190 rfl (lv_at hl 3 rfl) ?_
                                  refine lv_iconst (v := 1) hx hb dX12_laysWays_191 (by decide) ?_
                                  refine lv_isub hx hb dX12_laysWays_192 ?_
                                  refine sk_top (nI (i - 1)) (nsub i 1 (by omega)) ?_
                                  refine lv_imul hx hb dX12_laysWays_193 ?_
                                  refine sk_top (nI (10 * (i - 1))) (nmul 10 (i - 1)) ?_
                                  refine lv_iload hx hb dX12_laysWays_194 (lv_at hl 0 rfl) ?_
                                  refine lv_iadd hx hb dX12_laysWays_196 ?_
                                  refine sk_top (nI (10 * (i - 1) + kk)) (nI_add (10 * (i - 1)) kk) ?_
                                  refine va_lald hx hb hK.1 hP 1 1 rfl rfl (vin (10 * (i - 1) + kk) 90 (by omega) (by omega)) dX12_laysWays_197 ?_
                                  refine lv_topl (fun v_47 ev_47 => ?_)
                                  refine lv_ladd hx hb dX12_laysWays_198 ?_
                                  refine lv_topl (fun v_48 ev_48 => ?_)
                                  refine lv_lstore (lv' := [(4, .long v_48), (6, .int (nI kk)), (3, .int (nI jm)), (2, .int (nI i)), (1, .int (nI dm - 1)), (0, .ref mm)]) hx hb dX12_laysWays_199 hl (by decide) rfl (fun ls hl => ?_)
                                  refine lv_iinc (v := nI (kk + 1)) (lv' := [(6, .int (nI (kk + 1))), (4, .long v_48), (3, .int (nI jm)), (2, .int (nI i)), (1, .int (nI dm - 1)), (0, .ref mm)]) hx hb dX12_laysWays_201 hl (k := 1) rfl (ninc kk 1 (by decide)) (by decide) rfl (fun ls hl => ?_)
                                  refine lv_goto (tgt := 160) hx hb dX12_laysWays_204 (by decide) ?_
                                  exact ih_lp_33 (kk + 1) v_48 _ _ _ (by omega) (by omega) hP hD hS (lv_sub hl [0, 1, 2, 3, 4, 5] rfl)
                        exact lp_33 (10 - 0 + 1) 0 0 _ _ _ (Nat.lt_succ_self _) (by omega) hP hD hS (lv_sub hl [0, 1, 2, 3, 4, 5] rfl)
                      · have c_32 : ¬ (b_29 = 0) := fun h => c_32 ((neq b_29 0 (by omega) (by omega)).mpr h)
                        refine lv_lconst (v := 1) hx hb dX12_laysWays_150 (by decide) ?_
                        refine lv_goto (tgt := 155) hx hb dX12_laysWays_151 (by decide) ?_
                        refine lv_lstore (lv' := [(4, .long 1), (3, .int (nI jm)), (2, .int (nI i)), (1, .int (nI dm - 1)), (0, .ref mm)]) hx hb dX12_laysWays_155 hl (by decide) rfl (fun ls hl => ?_)
                        refine lv_iconst (v := 0) hx hb dX12_laysWays_157 (by decide) ?_
                        refine lv_istore (lv' := [(6, .int 0), (4, .long 1), (3, .int (nI jm)), (2, .int (nI i)), (1, .int (nI dm - 1)), (0, .ref mm)]) hx hb dX12_laysWays_158 hl (by decide) rfl (fun ls hl => ?_)
                        have lp_49 : ∀ (n_50 : Nat) (kk : Nat) (xn : Int64) (H : Heap) (locs : List Loc) (ls : Array Slot), 10 - kk < n_50 → (kk ≤ 10) → va_P D vwCl [(g 43, .inl (cJ, 90, .inr (.inl zb))), (g 44, .inl (cJ, 90, .inr (.inl zg))), (g 20, .inl (cI, 4, .inl (l4 (nI l0) (nI l1) (nI dm) (nI l3)))), (mm, .inr (12, mo g (nI ta) (nI pa) (nI pe) pd (nI pb) pp pf pg pn rt rn (nI cd) sn (nI il) tk am at_ aa mt_ (nI bh) wd wt zyb (nI it_) (nI rm) (nI ud) (nI nu) sd (nI qn) (nI qw) qo (nI qb) (nI qp) qa (nI qi) (nI oc))), (g 31, .inl (cI, 120, .inl nw)), (g 38, .inl (cI, 90, .inl ws_)), (g 53, .inl (cI, 32, .inl rw_)), (g 37, .inl (cZ, 900, .inl yo)), (g 36, .inl (cZ, 900, .inl yw))] H → va_D A [(g 43, .inl (cJ, 90, .inr (.inl zb))), (g 44, .inl (cJ, 90, .inr (.inl zg))), (g 20, .inl (cI, 4, .inl (l4 (nI l0) (nI l1) (nI dm) (nI l3)))), (mm, .inr (12, mo g (nI ta) (nI pa) (nI pe) pd (nI pb) pp pf pg pn rt rn (nI cd) sn (nI il) tk am at_ aa mt_ (nI bh) wd wt zyb (nI it_) (nI rm) (nI ud) (nI nu) sd (nI qn) (nI qw) qo (nI qb) (nI qp) qa (nI qi) (nI oc))), (g 31, .inl (cI, 120, .inl nw)), (g 38, .inl (cI, 90, .inl ws_)), (g 53, .inl (cI, 32, .inl rw_)), (g 37, .inl (cZ, 900, .inl yo)), (g 36, .inl (cZ, 900, .inl yw))] → va_S A s.heap H locs → lv_has ls 7 [(6, .int (nI kk)), (4, .long xn), (3, .int (nI jm)), (2, .int (nI i)), (1, .int (nI dm - 1)), (0, .ref mm)] → W p l e { frames := 3, cells := 0, slots := 0, locals := 68 } s m ([.ref mm] : List Value).toArray below meth c H locs 0 0 (MQ below (skV D (skT cI cJ cC cZ cS) (fun (u : va_W) => ∃ (wy2 : Int64), ∃ (be2 : Nat → Int64), ∃ (bf2 : Nat → Int64), u = [(mm, .inr (12, mo g (nI ta) (nI pa) (nI pe) pd (nI pb) pp pf pg pn rt rn (nI cd) sn (nI il) tk am at_ aa mt_ (nI bh) wd wt wy2 (nI it_) (nI rm) (nI ud) (nI nu) sd (nI qn) (nI qw) qo (nI qb) (nI qp) qa (nI qi) (nI oc))), (g 20, .inl (cI, 4, .inl (l4 (nI l0) (nI l1) (nI dm) (nI l3)))), (g 31, .inl (cI, 120, .inl nw)), (g 38, .inl (cI, 90, .inl ws_)), (g 53, .inl (cI, 32, .inl rw_)), (g 37, .inl (cZ, 900, .inl yo)), (g 36, .inl (cZ, 900, .inl yw)), (g 43, .inl (cJ, 90, .inr (.inl be2))), (g 44, .inl (cJ, 90, .inr (.inl bf2)))]) A) ([.ref mm] : List Value).toArray s 0 0 A) (F0 m 160 ls []) := by
                          intro n_50
                          induction n_50 with
                          | zero => intro kk xn H locs ls hm; exact absurd hm (Nat.not_lt_zero _)
                          | succ n_50 ih_lp_49 =>
                            intro kk xn H locs ls hm hkk hP hD hS hl
                            refine lv_iload hx hb dX12_laysWays_160 (lv_at hl 0 rfl) ?_
                            refine lv_bipush (v := 10) hx hb dX12_laysWays_162 (by decide) ?_
                            refine lv_icmp_ge (tgt := 207) hx hb dX12_laysWays_164 (by decide) (fun c_51 => ?_) (fun c_51 => ?_)
                            · have c_51 : 10 ≤ kk := (nle 10 kk (by omega) (by omega)).mp c_51
                              refine lv_aload_n hx hb dX12_laysWays_207 rfl (lv_at hl 5 rfl) ?_
                              refine sk_get (v := .ref (g 44)) (C := RX12) (T := TX12) (N := 92) hx hb hts inlX12 hown hK hP 3 rfl rfl 44 (by decide) w_5_199 rfl dX12_laysWays_208 ?_
                              refine lv_bipush (v := 10) hx hb dX12_laysWays_211 (by decide) ?_
                              refine lv_iload_n hx hb dX12_laysWays_213 rfl (lv_at hl 3 rfl) ?_
                              refine lv_imul hx hb dX12_laysWays_214 ?_
                              refine sk_top (nI (10 * i)) (nmul 10 i) ?_
                              refine lv_iload_n hx hb dX12_laysWays_215 rfl (lv_at hl 2 rfl) ?_
                              refine lv_iadd hx hb dX12_laysWays_216 ?_
                              refine sk_top (nI (10 * i + jm)) (nI_add (10 * i) jm) ?_
                              refine lv_lload hx hb dX12_laysWays_217 (lv_at hl 1 rfl) ?_
                              refine sk_lastO (ws' := fun f_52 => [(g 43, .inl (cJ, 90, .inr (.inl zb))), (g 44, .inl (cJ, 90, .inr (.inl f_52))), (g 20, .inl (cI, 4, .inl (l4 (nI l0) (nI l1) (nI dm) (nI l3)))), (mm, .inr (12, mo g (nI ta) (nI pa) (nI pe) pd (nI pb) pp pf pg pn rt rn (nI cd) sn (nI il) tk am at_ aa mt_ (nI bh) wd wt zyb (nI it_) (nI rm) (nI ud) (nI nu) sd (nI qn) (nI qw) qo (nI qb) (nI qp) qa (nI qi) (nI oc))), (g 31, .inl (cI, 120, .inl nw)), (g 38, .inl (cI, 90, .inl ws_)), (g 53, .inl (cI, 32, .inl rw_)), (g 37, .inl (cZ, 900, .inl yo)), (g 36, .inl (cZ, 900, .inl yw))]) hx hb hK hP hD hS 1 1 rfl rfl (vin (10 * i + jm) 90 (by omega) (by omega)) (fun _ => rfl) dX12_laysWays_219 (fun f_52 H locs hP hD hS => ?_)
                              refine lv_iload_n hx hb dX12_laysWays_220 rfl (lv_at hl 3 rfl) ?_
                              refine lv_iload_n hx hb dX12_laysWays_221 rfl (lv_at hl 4 rfl) ?_
                              refine lv_icmp_ne (tgt := 236) hx hb dX12_laysWays_222 (by decide) (fun c_53 => ?_) (fun c_53 => ?_)
                              · have c_53 : ¬ (((i : Nat) : Int) = ((dm : Nat) : Int) - 1) := fun h => c_53 ((ieq (ivn i (by omega)) (ivp dm (by omega))).mpr h)
                                refine lv_iinc (v := nI (jm + 1)) (lv' := [(3, .int (nI (jm + 1))), (6, .int (nI kk)), (4, .long xn), (2, .int (nI i)), (1, .int (nI dm - 1)), (0, .ref mm)]) hx hb dX12_laysWays_236 hl (k := 2) rfl (ninc jm 1 (by decide)) (by decide) rfl (fun ls hl => ?_)
                                refine lv_goto (tgt := 125) hx hb dX12_laysWays_239 (by decide) ?_
                                have hP := hP.sub (ws' := [(g 31, .inl (cI, 120, .inl nw)), (g 38, .inl (cI, 90, .inl ws_)), (g 53, .inl (cI, 32, .inl rw_)), (g 37, .inl (cZ, 900, .inl yo)), (g 36, .inl (cZ, 900, .inl yw)), (g 43, .inl (cJ, 90, .inr (.inl zb))), (g 44, .inl (cJ, 90, .inr (.inl f_52))), (mm, .inr (12, mo g (nI ta) (nI pa) (nI pe) pd (nI pb) pp pf pg pn rt rn (nI cd) sn (nI il) tk am at_ aa mt_ (nI bh) wd wt zyb (nI it_) (nI rm) (nI ud) (nI nu) sd (nI qn) (nI qw) qo (nI qb) (nI qp) qa (nI qi) (nI oc))), (g 20, .inl (cI, 4, .inl (l4 (nI l0) (nI l1) (nI dm) (nI l3))))]) [4, 5, 6, 7, 8, 0, 1, 3, 2] rfl
                                have hD := hD.sub (ws' := [(g 31, .inl (cI, 120, .inl nw)), (g 38, .inl (cI, 90, .inl ws_)), (g 53, .inl (cI, 32, .inl rw_)), (g 37, .inl (cZ, 900, .inl yo)), (g 36, .inl (cZ, 900, .inl yw)), (g 43, .inl (cJ, 90, .inr (.inl zb))), (g 44, .inl (cJ, 90, .inr (.inl f_52))), (mm, .inr (12, mo g (nI ta) (nI pa) (nI pe) pd (nI pb) pp pf pg pn rt rn (nI cd) sn (nI il) tk am at_ aa mt_ (nI bh) wd wt zyb (nI it_) (nI rm) (nI ud) (nI nu) sd (nI qn) (nI qw) qo (nI qb) (nI qp) qa (nI qi) (nI oc))), (g 20, .inl (cI, 4, .inl (l4 (nI l0) (nI l1) (nI dm) (nI l3))))]) [4, 5, 6, 7, 8, 0, 1, 3, 2] (by decide +kernel) rfl
                                exact ih_lp_8 (jm + 1) f_52 zyb _ _ _ (by omega) (by omega) hP hD hS (lv_sub hl [0, 3, 4, 5] rfl)
                              · have c_53 : ((i : Nat) : Int) = ((dm : Nat) : Int) - 1 := (ieq (ivn i (by omega)) (ivp dm (by omega))).mp c_53
                                refine lv_aload_n hx hb dX12_laysWays_225 rfl (lv_at hl 5 rfl) ?_
                                refine lv_dup hx hb dX12_laysWays_226 rfl ?_
                                refine sk_get (v := .long zyb) (C := RX12) (T := TX12) (N := 92) hx hb hts inlX12 hown hK hP 3 rfl rfl 45 (by decide) w_5_200 rfl dX12_laysWays_227 ?_
                                refine lv_lload hx hb dX12_laysWays_230 (lv_at hl 1 rfl) ?_
                                refine lv_ladd hx hb dX12_laysWays_232 ?_
                                refine lv_topl (fun v_54 ev_54 => ?_)
                                refine sk_put (ws' := [(g 43, .inl (cJ, 90, .inr (.inl zb))), (g 44, .inl (cJ, 90, .inr (.inl f_52))), (g 20, .inl (cI, 4, .inl (l4 (nI l0) (nI l1) (nI dm) (nI l3)))), (mm, .inr (12, mo g (nI ta) (nI pa) (nI pe) pd (nI pb) pp pf pg pn rt rn (nI cd) sn (nI il) tk am at_ aa mt_ (nI bh) wd wt v_54 (nI it_) (nI rm) (nI ud) (nI nu) sd (nI qn) (nI qw) qo (nI qb) (nI qp) qa (nI qi) (nI oc))), (g 31, .inl (cI, 120, .inl nw)), (g 38, .inl (cI, 90, .inl ws_)), (g 53, .inl (cI, 32, .inl rw_)), (g 37, .inl (cZ, 900, .inl yo)), (g 36, .inl (cZ, 900, .inl yw))]) (C := RX12) (T := TX12) (N := 92) (v := .long v_54) hx hb hts inlX12 tyX12 tyX12_ok nmX12 hown hK hP hD hS 3 rfl rfl 45 (by decide) w_5_200 rfl rfl rfl (Nat.le_of_ble_eq_true rfl) rfl dX12_laysWays_233 (fun H locs hP hD hS => ?_)
                                refine lv_iinc (v := nI (jm + 1)) (lv' := [(3, .int (nI (jm + 1))), (6, .int (nI kk)), (4, .long xn), (2, .int (nI i)), (1, .int (nI dm - 1)), (0, .ref mm)]) hx hb dX12_laysWays_236 hl (k := 2) rfl (ninc jm 1 (by decide)) (by decide) rfl (fun ls hl => ?_)
                                refine lv_goto (tgt := 125) hx hb dX12_laysWays_239 (by decide) ?_
                                have hP := hP.sub (ws' := [(g 31, .inl (cI, 120, .inl nw)), (g 38, .inl (cI, 90, .inl ws_)), (g 53, .inl (cI, 32, .inl rw_)), (g 37, .inl (cZ, 900, .inl yo)), (g 36, .inl (cZ, 900, .inl yw)), (g 43, .inl (cJ, 90, .inr (.inl zb))), (g 44, .inl (cJ, 90, .inr (.inl f_52))), (mm, .inr (12, mo g (nI ta) (nI pa) (nI pe) pd (nI pb) pp pf pg pn rt rn (nI cd) sn (nI il) tk am at_ aa mt_ (nI bh) wd wt v_54 (nI it_) (nI rm) (nI ud) (nI nu) sd (nI qn) (nI qw) qo (nI qb) (nI qp) qa (nI qi) (nI oc))), (g 20, .inl (cI, 4, .inl (l4 (nI l0) (nI l1) (nI dm) (nI l3))))]) [4, 5, 6, 7, 8, 0, 1, 3, 2] rfl
                                have hD := hD.sub (ws' := [(g 31, .inl (cI, 120, .inl nw)), (g 38, .inl (cI, 90, .inl ws_)), (g 53, .inl (cI, 32, .inl rw_)), (g 37, .inl (cZ, 900, .inl yo)), (g 36, .inl (cZ, 900, .inl yw)), (g 43, .inl (cJ, 90, .inr (.inl zb))), (g 44, .inl (cJ, 90, .inr (.inl f_52))), (mm, .inr (12, mo g (nI ta) (nI pa) (nI pe) pd (nI pb) pp pf pg pn rt rn (nI cd) sn (nI il) tk am at_ aa mt_ (nI bh) wd wt v_54 (nI it_) (nI rm) (nI ud) (nI nu) sd (nI qn) (nI qw) qo (nI qb) (nI qp) qa (nI qi) (nI oc))), (g 20, .inl (cI, 4, .inl (l4 (nI l0) (nI l1) (nI dm) (nI l3))))]) [4, 5, 6, 7, 8, 0, 1, 3, 2] (by decide +kernel) rfl
                                exact ih_lp_8 (jm + 1) f_52 v_54 _ _ _ (by omega) (by omega) hP hD hS (lv_sub hl [0, 3, 4, 5] rfl)
                            · have c_51 : ¬ (10 ≤ kk) := fun h => c_51 ((nle 10 kk (by omega) (by omega)).mpr h)
                              refine lv_iload_n hx hb dX12_laysWays_167 rfl (lv_at hl 3 rfl) ?_
                              refine lv_if_le (tgt := 207) hx hb dX12_laysWays_168 (by decide) (fun c_55 => ?_) (fun c_55 => ?_)
                              · have c_55 : i ≤ 0 := (nle i 0 (by omega) (by omega)).mp c_55
                                refine lv_aload_n hx hb dX12_laysWays_207 rfl (lv_at hl 5 rfl) ?_
                                refine sk_get (v := .ref (g 44)) (C := RX12) (T := TX12) (N := 92) hx hb hts inlX12 hown hK hP 3 rfl rfl 44 (by decide) w_5_199 rfl dX12_laysWays_208 ?_
                                refine lv_bipush (v := 10) hx hb dX12_laysWays_211 (by decide) ?_
                                refine lv_iload_n hx hb dX12_laysWays_213 rfl (lv_at hl 3 rfl) ?_
                                refine lv_imul hx hb dX12_laysWays_214 ?_
                                refine sk_top (nI (10 * i)) (nmul 10 i) ?_
                                refine lv_iload_n hx hb dX12_laysWays_215 rfl (lv_at hl 2 rfl) ?_
                                refine lv_iadd hx hb dX12_laysWays_216 ?_
                                refine sk_top (nI (10 * i + jm)) (nI_add (10 * i) jm) ?_
                                refine lv_lload hx hb dX12_laysWays_217 (lv_at hl 1 rfl) ?_
                                refine sk_lastO (ws' := fun f_56 => [(g 43, .inl (cJ, 90, .inr (.inl zb))), (g 44, .inl (cJ, 90, .inr (.inl f_56))), (g 20, .inl (cI, 4, .inl (l4 (nI l0) (nI l1) (nI dm) (nI l3)))), (mm, .inr (12, mo g (nI ta) (nI pa) (nI pe) pd (nI pb) pp pf pg pn rt rn (nI cd) sn (nI il) tk am at_ aa mt_ (nI bh) wd wt zyb (nI it_) (nI rm) (nI ud) (nI nu) sd (nI qn) (nI qw) qo (nI qb) (nI qp) qa (nI qi) (nI oc))), (g 31, .inl (cI, 120, .inl nw)), (g 38, .inl (cI, 90, .inl ws_)), (g 53, .inl (cI, 32, .inl rw_)), (g 37, .inl (cZ, 900, .inl yo)), (g 36, .inl (cZ, 900, .inl yw))]) hx hb hK hP hD hS 1 1 rfl rfl (vin (10 * i + jm) 90 (by omega) (by omega)) (fun _ => rfl) dX12_laysWays_219 (fun f_56 H locs hP hD hS => ?_)
                                refine lv_iload_n hx hb dX12_laysWays_220 rfl (lv_at hl 3 rfl) ?_
                                refine lv_iload_n hx hb dX12_laysWays_221 rfl (lv_at hl 4 rfl) ?_
                                refine lv_icmp_ne (tgt := 236) hx hb dX12_laysWays_222 (by decide) (fun c_57 => ?_) (fun c_57 => ?_)
                                · have c_57 : ¬ (((i : Nat) : Int) = ((dm : Nat) : Int) - 1) := fun h => c_57 ((ieq (ivn i (by omega)) (ivp dm (by omega))).mpr h)
                                  refine lv_iinc (v := nI (jm + 1)) (lv' := [(3, .int (nI (jm + 1))), (6, .int (nI kk)), (4, .long xn), (2, .int (nI i)), (1, .int (nI dm - 1)), (0, .ref mm)]) hx hb dX12_laysWays_236 hl (k := 2) rfl (ninc jm 1 (by decide)) (by decide) rfl (fun ls hl => ?_)
                                  refine lv_goto (tgt := 125) hx hb dX12_laysWays_239 (by decide) ?_
                                  have hP := hP.sub (ws' := [(g 31, .inl (cI, 120, .inl nw)), (g 38, .inl (cI, 90, .inl ws_)), (g 53, .inl (cI, 32, .inl rw_)), (g 37, .inl (cZ, 900, .inl yo)), (g 36, .inl (cZ, 900, .inl yw)), (g 43, .inl (cJ, 90, .inr (.inl zb))), (g 44, .inl (cJ, 90, .inr (.inl f_56))), (mm, .inr (12, mo g (nI ta) (nI pa) (nI pe) pd (nI pb) pp pf pg pn rt rn (nI cd) sn (nI il) tk am at_ aa mt_ (nI bh) wd wt zyb (nI it_) (nI rm) (nI ud) (nI nu) sd (nI qn) (nI qw) qo (nI qb) (nI qp) qa (nI qi) (nI oc))), (g 20, .inl (cI, 4, .inl (l4 (nI l0) (nI l1) (nI dm) (nI l3))))]) [4, 5, 6, 7, 8, 0, 1, 3, 2] rfl
                                  have hD := hD.sub (ws' := [(g 31, .inl (cI, 120, .inl nw)), (g 38, .inl (cI, 90, .inl ws_)), (g 53, .inl (cI, 32, .inl rw_)), (g 37, .inl (cZ, 900, .inl yo)), (g 36, .inl (cZ, 900, .inl yw)), (g 43, .inl (cJ, 90, .inr (.inl zb))), (g 44, .inl (cJ, 90, .inr (.inl f_56))), (mm, .inr (12, mo g (nI ta) (nI pa) (nI pe) pd (nI pb) pp pf pg pn rt rn (nI cd) sn (nI il) tk am at_ aa mt_ (nI bh) wd wt zyb (nI it_) (nI rm) (nI ud) (nI nu) sd (nI qn) (nI qw) qo (nI qb) (nI qp) qa (nI qi) (nI oc))), (g 20, .inl (cI, 4, .inl (l4 (nI l0) (nI l1) (nI dm) (nI l3))))]) [4, 5, 6, 7, 8, 0, 1, 3, 2] (by decide +kernel) rfl
                                  exact ih_lp_8 (jm + 1) f_56 zyb _ _ _ (by omega) (by omega) hP hD hS (lv_sub hl [0, 3, 4, 5] rfl)
                                · have c_57 : ((i : Nat) : Int) = ((dm : Nat) : Int) - 1 := (ieq (ivn i (by omega)) (ivp dm (by omega))).mp c_57
                                  refine lv_aload_n hx hb dX12_laysWays_225 rfl (lv_at hl 5 rfl) ?_
                                  refine lv_dup hx hb dX12_laysWays_226 rfl ?_
                                  refine sk_get (v := .long zyb) (C := RX12) (T := TX12) (N := 92) hx hb hts inlX12 hown hK hP 3 rfl rfl 45 (by decide) w_5_200 rfl dX12_laysWays_227 ?_
                                  refine lv_lload hx hb dX12_laysWays_230 (lv_at hl 1 rfl) ?_
                                  refine lv_ladd hx hb dX12_laysWays_232 ?_
                                  refine lv_topl (fun v_58 ev_58 => ?_)
                                  refine sk_put (ws' := [(g 43, .inl (cJ, 90, .inr (.inl zb))), (g 44, .inl (cJ, 90, .inr (.inl f_56))), (g 20, .inl (cI, 4, .inl (l4 (nI l0) (nI l1) (nI dm) (nI l3)))), (mm, .inr (12, mo g (nI ta) (nI pa) (nI pe) pd (nI pb) pp pf pg pn rt rn (nI cd) sn (nI il) tk am at_ aa mt_ (nI bh) wd wt v_58 (nI it_) (nI rm) (nI ud) (nI nu) sd (nI qn) (nI qw) qo (nI qb) (nI qp) qa (nI qi) (nI oc))), (g 31, .inl (cI, 120, .inl nw)), (g 38, .inl (cI, 90, .inl ws_)), (g 53, .inl (cI, 32, .inl rw_)), (g 37, .inl (cZ, 900, .inl yo)), (g 36, .inl (cZ, 900, .inl yw))]) (C := RX12) (T := TX12) (N := 92) (v := .long v_58) hx hb hts inlX12 tyX12 tyX12_ok nmX12 hown hK hP hD hS 3 rfl rfl 45 (by decide) w_5_200 rfl rfl rfl (Nat.le_of_ble_eq_true rfl) rfl dX12_laysWays_233 (fun H locs hP hD hS => ?_)
                                  refine lv_iinc (v := nI (jm + 1)) (lv' := [(3, .int (nI (jm + 1))), (6, .int (nI kk)), (4, .long xn), (2, .int (nI i)), (1, .int (nI dm - 1)), (0, .ref mm)]) hx hb dX12_laysWays_236 hl (k := 2) rfl (ninc jm 1 (by decide)) (by decide) rfl (fun ls hl => ?_)
                                  refine lv_goto (tgt := 125) hx hb dX12_laysWays_239 (by decide) ?_
                                  have hP := hP.sub (ws' := [(g 31, .inl (cI, 120, .inl nw)), (g 38, .inl (cI, 90, .inl ws_)), (g 53, .inl (cI, 32, .inl rw_)), (g 37, .inl (cZ, 900, .inl yo)), (g 36, .inl (cZ, 900, .inl yw)), (g 43, .inl (cJ, 90, .inr (.inl zb))), (g 44, .inl (cJ, 90, .inr (.inl f_56))), (mm, .inr (12, mo g (nI ta) (nI pa) (nI pe) pd (nI pb) pp pf pg pn rt rn (nI cd) sn (nI il) tk am at_ aa mt_ (nI bh) wd wt v_58 (nI it_) (nI rm) (nI ud) (nI nu) sd (nI qn) (nI qw) qo (nI qb) (nI qp) qa (nI qi) (nI oc))), (g 20, .inl (cI, 4, .inl (l4 (nI l0) (nI l1) (nI dm) (nI l3))))]) [4, 5, 6, 7, 8, 0, 1, 3, 2] rfl
                                  have hD := hD.sub (ws' := [(g 31, .inl (cI, 120, .inl nw)), (g 38, .inl (cI, 90, .inl ws_)), (g 53, .inl (cI, 32, .inl rw_)), (g 37, .inl (cZ, 900, .inl yo)), (g 36, .inl (cZ, 900, .inl yw)), (g 43, .inl (cJ, 90, .inr (.inl zb))), (g 44, .inl (cJ, 90, .inr (.inl f_56))), (mm, .inr (12, mo g (nI ta) (nI pa) (nI pe) pd (nI pb) pp pf pg pn rt rn (nI cd) sn (nI il) tk am at_ aa mt_ (nI bh) wd wt v_58 (nI it_) (nI rm) (nI ud) (nI nu) sd (nI qn) (nI qw) qo (nI qb) (nI qp) qa (nI qi) (nI oc))), (g 20, .inl (cI, 4, .inl (l4 (nI l0) (nI l1) (nI dm) (nI l3))))]) [4, 5, 6, 7, 8, 0, 1, 3, 2] (by decide +kernel) rfl
                                  exact ih_lp_8 (jm + 1) f_56 v_58 _ _ _ (by omega) (by omega) hP hD hS (lv_sub hl [0, 3, 4, 5] rfl)
                              · have c_55 : ¬ (i ≤ 0) := fun h => c_55 ((nle i 0 (by omega) (by omega)).mpr h)
                                refine lv_aload_n hx hb dX12_laysWays_171 rfl (lv_at hl 5 rfl) ?_
                                refine lv_iload_n hx hb dX12_laysWays_172 rfl (lv_at hl 3 rfl) ?_
                                refine lv_iload hx hb dX12_laysWays_173 (lv_at hl 0 rfl) ?_
                                refine lv_iload_n hx hb dX12_laysWays_175 rfl (lv_at hl 2 rfl) ?_
                                refine sk_Vi (q0 := 0) (n := 3) (rest := []) (wr := [(g 43, .inl (cJ, 90, .inr (.inl zb))), (g 44, .inl (cJ, 90, .inr (.inl zg))), (g 20, .inl (cI, 4, .inl (l4 (nI l0) (nI l1) (nI dm) (nI l3))))]) ⟨hx, hb, hml, hown, hts⟩ hl.1 (c_m_canFollowS l D cI cJ cC cZ cS mm g ta pa pe pd pb pp pf pg pn rt rn cd sn il tk am at_ aa mt_ bh wd wt zyb it_ rm ud nu sd qn qw qo qb qp qa qi oc i kk jm nw ws_ rw_ yo yw (by omega) (by omega) (by omega) (by omega) (by omega) hnw) w_7_201 w_7_203 w_0_85 w_1_14 w_7_204 (by decide +kernel) ⟨⟨(Nat.le_of_ble_eq_true rfl), (Nat.le_of_ble_eq_true rfl)⟩, (Nat.le_of_ble_eq_true rfl), (Nat.le_of_ble_eq_true rfl)⟩ hK hP hD hS hA [3, 4, 5, 6, 7, 8] [0, 1, 2] rfl rfl (by decide +kernel) (by decide +kernel) (by decide +kernel) rfl rfl rfl rfl (Nat.le_of_ble_eq_true rfl) dX12_laysWays_176 (fun r_60 u H locs hw hP hD hS => ?_)
                                obtain ⟨b_59, hb1_61, rfl, rfl⟩ := hw
                                have hP : va_P D vwCl [(g 43, .inl (cJ, 90, .inr (.inl zb))), (g 44, .inl (cJ, 90, .inr (.inl zg))), (g 20, .inl (cI, 4, .inl (l4 (nI l0) (nI l1) (nI dm) (nI l3)))), (mm, .inr (12, mo g (nI ta) (nI pa) (nI pe) pd (nI pb) pp pf pg pn rt rn (nI cd) sn (nI il) tk am at_ aa mt_ (nI bh) wd wt zyb (nI it_) (nI rm) (nI ud) (nI nu) sd (nI qn) (nI qw) qo (nI qb) (nI qp) qa (nI qi) (nI oc))), (g 31, .inl (cI, 120, .inl nw)), (g 38, .inl (cI, 90, .inl ws_)), (g 53, .inl (cI, 32, .inl rw_)), (g 37, .inl (cZ, 900, .inl yo)), (g 36, .inl (cZ, 900, .inl yw))] H := hP
                                have hD : va_D A [(g 43, .inl (cJ, 90, .inr (.inl zb))), (g 44, .inl (cJ, 90, .inr (.inl zg))), (g 20, .inl (cI, 4, .inl (l4 (nI l0) (nI l1) (nI dm) (nI l3)))), (mm, .inr (12, mo g (nI ta) (nI pa) (nI pe) pd (nI pb) pp pf pg pn rt rn (nI cd) sn (nI il) tk am at_ aa mt_ (nI bh) wd wt zyb (nI it_) (nI rm) (nI ud) (nI nu) sd (nI qn) (nI qw) qo (nI qb) (nI qp) qa (nI qi) (nI oc))), (g 31, .inl (cI, 120, .inl nw)), (g 38, .inl (cI, 90, .inl ws_)), (g 53, .inl (cI, 32, .inl rw_)), (g 37, .inl (cZ, 900, .inl yo)), (g 36, .inl (cZ, 900, .inl yw))] := hD
                                refine lv_if_eq (tgt := 201) hx hb dX12_laysWays_179 (by decide) (fun c_62 => ?_) (fun c_62 => ?_)
                                · have c_62 : b_59 = 0 := (neq b_59 0 (by omega) (by omega)).mp c_62
                                  refine lv_iinc (v := nI (kk + 1)) (lv' := [(6, .int (nI (kk + 1))), (4, .long xn), (3, .int (nI jm)), (2, .int (nI i)), (1, .int (nI dm - 1)), (0, .ref mm)]) hx hb dX12_laysWays_201 hl (k := 0) rfl (ninc kk 1 (by decide)) (by decide) rfl (fun ls hl => ?_)
                                  refine lv_goto (tgt := 160) hx hb dX12_laysWays_204 (by decide) ?_
                                  exact ih_lp_49 (kk + 1) xn _ _ _ (by omega) (by omega) hP hD hS (lv_sub hl [0, 1, 2, 3, 4, 5] rfl)
                                · have c_62 : ¬ (b_59 = 0) := fun h => c_62 ((neq b_59 0 (by omega) (by omega)).mpr h)
                                  refine lv_lload hx hb dX12_laysWays_182 (lv_at hl 1 rfl) ?_
                                  refine lv_aload_n hx hb dX12_laysWays_184 rfl (lv_at hl 5 rfl) ?_
                                  refine sk_get (v := .ref (g 44)) (C := RX12) (T := TX12) (N := 92) hx hb hts inlX12 hown hK hP 3 rfl rfl 44 (by decide) w_5_199 rfl dX12_laysWays_185 ?_
                                  refine lv_bipush (v := 10) hx hb dX12_laysWays_188 (by decide) ?_
                                  refine lv_iload_n hx hb dX12_laysWays_190 rfl (lv_at hl 3 rfl) ?_
                                  refine lv_iconst (v := 1) hx hb dX12_laysWays_191 (by decide) ?_
                                  refine lv_isub hx hb dX12_laysWays_192 ?_
                                  refine sk_top (nI (i - 1)) (nsub i 1 (by omega)) ?_
                                  refine lv_imul hx hb dX12_laysWays_193 ?_
                                  refine sk_top (nI (10 * (i - 1))) (nmul 10 (i - 1)) ?_
                                  refine lv_iload hx hb dX12_laysWays_194 (lv_at hl 0 rfl) ?_
                                  refine lv_iadd hx hb dX12_laysWays_196 ?_
                                  refine sk_top (nI (10 * (i - 1) + kk)) (nI_add (10 * (i - 1)) kk) ?_
                                  refine va_lald hx hb hK.1 hP 1 1 rfl rfl (vin (10 * (i - 1) + kk) 90 (by omega) (by omega)) dX12_laysWays_197 ?_
                                  refine lv_topl (fun v_63 ev_63 => ?_)
                                  refine lv_ladd hx hb dX12_laysWays_198 ?_
                                  refine lv_topl (fun v_64 ev_64 => ?_)
                                  refine lv_lstore (lv' := [(4, .long v_64), (6, .int (nI kk)), (3, .int (nI jm)), (2, .int (nI i)), (1, .int (nI dm - 1)), (0, .ref mm)]) hx hb dX12_laysWays_199 hl (by decide) rfl (fun ls hl => ?_)
                                  refine lv_iinc (v := nI (kk + 1)) (lv' := [(6, .int (nI (kk + 1))), (4, .long v_64), (3, .int (nI jm)), (2, .int (nI i)), (1, .int (nI dm - 1)), (0, .ref mm)]) hx hb dX12_laysWays_201 hl (k := 1) rfl (ninc kk 1 (by decide)) (by decide) rfl (fun ls hl => ?_)
                                  refine lv_goto (tgt := 160) hx hb dX12_laysWays_204 (by decide) ?_
                                  exact ih_lp_49 (kk + 1) v_64 _ _ _ (by omega) (by omega) hP hD hS (lv_sub hl [0, 1, 2, 3, 4, 5] rfl)
                        exact lp_49 (10 - 0 + 1) 0 1 _ _ _ (Nat.lt_succ_self _) (by omega) hP hD hS (lv_sub hl [0, 1, 2, 3, 4, 5] rfl)
              exact lp_8 (10 - 0 + 1) 0 zf zy _ _ _ (Nat.lt_succ_self _) (by omega) hP hD hS (lv_sub hl [0, 1, 2, 3] rfl)
        exact lp_5 (dm - 0 + 1) 0 bf 0 _ _ _ (Nat.lt_succ_self _) (by omega) hP hD hS (lv_sub hl [0, 1, 2] rfl)
      · have c_4 : 1 ≤ dd := npm1 dd c_4
        rw [npred dd (by omega)] at hl
        refine lv_iconst (v := 0) hx hb dX12_laysWays_13 (by decide) ?_
        refine lv_istore_n (lv' := [(3, .int 0), (2, .int (nI (dd - 1))), (1, .int (nI dm - 1)), (0, .ref mm)]) hx hb dX12_laysWays_14 rfl hl (by decide) rfl (fun ls hl => ?_)
        have lp_65 : ∀ (n_66 : Nat) (jm : Nat) (zc : Nat → Int64) (H : Heap) (locs : List Loc) (ls : Array Slot), 10 - jm < n_66 → (jm ≤ 10) → va_P D vwCl [(g 31, .inl (cI, 120, .inl nw)), (g 38, .inl (cI, 90, .inl ws_)), (g 53, .inl (cI, 32, .inl rw_)), (g 37, .inl (cZ, 900, .inl yo)), (g 36, .inl (cZ, 900, .inl yw)), (g 43, .inl (cJ, 90, .inr (.inl zc))), (g 44, .inl (cJ, 90, .inr (.inl bf))), (mm, .inr (12, mo g (nI ta) (nI pa) (nI pe) pd (nI pb) pp pf pg pn rt rn (nI cd) sn (nI il) tk am at_ aa mt_ (nI bh) wd wt wy (nI it_) (nI rm) (nI ud) (nI nu) sd (nI qn) (nI qw) qo (nI qb) (nI qp) qa (nI qi) (nI oc))), (g 20, .inl (cI, 4, .inl (l4 (nI l0) (nI l1) (nI dm) (nI l3))))] H → va_D A [(g 31, .inl (cI, 120, .inl nw)), (g 38, .inl (cI, 90, .inl ws_)), (g 53, .inl (cI, 32, .inl rw_)), (g 37, .inl (cZ, 900, .inl yo)), (g 36, .inl (cZ, 900, .inl yw)), (g 43, .inl (cJ, 90, .inr (.inl zc))), (g 44, .inl (cJ, 90, .inr (.inl bf))), (mm, .inr (12, mo g (nI ta) (nI pa) (nI pe) pd (nI pb) pp pf pg pn rt rn (nI cd) sn (nI il) tk am at_ aa mt_ (nI bh) wd wt wy (nI it_) (nI rm) (nI ud) (nI nu) sd (nI qn) (nI qw) qo (nI qb) (nI qp) qa (nI qi) (nI oc))), (g 20, .inl (cI, 4, .inl (l4 (nI l0) (nI l1) (nI dm) (nI l3))))] → va_S A s.heap H locs → lv_has ls 7 [(3, .int (nI jm)), (2, .int (nI (dd - 1))), (1, .int (nI dm - 1)), (0, .ref mm)] → W p l e { frames := 3, cells := 0, slots := 0, locals := 68 } s m ([.ref mm] : List Value).toArray below meth c H locs 0 0 (MQ below (skV D (skT cI cJ cC cZ cS) (fun (u : va_W) => ∃ (wy2 : Int64), ∃ (be2 : Nat → Int64), ∃ (bf2 : Nat → Int64), u = [(mm, .inr (12, mo g (nI ta) (nI pa) (nI pe) pd (nI pb) pp pf pg pn rt rn (nI cd) sn (nI il) tk am at_ aa mt_ (nI bh) wd wt wy2 (nI it_) (nI rm) (nI ud) (nI nu) sd (nI qn) (nI qw) qo (nI qb) (nI qp) qa (nI qi) (nI oc))), (g 20, .inl (cI, 4, .inl (l4 (nI l0) (nI l1) (nI dm) (nI l3)))), (g 31, .inl (cI, 120, .inl nw)), (g 38, .inl (cI, 90, .inl ws_)), (g 53, .inl (cI, 32, .inl rw_)), (g 37, .inl (cZ, 900, .inl yo)), (g 36, .inl (cZ, 900, .inl yw)), (g 43, .inl (cJ, 90, .inr (.inl be2))), (g 44, .inl (cJ, 90, .inr (.inl bf2)))]) A) ([.ref mm] : List Value).toArray s 0 0 A) (F0 m 15 ls []) := by
          intro n_66
          induction n_66 with
          | zero => intro jm zc H locs ls hm; exact absurd hm (Nat.not_lt_zero _)
          | succ n_66 ih_lp_65 =>
            intro jm zc H locs ls hm hjm hP hD hS hl
            refine lv_iload_n hx hb dX12_laysWays_15 rfl (lv_at hl 0 rfl) ?_
            refine lv_bipush (v := 10) hx hb dX12_laysWays_16 (by decide) ?_
            refine lv_icmp_ge (tgt := 105) hx hb dX12_laysWays_18 (by decide) (fun c_67 => ?_) (fun c_67 => ?_)
            · have c_67 : 10 ≤ jm := (nle 10 jm (by omega) (by omega)).mp c_67
              refine lv_iinc (v := nI (dd - 1) - 1) (lv' := [(2, .int (nI (dd - 1) - 1)), (3, .int (nI jm)), (1, .int (nI dm - 1)), (0, .ref mm)]) hx hb dX12_laysWays_105 hl (k := 1) rfl (ndn _) (by decide) rfl (fun ls hl => ?_)
              refine lv_goto (tgt := 9) hx hb dX12_laysWays_108 (by decide) ?_
              exact ih_lp_2 (dd - 1) zc _ _ _ (by omega) (by omega) hP hD hS (lv_sub hl [0, 2, 3] rfl)
            · have c_67 : ¬ (10 ≤ jm) := fun h => c_67 ((nle 10 jm (by omega) (by omega)).mpr h)
              refine lv_iload_n hx hb dX12_laysWays_21 rfl (lv_at hl 1 rfl) ?_
              refine lv_iload_n hx hb dX12_laysWays_22 rfl (lv_at hl 2 rfl) ?_
              refine lv_icmp_ne (tgt := 30) hx hb dX12_laysWays_23 (by decide) (fun c_68 => ?_) (fun c_68 => ?_)
              · have c_68 : ¬ (((dd - 1 : Nat) : Int) = ((dm : Nat) : Int) - 1) := fun h => c_68 ((ieq (ivn (dd - 1) (by omega)) (ivp dm (by omega))).mpr h)
                refine lv_lconst (v := 0) hx hb dX12_laysWays_30 (by decide) ?_
                refine lv_lstore (lv' := [(4, .long 0), (3, .int (nI jm)), (2, .int (nI (dd - 1))), (1, .int (nI dm - 1)), (0, .ref mm)]) hx hb dX12_laysWays_31 hl (by decide) rfl (fun ls hl => ?_)
                refine lv_iconst (v := 0) hx hb dX12_laysWays_33 (by decide) ?_
                refine lv_istore (lv' := [(6, .int 0), (4, .long 0), (3, .int (nI jm)), (2, .int (nI (dd - 1))), (1, .int (nI dm - 1)), (0, .ref mm)]) hx hb dX12_laysWays_34 hl (by decide) rfl (fun ls hl => ?_)
                have lp_69 : ∀ (n_70 : Nat) (kk : Nat) (xn : Int64) (H : Heap) (locs : List Loc) (ls : Array Slot), 10 - kk < n_70 → (kk ≤ 10) → va_P D vwCl [(g 31, .inl (cI, 120, .inl nw)), (g 38, .inl (cI, 90, .inl ws_)), (g 53, .inl (cI, 32, .inl rw_)), (g 37, .inl (cZ, 900, .inl yo)), (g 36, .inl (cZ, 900, .inl yw)), (g 43, .inl (cJ, 90, .inr (.inl zc))), (g 44, .inl (cJ, 90, .inr (.inl bf))), (mm, .inr (12, mo g (nI ta) (nI pa) (nI pe) pd (nI pb) pp pf pg pn rt rn (nI cd) sn (nI il) tk am at_ aa mt_ (nI bh) wd wt wy (nI it_) (nI rm) (nI ud) (nI nu) sd (nI qn) (nI qw) qo (nI qb) (nI qp) qa (nI qi) (nI oc))), (g 20, .inl (cI, 4, .inl (l4 (nI l0) (nI l1) (nI dm) (nI l3))))] H → va_D A [(g 31, .inl (cI, 120, .inl nw)), (g 38, .inl (cI, 90, .inl ws_)), (g 53, .inl (cI, 32, .inl rw_)), (g 37, .inl (cZ, 900, .inl yo)), (g 36, .inl (cZ, 900, .inl yw)), (g 43, .inl (cJ, 90, .inr (.inl zc))), (g 44, .inl (cJ, 90, .inr (.inl bf))), (mm, .inr (12, mo g (nI ta) (nI pa) (nI pe) pd (nI pb) pp pf pg pn rt rn (nI cd) sn (nI il) tk am at_ aa mt_ (nI bh) wd wt wy (nI it_) (nI rm) (nI ud) (nI nu) sd (nI qn) (nI qw) qo (nI qb) (nI qp) qa (nI qi) (nI oc))), (g 20, .inl (cI, 4, .inl (l4 (nI l0) (nI l1) (nI dm) (nI l3))))] → va_S A s.heap H locs → lv_has ls 7 [(6, .int (nI kk)), (4, .long xn), (3, .int (nI jm)), (2, .int (nI (dd - 1))), (1, .int (nI dm - 1)), (0, .ref mm)] → W p l e { frames := 3, cells := 0, slots := 0, locals := 68 } s m ([.ref mm] : List Value).toArray below meth c H locs 0 0 (MQ below (skV D (skT cI cJ cC cZ cS) (fun (u : va_W) => ∃ (wy2 : Int64), ∃ (be2 : Nat → Int64), ∃ (bf2 : Nat → Int64), u = [(mm, .inr (12, mo g (nI ta) (nI pa) (nI pe) pd (nI pb) pp pf pg pn rt rn (nI cd) sn (nI il) tk am at_ aa mt_ (nI bh) wd wt wy2 (nI it_) (nI rm) (nI ud) (nI nu) sd (nI qn) (nI qw) qo (nI qb) (nI qp) qa (nI qi) (nI oc))), (g 20, .inl (cI, 4, .inl (l4 (nI l0) (nI l1) (nI dm) (nI l3)))), (g 31, .inl (cI, 120, .inl nw)), (g 38, .inl (cI, 90, .inl ws_)), (g 53, .inl (cI, 32, .inl rw_)), (g 37, .inl (cZ, 900, .inl yo)), (g 36, .inl (cZ, 900, .inl yw)), (g 43, .inl (cJ, 90, .inr (.inl be2))), (g 44, .inl (cJ, 90, .inr (.inl bf2)))]) A) ([.ref mm] : List Value).toArray s 0 0 A) (F0 m 36 ls []) := by
                  intro n_70
                  induction n_70 with
                  | zero => intro kk xn H locs ls hm; exact absurd hm (Nat.not_lt_zero _)
                  | succ n_70 ih_lp_69 =>
                    intro kk xn H locs ls hm hkk hP hD hS hl
                    refine lv_iload hx hb dX12_laysWays_36 (lv_at hl 0 rfl) ?_
                    refine lv_bipush (v := 10) hx hb dX12_laysWays_38 (by decide) ?_
                    refine lv_icmp_ge (tgt := 86) hx hb dX12_laysWays_40 (by decide) (fun c_71 => ?_) (fun c_71 => ?_)
                    · have c_71 : 10 ≤ kk := (nle 10 kk (by omega) (by omega)).mp c_71
                      refine lv_aload_n hx hb dX12_laysWays_86 rfl (lv_at hl 5 rfl) ?_
                      refine sk_get (v := .ref (g 43)) (C := RX12) (T := TX12) (N := 92) hx hb hts inlX12 hown hK hP 7 rfl rfl 43 (by decide) w_5_198 rfl dX12_laysWays_87 ?_
                      refine lv_bipush (v := 10) hx hb dX12_laysWays_90 (by decide) ?_
                      refine lv_iload_n hx hb dX12_laysWays_92 rfl (lv_at hl 3 rfl) ?_
                      refine lv_imul hx hb dX12_laysWays_93 ?_
                      refine sk_top (nI (10 * (dd - 1))) (nmul 10 (dd - 1)) ?_
                      refine lv_iload_n hx hb dX12_laysWays_94 rfl (lv_at hl 2 rfl) ?_
                      refine lv_iadd hx hb dX12_laysWays_95 ?_
                      refine sk_top (nI (10 * (dd - 1) + jm)) (nI_add (10 * (dd - 1)) jm) ?_
                      refine lv_lload hx hb dX12_laysWays_96 (lv_at hl 1 rfl) ?_
                      refine sk_lastO (ws' := fun f_72 => [(g 31, .inl (cI, 120, .inl nw)), (g 38, .inl (cI, 90, .inl ws_)), (g 53, .inl (cI, 32, .inl rw_)), (g 37, .inl (cZ, 900, .inl yo)), (g 36, .inl (cZ, 900, .inl yw)), (g 43, .inl (cJ, 90, .inr (.inl f_72))), (g 44, .inl (cJ, 90, .inr (.inl bf))), (mm, .inr (12, mo g (nI ta) (nI pa) (nI pe) pd (nI pb) pp pf pg pn rt rn (nI cd) sn (nI il) tk am at_ aa mt_ (nI bh) wd wt wy (nI it_) (nI rm) (nI ud) (nI nu) sd (nI qn) (nI qw) qo (nI qb) (nI qp) qa (nI qi) (nI oc))), (g 20, .inl (cI, 4, .inl (l4 (nI l0) (nI l1) (nI dm) (nI l3))))]) hx hb hK hP hD hS 5 1 rfl rfl (vin (10 * (dd - 1) + jm) 90 (by omega) (by omega)) (fun _ => rfl) dX12_laysWays_98 (fun f_72 H locs hP hD hS => ?_)
                      refine lv_iinc (v := nI (jm + 1)) (lv' := [(3, .int (nI (jm + 1))), (6, .int (nI kk)), (4, .long xn), (2, .int (nI (dd - 1))), (1, .int (nI dm - 1)), (0, .ref mm)]) hx hb dX12_laysWays_99 hl (k := 2) rfl (ninc jm 1 (by decide)) (by decide) rfl (fun ls hl => ?_)
                      refine lv_goto (tgt := 15) hx hb dX12_laysWays_102 (by decide) ?_
                      exact ih_lp_65 (jm + 1) f_72 _ _ _ (by omega) (by omega) hP hD hS (lv_sub hl [0, 3, 4, 5] rfl)
                    · have c_71 : ¬ (10 ≤ kk) := fun h => c_71 ((nle 10 kk (by omega) (by omega)).mpr h)
                      refine lv_iload_n hx hb dX12_laysWays_43 rfl (lv_at hl 3 rfl) ?_
                      refine lv_iload_n hx hb dX12_laysWays_44 rfl (lv_at hl 4 rfl) ?_
                      refine lv_icmp_ge (tgt := 86) hx hb dX12_laysWays_45 (by decide) (fun c_73 => ?_) (fun c_73 => ?_)
                      · have c_73 : ((dm : Nat) : Int) - 1 ≤ ((dd - 1 : Nat) : Int) := (ile (ivp dm (by omega)) (ivn (dd - 1) (by omega))).mp c_73
                        refine lv_aload_n hx hb dX12_laysWays_86 rfl (lv_at hl 5 rfl) ?_
                        refine sk_get (v := .ref (g 43)) (C := RX12) (T := TX12) (N := 92) hx hb hts inlX12 hown hK hP 7 rfl rfl 43 (by decide) w_5_198 rfl dX12_laysWays_87 ?_
                        refine lv_bipush (v := 10) hx hb dX12_laysWays_90 (by decide) ?_
                        refine lv_iload_n hx hb dX12_laysWays_92 rfl (lv_at hl 3 rfl) ?_
                        refine lv_imul hx hb dX12_laysWays_93 ?_
                        refine sk_top (nI (10 * (dd - 1))) (nmul 10 (dd - 1)) ?_
                        refine lv_iload_n hx hb dX12_laysWays_94 rfl (lv_at hl 2 rfl) ?_
                        refine lv_iadd hx hb dX12_laysWays_95 ?_
                        refine sk_top (nI (10 * (dd - 1) + jm)) (nI_add (10 * (dd - 1)) jm) ?_
                        refine lv_lload hx hb dX12_laysWays_96 (lv_at hl 1 rfl) ?_
                        refine sk_lastO (ws' := fun f_74 => [(g 31, .inl (cI, 120, .inl nw)), (g 38, .inl (cI, 90, .inl ws_)), (g 53, .inl (cI, 32, .inl rw_)), (g 37, .inl (cZ, 900, .inl yo)), (g 36, .inl (cZ, 900, .inl yw)), (g 43, .inl (cJ, 90, .inr (.inl f_74))), (g 44, .inl (cJ, 90, .inr (.inl bf))), (mm, .inr (12, mo g (nI ta) (nI pa) (nI pe) pd (nI pb) pp pf pg pn rt rn (nI cd) sn (nI il) tk am at_ aa mt_ (nI bh) wd wt wy (nI it_) (nI rm) (nI ud) (nI nu) sd (nI qn) (nI qw) qo (nI qb) (nI qp) qa (nI qi) (nI oc))), (g 20, .inl (cI, 4, .inl (l4 (nI l0) (nI l1) (nI dm) (nI l3))))]) hx hb hK hP hD hS 5 1 rfl rfl (vin (10 * (dd - 1) + jm) 90 (by omega) (by omega)) (fun _ => rfl) dX12_laysWays_98 (fun f_74 H locs hP hD hS => ?_)
                        refine lv_iinc (v := nI (jm + 1)) (lv' := [(3, .int (nI (jm + 1))), (6, .int (nI kk)), (4, .long xn), (2, .int (nI (dd - 1))), (1, .int (nI dm - 1)), (0, .ref mm)]) hx hb dX12_laysWays_99 hl (k := 2) rfl (ninc jm 1 (by decide)) (by decide) rfl (fun ls hl => ?_)
                        refine lv_goto (tgt := 15) hx hb dX12_laysWays_102 (by decide) ?_
                        exact ih_lp_65 (jm + 1) f_74 _ _ _ (by omega) (by omega) hP hD hS (lv_sub hl [0, 3, 4, 5] rfl)
                      · have c_73 : ¬ (((dm : Nat) : Int) - 1 ≤ ((dd - 1 : Nat) : Int)) := fun h => c_73 ((ile (ivp dm (by omega)) (ivn (dd - 1) (by omega))).mpr h)
                        refine lv_aload_n hx hb dX12_laysWays_48 rfl (lv_at hl 5 rfl) ?_
                        refine lv_iload_n hx hb dX12_laysWays_49 rfl (lv_at hl 3 rfl) ?_
                        refine lv_iconst (v := 1) hx hb dX12_laysWays_50 (by decide) ?_
                        refine lv_iadd hx hb dX12_laysWays_51 ?_
                        refine sk_top (nI (dd - 1 + 1)) (nI_add (dd - 1) 1) ?_
                        refine lv_iload_n hx hb dX12_laysWays_52 rfl (lv_at hl 2 rfl) ?_
                        refine lv_iload hx hb dX12_laysWays_53 (lv_at hl 0 rfl) ?_
                        refine sk_Vi (q0 := 0) (n := 3) (rest := []) (wr := [(g 43, .inl (cJ, 90, .inr (.inl zc))), (g 44, .inl (cJ, 90, .inr (.inl bf))), (g 20, .inl (cI, 4, .inl (l4 (nI l0) (nI l1) (nI dm) (nI l3))))]) ⟨hx, hb, hml, hown, hts⟩ hl.1 (c_m_canFollowS l D cI cJ cC cZ cS mm g ta pa pe pd pb pp pf pg pn rt rn cd sn il tk am at_ aa mt_ bh wd wt wy it_ rm ud nu sd qn qw qo qb qp qa qi oc (dd - 1 + 1) jm kk nw ws_ rw_ yo yw (by omega) (by omega) (by omega) (by omega) (by omega) hnw) w_7_201 w_7_203 w_0_85 w_1_14 w_7_204 (by decide +kernel) ⟨⟨(Nat.le_of_ble_eq_true rfl), (Nat.le_of_ble_eq_true rfl)⟩, (Nat.le_of_ble_eq_true rfl), (Nat.le_of_ble_eq_true rfl)⟩ hK hP hD hS hA [7, 0, 1, 2, 3, 4] [5, 6, 8] rfl rfl (by decide +kernel) (by decide +kernel) (by decide +kernel) rfl rfl rfl rfl (Nat.le_of_ble_eq_true rfl) dX12_laysWays_55 (fun r_76 u H locs hw hP hD hS => ?_)
                        obtain ⟨b_75, hb1_77, rfl, rfl⟩ := hw
                        have hP : va_P D vwCl [(g 43, .inl (cJ, 90, .inr (.inl zc))), (g 44, .inl (cJ, 90, .inr (.inl bf))), (g 20, .inl (cI, 4, .inl (l4 (nI l0) (nI l1) (nI dm) (nI l3)))), (mm, .inr (12, mo g (nI ta) (nI pa) (nI pe) pd (nI pb) pp pf pg pn rt rn (nI cd) sn (nI il) tk am at_ aa mt_ (nI bh) wd wt wy (nI it_) (nI rm) (nI ud) (nI nu) sd (nI qn) (nI qw) qo (nI qb) (nI qp) qa (nI qi) (nI oc))), (g 31, .inl (cI, 120, .inl nw)), (g 38, .inl (cI, 90, .inl ws_)), (g 53, .inl (cI, 32, .inl rw_)), (g 37, .inl (cZ, 900, .inl yo)), (g 36, .inl (cZ, 900, .inl yw))] H := hP
                        have hD : va_D A [(g 43, .inl (cJ, 90, .inr (.inl zc))), (g 44, .inl (cJ, 90, .inr (.inl bf))), (g 20, .inl (cI, 4, .inl (l4 (nI l0) (nI l1) (nI dm) (nI l3)))), (mm, .inr (12, mo g (nI ta) (nI pa) (nI pe) pd (nI pb) pp pf pg pn rt rn (nI cd) sn (nI il) tk am at_ aa mt_ (nI bh) wd wt wy (nI it_) (nI rm) (nI ud) (nI nu) sd (nI qn) (nI qw) qo (nI qb) (nI qp) qa (nI qi) (nI oc))), (g 31, .inl (cI, 120, .inl nw)), (g 38, .inl (cI, 90, .inl ws_)), (g 53, .inl (cI, 32, .inl rw_)), (g 37, .inl (cZ, 900, .inl yo)), (g 36, .inl (cZ, 900, .inl yw))] := hD
                        refine lv_if_eq (tgt := 80) hx hb dX12_laysWays_58 (by decide) (fun c_78 => ?_) (fun c_78 => ?_)
                        · have c_78 : b_75 = 0 := (neq b_75 0 (by omega) (by omega)).mp c_78
                          refine lv_iinc (v := nI (kk + 1)) (lv' := [(6, .int (nI (kk + 1))), (4, .long xn), (3, .int (nI jm)), (2, .int (nI (dd - 1))), (1, .int (nI dm - 1)), (0, .ref mm)]) hx hb dX12_laysWays_80 hl (k := 0) rfl (ninc kk 1 (by decide)) (by decide) rfl (fun ls hl => ?_)
                          refine lv_goto (tgt := 36) hx hb dX12_laysWays_83 (by decide) ?_
                          have hP := hP.sub (ws' := [(g 31, .inl (cI, 120, .inl nw)), (g 38, .inl (cI, 90, .inl ws_)), (g 53, .inl (cI, 32, .inl rw_)), (g 37, .inl (cZ, 900, .inl yo)), (g 36, .inl (cZ, 900, .inl yw)), (g 43, .inl (cJ, 90, .inr (.inl zc))), (g 44, .inl (cJ, 90, .inr (.inl bf))), (mm, .inr (12, mo g (nI ta) (nI pa) (nI pe) pd (nI pb) pp pf pg pn rt rn (nI cd) sn (nI il) tk am at_ aa mt_ (nI bh) wd wt wy (nI it_) (nI rm) (nI ud) (nI nu) sd (nI qn) (nI qw) qo (nI qb) (nI qp) qa (nI qi) (nI oc))), (g 20, .inl (cI, 4, .inl (l4 (nI l0) (nI l1) (nI dm) (nI l3))))]) [4, 5, 6, 7, 8, 0, 1, 3, 2] rfl
                          have hD := hD.sub (ws' := [(g 31, .inl (cI, 120, .inl nw)), (g 38, .inl (cI, 90, .inl ws_)), (g 53, .inl (cI, 32, .inl rw_)), (g 37, .inl (cZ, 900, .inl yo)), (g 36, .inl (cZ, 900, .inl yw)), (g 43, .inl (cJ, 90, .inr (.inl zc))), (g 44, .inl (cJ, 90, .inr (.inl bf))), (mm, .inr (12, mo g (nI ta) (nI pa) (nI pe) pd (nI pb) pp pf pg pn rt rn (nI cd) sn (nI il) tk am at_ aa mt_ (nI bh) wd wt wy (nI it_) (nI rm) (nI ud) (nI nu) sd (nI qn) (nI qw) qo (nI qb) (nI qp) qa (nI qi) (nI oc))), (g 20, .inl (cI, 4, .inl (l4 (nI l0) (nI l1) (nI dm) (nI l3))))]) [4, 5, 6, 7, 8, 0, 1, 3, 2] (by decide +kernel) rfl
                          exact ih_lp_69 (kk + 1) xn _ _ _ (by omega) (by omega) hP hD hS (lv_sub hl [0, 1, 2, 3, 4, 5] rfl)
                        · have c_78 : ¬ (b_75 = 0) := fun h => c_78 ((neq b_75 0 (by omega) (by omega)).mpr h)
                          refine lv_lload hx hb dX12_laysWays_61 (lv_at hl 1 rfl) ?_
                          refine lv_aload_n hx hb dX12_laysWays_63 rfl (lv_at hl 5 rfl) ?_
                          refine sk_get (v := .ref (g 43)) (C := RX12) (T := TX12) (N := 92) hx hb hts inlX12 hown hK hP 3 rfl rfl 43 (by decide) w_5_198 rfl dX12_laysWays_64 ?_
                          refine lv_bipush (v := 10) hx hb dX12_laysWays_67 (by decide) ?_
                          refine lv_iload_n hx hb dX12_laysWays_69 rfl (lv_at hl 3 rfl) ?_
                          refine lv_iconst (v := 1) hx hb dX12_laysWays_70 (by decide) ?_
                          refine lv_iadd hx hb dX12_laysWays_71 ?_
                          refine sk_top (nI (dd - 1 + 1)) (nI_add (dd - 1) 1) ?_
                          refine lv_imul hx hb dX12_laysWays_72 ?_
                          refine sk_top (nI (10 * (dd - 1 + 1))) (nmul 10 (dd - 1 + 1)) ?_
                          refine lv_iload hx hb dX12_laysWays_73 (lv_at hl 0 rfl) ?_
                          refine lv_iadd hx hb dX12_laysWays_75 ?_
                          refine sk_top (nI (10 * (dd - 1 + 1) + kk)) (nI_add (10 * (dd - 1 + 1)) kk) ?_
                          refine va_lald hx hb hK.1 hP 0 1 rfl rfl (vin (10 * (dd - 1 + 1) + kk) 90 (by omega) (by omega)) dX12_laysWays_76 ?_
                          refine lv_topl (fun v_79 ev_79 => ?_)
                          refine lv_ladd hx hb dX12_laysWays_77 ?_
                          refine lv_topl (fun v_80 ev_80 => ?_)
                          refine lv_lstore (lv' := [(4, .long v_80), (6, .int (nI kk)), (3, .int (nI jm)), (2, .int (nI (dd - 1))), (1, .int (nI dm - 1)), (0, .ref mm)]) hx hb dX12_laysWays_78 hl (by decide) rfl (fun ls hl => ?_)
                          refine lv_iinc (v := nI (kk + 1)) (lv' := [(6, .int (nI (kk + 1))), (4, .long v_80), (3, .int (nI jm)), (2, .int (nI (dd - 1))), (1, .int (nI dm - 1)), (0, .ref mm)]) hx hb dX12_laysWays_80 hl (k := 1) rfl (ninc kk 1 (by decide)) (by decide) rfl (fun ls hl => ?_)
                          refine lv_goto (tgt := 36) hx hb dX12_laysWays_83 (by decide) ?_
                          have hP := hP.sub (ws' := [(g 31, .inl (cI, 120, .inl nw)), (g 38, .inl (cI, 90, .inl ws_)), (g 53, .inl (cI, 32, .inl rw_)), (g 37, .inl (cZ, 900, .inl yo)), (g 36, .inl (cZ, 900, .inl yw)), (g 43, .inl (cJ, 90, .inr (.inl zc))), (g 44, .inl (cJ, 90, .inr (.inl bf))), (mm, .inr (12, mo g (nI ta) (nI pa) (nI pe) pd (nI pb) pp pf pg pn rt rn (nI cd) sn (nI il) tk am at_ aa mt_ (nI bh) wd wt wy (nI it_) (nI rm) (nI ud) (nI nu) sd (nI qn) (nI qw) qo (nI qb) (nI qp) qa (nI qi) (nI oc))), (g 20, .inl (cI, 4, .inl (l4 (nI l0) (nI l1) (nI dm) (nI l3))))]) [4, 5, 6, 7, 8, 0, 1, 3, 2] rfl
                          have hD := hD.sub (ws' := [(g 31, .inl (cI, 120, .inl nw)), (g 38, .inl (cI, 90, .inl ws_)), (g 53, .inl (cI, 32, .inl rw_)), (g 37, .inl (cZ, 900, .inl yo)), (g 36, .inl (cZ, 900, .inl yw)), (g 43, .inl (cJ, 90, .inr (.inl zc))), (g 44, .inl (cJ, 90, .inr (.inl bf))), (mm, .inr (12, mo g (nI ta) (nI pa) (nI pe) pd (nI pb) pp pf pg pn rt rn (nI cd) sn (nI il) tk am at_ aa mt_ (nI bh) wd wt wy (nI it_) (nI rm) (nI ud) (nI nu) sd (nI qn) (nI qw) qo (nI qb) (nI qp) qa (nI qi) (nI oc))), (g 20, .inl (cI, 4, .inl (l4 (nI l0) (nI l1) (nI dm) (nI l3))))]) [4, 5, 6, 7, 8, 0, 1, 3, 2] (by decide +kernel) rfl
                          exact ih_lp_69 (kk + 1) v_80 _ _ _ (by omega) (by omega) hP hD hS (lv_sub hl [0, 1, 2, 3, 4, 5] rfl)
                exact lp_69 (10 - 0 + 1) 0 0 _ _ _ (Nat.lt_succ_self _) (by omega) hP hD hS (lv_sub hl [0, 1, 2, 3, 4, 5] rfl)
              · have c_68 : ((dd - 1 : Nat) : Int) = ((dm : Nat) : Int) - 1 := (ieq (ivn (dd - 1) (by omega)) (ivp dm (by omega))).mp c_68
                refine lv_lconst (v := 1) hx hb dX12_laysWays_26 (by decide) ?_
                refine lv_goto (tgt := 31) hx hb dX12_laysWays_27 (by decide) ?_
                refine lv_lstore (lv' := [(4, .long 1), (3, .int (nI jm)), (2, .int (nI (dd - 1))), (1, .int (nI dm - 1)), (0, .ref mm)]) hx hb dX12_laysWays_31 hl (by decide) rfl (fun ls hl => ?_)
                refine lv_iconst (v := 0) hx hb dX12_laysWays_33 (by decide) ?_
                refine lv_istore (lv' := [(6, .int 0), (4, .long 1), (3, .int (nI jm)), (2, .int (nI (dd - 1))), (1, .int (nI dm - 1)), (0, .ref mm)]) hx hb dX12_laysWays_34 hl (by decide) rfl (fun ls hl => ?_)
                have lp_81 : ∀ (n_82 : Nat) (kk : Nat) (xn : Int64) (H : Heap) (locs : List Loc) (ls : Array Slot), 10 - kk < n_82 → (kk ≤ 10) → va_P D vwCl [(g 31, .inl (cI, 120, .inl nw)), (g 38, .inl (cI, 90, .inl ws_)), (g 53, .inl (cI, 32, .inl rw_)), (g 37, .inl (cZ, 900, .inl yo)), (g 36, .inl (cZ, 900, .inl yw)), (g 43, .inl (cJ, 90, .inr (.inl zc))), (g 44, .inl (cJ, 90, .inr (.inl bf))), (mm, .inr (12, mo g (nI ta) (nI pa) (nI pe) pd (nI pb) pp pf pg pn rt rn (nI cd) sn (nI il) tk am at_ aa mt_ (nI bh) wd wt wy (nI it_) (nI rm) (nI ud) (nI nu) sd (nI qn) (nI qw) qo (nI qb) (nI qp) qa (nI qi) (nI oc))), (g 20, .inl (cI, 4, .inl (l4 (nI l0) (nI l1) (nI dm) (nI l3))))] H → va_D A [(g 31, .inl (cI, 120, .inl nw)), (g 38, .inl (cI, 90, .inl ws_)), (g 53, .inl (cI, 32, .inl rw_)), (g 37, .inl (cZ, 900, .inl yo)), (g 36, .inl (cZ, 900, .inl yw)), (g 43, .inl (cJ, 90, .inr (.inl zc))), (g 44, .inl (cJ, 90, .inr (.inl bf))), (mm, .inr (12, mo g (nI ta) (nI pa) (nI pe) pd (nI pb) pp pf pg pn rt rn (nI cd) sn (nI il) tk am at_ aa mt_ (nI bh) wd wt wy (nI it_) (nI rm) (nI ud) (nI nu) sd (nI qn) (nI qw) qo (nI qb) (nI qp) qa (nI qi) (nI oc))), (g 20, .inl (cI, 4, .inl (l4 (nI l0) (nI l1) (nI dm) (nI l3))))] → va_S A s.heap H locs → lv_has ls 7 [(6, .int (nI kk)), (4, .long xn), (3, .int (nI jm)), (2, .int (nI (dd - 1))), (1, .int (nI dm - 1)), (0, .ref mm)] → W p l e { frames := 3, cells := 0, slots := 0, locals := 68 } s m ([.ref mm] : List Value).toArray below meth c H locs 0 0 (MQ below (skV D (skT cI cJ cC cZ cS) (fun (u : va_W) => ∃ (wy2 : Int64), ∃ (be2 : Nat → Int64), ∃ (bf2 : Nat → Int64), u = [(mm, .inr (12, mo g (nI ta) (nI pa) (nI pe) pd (nI pb) pp pf pg pn rt rn (nI cd) sn (nI il) tk am at_ aa mt_ (nI bh) wd wt wy2 (nI it_) (nI rm) (nI ud) (nI nu) sd (nI qn) (nI qw) qo (nI qb) (nI qp) qa (nI qi) (nI oc))), (g 20, .inl (cI, 4, .inl (l4 (nI l0) (nI l1) (nI dm) (nI l3)))), (g 31, .inl (cI, 120, .inl nw)), (g 38, .inl (cI, 90, .inl ws_)), (g 53, .inl (cI, 32, .inl rw_)), (g 37, .inl (cZ, 900, .inl yo)), (g 36, .inl (cZ, 900, .inl yw)), (g 43, .inl (cJ, 90, .inr (.inl be2))), (g 44, .inl (cJ, 90, .inr (.inl bf2)))]) A) ([.ref mm] : List Value).toArray s 0 0 A) (F0 m 36 ls []) := by
                  intro n_82
                  induction n_82 with
                  | zero => intro kk xn H locs ls hm; exact absurd hm (Nat.not_lt_zero _)
                  | succ n_82 ih_lp_81 =>
                    intro kk xn H locs ls hm hkk hP hD hS hl
                    refine lv_iload hx hb dX12_laysWays_36 (lv_at hl 0 rfl) ?_
                    refine lv_bipush (v := 10) hx hb dX12_laysWays_38 (by decide) ?_
                    refine lv_icmp_ge (tgt := 86) hx hb dX12_laysWays_40 (by decide) (fun c_83 => ?_) (fun c_83 => ?_)
                    · have c_83 : 10 ≤ kk := (nle 10 kk (by omega) (by omega)).mp c_83
                      refine lv_aload_n hx hb dX12_laysWays_86 rfl (lv_at hl 5 rfl) ?_
                      refine sk_get (v := .ref (g 43)) (C := RX12) (T := TX12) (N := 92) hx hb hts inlX12 hown hK hP 7 rfl rfl 43 (by decide) w_5_198 rfl dX12_laysWays_87 ?_
                      refine lv_bipush (v := 10) hx hb dX12_laysWays_90 (by decide) ?_
                      refine lv_iload_n hx hb dX12_laysWays_92 rfl (lv_at hl 3 rfl) ?_
                      refine lv_imul hx hb dX12_laysWays_93 ?_
                      refine sk_top (nI (10 * (dd - 1))) (nmul 10 (dd - 1)) ?_
                      refine lv_iload_n hx hb dX12_laysWays_94 rfl (lv_at hl 2 rfl) ?_
                      refine lv_iadd hx hb dX12_laysWays_95 ?_
                      refine sk_top (nI (10 * (dd - 1) + jm)) (nI_add (10 * (dd - 1)) jm) ?_
                      refine lv_lload hx hb dX12_laysWays_96 (lv_at hl 1 rfl) ?_
                      refine sk_lastO (ws' := fun f_84 => [(g 31, .inl (cI, 120, .inl nw)), (g 38, .inl (cI, 90, .inl ws_)), (g 53, .inl (cI, 32, .inl rw_)), (g 37, .inl (cZ, 900, .inl yo)), (g 36, .inl (cZ, 900, .inl yw)), (g 43, .inl (cJ, 90, .inr (.inl f_84))), (g 44, .inl (cJ, 90, .inr (.inl bf))), (mm, .inr (12, mo g (nI ta) (nI pa) (nI pe) pd (nI pb) pp pf pg pn rt rn (nI cd) sn (nI il) tk am at_ aa mt_ (nI bh) wd wt wy (nI it_) (nI rm) (nI ud) (nI nu) sd (nI qn) (nI qw) qo (nI qb) (nI qp) qa (nI qi) (nI oc))), (g 20, .inl (cI, 4, .inl (l4 (nI l0) (nI l1) (nI dm) (nI l3))))]) hx hb hK hP hD hS 5 1 rfl rfl (vin (10 * (dd - 1) + jm) 90 (by omega) (by omega)) (fun _ => rfl) dX12_laysWays_98 (fun f_84 H locs hP hD hS => ?_)
                      refine lv_iinc (v := nI (jm + 1)) (lv' := [(3, .int (nI (jm + 1))), (6, .int (nI kk)), (4, .long xn), (2, .int (nI (dd - 1))), (1, .int (nI dm - 1)), (0, .ref mm)]) hx hb dX12_laysWays_99 hl (k := 2) rfl (ninc jm 1 (by decide)) (by decide) rfl (fun ls hl => ?_)
                      refine lv_goto (tgt := 15) hx hb dX12_laysWays_102 (by decide) ?_
                      exact ih_lp_65 (jm + 1) f_84 _ _ _ (by omega) (by omega) hP hD hS (lv_sub hl [0, 3, 4, 5] rfl)
                    · have c_83 : ¬ (10 ≤ kk) := fun h => c_83 ((nle 10 kk (by omega) (by omega)).mpr h)
                      refine lv_iload_n hx hb dX12_laysWays_43 rfl (lv_at hl 3 rfl) ?_
                      refine lv_iload_n hx hb dX12_laysWays_44 rfl (lv_at hl 4 rfl) ?_
                      refine lv_icmp_ge (tgt := 86) hx hb dX12_laysWays_45 (by decide) (fun c_85 => ?_) (fun c_85 => ?_)
                      · have c_85 : ((dm : Nat) : Int) - 1 ≤ ((dd - 1 : Nat) : Int) := (ile (ivp dm (by omega)) (ivn (dd - 1) (by omega))).mp c_85
                        refine lv_aload_n hx hb dX12_laysWays_86 rfl (lv_at hl 5 rfl) ?_
                        refine sk_get (v := .ref (g 43)) (C := RX12) (T := TX12) (N := 92) hx hb hts inlX12 hown hK hP 7 rfl rfl 43 (by decide) w_5_198 rfl dX12_laysWays_87 ?_
                        refine lv_bipush (v := 10) hx hb dX12_laysWays_90 (by decide) ?_
                        refine lv_iload_n hx hb dX12_laysWays_92 rfl (lv_at hl 3 rfl) ?_
                        refine lv_imul hx hb dX12_laysWays_93 ?_
                        refine sk_top (nI (10 * (dd - 1))) (nmul 10 (dd - 1)) ?_
                        refine lv_iload_n hx hb dX12_laysWays_94 rfl (lv_at hl 2 rfl) ?_
                        refine lv_iadd hx hb dX12_laysWays_95 ?_
                        refine sk_top (nI (10 * (dd - 1) + jm)) (nI_add (10 * (dd - 1)) jm) ?_
                        refine lv_lload hx hb dX12_laysWays_96 (lv_at hl 1 rfl) ?_
                        refine sk_lastO (ws' := fun f_86 => [(g 31, .inl (cI, 120, .inl nw)), (g 38, .inl (cI, 90, .inl ws_)), (g 53, .inl (cI, 32, .inl rw_)), (g 37, .inl (cZ, 900, .inl yo)), (g 36, .inl (cZ, 900, .inl yw)), (g 43, .inl (cJ, 90, .inr (.inl f_86))), (g 44, .inl (cJ, 90, .inr (.inl bf))), (mm, .inr (12, mo g (nI ta) (nI pa) (nI pe) pd (nI pb) pp pf pg pn rt rn (nI cd) sn (nI il) tk am at_ aa mt_ (nI bh) wd wt wy (nI it_) (nI rm) (nI ud) (nI nu) sd (nI qn) (nI qw) qo (nI qb) (nI qp) qa (nI qi) (nI oc))), (g 20, .inl (cI, 4, .inl (l4 (nI l0) (nI l1) (nI dm) (nI l3))))]) hx hb hK hP hD hS 5 1 rfl rfl (vin (10 * (dd - 1) + jm) 90 (by omega) (by omega)) (fun _ => rfl) dX12_laysWays_98 (fun f_86 H locs hP hD hS => ?_)
                        refine lv_iinc (v := nI (jm + 1)) (lv' := [(3, .int (nI (jm + 1))), (6, .int (nI kk)), (4, .long xn), (2, .int (nI (dd - 1))), (1, .int (nI dm - 1)), (0, .ref mm)]) hx hb dX12_laysWays_99 hl (k := 2) rfl (ninc jm 1 (by decide)) (by decide) rfl (fun ls hl => ?_)
                        refine lv_goto (tgt := 15) hx hb dX12_laysWays_102 (by decide) ?_
                        exact ih_lp_65 (jm + 1) f_86 _ _ _ (by omega) (by omega) hP hD hS (lv_sub hl [0, 3, 4, 5] rfl)
                      · have c_85 : ¬ (((dm : Nat) : Int) - 1 ≤ ((dd - 1 : Nat) : Int)) := fun h => c_85 ((ile (ivp dm (by omega)) (ivn (dd - 1) (by omega))).mpr h)
                        refine lv_aload_n hx hb dX12_laysWays_48 rfl (lv_at hl 5 rfl) ?_
                        refine lv_iload_n hx hb dX12_laysWays_49 rfl (lv_at hl 3 rfl) ?_
                        refine lv_iconst (v := 1) hx hb dX12_laysWays_50 (by decide) ?_
                        refine lv_iadd hx hb dX12_laysWays_51 ?_
                        refine sk_top (nI (dd - 1 + 1)) (nI_add (dd - 1) 1) ?_
                        refine lv_iload_n hx hb dX12_laysWays_52 rfl (lv_at hl 2 rfl) ?_
                        refine lv_iload hx hb dX12_laysWays_53 (lv_at hl 0 rfl) ?_
                        refine sk_Vi (q0 := 0) (n := 3) (rest := []) (wr := [(g 43, .inl (cJ, 90, .inr (.inl zc))), (g 44, .inl (cJ, 90, .inr (.inl bf))), (g 20, .inl (cI, 4, .inl (l4 (nI l0) (nI l1) (nI dm) (nI l3))))]) ⟨hx, hb, hml, hown, hts⟩ hl.1 (c_m_canFollowS l D cI cJ cC cZ cS mm g ta pa pe pd pb pp pf pg pn rt rn cd sn il tk am at_ aa mt_ bh wd wt wy it_ rm ud nu sd qn qw qo qb qp qa qi oc (dd - 1 + 1) jm kk nw ws_ rw_ yo yw (by omega) (by omega) (by omega) (by omega) (by omega) hnw) w_7_201 w_7_203 w_0_85 w_1_14 w_7_204 (by decide +kernel) ⟨⟨(Nat.le_of_ble_eq_true rfl), (Nat.le_of_ble_eq_true rfl)⟩, (Nat.le_of_ble_eq_true rfl), (Nat.le_of_ble_eq_true rfl)⟩ hK hP hD hS hA [7, 0, 1, 2, 3, 4] [5, 6, 8] rfl rfl (by decide +kernel) (by decide +kernel) (by decide +kernel) rfl rfl rfl rfl (Nat.le_of_ble_eq_true rfl) dX12_laysWays_55 (fun r_88 u H locs hw hP hD hS => ?_)
                        obtain ⟨b_87, hb1_89, rfl, rfl⟩ := hw
                        have hP : va_P D vwCl [(g 43, .inl (cJ, 90, .inr (.inl zc))), (g 44, .inl (cJ, 90, .inr (.inl bf))), (g 20, .inl (cI, 4, .inl (l4 (nI l0) (nI l1) (nI dm) (nI l3)))), (mm, .inr (12, mo g (nI ta) (nI pa) (nI pe) pd (nI pb) pp pf pg pn rt rn (nI cd) sn (nI il) tk am at_ aa mt_ (nI bh) wd wt wy (nI it_) (nI rm) (nI ud) (nI nu) sd (nI qn) (nI qw) qo (nI qb) (nI qp) qa (nI qi) (nI oc))), (g 31, .inl (cI, 120, .inl nw)), (g 38, .inl (cI, 90, .inl ws_)), (g 53, .inl (cI, 32, .inl rw_)), (g 37, .inl (cZ, 900, .inl yo)), (g 36, .inl (cZ, 900, .inl yw))] H := hP
                        have hD : va_D A [(g 43, .inl (cJ, 90, .inr (.inl zc))), (g 44, .inl (cJ, 90, .inr (.inl bf))), (g 20, .inl (cI, 4, .inl (l4 (nI l0) (nI l1) (nI dm) (nI l3)))), (mm, .inr (12, mo g (nI ta) (nI pa) (nI pe) pd (nI pb) pp pf pg pn rt rn (nI cd) sn (nI il) tk am at_ aa mt_ (nI bh) wd wt wy (nI it_) (nI rm) (nI ud) (nI nu) sd (nI qn) (nI qw) qo (nI qb) (nI qp) qa (nI qi) (nI oc))), (g 31, .inl (cI, 120, .inl nw)), (g 38, .inl (cI, 90, .inl ws_)), (g 53, .inl (cI, 32, .inl rw_)), (g 37, .inl (cZ, 900, .inl yo)), (g 36, .inl (cZ, 900, .inl yw))] := hD
                        refine lv_if_eq (tgt := 80) hx hb dX12_laysWays_58 (by decide) (fun c_90 => ?_) (fun c_90 => ?_)
                        · have c_90 : b_87 = 0 := (neq b_87 0 (by omega) (by omega)).mp c_90
                          refine lv_iinc (v := nI (kk + 1)) (lv' := [(6, .int (nI (kk + 1))), (4, .long xn), (3, .int (nI jm)), (2, .int (nI (dd - 1))), (1, .int (nI dm - 1)), (0, .ref mm)]) hx hb dX12_laysWays_80 hl (k := 0) rfl (ninc kk 1 (by decide)) (by decide) rfl (fun ls hl => ?_)
                          refine lv_goto (tgt := 36) hx hb dX12_laysWays_83 (by decide) ?_
                          have hP := hP.sub (ws' := [(g 31, .inl (cI, 120, .inl nw)), (g 38, .inl (cI, 90, .inl ws_)), (g 53, .inl (cI, 32, .inl rw_)), (g 37, .inl (cZ, 900, .inl yo)), (g 36, .inl (cZ, 900, .inl yw)), (g 43, .inl (cJ, 90, .inr (.inl zc))), (g 44, .inl (cJ, 90, .inr (.inl bf))), (mm, .inr (12, mo g (nI ta) (nI pa) (nI pe) pd (nI pb) pp pf pg pn rt rn (nI cd) sn (nI il) tk am at_ aa mt_ (nI bh) wd wt wy (nI it_) (nI rm) (nI ud) (nI nu) sd (nI qn) (nI qw) qo (nI qb) (nI qp) qa (nI qi) (nI oc))), (g 20, .inl (cI, 4, .inl (l4 (nI l0) (nI l1) (nI dm) (nI l3))))]) [4, 5, 6, 7, 8, 0, 1, 3, 2] rfl
                          have hD := hD.sub (ws' := [(g 31, .inl (cI, 120, .inl nw)), (g 38, .inl (cI, 90, .inl ws_)), (g 53, .inl (cI, 32, .inl rw_)), (g 37, .inl (cZ, 900, .inl yo)), (g 36, .inl (cZ, 900, .inl yw)), (g 43, .inl (cJ, 90, .inr (.inl zc))), (g 44, .inl (cJ, 90, .inr (.inl bf))), (mm, .inr (12, mo g (nI ta) (nI pa) (nI pe) pd (nI pb) pp pf pg pn rt rn (nI cd) sn (nI il) tk am at_ aa mt_ (nI bh) wd wt wy (nI it_) (nI rm) (nI ud) (nI nu) sd (nI qn) (nI qw) qo (nI qb) (nI qp) qa (nI qi) (nI oc))), (g 20, .inl (cI, 4, .inl (l4 (nI l0) (nI l1) (nI dm) (nI l3))))]) [4, 5, 6, 7, 8, 0, 1, 3, 2] (by decide +kernel) rfl
                          exact ih_lp_81 (kk + 1) xn _ _ _ (by omega) (by omega) hP hD hS (lv_sub hl [0, 1, 2, 3, 4, 5] rfl)
                        · have c_90 : ¬ (b_87 = 0) := fun h => c_90 ((neq b_87 0 (by omega) (by omega)).mpr h)
                          refine lv_lload hx hb dX12_laysWays_61 (lv_at hl 1 rfl) ?_
                          refine lv_aload_n hx hb dX12_laysWays_63 rfl (lv_at hl 5 rfl) ?_
                          refine sk_get (v := .ref (g 43)) (C := RX12) (T := TX12) (N := 92) hx hb hts inlX12 hown hK hP 3 rfl rfl 43 (by decide) w_5_198 rfl dX12_laysWays_64 ?_
                          refine lv_bipush (v := 10) hx hb dX12_laysWays_67 (by decide) ?_
                          refine lv_iload_n hx hb dX12_laysWays_69 rfl (lv_at hl 3 rfl) ?_
                          refine lv_iconst (v := 1) hx hb dX12_laysWays_70 (by decide) ?_
                          refine lv_iadd hx hb dX12_laysWays_71 ?_
                          refine sk_top (nI (dd - 1 + 1)) (nI_add (dd - 1) 1) ?_
                          refine lv_imul hx hb dX12_laysWays_72 ?_
                          refine sk_top (nI (10 * (dd - 1 + 1))) (nmul 10 (dd - 1 + 1)) ?_
                          refine lv_iload hx hb dX12_laysWays_73 (lv_at hl 0 rfl) ?_
                          refine lv_iadd hx hb dX12_laysWays_75 ?_
                          refine sk_top (nI (10 * (dd - 1 + 1) + kk)) (nI_add (10 * (dd - 1 + 1)) kk) ?_
                          refine va_lald hx hb hK.1 hP 0 1 rfl rfl (vin (10 * (dd - 1 + 1) + kk) 90 (by omega) (by omega)) dX12_laysWays_76 ?_
                          refine lv_topl (fun v_91 ev_91 => ?_)
                          refine lv_ladd hx hb dX12_laysWays_77 ?_
                          refine lv_topl (fun v_92 ev_92 => ?_)
                          refine lv_lstore (lv' := [(4, .long v_92), (6, .int (nI kk)), (3, .int (nI jm)), (2, .int (nI (dd - 1))), (1, .int (nI dm - 1)), (0, .ref mm)]) hx hb dX12_laysWays_78 hl (by decide) rfl (fun ls hl => ?_)
                          refine lv_iinc (v := nI (kk + 1)) (lv' := [(6, .int (nI (kk + 1))), (4, .long v_92), (3, .int (nI jm)), (2, .int (nI (dd - 1))), (1, .int (nI dm - 1)), (0, .ref mm)]) hx hb dX12_laysWays_80 hl (k := 1) rfl (ninc kk 1 (by decide)) (by decide) rfl (fun ls hl => ?_)
                          refine lv_goto (tgt := 36) hx hb dX12_laysWays_83 (by decide) ?_
                          have hP := hP.sub (ws' := [(g 31, .inl (cI, 120, .inl nw)), (g 38, .inl (cI, 90, .inl ws_)), (g 53, .inl (cI, 32, .inl rw_)), (g 37, .inl (cZ, 900, .inl yo)), (g 36, .inl (cZ, 900, .inl yw)), (g 43, .inl (cJ, 90, .inr (.inl zc))), (g 44, .inl (cJ, 90, .inr (.inl bf))), (mm, .inr (12, mo g (nI ta) (nI pa) (nI pe) pd (nI pb) pp pf pg pn rt rn (nI cd) sn (nI il) tk am at_ aa mt_ (nI bh) wd wt wy (nI it_) (nI rm) (nI ud) (nI nu) sd (nI qn) (nI qw) qo (nI qb) (nI qp) qa (nI qi) (nI oc))), (g 20, .inl (cI, 4, .inl (l4 (nI l0) (nI l1) (nI dm) (nI l3))))]) [4, 5, 6, 7, 8, 0, 1, 3, 2] rfl
                          have hD := hD.sub (ws' := [(g 31, .inl (cI, 120, .inl nw)), (g 38, .inl (cI, 90, .inl ws_)), (g 53, .inl (cI, 32, .inl rw_)), (g 37, .inl (cZ, 900, .inl yo)), (g 36, .inl (cZ, 900, .inl yw)), (g 43, .inl (cJ, 90, .inr (.inl zc))), (g 44, .inl (cJ, 90, .inr (.inl bf))), (mm, .inr (12, mo g (nI ta) (nI pa) (nI pe) pd (nI pb) pp pf pg pn rt rn (nI cd) sn (nI il) tk am at_ aa mt_ (nI bh) wd wt wy (nI it_) (nI rm) (nI ud) (nI nu) sd (nI qn) (nI qw) qo (nI qb) (nI qp) qa (nI qi) (nI oc))), (g 20, .inl (cI, 4, .inl (l4 (nI l0) (nI l1) (nI dm) (nI l3))))]) [4, 5, 6, 7, 8, 0, 1, 3, 2] (by decide +kernel) rfl
                          exact ih_lp_81 (kk + 1) v_92 _ _ _ (by omega) (by omega) hP hD hS (lv_sub hl [0, 1, 2, 3, 4, 5] rfl)
                exact lp_81 (10 - 0 + 1) 0 1 _ _ _ (Nat.lt_succ_self _) (by omega) hP hD hS (lv_sub hl [0, 1, 2, 3, 4, 5] rfl)
        exact lp_65 (10 - 0 + 1) 0 zb _ _ _ (Nat.lt_succ_self _) (by omega) hP hD hS (lv_sub hl [0, 1, 2, 3] rfl)
  exact lp_2 (dm + 1) dm be _ _ _ (Nat.lt_succ_self _) (by omega) hP hD hS (lv_sub hl [0, 1, 2] rfl)
theorem dX12_laysByWord_0 : decode cX12_laysByWord 0 = .ok (.aload_n 0, 1) := by decide +kernel
theorem dX12_laysByWord_1 : decode cX12_laysByWord 1 = .ok (.iconst 0, 1) := by decide +kernel
theorem dX12_laysByWord_2 : decode cX12_laysByWord 2 = .ok (.invokevirtual 385, 3) := by decide +kernel
theorem dX12_laysByWord_5 : decode cX12_laysByWord 5 = .ok (.aload_n 0, 1) := by decide +kernel
theorem dX12_laysByWord_6 : decode cX12_laysByWord 6 = .ok (.iload_n 1, 1) := by decide +kernel
theorem dX12_laysByWord_7 : decode cX12_laysByWord 7 = .ok (.putfield 79, 3) := by decide +kernel
theorem dX12_laysByWord_10 : decode cX12_laysByWord 10 = .ok (.aload_n 0, 1) := by decide +kernel
theorem dX12_laysByWord_11 : decode cX12_laysByWord 11 = .ok (.iload_n 2, 1) := by decide +kernel
theorem dX12_laysByWord_12 : decode cX12_laysByWord 12 = .ok (.putfield 365, 3) := by decide +kernel
theorem dX12_laysByWord_15 : decode cX12_laysByWord 15 = .ok (.aload_n 0, 1) := by decide +kernel
theorem dX12_laysByWord_16 : decode cX12_laysByWord 16 = .ok (.invokevirtual 388, 3) := by decide +kernel
theorem dX12_laysByWord_19 : decode cX12_laysByWord 19 = .ok (.aload_n 0, 1) := by decide +kernel
theorem dX12_laysByWord_20 : decode cX12_laysByWord 20 = .ok (.iconst (-1), 1) := by decide +kernel
theorem dX12_laysByWord_21 : decode cX12_laysByWord 21 = .ok (.putfield 79, 3) := by decide +kernel
theorem dX12_laysByWord_24 : decode cX12_laysByWord 24 = .ok (.return_, 1) := by decide +kernel
theorem w_8_84 : (Cond.code yX12_laysByWord cX12_laysByWord 3 none) ∈ wsL_law := sk_mem (ck_8 _ (List.mem_of_getElem? (i := 84) rfl)) rfl
set_option maxHeartbeats 4000000 in
set_option maxRecDepth 100000 in
theorem c_m_laysByWord (l : Launch) (D : va_G) (cI cJ cC cZ cS : ClassId) (mm : Nat) (g : Nat → Nat) (ta : Nat) (pa : Nat) (pe : Nat) (pd : Int32) (pb : Nat) (pp : Int32) (pf : Int32) (pg : Int32) (pn : Int32) (rt : Int32) (rn : Int32) (cd : Nat) (sn : Int32) (il : Nat) (tk : Int32) (am : Int32) (at_ : Int32) (aa : Int32) (wt : Int32) (wy : Int64) (rm : Nat) (ud : Nat) (nu : Nat) (sd : Int64) (qn : Nat) (qw : Nat) (qo : Int32) (qb : Nat) (qp : Nat) (qa : Int64) (qi : Nat) (oc : Nat) (d : Int32) (w : Int32) (u0 : Int32) (u1 : Int32) (u2 : Int32) (u3 : Int32) (u4 : Int32) (u5 : Int32) (v0 : Int32) (v1 : Int32) (v2 : Int32) (v3 : Int32) (v4 : Int32) (v5 : Int32) (cs : Nat → Nat) (nw : Nat → Int32) (pt : Nat → Nat) (ql : Nat → Int64) (l0 : Nat) (l1 : Nat) (dm : Nat) (l3 : Nat) (ws_ : Nat → Int32) (yw : Nat → Int32) (yo : Nat → Int32) (be : Nat → Int64) (bf : Nat → Int64) (rw_ : Nat → Int32) (hdm : dm ≤ 9) (hdm1 : 1 ≤ dm) (hp0 : progOk cs u3 v3) (hp1 : progOk cs u4 v4) (hp2 : progOk cs u5 v5) (hrm : rm ≤ 16) (hcs : ∀ j, cs j ≤ 20000) (hnw : nowOk nw) (hpt : ∀ j, pt j ≤ 9) : skM l yX12_laysByWord cX12_laysByWord 3 none 5 122 0 0 D (skT cI cJ cC cZ cS) [.ref mm, .int d, .int w] [(mm, .inr (12, mo g (nI ta) (nI pa) (nI pe) pd (nI pb) pp pf pg pn rt rn (nI cd) sn (nI il) tk am at_ aa 0 0 (-1) wt wy 0 (nI rm) (nI ud) (nI nu) sd (nI qn) (nI qw) qo (nI qb) (nI qp) qa (nI qi) (nI oc))), (g 24, .inl (cI, 6, .inl (l6 u0 u1 u2 u3 u4 u5))), (g 25, .inl (cI, 6, .inl (l6 v0 v1 v2 v3 v4 v5))), (g 26, .inl (cI, 3200, .inl (fun j => nI (cs j)))), (g 31, .inl (cI, 120, .inl nw)), (g 46, .inl (cI, 9, .inl (fun j => nI (pt j)))), (g 86, .inl (cJ, 1700, .inr (.inl ql))), (g 20, .inl (cI, 4, .inl (l4 (nI l0) (nI l1) (nI dm) (nI l3)))), (g 38, .inl (cI, 90, .inl ws_)), (g 36, .inl (cZ, 900, .inl yw)), (g 37, .inl (cZ, 900, .inl yo)), (g 43, .inl (cJ, 90, .inr (.inl be))), (g 44, .inl (cJ, 90, .inr (.inl bf))), (g 53, .inl (cI, 32, .inl rw_))] (skV D (skT cI cJ cC cZ cS) (fun (u : va_W) => ∃ (tk2 : Int32), ∃ (qp2 : Nat), ∃ (am2 : Int32), ∃ (at_2 : Int32), ∃ (aa2 : Int32), ∃ (wy2 : Int64), ∃ (wt2 : Int32), ∃ (ql2 : Nat → Int64), ∃ (ws_2 : Nat → Int32), ∃ (yw2 : Nat → Int32), ∃ (yo2 : Nat → Int32), ∃ (be2 : Nat → Int64), ∃ (bf2 : Nat → Int64), u = [(mm, .inr (12, mo g (nI ta) (nI pa) (nI pe) pd (nI pb) pp pf pg pn rt rn (nI cd) sn (nI il) tk2 am2 at_2 aa2 0 0 (-1) wt2 wy2 0 (nI rm) (nI ud) (nI nu) sd (nI qn) (nI qw) qo (nI qb) (nI qp2) qa (nI qi) (nI oc))), (g 24, .inl (cI, 6, .inl (l6 u0 u1 u2 u3 u4 u5))), (g 25, .inl (cI, 6, .inl (l6 v0 v1 v2 v3 v4 v5))), (g 26, .inl (cI, 3200, .inl (fun j => nI (cs j)))), (g 31, .inl (cI, 120, .inl nw)), (g 46, .inl (cI, 9, .inl (fun j => nI (pt j)))), (g 86, .inl (cJ, 1700, .inr (.inl ql2))), (g 20, .inl (cI, 4, .inl (l4 (nI l0) (nI l1) (nI dm) (nI l3)))), (g 38, .inl (cI, 90, .inl ws_2)), (g 36, .inl (cZ, 900, .inl yw2)), (g 37, .inl (cZ, 900, .inl yo2)), (g 43, .inl (cJ, 90, .inr (.inl be2))), (g 44, .inl (cJ, 90, .inr (.inl bf2))), (g 53, .inl (cI, 32, .inl rw_))])) := by
  refine skM_of (by decide +kernel) (Nat.le_of_ble_eq_true rfl) ?_
  intro p e s m below meth c A ls E hP hD hl
  obtain ⟨hx, hb, hr, hml, hlocks, hin, hown, hts, hK, hA⟩ := E
  have hown : s.vm.findClass RX12 = some m.cls := hown
  have hS : va_S A s.heap s.heap [] := va_S.rf
  have hl : lv_has ls 3 [(0, .ref mm), (1, .int d), (2, .int w)] := hl
  refine lv_aload_n hx hb dX12_laysByWord_0 rfl (lv_at hl 0 rfl) ?_
  refine lv_iconst (v := 0) hx hb dX12_laysByWord_1 (by decide) ?_
  refine sk_Vv (q0 := 0) (n := 1) (rest := []) (wr := [(g 43, .inl (cJ, 90, .inr (.inl be))), (g 44, .inl (cJ, 90, .inr (.inl bf))), (g 53, .inl (cI, 32, .inl rw_))]) ⟨hx, hb, hml, hown, hts⟩ hl.1 (c_m_laysDays l D cI cJ cC cZ cS mm g ta pa pe pd pb pp pf pg pn rt rn cd sn il tk am at_ aa 0 0 (-1) wt wy 0 rm ud nu sd qn qw qo qb qp qa qi oc 0 u0 u1 u2 u3 u4 u5 v0 v1 v2 v3 v4 v5 cs nw pt ql l0 l1 dm l3 ws_ yw yo (by omega) hp0 hp1 hp2 hcs hnw hpt) w_7_193 w_7_195 w_0_83 w_1_14 w_7_196 (by decide +kernel) ⟨⟨(Nat.le_of_ble_eq_true rfl), (Nat.le_of_ble_eq_true rfl)⟩, (Nat.le_of_ble_eq_true rfl), (Nat.le_of_ble_eq_true rfl)⟩ hK hP hD hS hA [0, 1, 2, 3, 4, 5, 6, 7, 8, 9, 10] [11, 12, 13] rfl rfl (by decide +kernel) (by decide +kernel) (by decide +kernel) rfl rfl rfl rfl (Nat.le_of_ble_eq_true rfl) dX12_laysByWord_2 (fun u H locs hw hP hD hS => ?_)
  obtain ⟨tk2_1, qp2_2, am2_3, at_2_4, aa2_5, ql2_6, ws_2_7, yw2_8, yo2_9, rfl⟩ := hw
  have hP : va_P D vwCl [(g 43, .inl (cJ, 90, .inr (.inl be))), (g 44, .inl (cJ, 90, .inr (.inl bf))), (g 53, .inl (cI, 32, .inl rw_)), (mm, .inr (12, mo g (nI ta) (nI pa) (nI pe) pd (nI pb) pp pf pg pn rt rn (nI cd) sn (nI il) tk2_1 am2_3 at_2_4 aa2_5 0 0 (-1) wt wy 0 (nI rm) (nI ud) (nI nu) sd (nI qn) (nI qw) qo (nI qb) (nI qp2_2) qa (nI qi) (nI oc))), (g 24, .inl (cI, 6, .inl (l6 u0 u1 u2 u3 u4 u5))), (g 25, .inl (cI, 6, .inl (l6 v0 v1 v2 v3 v4 v5))), (g 26, .inl (cI, 3200, .inl (fun j => nI (cs j)))), (g 31, .inl (cI, 120, .inl nw)), (g 46, .inl (cI, 9, .inl (fun j => nI (pt j)))), (g 86, .inl (cJ, 1700, .inr (.inl ql2_6))), (g 20, .inl (cI, 4, .inl (l4 (nI l0) (nI l1) (nI dm) (nI l3)))), (g 38, .inl (cI, 90, .inl ws_2_7)), (g 36, .inl (cZ, 900, .inl yw2_8)), (g 37, .inl (cZ, 900, .inl yo2_9))] H := hP
  have hD : va_D A [(g 43, .inl (cJ, 90, .inr (.inl be))), (g 44, .inl (cJ, 90, .inr (.inl bf))), (g 53, .inl (cI, 32, .inl rw_)), (mm, .inr (12, mo g (nI ta) (nI pa) (nI pe) pd (nI pb) pp pf pg pn rt rn (nI cd) sn (nI il) tk2_1 am2_3 at_2_4 aa2_5 0 0 (-1) wt wy 0 (nI rm) (nI ud) (nI nu) sd (nI qn) (nI qw) qo (nI qb) (nI qp2_2) qa (nI qi) (nI oc))), (g 24, .inl (cI, 6, .inl (l6 u0 u1 u2 u3 u4 u5))), (g 25, .inl (cI, 6, .inl (l6 v0 v1 v2 v3 v4 v5))), (g 26, .inl (cI, 3200, .inl (fun j => nI (cs j)))), (g 31, .inl (cI, 120, .inl nw)), (g 46, .inl (cI, 9, .inl (fun j => nI (pt j)))), (g 86, .inl (cJ, 1700, .inr (.inl ql2_6))), (g 20, .inl (cI, 4, .inl (l4 (nI l0) (nI l1) (nI dm) (nI l3)))), (g 38, .inl (cI, 90, .inl ws_2_7)), (g 36, .inl (cZ, 900, .inl yw2_8)), (g 37, .inl (cZ, 900, .inl yo2_9))] := hD
  refine lv_aload_n hx hb dX12_laysByWord_5 rfl (lv_at hl 0 rfl) ?_
  refine lv_iload_n hx hb dX12_laysByWord_6 rfl (lv_at hl 1 rfl) ?_
  refine sk_put (ws' := [(g 43, .inl (cJ, 90, .inr (.inl be))), (g 44, .inl (cJ, 90, .inr (.inl bf))), (g 53, .inl (cI, 32, .inl rw_)), (mm, .inr (12, mo g (nI ta) (nI pa) (nI pe) pd (nI pb) pp pf pg pn rt rn (nI cd) sn (nI il) tk2_1 am2_3 at_2_4 aa2_5 0 0 d wt wy 0 (nI rm) (nI ud) (nI nu) sd (nI qn) (nI qw) qo (nI qb) (nI qp2_2) qa (nI qi) (nI oc))), (g 24, .inl (cI, 6, .inl (l6 u0 u1 u2 u3 u4 u5))), (g 25, .inl (cI, 6, .inl (l6 v0 v1 v2 v3 v4 v5))), (g 26, .inl (cI, 3200, .inl (fun j => nI (cs j)))), (g 31, .inl (cI, 120, .inl nw)), (g 46, .inl (cI, 9, .inl (fun j => nI (pt j)))), (g 86, .inl (cJ, 1700, .inr (.inl ql2_6))), (g 20, .inl (cI, 4, .inl (l4 (nI l0) (nI l1) (nI dm) (nI l3)))), (g 38, .inl (cI, 90, .inl ws_2_7)), (g 36, .inl (cZ, 900, .inl yw2_8)), (g 37, .inl (cZ, 900, .inl yo2_9))]) (C := RX12) (T := TX12) (N := 92) (v := .int d) hx hb hts inlX12 tyX12 tyX12_ok nmX12 hown hK hP hD hS 3 rfl rfl 41 (by decide) w_5_196 rfl rfl rfl (Nat.le_of_ble_eq_true rfl) rfl dX12_laysByWord_7 (fun H locs hP hD hS => ?_)
  refine lv_aload_n hx hb dX12_laysByWord_10 rfl (lv_at hl 0 rfl) ?_
  refine lv_iload_n hx hb dX12_laysByWord_11 rfl (lv_at hl 2 rfl) ?_
  refine sk_put (ws' := [(g 43, .inl (cJ, 90, .inr (.inl be))), (g 44, .inl (cJ, 90, .inr (.inl bf))), (g 53, .inl (cI, 32, .inl rw_)), (mm, .inr (12, mo g (nI ta) (nI pa) (nI pe) pd (nI pb) pp pf pg pn rt rn (nI cd) sn (nI il) tk2_1 am2_3 at_2_4 aa2_5 0 0 d w wy 0 (nI rm) (nI ud) (nI nu) sd (nI qn) (nI qw) qo (nI qb) (nI qp2_2) qa (nI qi) (nI oc))), (g 24, .inl (cI, 6, .inl (l6 u0 u1 u2 u3 u4 u5))), (g 25, .inl (cI, 6, .inl (l6 v0 v1 v2 v3 v4 v5))), (g 26, .inl (cI, 3200, .inl (fun j => nI (cs j)))), (g 31, .inl (cI, 120, .inl nw)), (g 46, .inl (cI, 9, .inl (fun j => nI (pt j)))), (g 86, .inl (cJ, 1700, .inr (.inl ql2_6))), (g 20, .inl (cI, 4, .inl (l4 (nI l0) (nI l1) (nI dm) (nI l3)))), (g 38, .inl (cI, 90, .inl ws_2_7)), (g 36, .inl (cZ, 900, .inl yw2_8)), (g 37, .inl (cZ, 900, .inl yo2_9))]) (C := RX12) (T := TX12) (N := 92) (v := .int w) hx hb hts inlX12 tyX12 tyX12_ok nmX12 hown hK hP hD hS 3 rfl rfl 42 (by decide) w_5_197 rfl rfl rfl (Nat.le_of_ble_eq_true rfl) rfl dX12_laysByWord_12 (fun H locs hP hD hS => ?_)
  refine lv_aload_n hx hb dX12_laysByWord_15 rfl (lv_at hl 0 rfl) ?_
  refine sk_Vv (q0 := 0) (n := 0) (rest := []) (wr := [(g 24, .inl (cI, 6, .inl (l6 u0 u1 u2 u3 u4 u5))), (g 25, .inl (cI, 6, .inl (l6 v0 v1 v2 v3 v4 v5))), (g 26, .inl (cI, 3200, .inl (fun j => nI (cs j)))), (g 46, .inl (cI, 9, .inl (fun j => nI (pt j)))), (g 86, .inl (cJ, 1700, .inr (.inl ql2_6)))]) ⟨hx, hb, hml, hown, hts⟩ hl.1 (c_m_laysWaysS l D cI cJ cC cZ cS mm g ta pa pe pd pb pp pf pg pn rt rn cd sn il tk2_1 am2_3 at_2_4 aa2_5 0 0 d w wy 0 rm ud nu sd qn qw qo qb qp2_2 qa qi oc l0 l1 dm l3 nw ws_2_7 rw_ yo2_9 yw2_8 be bf (by omega) (by omega) (by omega) (by omega) hnw) w_7_197 w_7_199 w_0_84 w_1_14 w_7_200 (by decide +kernel) ⟨⟨(Nat.le_of_ble_eq_true rfl), (Nat.le_of_ble_eq_true rfl)⟩, (Nat.le_of_ble_eq_true rfl), (Nat.le_of_ble_eq_true rfl)⟩ hK hP hD hS hA [3, 10, 7, 11, 2, 13, 12, 0, 1] [4, 5, 6, 8, 9] rfl rfl (by decide +kernel) (by decide +kernel) (by decide +kernel) rfl rfl rfl rfl (Nat.le_of_ble_eq_true rfl) dX12_laysByWord_16 (fun u H locs hw hP hD hS => ?_)
  obtain ⟨wy2_10, be2_11, bf2_12, rfl⟩ := hw
  have hP : va_P D vwCl [(g 24, .inl (cI, 6, .inl (l6 u0 u1 u2 u3 u4 u5))), (g 25, .inl (cI, 6, .inl (l6 v0 v1 v2 v3 v4 v5))), (g 26, .inl (cI, 3200, .inl (fun j => nI (cs j)))), (g 46, .inl (cI, 9, .inl (fun j => nI (pt j)))), (g 86, .inl (cJ, 1700, .inr (.inl ql2_6))), (mm, .inr (12, mo g (nI ta) (nI pa) (nI pe) pd (nI pb) pp pf pg pn rt rn (nI cd) sn (nI il) tk2_1 am2_3 at_2_4 aa2_5 0 0 d w wy2_10 0 (nI rm) (nI ud) (nI nu) sd (nI qn) (nI qw) qo (nI qb) (nI qp2_2) qa (nI qi) (nI oc))), (g 20, .inl (cI, 4, .inl (l4 (nI l0) (nI l1) (nI dm) (nI l3)))), (g 31, .inl (cI, 120, .inl nw)), (g 38, .inl (cI, 90, .inl ws_2_7)), (g 53, .inl (cI, 32, .inl rw_)), (g 37, .inl (cZ, 900, .inl yo2_9)), (g 36, .inl (cZ, 900, .inl yw2_8)), (g 43, .inl (cJ, 90, .inr (.inl be2_11))), (g 44, .inl (cJ, 90, .inr (.inl bf2_12)))] H := hP
  have hD : va_D A [(g 24, .inl (cI, 6, .inl (l6 u0 u1 u2 u3 u4 u5))), (g 25, .inl (cI, 6, .inl (l6 v0 v1 v2 v3 v4 v5))), (g 26, .inl (cI, 3200, .inl (fun j => nI (cs j)))), (g 46, .inl (cI, 9, .inl (fun j => nI (pt j)))), (g 86, .inl (cJ, 1700, .inr (.inl ql2_6))), (mm, .inr (12, mo g (nI ta) (nI pa) (nI pe) pd (nI pb) pp pf pg pn rt rn (nI cd) sn (nI il) tk2_1 am2_3 at_2_4 aa2_5 0 0 d w wy2_10 0 (nI rm) (nI ud) (nI nu) sd (nI qn) (nI qw) qo (nI qb) (nI qp2_2) qa (nI qi) (nI oc))), (g 20, .inl (cI, 4, .inl (l4 (nI l0) (nI l1) (nI dm) (nI l3)))), (g 31, .inl (cI, 120, .inl nw)), (g 38, .inl (cI, 90, .inl ws_2_7)), (g 53, .inl (cI, 32, .inl rw_)), (g 37, .inl (cZ, 900, .inl yo2_9)), (g 36, .inl (cZ, 900, .inl yw2_8)), (g 43, .inl (cJ, 90, .inr (.inl be2_11))), (g 44, .inl (cJ, 90, .inr (.inl bf2_12)))] := hD
  refine lv_aload_n hx hb dX12_laysByWord_19 rfl (lv_at hl 0 rfl) ?_
  refine lv_iconst (v := (-1)) hx hb dX12_laysByWord_20 (by decide) ?_
  refine sk_put (ws' := [(g 24, .inl (cI, 6, .inl (l6 u0 u1 u2 u3 u4 u5))), (g 25, .inl (cI, 6, .inl (l6 v0 v1 v2 v3 v4 v5))), (g 26, .inl (cI, 3200, .inl (fun j => nI (cs j)))), (g 46, .inl (cI, 9, .inl (fun j => nI (pt j)))), (g 86, .inl (cJ, 1700, .inr (.inl ql2_6))), (mm, .inr (12, mo g (nI ta) (nI pa) (nI pe) pd (nI pb) pp pf pg pn rt rn (nI cd) sn (nI il) tk2_1 am2_3 at_2_4 aa2_5 0 0 (-1) w wy2_10 0 (nI rm) (nI ud) (nI nu) sd (nI qn) (nI qw) qo (nI qb) (nI qp2_2) qa (nI qi) (nI oc))), (g 20, .inl (cI, 4, .inl (l4 (nI l0) (nI l1) (nI dm) (nI l3)))), (g 31, .inl (cI, 120, .inl nw)), (g 38, .inl (cI, 90, .inl ws_2_7)), (g 53, .inl (cI, 32, .inl rw_)), (g 37, .inl (cZ, 900, .inl yo2_9)), (g 36, .inl (cZ, 900, .inl yw2_8)), (g 43, .inl (cJ, 90, .inr (.inl be2_11))), (g 44, .inl (cJ, 90, .inr (.inl bf2_12)))]) (C := RX12) (T := TX12) (N := 92) (v := .int (-1)) hx hb hts inlX12 tyX12 tyX12_ok nmX12 hown hK hP hD hS 5 rfl rfl 41 (by decide) w_5_196 rfl rfl rfl (Nat.le_of_ble_eq_true rfl) rfl dX12_laysByWord_21 (fun H locs hP hD hS => ?_)
  have hP := hP.sub (ws' := [(mm, .inr (12, mo g (nI ta) (nI pa) (nI pe) pd (nI pb) pp pf pg pn rt rn (nI cd) sn (nI il) tk2_1 am2_3 at_2_4 aa2_5 0 0 (-1) w wy2_10 0 (nI rm) (nI ud) (nI nu) sd (nI qn) (nI qw) qo (nI qb) (nI qp2_2) qa (nI qi) (nI oc))), (g 24, .inl (cI, 6, .inl (l6 u0 u1 u2 u3 u4 u5))), (g 25, .inl (cI, 6, .inl (l6 v0 v1 v2 v3 v4 v5))), (g 26, .inl (cI, 3200, .inl (fun j => nI (cs j)))), (g 31, .inl (cI, 120, .inl nw)), (g 46, .inl (cI, 9, .inl (fun j => nI (pt j)))), (g 86, .inl (cJ, 1700, .inr (.inl ql2_6))), (g 20, .inl (cI, 4, .inl (l4 (nI l0) (nI l1) (nI dm) (nI l3)))), (g 38, .inl (cI, 90, .inl ws_2_7)), (g 36, .inl (cZ, 900, .inl yw2_8)), (g 37, .inl (cZ, 900, .inl yo2_9)), (g 43, .inl (cJ, 90, .inr (.inl be2_11))), (g 44, .inl (cJ, 90, .inr (.inl bf2_12))), (g 53, .inl (cI, 32, .inl rw_))]) [5, 0, 1, 2, 7, 3, 4, 6, 8, 11, 10, 12, 13, 9] rfl
  have hD := hD.sub (ws' := [(mm, .inr (12, mo g (nI ta) (nI pa) (nI pe) pd (nI pb) pp pf pg pn rt rn (nI cd) sn (nI il) tk2_1 am2_3 at_2_4 aa2_5 0 0 (-1) w wy2_10 0 (nI rm) (nI ud) (nI nu) sd (nI qn) (nI qw) qo (nI qb) (nI qp2_2) qa (nI qi) (nI oc))), (g 24, .inl (cI, 6, .inl (l6 u0 u1 u2 u3 u4 u5))), (g 25, .inl (cI, 6, .inl (l6 v0 v1 v2 v3 v4 v5))), (g 26, .inl (cI, 3200, .inl (fun j => nI (cs j)))), (g 31, .inl (cI, 120, .inl nw)), (g 46, .inl (cI, 9, .inl (fun j => nI (pt j)))), (g 86, .inl (cJ, 1700, .inr (.inl ql2_6))), (g 20, .inl (cI, 4, .inl (l4 (nI l0) (nI l1) (nI dm) (nI l3)))), (g 38, .inl (cI, 90, .inl ws_2_7)), (g 36, .inl (cZ, 900, .inl yw2_8)), (g 37, .inl (cZ, 900, .inl yo2_9)), (g 43, .inl (cJ, 90, .inr (.inl be2_11))), (g 44, .inl (cJ, 90, .inr (.inl bf2_12))), (g 53, .inl (cI, 32, .inl rw_))]) [5, 0, 1, 2, 7, 3, 4, 6, 8, 11, 10, 12, 13, 9] (by decide +kernel) rfl
  exact sk_vret hx hb hr hlocks hK hP hD hS (⟨tk2_1, qp2_2, am2_3, at_2_4, aa2_5, wy2_10, w, ql2_6, ws_2_7, yw2_8, yo2_9, be2_11, bf2_12, rfl⟩) (Nat.le_of_ble_eq_true rfl) (Nat.le_of_ble_eq_true rfl) dX12_laysByWord_24
theorem dX12_laysHeard_0 : decode cX12_laysHeard 0 = .ok (.aload_n 0, 1) := by decide +kernel
theorem dX12_laysHeard_1 : decode cX12_laysHeard 1 = .ok (.iconst 0, 1) := by decide +kernel
theorem dX12_laysHeard_2 : decode cX12_laysHeard 2 = .ok (.invokevirtual 385, 3) := by decide +kernel
theorem dX12_laysHeard_5 : decode cX12_laysHeard 5 = .ok (.aload_n 0, 1) := by decide +kernel
theorem dX12_laysHeard_6 : decode cX12_laysHeard 6 = .ok (.iconst 1, 1) := by decide +kernel
theorem dX12_laysHeard_7 : decode cX12_laysHeard 7 = .ok (.putfield 368, 3) := by decide +kernel
theorem dX12_laysHeard_10 : decode cX12_laysHeard 10 = .ok (.aload_n 0, 1) := by decide +kernel
theorem dX12_laysHeard_11 : decode cX12_laysHeard 11 = .ok (.invokevirtual 388, 3) := by decide +kernel
theorem dX12_laysHeard_14 : decode cX12_laysHeard 14 = .ok (.aload_n 0, 1) := by decide +kernel
theorem dX12_laysHeard_15 : decode cX12_laysHeard 15 = .ok (.iconst 0, 1) := by decide +kernel
theorem dX12_laysHeard_16 : decode cX12_laysHeard 16 = .ok (.putfield 368, 3) := by decide +kernel
theorem dX12_laysHeard_19 : decode cX12_laysHeard 19 = .ok (.return_, 1) := by decide +kernel
theorem w_8_108 : (Cond.code yX12_laysHeard cX12_laysHeard 1 none) ∈ wsL_law := sk_mem (ck_8 _ (List.mem_of_getElem? (i := 108) rfl)) rfl
set_option maxHeartbeats 4000000 in
set_option maxRecDepth 100000 in
theorem c_m_laysHeard (l : Launch) (D : va_G) (cI cJ cC cZ cS : ClassId) (mm : Nat) (g : Nat → Nat) (ta : Nat) (pa : Nat) (pe : Nat) (pd : Int32) (pb : Nat) (pp : Int32) (pf : Int32) (pg : Int32) (pn : Int32) (rt : Int32) (rn : Int32) (cd : Nat) (sn : Int32) (il : Nat) (tk : Int32) (am : Int32) (at_ : Int32) (aa : Int32) (wt : Int32) (wy : Int64) (rm : Nat) (ud : Nat) (nu : Nat) (sd : Int64) (qn : Nat) (qw : Nat) (qo : Int32) (qb : Nat) (qp : Nat) (qa : Int64) (qi : Nat) (oc : Nat) (u0 : Int32) (u1 : Int32) (u2 : Int32) (u3 : Int32) (u4 : Int32) (u5 : Int32) (v0 : Int32) (v1 : Int32) (v2 : Int32) (v3 : Int32) (v4 : Int32) (v5 : Int32) (cs : Nat → Nat) (nw : Nat → Int32) (pt : Nat → Nat) (ql : Nat → Int64) (l0 : Nat) (l1 : Nat) (dm : Nat) (l3 : Nat) (ws_ : Nat → Int32) (yw : Nat → Int32) (yo : Nat → Int32) (be : Nat → Int64) (bf : Nat → Int64) (rw_ : Nat → Int32) (hdm : dm ≤ 9) (hdm1 : 1 ≤ dm) (hp0 : progOk cs u3 v3) (hp1 : progOk cs u4 v4) (hp2 : progOk cs u5 v5) (hrm : rm ≤ 16) (hcs : ∀ j, cs j ≤ 20000) (hnw : nowOk nw) (hpt : ∀ j, pt j ≤ 9) : skM l yX12_laysHeard cX12_laysHeard 1 none 5 122 0 0 D (skT cI cJ cC cZ cS) [.ref mm] [(mm, .inr (12, mo g (nI ta) (nI pa) (nI pe) pd (nI pb) pp pf pg pn rt rn (nI cd) sn (nI il) tk am at_ aa 0 0 (-1) wt wy 0 (nI rm) (nI ud) (nI nu) sd (nI qn) (nI qw) qo (nI qb) (nI qp) qa (nI qi) (nI oc))), (g 24, .inl (cI, 6, .inl (l6 u0 u1 u2 u3 u4 u5))), (g 25, .inl (cI, 6, .inl (l6 v0 v1 v2 v3 v4 v5))), (g 26, .inl (cI, 3200, .inl (fun j => nI (cs j)))), (g 31, .inl (cI, 120, .inl nw)), (g 46, .inl (cI, 9, .inl (fun j => nI (pt j)))), (g 86, .inl (cJ, 1700, .inr (.inl ql))), (g 20, .inl (cI, 4, .inl (l4 (nI l0) (nI l1) (nI dm) (nI l3)))), (g 38, .inl (cI, 90, .inl ws_)), (g 36, .inl (cZ, 900, .inl yw)), (g 37, .inl (cZ, 900, .inl yo)), (g 43, .inl (cJ, 90, .inr (.inl be))), (g 44, .inl (cJ, 90, .inr (.inl bf))), (g 53, .inl (cI, 32, .inl rw_))] (skV D (skT cI cJ cC cZ cS) (fun (u : va_W) => ∃ (tk2 : Int32), ∃ (qp2 : Nat), ∃ (am2 : Int32), ∃ (at_2 : Int32), ∃ (aa2 : Int32), ∃ (wy2 : Int64), ∃ (ql2 : Nat → Int64), ∃ (ws_2 : Nat → Int32), ∃ (yw2 : Nat → Int32), ∃ (yo2 : Nat → Int32), ∃ (be2 : Nat → Int64), ∃ (bf2 : Nat → Int64), u = [(mm, .inr (12, mo g (nI ta) (nI pa) (nI pe) pd (nI pb) pp pf pg pn rt rn (nI cd) sn (nI il) tk2 am2 at_2 aa2 0 0 (-1) wt wy2 0 (nI rm) (nI ud) (nI nu) sd (nI qn) (nI qw) qo (nI qb) (nI qp2) qa (nI qi) (nI oc))), (g 24, .inl (cI, 6, .inl (l6 u0 u1 u2 u3 u4 u5))), (g 25, .inl (cI, 6, .inl (l6 v0 v1 v2 v3 v4 v5))), (g 26, .inl (cI, 3200, .inl (fun j => nI (cs j)))), (g 31, .inl (cI, 120, .inl nw)), (g 46, .inl (cI, 9, .inl (fun j => nI (pt j)))), (g 86, .inl (cJ, 1700, .inr (.inl ql2))), (g 20, .inl (cI, 4, .inl (l4 (nI l0) (nI l1) (nI dm) (nI l3)))), (g 38, .inl (cI, 90, .inl ws_2)), (g 36, .inl (cZ, 900, .inl yw2)), (g 37, .inl (cZ, 900, .inl yo2)), (g 43, .inl (cJ, 90, .inr (.inl be2))), (g 44, .inl (cJ, 90, .inr (.inl bf2))), (g 53, .inl (cI, 32, .inl rw_))])) := by
  refine skM_of (by decide +kernel) (Nat.le_of_ble_eq_true rfl) ?_
  intro p e s m below meth c A ls E hP hD hl
  obtain ⟨hx, hb, hr, hml, hlocks, hin, hown, hts, hK, hA⟩ := E
  have hown : s.vm.findClass RX12 = some m.cls := hown
  have hS : va_S A s.heap s.heap [] := va_S.rf
  have hl : lv_has ls 1 [(0, .ref mm)] := hl
  refine lv_aload_n hx hb dX12_laysHeard_0 rfl (lv_at hl 0 rfl) ?_
  refine lv_iconst (v := 0) hx hb dX12_laysHeard_1 (by decide) ?_
  refine sk_Vv (q0 := 0) (n := 1) (rest := []) (wr := [(g 43, .inl (cJ, 90, .inr (.inl be))), (g 44, .inl (cJ, 90, .inr (.inl bf))), (g 53, .inl (cI, 32, .inl rw_))]) ⟨hx, hb, hml, hown, hts⟩ hl.1 (c_m_laysDays l D cI cJ cC cZ cS mm g ta pa pe pd pb pp pf pg pn rt rn cd sn il tk am at_ aa 0 0 (-1) wt wy 0 rm ud nu sd qn qw qo qb qp qa qi oc 0 u0 u1 u2 u3 u4 u5 v0 v1 v2 v3 v4 v5 cs nw pt ql l0 l1 dm l3 ws_ yw yo (by omega) hp0 hp1 hp2 hcs hnw hpt) w_7_193 w_7_195 w_0_83 w_1_14 w_7_196 (by decide +kernel) ⟨⟨(Nat.le_of_ble_eq_true rfl), (Nat.le_of_ble_eq_true rfl)⟩, (Nat.le_of_ble_eq_true rfl), (Nat.le_of_ble_eq_true rfl)⟩ hK hP hD hS hA [0, 1, 2, 3, 4, 5, 6, 7, 8, 9, 10] [11, 12, 13] rfl rfl (by decide +kernel) (by decide +kernel) (by decide +kernel) rfl rfl rfl rfl (Nat.le_of_ble_eq_true rfl) dX12_laysHeard_2 (fun u H locs hw hP hD hS => ?_)
  obtain ⟨tk2_1, qp2_2, am2_3, at_2_4, aa2_5, ql2_6, ws_2_7, yw2_8, yo2_9, rfl⟩ := hw
  have hP : va_P D vwCl [(g 43, .inl (cJ, 90, .inr (.inl be))), (g 44, .inl (cJ, 90, .inr (.inl bf))), (g 53, .inl (cI, 32, .inl rw_)), (mm, .inr (12, mo g (nI ta) (nI pa) (nI pe) pd (nI pb) pp pf pg pn rt rn (nI cd) sn (nI il) tk2_1 am2_3 at_2_4 aa2_5 0 0 (-1) wt wy 0 (nI rm) (nI ud) (nI nu) sd (nI qn) (nI qw) qo (nI qb) (nI qp2_2) qa (nI qi) (nI oc))), (g 24, .inl (cI, 6, .inl (l6 u0 u1 u2 u3 u4 u5))), (g 25, .inl (cI, 6, .inl (l6 v0 v1 v2 v3 v4 v5))), (g 26, .inl (cI, 3200, .inl (fun j => nI (cs j)))), (g 31, .inl (cI, 120, .inl nw)), (g 46, .inl (cI, 9, .inl (fun j => nI (pt j)))), (g 86, .inl (cJ, 1700, .inr (.inl ql2_6))), (g 20, .inl (cI, 4, .inl (l4 (nI l0) (nI l1) (nI dm) (nI l3)))), (g 38, .inl (cI, 90, .inl ws_2_7)), (g 36, .inl (cZ, 900, .inl yw2_8)), (g 37, .inl (cZ, 900, .inl yo2_9))] H := hP
  have hD : va_D A [(g 43, .inl (cJ, 90, .inr (.inl be))), (g 44, .inl (cJ, 90, .inr (.inl bf))), (g 53, .inl (cI, 32, .inl rw_)), (mm, .inr (12, mo g (nI ta) (nI pa) (nI pe) pd (nI pb) pp pf pg pn rt rn (nI cd) sn (nI il) tk2_1 am2_3 at_2_4 aa2_5 0 0 (-1) wt wy 0 (nI rm) (nI ud) (nI nu) sd (nI qn) (nI qw) qo (nI qb) (nI qp2_2) qa (nI qi) (nI oc))), (g 24, .inl (cI, 6, .inl (l6 u0 u1 u2 u3 u4 u5))), (g 25, .inl (cI, 6, .inl (l6 v0 v1 v2 v3 v4 v5))), (g 26, .inl (cI, 3200, .inl (fun j => nI (cs j)))), (g 31, .inl (cI, 120, .inl nw)), (g 46, .inl (cI, 9, .inl (fun j => nI (pt j)))), (g 86, .inl (cJ, 1700, .inr (.inl ql2_6))), (g 20, .inl (cI, 4, .inl (l4 (nI l0) (nI l1) (nI dm) (nI l3)))), (g 38, .inl (cI, 90, .inl ws_2_7)), (g 36, .inl (cZ, 900, .inl yw2_8)), (g 37, .inl (cZ, 900, .inl yo2_9))] := hD
  refine lv_aload_n hx hb dX12_laysHeard_5 rfl (lv_at hl 0 rfl) ?_
  refine lv_iconst (v := 1) hx hb dX12_laysHeard_6 (by decide) ?_
  refine sk_put (ws' := [(g 43, .inl (cJ, 90, .inr (.inl be))), (g 44, .inl (cJ, 90, .inr (.inl bf))), (g 53, .inl (cI, 32, .inl rw_)), (mm, .inr (12, mo g (nI ta) (nI pa) (nI pe) pd (nI pb) pp pf pg pn rt rn (nI cd) sn (nI il) tk2_1 am2_3 at_2_4 aa2_5 0 1 (-1) wt wy 0 (nI rm) (nI ud) (nI nu) sd (nI qn) (nI qw) qo (nI qb) (nI qp2_2) qa (nI qi) (nI oc))), (g 24, .inl (cI, 6, .inl (l6 u0 u1 u2 u3 u4 u5))), (g 25, .inl (cI, 6, .inl (l6 v0 v1 v2 v3 v4 v5))), (g 26, .inl (cI, 3200, .inl (fun j => nI (cs j)))), (g 31, .inl (cI, 120, .inl nw)), (g 46, .inl (cI, 9, .inl (fun j => nI (pt j)))), (g 86, .inl (cJ, 1700, .inr (.inl ql2_6))), (g 20, .inl (cI, 4, .inl (l4 (nI l0) (nI l1) (nI dm) (nI l3)))), (g 38, .inl (cI, 90, .inl ws_2_7)), (g 36, .inl (cZ, 900, .inl yw2_8)), (g 37, .inl (cZ, 900, .inl yo2_9))]) (C := RX12) (T := TX12) (N := 92) (v := .int 1) hx hb hts inlX12 tyX12 tyX12_ok nmX12 hown hK hP hD hS 3 rfl rfl 40 (by decide) w_5_195 rfl rfl rfl (Nat.le_of_ble_eq_true rfl) rfl dX12_laysHeard_7 (fun H locs hP hD hS => ?_)
  refine lv_aload_n hx hb dX12_laysHeard_10 rfl (lv_at hl 0 rfl) ?_
  refine sk_Vv (q0 := 0) (n := 0) (rest := []) (wr := [(g 24, .inl (cI, 6, .inl (l6 u0 u1 u2 u3 u4 u5))), (g 25, .inl (cI, 6, .inl (l6 v0 v1 v2 v3 v4 v5))), (g 26, .inl (cI, 3200, .inl (fun j => nI (cs j)))), (g 46, .inl (cI, 9, .inl (fun j => nI (pt j)))), (g 86, .inl (cJ, 1700, .inr (.inl ql2_6)))]) ⟨hx, hb, hml, hown, hts⟩ hl.1 (c_m_laysWaysS l D cI cJ cC cZ cS mm g ta pa pe pd pb pp pf pg pn rt rn cd sn il tk2_1 am2_3 at_2_4 aa2_5 0 1 (-1) wt wy 0 rm ud nu sd qn qw qo qb qp2_2 qa qi oc l0 l1 dm l3 nw ws_2_7 rw_ yo2_9 yw2_8 be bf (by omega) (by omega) (by omega) (by omega) hnw) w_7_197 w_7_199 w_0_84 w_1_14 w_7_200 (by decide +kernel) ⟨⟨(Nat.le_of_ble_eq_true rfl), (Nat.le_of_ble_eq_true rfl)⟩, (Nat.le_of_ble_eq_true rfl), (Nat.le_of_ble_eq_true rfl)⟩ hK hP hD hS hA [3, 10, 7, 11, 2, 13, 12, 0, 1] [4, 5, 6, 8, 9] rfl rfl (by decide +kernel) (by decide +kernel) (by decide +kernel) rfl rfl rfl rfl (Nat.le_of_ble_eq_true rfl) dX12_laysHeard_11 (fun u H locs hw hP hD hS => ?_)
  obtain ⟨wy2_10, be2_11, bf2_12, rfl⟩ := hw
  have hP : va_P D vwCl [(g 24, .inl (cI, 6, .inl (l6 u0 u1 u2 u3 u4 u5))), (g 25, .inl (cI, 6, .inl (l6 v0 v1 v2 v3 v4 v5))), (g 26, .inl (cI, 3200, .inl (fun j => nI (cs j)))), (g 46, .inl (cI, 9, .inl (fun j => nI (pt j)))), (g 86, .inl (cJ, 1700, .inr (.inl ql2_6))), (mm, .inr (12, mo g (nI ta) (nI pa) (nI pe) pd (nI pb) pp pf pg pn rt rn (nI cd) sn (nI il) tk2_1 am2_3 at_2_4 aa2_5 0 1 (-1) wt wy2_10 0 (nI rm) (nI ud) (nI nu) sd (nI qn) (nI qw) qo (nI qb) (nI qp2_2) qa (nI qi) (nI oc))), (g 20, .inl (cI, 4, .inl (l4 (nI l0) (nI l1) (nI dm) (nI l3)))), (g 31, .inl (cI, 120, .inl nw)), (g 38, .inl (cI, 90, .inl ws_2_7)), (g 53, .inl (cI, 32, .inl rw_)), (g 37, .inl (cZ, 900, .inl yo2_9)), (g 36, .inl (cZ, 900, .inl yw2_8)), (g 43, .inl (cJ, 90, .inr (.inl be2_11))), (g 44, .inl (cJ, 90, .inr (.inl bf2_12)))] H := hP
  have hD : va_D A [(g 24, .inl (cI, 6, .inl (l6 u0 u1 u2 u3 u4 u5))), (g 25, .inl (cI, 6, .inl (l6 v0 v1 v2 v3 v4 v5))), (g 26, .inl (cI, 3200, .inl (fun j => nI (cs j)))), (g 46, .inl (cI, 9, .inl (fun j => nI (pt j)))), (g 86, .inl (cJ, 1700, .inr (.inl ql2_6))), (mm, .inr (12, mo g (nI ta) (nI pa) (nI pe) pd (nI pb) pp pf pg pn rt rn (nI cd) sn (nI il) tk2_1 am2_3 at_2_4 aa2_5 0 1 (-1) wt wy2_10 0 (nI rm) (nI ud) (nI nu) sd (nI qn) (nI qw) qo (nI qb) (nI qp2_2) qa (nI qi) (nI oc))), (g 20, .inl (cI, 4, .inl (l4 (nI l0) (nI l1) (nI dm) (nI l3)))), (g 31, .inl (cI, 120, .inl nw)), (g 38, .inl (cI, 90, .inl ws_2_7)), (g 53, .inl (cI, 32, .inl rw_)), (g 37, .inl (cZ, 900, .inl yo2_9)), (g 36, .inl (cZ, 900, .inl yw2_8)), (g 43, .inl (cJ, 90, .inr (.inl be2_11))), (g 44, .inl (cJ, 90, .inr (.inl bf2_12)))] := hD
  refine lv_aload_n hx hb dX12_laysHeard_14 rfl (lv_at hl 0 rfl) ?_
  refine lv_iconst (v := 0) hx hb dX12_laysHeard_15 (by decide) ?_
  refine sk_put (ws' := [(g 24, .inl (cI, 6, .inl (l6 u0 u1 u2 u3 u4 u5))), (g 25, .inl (cI, 6, .inl (l6 v0 v1 v2 v3 v4 v5))), (g 26, .inl (cI, 3200, .inl (fun j => nI (cs j)))), (g 46, .inl (cI, 9, .inl (fun j => nI (pt j)))), (g 86, .inl (cJ, 1700, .inr (.inl ql2_6))), (mm, .inr (12, mo g (nI ta) (nI pa) (nI pe) pd (nI pb) pp pf pg pn rt rn (nI cd) sn (nI il) tk2_1 am2_3 at_2_4 aa2_5 0 0 (-1) wt wy2_10 0 (nI rm) (nI ud) (nI nu) sd (nI qn) (nI qw) qo (nI qb) (nI qp2_2) qa (nI qi) (nI oc))), (g 20, .inl (cI, 4, .inl (l4 (nI l0) (nI l1) (nI dm) (nI l3)))), (g 31, .inl (cI, 120, .inl nw)), (g 38, .inl (cI, 90, .inl ws_2_7)), (g 53, .inl (cI, 32, .inl rw_)), (g 37, .inl (cZ, 900, .inl yo2_9)), (g 36, .inl (cZ, 900, .inl yw2_8)), (g 43, .inl (cJ, 90, .inr (.inl be2_11))), (g 44, .inl (cJ, 90, .inr (.inl bf2_12)))]) (C := RX12) (T := TX12) (N := 92) (v := .int 0) hx hb hts inlX12 tyX12 tyX12_ok nmX12 hown hK hP hD hS 5 rfl rfl 40 (by decide) w_5_195 rfl rfl rfl (Nat.le_of_ble_eq_true rfl) rfl dX12_laysHeard_16 (fun H locs hP hD hS => ?_)
  have hP := hP.sub (ws' := [(mm, .inr (12, mo g (nI ta) (nI pa) (nI pe) pd (nI pb) pp pf pg pn rt rn (nI cd) sn (nI il) tk2_1 am2_3 at_2_4 aa2_5 0 0 (-1) wt wy2_10 0 (nI rm) (nI ud) (nI nu) sd (nI qn) (nI qw) qo (nI qb) (nI qp2_2) qa (nI qi) (nI oc))), (g 24, .inl (cI, 6, .inl (l6 u0 u1 u2 u3 u4 u5))), (g 25, .inl (cI, 6, .inl (l6 v0 v1 v2 v3 v4 v5))), (g 26, .inl (cI, 3200, .inl (fun j => nI (cs j)))), (g 31, .inl (cI, 120, .inl nw)), (g 46, .inl (cI, 9, .inl (fun j => nI (pt j)))), (g 86, .inl (cJ, 1700, .inr (.inl ql2_6))), (g 20, .inl (cI, 4, .inl (l4 (nI l0) (nI l1) (nI dm) (nI l3)))), (g 38, .inl (cI, 90, .inl ws_2_7)), (g 36, .inl (cZ, 900, .inl yw2_8)), (g 37, .inl (cZ, 900, .inl yo2_9)), (g 43, .inl (cJ, 90, .inr (.inl be2_11))), (g 44, .inl (cJ, 90, .inr (.inl bf2_12))), (g 53, .inl (cI, 32, .inl rw_))]) [5, 0, 1, 2, 7, 3, 4, 6, 8, 11, 10, 12, 13, 9] rfl
  have hD := hD.sub (ws' := [(mm, .inr (12, mo g (nI ta) (nI pa) (nI pe) pd (nI pb) pp pf pg pn rt rn (nI cd) sn (nI il) tk2_1 am2_3 at_2_4 aa2_5 0 0 (-1) wt wy2_10 0 (nI rm) (nI ud) (nI nu) sd (nI qn) (nI qw) qo (nI qb) (nI qp2_2) qa (nI qi) (nI oc))), (g 24, .inl (cI, 6, .inl (l6 u0 u1 u2 u3 u4 u5))), (g 25, .inl (cI, 6, .inl (l6 v0 v1 v2 v3 v4 v5))), (g 26, .inl (cI, 3200, .inl (fun j => nI (cs j)))), (g 31, .inl (cI, 120, .inl nw)), (g 46, .inl (cI, 9, .inl (fun j => nI (pt j)))), (g 86, .inl (cJ, 1700, .inr (.inl ql2_6))), (g 20, .inl (cI, 4, .inl (l4 (nI l0) (nI l1) (nI dm) (nI l3)))), (g 38, .inl (cI, 90, .inl ws_2_7)), (g 36, .inl (cZ, 900, .inl yw2_8)), (g 37, .inl (cZ, 900, .inl yo2_9)), (g 43, .inl (cJ, 90, .inr (.inl be2_11))), (g 44, .inl (cJ, 90, .inr (.inl bf2_12))), (g 53, .inl (cI, 32, .inl rw_))]) [5, 0, 1, 2, 7, 3, 4, 6, 8, 11, 10, 12, 13, 9] (by decide +kernel) rfl
  exact sk_vret hx hb hr hlocks hK hP hD hS (⟨tk2_1, qp2_2, am2_3, at_2_4, aa2_5, wy2_10, ql2_6, ws_2_7, yw2_8, yo2_9, be2_11, bf2_12, rfl⟩) (Nat.le_of_ble_eq_true rfl) (Nat.le_of_ble_eq_true rfl) dX12_laysHeard_19
theorem dX12_moodsOf_0 : decode cX12_moodsOf 0 = .ok (.iconst 0, 1) := by decide +kernel
theorem dX12_moodsOf_1 : decode cX12_moodsOf 1 = .ok (.istore_n 2, 1) := by decide +kernel
theorem dX12_moodsOf_2 : decode cX12_moodsOf 2 = .ok (.iconst 0, 1) := by decide +kernel
theorem dX12_moodsOf_3 : decode cX12_moodsOf 3 = .ok (.istore_n 3, 1) := by decide +kernel
theorem dX12_moodsOf_4 : decode cX12_moodsOf 4 = .ok (.iload_n 3, 1) := by decide +kernel
theorem dX12_moodsOf_5 : decode cX12_moodsOf 5 = .ok (.bipush 10, 2) := by decide +kernel
theorem dX12_moodsOf_7 : decode cX12_moodsOf 7 = .ok (.if_icmp .ge 47, 3) := by decide +kernel
theorem dX12_moodsOf_54 : decode cX12_moodsOf 54 = .ok (.iload_n 2, 1) := by decide +kernel
theorem dX12_moodsOf_55 : decode cX12_moodsOf 55 = .ok (.ireturn, 1) := by decide +kernel
theorem dX12_moodsOf_10 : decode cX12_moodsOf 10 = .ok (.aload_n 0, 1) := by decide +kernel
theorem dX12_moodsOf_11 : decode cX12_moodsOf 11 = .ok (.getfield 86, 3) := by decide +kernel
theorem dX12_moodsOf_14 : decode cX12_moodsOf 14 = .ok (.bipush 10, 2) := by decide +kernel
theorem dX12_moodsOf_16 : decode cX12_moodsOf 16 = .ok (.iload_n 1, 1) := by decide +kernel
theorem dX12_moodsOf_17 : decode cX12_moodsOf 17 = .ok (.imul, 1) := by decide +kernel
theorem dX12_moodsOf_18 : decode cX12_moodsOf 18 = .ok (.iload_n 3, 1) := by decide +kernel
theorem dX12_moodsOf_19 : decode cX12_moodsOf 19 = .ok (.iadd, 1) := by decide +kernel
theorem dX12_moodsOf_20 : decode cX12_moodsOf 20 = .ok (.laload, 1) := by decide +kernel
theorem dX12_moodsOf_21 : decode cX12_moodsOf 21 = .ok (.lconst 0, 1) := by decide +kernel
theorem dX12_moodsOf_22 : decode cX12_moodsOf 22 = .ok (.lcmp, 1) := by decide +kernel
theorem dX12_moodsOf_23 : decode cX12_moodsOf 23 = .ok (.ifCond .le 25, 3) := by decide +kernel
theorem dX12_moodsOf_48 : decode cX12_moodsOf 48 = .ok (.iinc 3 1, 3) := by decide +kernel
theorem dX12_moodsOf_51 : decode cX12_moodsOf 51 = .ok (.goto (-47), 3) := by decide +kernel
theorem dX12_moodsOf_26 : decode cX12_moodsOf 26 = .ok (.aload_n 0, 1) := by decide +kernel
theorem dX12_moodsOf_27 : decode cX12_moodsOf 27 = .ok (.getfield 82, 3) := by decide +kernel
theorem dX12_moodsOf_30 : decode cX12_moodsOf 30 = .ok (.bipush 10, 2) := by decide +kernel
theorem dX12_moodsOf_32 : decode cX12_moodsOf 32 = .ok (.iload_n 1, 1) := by decide +kernel
theorem dX12_moodsOf_33 : decode cX12_moodsOf 33 = .ok (.imul, 1) := by decide +kernel
theorem dX12_moodsOf_34 : decode cX12_moodsOf 34 = .ok (.iload_n 3, 1) := by decide +kernel
theorem dX12_moodsOf_35 : decode cX12_moodsOf 35 = .ok (.iadd, 1) := by decide +kernel
theorem dX12_moodsOf_36 : decode cX12_moodsOf 36 = .ok (.laload, 1) := by decide +kernel
theorem dX12_moodsOf_37 : decode cX12_moodsOf 37 = .ok (.lconst 0, 1) := by decide +kernel
theorem dX12_moodsOf_38 : decode cX12_moodsOf 38 = .ok (.lcmp, 1) := by decide +kernel
theorem dX12_moodsOf_39 : decode cX12_moodsOf 39 = .ok (.ifCond .le 9, 3) := by decide +kernel
theorem dX12_moodsOf_42 : decode cX12_moodsOf 42 = .ok (.iload_n 2, 1) := by decide +kernel
theorem dX12_moodsOf_43 : decode cX12_moodsOf 43 = .ok (.iconst 1, 1) := by decide +kernel
theorem dX12_moodsOf_44 : decode cX12_moodsOf 44 = .ok (.iload_n 3, 1) := by decide +kernel
theorem dX12_moodsOf_45 : decode cX12_moodsOf 45 = .ok (.ishl, 1) := by decide +kernel
theorem dX12_moodsOf_46 : decode cX12_moodsOf 46 = .ok (.ior, 1) := by decide +kernel
theorem dX12_moodsOf_47 : decode cX12_moodsOf 47 = .ok (.istore_n 2, 1) := by decide +kernel
theorem w_8_88 : (Cond.code yX12_moodsOf cX12_moodsOf 4 (some .int)) ∈ wsL_law := sk_mem (ck_8 _ (List.mem_of_getElem? (i := 88) rfl)) rfl
set_option maxHeartbeats 4000000 in
set_option maxRecDepth 100000 in
theorem c_m_moodsOf (l : Launch) (D : va_G) (cI cJ cC cZ cS : ClassId) (mm : Nat) (g : Nat → Nat) (ta : Nat) (pa : Nat) (pe : Nat) (pd : Int32) (pb : Nat) (pp : Int32) (pf : Int32) (pg : Int32) (pn : Int32) (rt : Int32) (rn : Int32) (cd : Nat) (sn : Int32) (il : Nat) (tk : Int32) (am : Int32) (at_ : Int32) (aa : Int32) (wt : Int32) (wy : Int64) (rm : Nat) (ud : Nat) (nu : Nat) (sd : Int64) (qn : Nat) (qw : Nat) (qo : Int32) (qb : Nat) (qp : Nat) (qa : Int64) (qi : Nat) (oc : Nat) (d : Nat) (be : Nat → Int64) (bf : Nat → Int64) (hd : d < 9) : skM l yX12_moodsOf cX12_moodsOf 4 (some .int) 0 0 0 0 D (skT cI cJ cC cZ cS) [.ref mm, .int (nI d)] [(mm, .inr (12, mo g (nI ta) (nI pa) (nI pe) pd (nI pb) pp pf pg pn rt rn (nI cd) sn (nI il) tk am at_ aa 0 0 (-1) wt wy 0 (nI rm) (nI ud) (nI nu) sd (nI qn) (nI qw) qo (nI qb) (nI qp) qa (nI qi) (nI oc))), (g 43, .inl (cJ, 90, .inr (.inl be))), (g 44, .inl (cJ, 90, .inr (.inl bf)))] (skI D (skT cI cJ cC cZ cS) (fun (r : Int32) (u : va_W) => u = [(mm, .inr (12, mo g (nI ta) (nI pa) (nI pe) pd (nI pb) pp pf pg pn rt rn (nI cd) sn (nI il) tk am at_ aa 0 0 (-1) wt wy 0 (nI rm) (nI ud) (nI nu) sd (nI qn) (nI qw) qo (nI qb) (nI qp) qa (nI qi) (nI oc))), (g 43, .inl (cJ, 90, .inr (.inl be))), (g 44, .inl (cJ, 90, .inr (.inl bf)))])) := by
  refine skM_of (by decide +kernel) (Nat.le_of_ble_eq_true rfl) ?_
  intro p e s m below meth c A ls E hP hD hl
  obtain ⟨hx, hb, hr, hml, hlocks, hin, hown, hts, hK, hA⟩ := E
  have hown : s.vm.findClass RX12 = some m.cls := hown
  have hS : va_S A s.heap s.heap [] := va_S.rf
  have hl : lv_has ls 4 [(0, .ref mm), (1, .int (nI d))] := hl
  refine lv_iconst (v := 0) hx hb dX12_moodsOf_0 (by decide) ?_
  refine lv_istore_n (lv' := [(2, .int 0), (0, .ref mm), (1, .int (nI d))]) hx hb dX12_moodsOf_1 rfl hl (by decide) rfl (fun ls hl => ?_)
  refine lv_iconst (v := 0) hx hb dX12_moodsOf_2 (by decide) ?_
  refine lv_istore_n (lv' := [(3, .int 0), (2, .int 0), (0, .ref mm), (1, .int (nI d))]) hx hb dX12_moodsOf_3 rfl hl (by decide) rfl (fun ls hl => ?_)
  have lp_1 : ∀ (n_2 : Nat) (i : Nat) (ms : Int32) (H : Heap) (locs : List Loc) (ls : Array Slot), 10 - i < n_2 → (i ≤ 10) → va_P D vwCl [(mm, .inr (12, mo g (nI ta) (nI pa) (nI pe) pd (nI pb) pp pf pg pn rt rn (nI cd) sn (nI il) tk am at_ aa 0 0 (-1) wt wy 0 (nI rm) (nI ud) (nI nu) sd (nI qn) (nI qw) qo (nI qb) (nI qp) qa (nI qi) (nI oc))), (g 43, .inl (cJ, 90, .inr (.inl be))), (g 44, .inl (cJ, 90, .inr (.inl bf)))] H → va_D A [(mm, .inr (12, mo g (nI ta) (nI pa) (nI pe) pd (nI pb) pp pf pg pn rt rn (nI cd) sn (nI il) tk am at_ aa 0 0 (-1) wt wy 0 (nI rm) (nI ud) (nI nu) sd (nI qn) (nI qw) qo (nI qb) (nI qp) qa (nI qi) (nI oc))), (g 43, .inl (cJ, 90, .inr (.inl be))), (g 44, .inl (cJ, 90, .inr (.inl bf)))] → va_S A s.heap H locs → lv_has ls 4 [(3, .int (nI i)), (2, .int ms), (0, .ref mm), (1, .int (nI d))] → W p l e { frames := 0, cells := 0, slots := 0, locals := 0 } s m ([.ref mm, .int (nI d)] : List Value).toArray below meth c H locs 0 0 (MQ below (skI D (skT cI cJ cC cZ cS) (fun (r : Int32) (u : va_W) => u = [(mm, .inr (12, mo g (nI ta) (nI pa) (nI pe) pd (nI pb) pp pf pg pn rt rn (nI cd) sn (nI il) tk am at_ aa 0 0 (-1) wt wy 0 (nI rm) (nI ud) (nI nu) sd (nI qn) (nI qw) qo (nI qb) (nI qp) qa (nI qi) (nI oc))), (g 43, .inl (cJ, 90, .inr (.inl be))), (g 44, .inl (cJ, 90, .inr (.inl bf)))]) A) ([.ref mm, .int (nI d)] : List Value).toArray s 0 0 A) (F0 m 4 ls []) := by
    intro n_2
    induction n_2 with
    | zero => intro i ms H locs ls hm; exact absurd hm (Nat.not_lt_zero _)
    | succ n_2 ih_lp_1 =>
      intro i ms H locs ls hm hi hP hD hS hl
      refine lv_iload_n hx hb dX12_moodsOf_4 rfl (lv_at hl 0 rfl) ?_
      refine lv_bipush (v := 10) hx hb dX12_moodsOf_5 (by decide) ?_
      refine lv_icmp_ge (tgt := 54) hx hb dX12_moodsOf_7 (by decide) (fun c_3 => ?_) (fun c_3 => ?_)
      · have c_3 : 10 ≤ i := (nle 10 i (by omega) (by omega)).mp c_3
        refine lv_iload_n hx hb dX12_moodsOf_54 rfl (lv_at hl 1 rfl) ?_
        exact sk_iret hx hb hr rfl hlocks hK hP hD hS rfl (Nat.le_of_ble_eq_true rfl) (Nat.le_of_ble_eq_true rfl) dX12_moodsOf_55
      · have c_3 : ¬ (10 ≤ i) := fun h => c_3 ((nle 10 i (by omega) (by omega)).mpr h)
        refine lv_aload_n hx hb dX12_moodsOf_10 rfl (lv_at hl 2 rfl) ?_
        refine sk_get (v := .ref (g 44)) (C := RX12) (T := TX12) (N := 92) hx hb hts inlX12 hown hK hP 0 rfl rfl 44 (by decide) w_5_199 rfl dX12_moodsOf_11 ?_
        refine lv_bipush (v := 10) hx hb dX12_moodsOf_14 (by decide) ?_
        refine lv_iload_n hx hb dX12_moodsOf_16 rfl (lv_at hl 3 rfl) ?_
        refine lv_imul hx hb dX12_moodsOf_17 ?_
        refine sk_top (nI (10 * d)) (nmul 10 d) ?_
        refine lv_iload_n hx hb dX12_moodsOf_18 rfl (lv_at hl 0 rfl) ?_
        refine lv_iadd hx hb dX12_moodsOf_19 ?_
        refine sk_top (nI (10 * d + i)) (nI_add (10 * d) i) ?_
        refine va_lald hx hb hK.1 hP 2 1 rfl rfl (vin (10 * d + i) 90 (by omega) (by omega)) dX12_moodsOf_20 ?_
        refine lv_topl (fun v_4 ev_4 => ?_)
        refine lv_lconst (v := 0) hx hb dX12_moodsOf_21 (by decide) ?_
        refine W.lcmp hx hb dX12_moodsOf_22 ?_
        refine lv_if_le (tgt := 48) hx hb dX12_moodsOf_23 (by decide) (fun c_5 => ?_) (fun c_5 => ?_)
        · skip
          refine lv_iinc (v := nI (i + 1)) (lv' := [(3, .int (nI (i + 1))), (2, .int ms), (0, .ref mm), (1, .int (nI d))]) hx hb dX12_moodsOf_48 hl (k := 0) rfl (ninc i 1 (by decide)) (by decide) rfl (fun ls hl => ?_)
          refine lv_goto (tgt := 4) hx hb dX12_moodsOf_51 (by decide) ?_
          exact ih_lp_1 (i + 1) ms _ _ _ (by omega) (by omega) hP hD hS (lv_sub hl [0, 1, 2, 3] rfl)
        · skip
          refine lv_aload_n hx hb dX12_moodsOf_26 rfl (lv_at hl 2 rfl) ?_
          refine sk_get (v := .ref (g 43)) (C := RX12) (T := TX12) (N := 92) hx hb hts inlX12 hown hK hP 0 rfl rfl 43 (by decide) w_5_198 rfl dX12_moodsOf_27 ?_
          refine lv_bipush (v := 10) hx hb dX12_moodsOf_30 (by decide) ?_
          refine lv_iload_n hx hb dX12_moodsOf_32 rfl (lv_at hl 3 rfl) ?_
          refine lv_imul hx hb dX12_moodsOf_33 ?_
          refine sk_top (nI (10 * d)) (nmul 10 d) ?_
          refine lv_iload_n hx hb dX12_moodsOf_34 rfl (lv_at hl 0 rfl) ?_
          refine lv_iadd hx hb dX12_moodsOf_35 ?_
          refine sk_top (nI (10 * d + i)) (nI_add (10 * d) i) ?_
          refine va_lald hx hb hK.1 hP 1 1 rfl rfl (vin (10 * d + i) 90 (by omega) (by omega)) dX12_moodsOf_36 ?_
          refine lv_topl (fun v_6 ev_6 => ?_)
          refine lv_lconst (v := 0) hx hb dX12_moodsOf_37 (by decide) ?_
          refine W.lcmp hx hb dX12_moodsOf_38 ?_
          refine lv_if_le (tgt := 48) hx hb dX12_moodsOf_39 (by decide) (fun c_7 => ?_) (fun c_7 => ?_)
          · skip
            refine lv_iinc (v := nI (i + 1)) (lv' := [(3, .int (nI (i + 1))), (2, .int ms), (0, .ref mm), (1, .int (nI d))]) hx hb dX12_moodsOf_48 hl (k := 0) rfl (ninc i 1 (by decide)) (by decide) rfl (fun ls hl => ?_)
            refine lv_goto (tgt := 4) hx hb dX12_moodsOf_51 (by decide) ?_
            exact ih_lp_1 (i + 1) ms _ _ _ (by omega) (by omega) hP hD hS (lv_sub hl [0, 1, 2, 3] rfl)
          · skip
            refine lv_iload_n hx hb dX12_moodsOf_42 rfl (lv_at hl 1 rfl) ?_
            refine lv_iconst (v := 1) hx hb dX12_moodsOf_43 (by decide) ?_
            refine lv_iload_n hx hb dX12_moodsOf_44 rfl (lv_at hl 0 rfl) ?_
            refine lv_ishl hx hb dX12_moodsOf_45 ?_
            refine lv_topi (fun v_8 ev_8 => ?_)
            refine lv_ior hx hb dX12_moodsOf_46 ?_
            refine lv_topi (fun v_9 ev_9 => ?_)
            refine lv_istore_n (lv' := [(2, .int v_9), (3, .int (nI i)), (0, .ref mm), (1, .int (nI d))]) hx hb dX12_moodsOf_47 rfl hl (by decide) rfl (fun ls hl => ?_)
            refine lv_iinc (v := nI (i + 1)) (lv' := [(3, .int (nI (i + 1))), (2, .int v_9), (0, .ref mm), (1, .int (nI d))]) hx hb dX12_moodsOf_48 hl (k := 1) rfl (ninc i 1 (by decide)) (by decide) rfl (fun ls hl => ?_)
            refine lv_goto (tgt := 4) hx hb dX12_moodsOf_51 (by decide) ?_
            exact ih_lp_1 (i + 1) v_9 _ _ _ (by omega) (by omega) hP hD hS (lv_sub hl [0, 1, 2, 3] rfl)
  exact lp_1 (10 - 0 + 1) 0 0 _ _ _ (Nat.lt_succ_self _) (by omega) hP hD hS (lv_sub hl [0, 1, 2, 3] rfl)
theorem dX12_canBeTold_0 : decode cX12_canBeTold 0 = .ok (.aload_n 0, 1) := by decide +kernel
theorem dX12_canBeTold_1 : decode cX12_canBeTold 1 = .ok (.iload_n 1, 1) := by decide +kernel
theorem dX12_canBeTold_2 : decode cX12_canBeTold 2 = .ok (.invokevirtual 413, 3) := by decide +kernel
theorem dX12_canBeTold_5 : decode cX12_canBeTold 5 = .ok (.ifCond .eq 23, 3) := by decide +kernel
theorem dX12_canBeTold_28 : decode cX12_canBeTold 28 = .ok (.iconst 0, 1) := by decide +kernel
theorem dX12_canBeTold_29 : decode cX12_canBeTold 29 = .ok (.ireturn, 1) := by decide +kernel
theorem dX12_canBeTold_8 : decode cX12_canBeTold 8 = .ok (.aload_n 0, 1) := by decide +kernel
theorem dX12_canBeTold_9 : decode cX12_canBeTold 9 = .ok (.iload_n 1, 1) := by decide +kernel
theorem dX12_canBeTold_10 : decode cX12_canBeTold 10 = .ok (.invokevirtual 359, 3) := by decide +kernel
theorem dX12_canBeTold_13 : decode cX12_canBeTold 13 = .ok (.ifCond .ne 15, 3) := by decide +kernel
theorem dX12_canBeTold_16 : decode cX12_canBeTold 16 = .ok (.aload_n 0, 1) := by decide +kernel
theorem dX12_canBeTold_17 : decode cX12_canBeTold 17 = .ok (.iload_n 2, 1) := by decide +kernel
theorem dX12_canBeTold_18 : decode cX12_canBeTold 18 = .ok (.invokevirtual 418, 3) := by decide +kernel
theorem dX12_canBeTold_21 : decode cX12_canBeTold 21 = .ok (.ifCond .eq 7, 3) := by decide +kernel
theorem dX12_canBeTold_24 : decode cX12_canBeTold 24 = .ok (.iconst 1, 1) := by decide +kernel
theorem dX12_canBeTold_25 : decode cX12_canBeTold 25 = .ok (.goto 4, 3) := by decide +kernel
theorem w_8_80 : (Cond.code yX12_canBeTold cX12_canBeTold 3 (some .boolean)) ∈ wsL_law := sk_mem (ck_8 _ (List.mem_of_getElem? (i := 80) rfl)) rfl
set_option maxHeartbeats 4000000 in
set_option maxRecDepth 100000 in
theorem c_m_canBeTold (l : Launch) (D : va_G) (cI cJ cC cZ cS : ClassId) (mm : Nat) (g : Nat → Nat) (ta : Nat) (pa : Nat) (pe : Nat) (pd : Int32) (pb : Nat) (pp : Int32) (pf : Int32) (pg : Int32) (pn : Int32) (rt : Int32) (rn : Int32) (cd : Nat) (sn : Int32) (il : Nat) (tk : Int32) (am : Int32) (at_ : Int32) (aa : Int32) (wt : Int32) (wy : Int64) (rm : Nat) (ud : Nat) (nu : Nat) (sd : Int64) (qn : Nat) (qw : Nat) (qo : Int32) (qb : Nat) (qp : Nat) (qa : Int64) (qi : Nat) (oc : Nat) (d : Int32) (w : Int32) (l0 : Nat) (l1 : Nat) (dm : Nat) (l3 : Nat) (nw : Nat → Int32) (hdm : dm ≤ 9) (hnw : nowOk nw) : skM l yX12_canBeTold cX12_canBeTold 3 (some .boolean) 2 46 0 0 D (skT cI cJ cC cZ cS) [.ref mm, .int d, .int w] [(mm, .inr (12, mo g (nI ta) (nI pa) (nI pe) pd (nI pb) pp pf pg pn rt rn (nI cd) sn (nI il) tk am at_ aa 0 0 (-1) wt wy 0 (nI rm) (nI ud) (nI nu) sd (nI qn) (nI qw) qo (nI qb) (nI qp) qa (nI qi) (nI oc))), (g 20, .inl (cI, 4, .inl (l4 (nI l0) (nI l1) (nI dm) (nI l3)))), (g 31, .inl (cI, 120, .inl nw))] (skI D (skT cI cJ cC cZ cS) (fun (r : Int32) (u : va_W) => ∃ (b : Nat), (b = 0 ∨ (b = 1 ∧ ∃ kq : Nat, kq < dm ∧ d = nI kq)) ∧ r = nI b ∧ u = [(mm, .inr (12, mo g (nI ta) (nI pa) (nI pe) pd (nI pb) pp pf pg pn rt rn (nI cd) sn (nI il) tk am at_ aa 0 0 (-1) wt wy 0 (nI rm) (nI ud) (nI nu) sd (nI qn) (nI qw) qo (nI qb) (nI qp) qa (nI qi) (nI oc))), (g 20, .inl (cI, 4, .inl (l4 (nI l0) (nI l1) (nI dm) (nI l3)))), (g 31, .inl (cI, 120, .inl nw))])) := by
  refine skM_of (by decide +kernel) (Nat.le_of_ble_eq_true rfl) ?_
  intro p e s m below meth c A ls E hP hD hl
  obtain ⟨hx, hb, hr, hml, hlocks, hin, hown, hts, hK, hA⟩ := E
  have hown : s.vm.findClass RX12 = some m.cls := hown
  have hS : va_S A s.heap s.heap [] := va_S.rf
  have hl : lv_has ls 3 [(0, .ref mm), (1, .int d), (2, .int w)] := hl
  refine lv_aload_n hx hb dX12_canBeTold_0 rfl (lv_at hl 0 rfl) ?_
  refine lv_iload_n hx hb dX12_canBeTold_1 rfl (lv_at hl 1 rfl) ?_
  refine sk_Vi (q0 := 0) (n := 1) (rest := []) (wr := [(g 31, .inl (cI, 120, .inl nw))]) ⟨hx, hb, hml, hown, hts⟩ hl.1 (c_m_isDay l D cI cJ cC cZ cS mm g ta pa pe pd pb pp pf pg pn rt rn cd sn il tk am at_ aa 0 0 (-1) wt wy 0 rm ud nu sd qn qw qo qb qp qa qi oc d l0 l1 dm l3 (by omega)) w_7_117 w_7_119 w_0_72 w_1_14 w_7_120 (by decide +kernel) ⟨⟨(Nat.le_of_ble_eq_true rfl), (Nat.le_of_ble_eq_true rfl)⟩, (Nat.le_of_ble_eq_true rfl), (Nat.le_of_ble_eq_true rfl)⟩ hK hP hD hS hA [0, 1] [2] rfl rfl (by decide +kernel) (by decide +kernel) (by decide +kernel) rfl rfl rfl rfl (Nat.le_of_ble_eq_true rfl) dX12_canBeTold_2 (fun r_2 u H locs hw hP hD hS => ?_)
  obtain ⟨b_1, hb1_3, rfl, rfl⟩ := hw
  have hP : va_P D vwCl [(g 31, .inl (cI, 120, .inl nw)), (mm, .inr (12, mo g (nI ta) (nI pa) (nI pe) pd (nI pb) pp pf pg pn rt rn (nI cd) sn (nI il) tk am at_ aa 0 0 (-1) wt wy 0 (nI rm) (nI ud) (nI nu) sd (nI qn) (nI qw) qo (nI qb) (nI qp) qa (nI qi) (nI oc))), (g 20, .inl (cI, 4, .inl (l4 (nI l0) (nI l1) (nI dm) (nI l3))))] H := hP
  have hD : va_D A [(g 31, .inl (cI, 120, .inl nw)), (mm, .inr (12, mo g (nI ta) (nI pa) (nI pe) pd (nI pb) pp pf pg pn rt rn (nI cd) sn (nI il) tk am at_ aa 0 0 (-1) wt wy 0 (nI rm) (nI ud) (nI nu) sd (nI qn) (nI qw) qo (nI qb) (nI qp) qa (nI qi) (nI oc))), (g 20, .inl (cI, 4, .inl (l4 (nI l0) (nI l1) (nI dm) (nI l3))))] := hD
  refine lv_if_eq (tgt := 28) hx hb dX12_canBeTold_5 (by decide) (fun c_4 => ?_) (fun c_4 => ?_)
  · have c_4 : b_1 = 0 := (neq b_1 0 (by omega) (by omega)).mp c_4
    refine lv_iconst (v := 0) hx hb dX12_canBeTold_28 (by decide) ?_
    have hP := hP.sub (ws' := [(mm, .inr (12, mo g (nI ta) (nI pa) (nI pe) pd (nI pb) pp pf pg pn rt rn (nI cd) sn (nI il) tk am at_ aa 0 0 (-1) wt wy 0 (nI rm) (nI ud) (nI nu) sd (nI qn) (nI qw) qo (nI qb) (nI qp) qa (nI qi) (nI oc))), (g 20, .inl (cI, 4, .inl (l4 (nI l0) (nI l1) (nI dm) (nI l3)))), (g 31, .inl (cI, 120, .inl nw))]) [1, 2, 0] rfl
    have hD := hD.sub (ws' := [(mm, .inr (12, mo g (nI ta) (nI pa) (nI pe) pd (nI pb) pp pf pg pn rt rn (nI cd) sn (nI il) tk am at_ aa 0 0 (-1) wt wy 0 (nI rm) (nI ud) (nI nu) sd (nI qn) (nI qw) qo (nI qb) (nI qp) qa (nI qi) (nI oc))), (g 20, .inl (cI, 4, .inl (l4 (nI l0) (nI l1) (nI dm) (nI l3)))), (g 31, .inl (cI, 120, .inl nw))]) [1, 2, 0] (by decide +kernel) rfl
    exact sk_iret hx hb hr rfl hlocks hK hP hD hS (⟨0, Or.inl rfl, rfl, rfl⟩) (Nat.le_of_ble_eq_true rfl) (Nat.le_of_ble_eq_true rfl) dX12_canBeTold_29
  · have c_4 : ¬ (b_1 = 0) := fun h => c_4 ((neq b_1 0 (by omega) (by omega)).mpr h)
    obtain ⟨kd_5, hkd_5, rfl⟩ := (hb1_3.resolve_left (by omega)).2
    refine lv_aload_n hx hb dX12_canBeTold_8 rfl (lv_at hl 0 rfl) ?_
    refine lv_iload_n hx hb dX12_canBeTold_9 rfl (lv_at hl 1 rfl) ?_
    refine sk_Vi (q0 := 0) (n := 1) (rest := []) (wr := [(g 20, .inl (cI, 4, .inl (l4 (nI l0) (nI l1) (nI dm) (nI l3))))]) ⟨hx, hb, hml, hown, hts⟩ hl.1 (c_m_isMute l D cI cJ cC cZ cS mm g ta pa pe pd pb pp pf pg pn rt rn cd sn il tk am at_ aa 0 0 (-1) wt wy 0 rm ud nu sd qn qw qo qb qp qa qi oc kd_5 nw (by omega) hnw) w_7_106 w_7_108 w_0_71 w_1_14 w_7_109 (by decide +kernel) ⟨⟨(Nat.le_of_ble_eq_true rfl), (Nat.le_of_ble_eq_true rfl)⟩, (Nat.le_of_ble_eq_true rfl), (Nat.le_of_ble_eq_true rfl)⟩ hK hP hD hS hA [1, 0] [2] rfl rfl (by decide +kernel) (by decide +kernel) (by decide +kernel) rfl rfl rfl rfl (Nat.le_of_ble_eq_true rfl) dX12_canBeTold_10 (fun r_7 u H locs hw hP hD hS => ?_)
    obtain ⟨b_6, hb1_8, hb2_9, rfl, rfl⟩ := hw
    have hP : va_P D vwCl [(g 20, .inl (cI, 4, .inl (l4 (nI l0) (nI l1) (nI dm) (nI l3)))), (mm, .inr (12, mo g (nI ta) (nI pa) (nI pe) pd (nI pb) pp pf pg pn rt rn (nI cd) sn (nI il) tk am at_ aa 0 0 (-1) wt wy 0 (nI rm) (nI ud) (nI nu) sd (nI qn) (nI qw) qo (nI qb) (nI qp) qa (nI qi) (nI oc))), (g 31, .inl (cI, 120, .inl nw))] H := hP
    have hD : va_D A [(g 20, .inl (cI, 4, .inl (l4 (nI l0) (nI l1) (nI dm) (nI l3)))), (mm, .inr (12, mo g (nI ta) (nI pa) (nI pe) pd (nI pb) pp pf pg pn rt rn (nI cd) sn (nI il) tk am at_ aa 0 0 (-1) wt wy 0 (nI rm) (nI ud) (nI nu) sd (nI qn) (nI qw) qo (nI qb) (nI qp) qa (nI qi) (nI oc))), (g 31, .inl (cI, 120, .inl nw))] := hD
    refine lv_if_ne (tgt := 28) hx hb dX12_canBeTold_13 (by decide) (fun c_10 => ?_) (fun c_10 => ?_)
    · have c_10 : ¬ (b_6 = 0) := fun h => c_10 ((neq b_6 0 (by omega) (by omega)).mpr h)
      refine lv_iconst (v := 0) hx hb dX12_canBeTold_28 (by decide) ?_
      have hP := hP.sub (ws' := [(mm, .inr (12, mo g (nI ta) (nI pa) (nI pe) pd (nI pb) pp pf pg pn rt rn (nI cd) sn (nI il) tk am at_ aa 0 0 (-1) wt wy 0 (nI rm) (nI ud) (nI nu) sd (nI qn) (nI qw) qo (nI qb) (nI qp) qa (nI qi) (nI oc))), (g 20, .inl (cI, 4, .inl (l4 (nI l0) (nI l1) (nI dm) (nI l3)))), (g 31, .inl (cI, 120, .inl nw))]) [1, 0, 2] rfl
      have hD := hD.sub (ws' := [(mm, .inr (12, mo g (nI ta) (nI pa) (nI pe) pd (nI pb) pp pf pg pn rt rn (nI cd) sn (nI il) tk am at_ aa 0 0 (-1) wt wy 0 (nI rm) (nI ud) (nI nu) sd (nI qn) (nI qw) qo (nI qb) (nI qp) qa (nI qi) (nI oc))), (g 20, .inl (cI, 4, .inl (l4 (nI l0) (nI l1) (nI dm) (nI l3)))), (g 31, .inl (cI, 120, .inl nw))]) [1, 0, 2] (by decide +kernel) rfl
      exact sk_iret hx hb hr rfl hlocks hK hP hD hS (⟨0, Or.inl rfl, rfl, rfl⟩) (Nat.le_of_ble_eq_true rfl) (Nat.le_of_ble_eq_true rfl) dX12_canBeTold_29
    · have c_10 : b_6 = 0 := (neq b_6 0 (by omega) (by omega)).mp c_10
      refine lv_aload_n hx hb dX12_canBeTold_16 rfl (lv_at hl 0 rfl) ?_
      refine lv_iload_n hx hb dX12_canBeTold_17 rfl (lv_at hl 2 rfl) ?_
      refine sk_Vi (q0 := 0) (n := 1) (rest := []) (wr := [(g 20, .inl (cI, 4, .inl (l4 (nI l0) (nI l1) (nI dm) (nI l3)))), (g 31, .inl (cI, 120, .inl nw))]) ⟨hx, hb, hml, hown, hts⟩ hl.1 (c_m_isMood l D cI cJ cC cZ cS mm g ta pa pe pd pb pp pf pg pn rt rn cd sn il tk am at_ aa 0 0 (-1) wt wy 0 rm ud nu sd qn qw qo qb qp qa qi oc w) w_7_126 w_7_128 w_0_73 w_1_14 w_7_129 (by decide +kernel) ⟨⟨(Nat.le_of_ble_eq_true rfl), (Nat.le_of_ble_eq_true rfl)⟩, (Nat.le_of_ble_eq_true rfl), (Nat.le_of_ble_eq_true rfl)⟩ hK hP hD hS hA [1] [0, 2] rfl rfl (by decide +kernel) (by decide +kernel) (by decide +kernel) rfl rfl rfl rfl (Nat.le_of_ble_eq_true rfl) dX12_canBeTold_18 (fun r_12 u H locs hw hP hD hS => ?_)
      obtain ⟨b_11, hb1_13, rfl, rfl⟩ := hw
      have hP : va_P D vwCl [(g 20, .inl (cI, 4, .inl (l4 (nI l0) (nI l1) (nI dm) (nI l3)))), (g 31, .inl (cI, 120, .inl nw)), (mm, .inr (12, mo g (nI ta) (nI pa) (nI pe) pd (nI pb) pp pf pg pn rt rn (nI cd) sn (nI il) tk am at_ aa 0 0 (-1) wt wy 0 (nI rm) (nI ud) (nI nu) sd (nI qn) (nI qw) qo (nI qb) (nI qp) qa (nI qi) (nI oc)))] H := hP
      have hD : va_D A [(g 20, .inl (cI, 4, .inl (l4 (nI l0) (nI l1) (nI dm) (nI l3)))), (g 31, .inl (cI, 120, .inl nw)), (mm, .inr (12, mo g (nI ta) (nI pa) (nI pe) pd (nI pb) pp pf pg pn rt rn (nI cd) sn (nI il) tk am at_ aa 0 0 (-1) wt wy 0 (nI rm) (nI ud) (nI nu) sd (nI qn) (nI qw) qo (nI qb) (nI qp) qa (nI qi) (nI oc)))] := hD
      refine lv_if_eq (tgt := 28) hx hb dX12_canBeTold_21 (by decide) (fun c_14 => ?_) (fun c_14 => ?_)
      · have c_14 : b_11 = 0 := (neq b_11 0 (by omega) (by omega)).mp c_14
        refine lv_iconst (v := 0) hx hb dX12_canBeTold_28 (by decide) ?_
        have hP := hP.sub (ws' := [(mm, .inr (12, mo g (nI ta) (nI pa) (nI pe) pd (nI pb) pp pf pg pn rt rn (nI cd) sn (nI il) tk am at_ aa 0 0 (-1) wt wy 0 (nI rm) (nI ud) (nI nu) sd (nI qn) (nI qw) qo (nI qb) (nI qp) qa (nI qi) (nI oc))), (g 20, .inl (cI, 4, .inl (l4 (nI l0) (nI l1) (nI dm) (nI l3)))), (g 31, .inl (cI, 120, .inl nw))]) [2, 0, 1] rfl
        have hD := hD.sub (ws' := [(mm, .inr (12, mo g (nI ta) (nI pa) (nI pe) pd (nI pb) pp pf pg pn rt rn (nI cd) sn (nI il) tk am at_ aa 0 0 (-1) wt wy 0 (nI rm) (nI ud) (nI nu) sd (nI qn) (nI qw) qo (nI qb) (nI qp) qa (nI qi) (nI oc))), (g 20, .inl (cI, 4, .inl (l4 (nI l0) (nI l1) (nI dm) (nI l3)))), (g 31, .inl (cI, 120, .inl nw))]) [2, 0, 1] (by decide +kernel) rfl
        exact sk_iret hx hb hr rfl hlocks hK hP hD hS (⟨0, Or.inl rfl, rfl, rfl⟩) (Nat.le_of_ble_eq_true rfl) (Nat.le_of_ble_eq_true rfl) dX12_canBeTold_29
      · have c_14 : ¬ (b_11 = 0) := fun h => c_14 ((neq b_11 0 (by omega) (by omega)).mpr h)
        obtain ⟨kd_15, hkd_15, rfl⟩ := (hb1_13.resolve_left (by omega)).2
        refine lv_iconst (v := 1) hx hb dX12_canBeTold_24 (by decide) ?_
        refine lv_goto (tgt := 29) hx hb dX12_canBeTold_25 (by decide) ?_
        have hP := hP.sub (ws' := [(mm, .inr (12, mo g (nI ta) (nI pa) (nI pe) pd (nI pb) pp pf pg pn rt rn (nI cd) sn (nI il) tk am at_ aa 0 0 (-1) wt wy 0 (nI rm) (nI ud) (nI nu) sd (nI qn) (nI qw) qo (nI qb) (nI qp) qa (nI qi) (nI oc))), (g 20, .inl (cI, 4, .inl (l4 (nI l0) (nI l1) (nI dm) (nI l3)))), (g 31, .inl (cI, 120, .inl nw))]) [2, 0, 1] rfl
        have hD := hD.sub (ws' := [(mm, .inr (12, mo g (nI ta) (nI pa) (nI pe) pd (nI pb) pp pf pg pn rt rn (nI cd) sn (nI il) tk am at_ aa 0 0 (-1) wt wy 0 (nI rm) (nI ud) (nI nu) sd (nI qn) (nI qw) qo (nI qb) (nI qp) qa (nI qi) (nI oc))), (g 20, .inl (cI, 4, .inl (l4 (nI l0) (nI l1) (nI dm) (nI l3)))), (g 31, .inl (cI, 120, .inl nw))]) [2, 0, 1] (by decide +kernel) rfl
        exact sk_iret hx hb hr rfl hlocks hK hP hD hS (⟨1, Or.inr ⟨rfl, kd_5, by omega, rfl⟩, rfl, rfl⟩) (Nat.le_of_ble_eq_true rfl) (Nat.le_of_ble_eq_true rfl) dX12_canBeTold_29
theorem dX12_known_0 : decode cX12_known 0 = .ok (.aload_n 0, 1) := by decide +kernel
theorem dX12_known_1 : decode cX12_known 1 = .ok (.iload_n 1, 1) := by decide +kernel
theorem dX12_known_2 : decode cX12_known 2 = .ok (.iload_n 2, 1) := by decide +kernel
theorem dX12_known_3 : decode cX12_known 3 = .ok (.invokevirtual 454, 3) := by decide +kernel
theorem dX12_known_6 : decode cX12_known 6 = .ok (.ifCond .eq 11, 3) := by decide +kernel
theorem dX12_known_17 : decode cX12_known 17 = .ok (.iconst (-1), 1) := by decide +kernel
theorem dX12_known_18 : decode cX12_known 18 = .ok (.ireturn, 1) := by decide +kernel
theorem dX12_known_9 : decode cX12_known 9 = .ok (.aload_n 0, 1) := by decide +kernel
theorem dX12_known_10 : decode cX12_known 10 = .ok (.iload_n 3, 1) := by decide +kernel
theorem dX12_known_11 : decode cX12_known 11 = .ok (.invokevirtual 413, 3) := by decide +kernel
theorem dX12_known_14 : decode cX12_known 14 = .ok (.ifCond .ne 5, 3) := by decide +kernel
theorem dX12_known_19 : decode cX12_known 19 = .ok (.aload_n 0, 1) := by decide +kernel
theorem dX12_known_20 : decode cX12_known 20 = .ok (.iload_n 1, 1) := by decide +kernel
theorem dX12_known_21 : decode cX12_known 21 = .ok (.iload_n 2, 1) := by decide +kernel
theorem dX12_known_22 : decode cX12_known 22 = .ok (.invokevirtual 457, 3) := by decide +kernel
theorem dX12_known_25 : decode cX12_known 25 = .ok (.aload_n 0, 1) := by decide +kernel
theorem dX12_known_26 : decode cX12_known 26 = .ok (.iload_n 3, 1) := by decide +kernel
theorem dX12_known_27 : decode cX12_known 27 = .ok (.invokevirtual 460, 3) := by decide +kernel
theorem dX12_known_30 : decode cX12_known 30 = .ok (.ireturn, 1) := by decide +kernel
theorem w_8_77 : (Cond.methodLink RX12 454 yX12_canBeTold) ∈ wsL_law := sk_mem (ck_8 _ (List.mem_of_getElem? (i := 77) rfl)) rfl
theorem w_8_79 : (Cond.instanceMethod yX12_canBeTold) ∈ wsL_law := sk_mem (ck_8 _ (List.mem_of_getElem? (i := 79) rfl)) rfl
theorem w_0_101 : (Cond.selects RX12 yX12_canBeTold yX12_canBeTold) ∈ wsL_law := sk_mem (ck_0 _ (List.mem_of_getElem? (i := 101) rfl)) rfl
theorem w_8_81 : (Cond.methodLink RX12 457 yX12_laysByWord) ∈ wsL_law := sk_mem (ck_8 _ (List.mem_of_getElem? (i := 81) rfl)) rfl
theorem w_8_83 : (Cond.instanceMethod yX12_laysByWord) ∈ wsL_law := sk_mem (ck_8 _ (List.mem_of_getElem? (i := 83) rfl)) rfl
theorem w_0_102 : (Cond.selects RX12 yX12_laysByWord yX12_laysByWord) ∈ wsL_law := sk_mem (ck_0 _ (List.mem_of_getElem? (i := 102) rfl)) rfl
theorem w_8_85 : (Cond.methodLink RX12 460 yX12_moodsOf) ∈ wsL_law := sk_mem (ck_8 _ (List.mem_of_getElem? (i := 85) rfl)) rfl
theorem w_8_87 : (Cond.instanceMethod yX12_moodsOf) ∈ wsL_law := sk_mem (ck_8 _ (List.mem_of_getElem? (i := 87) rfl)) rfl
theorem w_0_103 : (Cond.selects RX12 yX12_moodsOf yX12_moodsOf) ∈ wsL_law := sk_mem (ck_0 _ (List.mem_of_getElem? (i := 103) rfl)) rfl
theorem w_8_76 : (Cond.code yX12_known cX12_known 4 (some .int)) ∈ wsL_law := sk_mem (ck_8 _ (List.mem_of_getElem? (i := 76) rfl)) rfl
set_option maxHeartbeats 4000000 in
set_option maxRecDepth 100000 in
theorem c_m_known (l : Launch) (D : va_G) (cI cJ cC cZ cS : ClassId) (mm : Nat) (g : Nat → Nat) (ta : Nat) (pa : Nat) (pe : Nat) (pd : Int32) (pb : Nat) (pp : Int32) (pf : Int32) (pg : Int32) (pn : Int32) (rt : Int32) (rn : Int32) (cd : Nat) (sn : Int32) (il : Nat) (tk : Int32) (am : Int32) (at_ : Int32) (aa : Int32) (wt : Int32) (wy : Int64) (rm : Nat) (ud : Nat) (nu : Nat) (sd : Int64) (qn : Nat) (qw : Nat) (qo : Int32) (qb : Nat) (qp : Nat) (qa : Int64) (qi : Nat) (oc : Nat) (d : Int32) (w : Int32) (o : Int32) (u0 : Int32) (u1 : Int32) (u2 : Int32) (u3 : Int32) (u4 : Int32) (u5 : Int32) (v0 : Int32) (v1 : Int32) (v2 : Int32) (v3 : Int32) (v4 : Int32) (v5 : Int32) (cs : Nat → Nat) (nw : Nat → Int32) (pt : Nat → Nat) (ql : Nat → Int64) (l0 : Nat) (l1 : Nat) (dm : Nat) (l3 : Nat) (ws_ : Nat → Int32) (yw : Nat → Int32) (yo : Nat → Int32) (be : Nat → Int64) (bf : Nat → Int64) (rw_ : Nat → Int32) (hil : il ≤ 1) (hild : il = 1 → 1 ≤ dm) (hdm : dm ≤ 9) (hp0 : progOk cs u3 v3) (hp1 : progOk cs u4 v4) (hp2 : progOk cs u5 v5) (hrm : rm ≤ 16) (hcs : ∀ j, cs j ≤ 20000) (hnw : nowOk nw) (hpt : ∀ j, pt j ≤ 9) : skM l yX12_known cX12_known 4 (some .int) 6 144 0 0 D (skT cI cJ cC cZ cS) [.ref mm, .int d, .int w, .int o] [(mm, .inr (12, mo g (nI ta) (nI pa) (nI pe) pd (nI pb) pp pf pg pn rt rn (nI cd) sn (nI il) tk am at_ aa 0 0 (-1) wt wy 0 (nI rm) (nI ud) (nI nu) sd (nI qn) (nI qw) qo (nI qb) (nI qp) qa (nI qi) (nI oc))), (g 24, .inl (cI, 6, .inl (l6 u0 u1 u2 u3 u4 u5))), (g 25, .inl (cI, 6, .inl (l6 v0 v1 v2 v3 v4 v5))), (g 26, .inl (cI, 3200, .inl (fun j => nI (cs j)))), (g 31, .inl (cI, 120, .inl nw)), (g 46, .inl (cI, 9, .inl (fun j => nI (pt j)))), (g 86, .inl (cJ, 1700, .inr (.inl ql))), (g 20, .inl (cI, 4, .inl (l4 (nI l0) (nI l1) (nI dm) (nI l3)))), (g 38, .inl (cI, 90, .inl ws_)), (g 36, .inl (cZ, 900, .inl yw)), (g 37, .inl (cZ, 900, .inl yo)), (g 43, .inl (cJ, 90, .inr (.inl be))), (g 44, .inl (cJ, 90, .inr (.inl bf))), (g 53, .inl (cI, 32, .inl rw_))] (skI D (skT cI cJ cC cZ cS) (fun (r : Int32) (u : va_W) => ∃ (tk2 : Int32), ∃ (qp2 : Nat), ∃ (am2 : Int32), ∃ (at_2 : Int32), ∃ (aa2 : Int32), ∃ (wy2 : Int64), ∃ (wt2 : Int32), ∃ (ql2 : Nat → Int64), ∃ (ws_2 : Nat → Int32), ∃ (yw2 : Nat → Int32), ∃ (yo2 : Nat → Int32), ∃ (be2 : Nat → Int64), ∃ (bf2 : Nat → Int64), u = [(mm, .inr (12, mo g (nI ta) (nI pa) (nI pe) pd (nI pb) pp pf pg pn rt rn (nI cd) sn (nI il) tk2 am2 at_2 aa2 0 0 (-1) wt2 wy2 0 (nI rm) (nI ud) (nI nu) sd (nI qn) (nI qw) qo (nI qb) (nI qp2) qa (nI qi) (nI oc))), (g 24, .inl (cI, 6, .inl (l6 u0 u1 u2 u3 u4 u5))), (g 25, .inl (cI, 6, .inl (l6 v0 v1 v2 v3 v4 v5))), (g 26, .inl (cI, 3200, .inl (fun j => nI (cs j)))), (g 31, .inl (cI, 120, .inl nw)), (g 46, .inl (cI, 9, .inl (fun j => nI (pt j)))), (g 86, .inl (cJ, 1700, .inr (.inl ql2))), (g 20, .inl (cI, 4, .inl (l4 (nI l0) (nI l1) (nI dm) (nI l3)))), (g 38, .inl (cI, 90, .inl ws_2)), (g 36, .inl (cZ, 900, .inl yw2)), (g 37, .inl (cZ, 900, .inl yo2)), (g 43, .inl (cJ, 90, .inr (.inl be2))), (g 44, .inl (cJ, 90, .inr (.inl bf2))), (g 53, .inl (cI, 32, .inl rw_))])) := by
  refine skM_of (by decide +kernel) (Nat.le_of_ble_eq_true rfl) ?_
  intro p e s m below meth c A ls E hP hD hl
  obtain ⟨hx, hb, hr, hml, hlocks, hin, hown, hts, hK, hA⟩ := E
  have hown : s.vm.findClass RX12 = some m.cls := hown
  have hS : va_S A s.heap s.heap [] := va_S.rf
  have hl : lv_has ls 4 [(0, .ref mm), (1, .int d), (2, .int w), (3, .int o)] := hl
  refine lv_aload_n hx hb dX12_known_0 rfl (lv_at hl 0 rfl) ?_
  refine lv_iload_n hx hb dX12_known_1 rfl (lv_at hl 1 rfl) ?_
  refine lv_iload_n hx hb dX12_known_2 rfl (lv_at hl 2 rfl) ?_
  refine sk_Vi (q0 := 0) (n := 2) (rest := []) (wr := [(g 24, .inl (cI, 6, .inl (l6 u0 u1 u2 u3 u4 u5))), (g 25, .inl (cI, 6, .inl (l6 v0 v1 v2 v3 v4 v5))), (g 26, .inl (cI, 3200, .inl (fun j => nI (cs j)))), (g 46, .inl (cI, 9, .inl (fun j => nI (pt j)))), (g 86, .inl (cJ, 1700, .inr (.inl ql))), (g 38, .inl (cI, 90, .inl ws_)), (g 36, .inl (cZ, 900, .inl yw)), (g 37, .inl (cZ, 900, .inl yo)), (g 43, .inl (cJ, 90, .inr (.inl be))), (g 44, .inl (cJ, 90, .inr (.inl bf))), (g 53, .inl (cI, 32, .inl rw_))]) ⟨hx, hb, hml, hown, hts⟩ hl.1 (c_m_canBeTold l D cI cJ cC cZ cS mm g ta pa pe pd pb pp pf pg pn rt rn cd sn il tk am at_ aa wt wy rm ud nu sd qn qw qo qb qp qa qi oc d w l0 l1 dm l3 nw (by omega) hnw) w_8_77 w_8_79 w_0_101 w_1_14 w_8_80 (by decide +kernel) ⟨⟨(Nat.le_of_ble_eq_true rfl), (Nat.le_of_ble_eq_true rfl)⟩, (Nat.le_of_ble_eq_true rfl), (Nat.le_of_ble_eq_true rfl)⟩ hK hP hD hS hA [0, 7, 4] [1, 2, 3, 5, 6, 8, 9, 10, 11, 12, 13] rfl rfl (by decide +kernel) (by decide +kernel) (by decide +kernel) rfl rfl rfl rfl (Nat.le_of_ble_eq_true rfl) dX12_known_3 (fun r_2 u H locs hw hP hD hS => ?_)
  obtain ⟨b_1, hb1_3, rfl, rfl⟩ := hw
  have hP : va_P D vwCl [(g 24, .inl (cI, 6, .inl (l6 u0 u1 u2 u3 u4 u5))), (g 25, .inl (cI, 6, .inl (l6 v0 v1 v2 v3 v4 v5))), (g 26, .inl (cI, 3200, .inl (fun j => nI (cs j)))), (g 46, .inl (cI, 9, .inl (fun j => nI (pt j)))), (g 86, .inl (cJ, 1700, .inr (.inl ql))), (g 38, .inl (cI, 90, .inl ws_)), (g 36, .inl (cZ, 900, .inl yw)), (g 37, .inl (cZ, 900, .inl yo)), (g 43, .inl (cJ, 90, .inr (.inl be))), (g 44, .inl (cJ, 90, .inr (.inl bf))), (g 53, .inl (cI, 32, .inl rw_)), (mm, .inr (12, mo g (nI ta) (nI pa) (nI pe) pd (nI pb) pp pf pg pn rt rn (nI cd) sn (nI il) tk am at_ aa 0 0 (-1) wt wy 0 (nI rm) (nI ud) (nI nu) sd (nI qn) (nI qw) qo (nI qb) (nI qp) qa (nI qi) (nI oc))), (g 20, .inl (cI, 4, .inl (l4 (nI l0) (nI l1) (nI dm) (nI l3)))), (g 31, .inl (cI, 120, .inl nw))] H := hP
  have hD : va_D A [(g 24, .inl (cI, 6, .inl (l6 u0 u1 u2 u3 u4 u5))), (g 25, .inl (cI, 6, .inl (l6 v0 v1 v2 v3 v4 v5))), (g 26, .inl (cI, 3200, .inl (fun j => nI (cs j)))), (g 46, .inl (cI, 9, .inl (fun j => nI (pt j)))), (g 86, .inl (cJ, 1700, .inr (.inl ql))), (g 38, .inl (cI, 90, .inl ws_)), (g 36, .inl (cZ, 900, .inl yw)), (g 37, .inl (cZ, 900, .inl yo)), (g 43, .inl (cJ, 90, .inr (.inl be))), (g 44, .inl (cJ, 90, .inr (.inl bf))), (g 53, .inl (cI, 32, .inl rw_)), (mm, .inr (12, mo g (nI ta) (nI pa) (nI pe) pd (nI pb) pp pf pg pn rt rn (nI cd) sn (nI il) tk am at_ aa 0 0 (-1) wt wy 0 (nI rm) (nI ud) (nI nu) sd (nI qn) (nI qw) qo (nI qb) (nI qp) qa (nI qi) (nI oc))), (g 20, .inl (cI, 4, .inl (l4 (nI l0) (nI l1) (nI dm) (nI l3)))), (g 31, .inl (cI, 120, .inl nw))] := hD
  refine lv_if_eq (tgt := 17) hx hb dX12_known_6 (by decide) (fun c_4 => ?_) (fun c_4 => ?_)
  · have c_4 : b_1 = 0 := (neq b_1 0 (by omega) (by omega)).mp c_4
    refine lv_iconst (v := (-1)) hx hb dX12_known_17 (by decide) ?_
    have hP := hP.sub (ws' := [(mm, .inr (12, mo g (nI ta) (nI pa) (nI pe) pd (nI pb) pp pf pg pn rt rn (nI cd) sn (nI il) tk am at_ aa 0 0 (-1) wt wy 0 (nI rm) (nI ud) (nI nu) sd (nI qn) (nI qw) qo (nI qb) (nI qp) qa (nI qi) (nI oc))), (g 24, .inl (cI, 6, .inl (l6 u0 u1 u2 u3 u4 u5))), (g 25, .inl (cI, 6, .inl (l6 v0 v1 v2 v3 v4 v5))), (g 26, .inl (cI, 3200, .inl (fun j => nI (cs j)))), (g 31, .inl (cI, 120, .inl nw)), (g 46, .inl (cI, 9, .inl (fun j => nI (pt j)))), (g 86, .inl (cJ, 1700, .inr (.inl ql))), (g 20, .inl (cI, 4, .inl (l4 (nI l0) (nI l1) (nI dm) (nI l3)))), (g 38, .inl (cI, 90, .inl ws_)), (g 36, .inl (cZ, 900, .inl yw)), (g 37, .inl (cZ, 900, .inl yo)), (g 43, .inl (cJ, 90, .inr (.inl be))), (g 44, .inl (cJ, 90, .inr (.inl bf))), (g 53, .inl (cI, 32, .inl rw_))]) [11, 0, 1, 2, 13, 3, 4, 12, 5, 6, 7, 8, 9, 10] rfl
    have hD := hD.sub (ws' := [(mm, .inr (12, mo g (nI ta) (nI pa) (nI pe) pd (nI pb) pp pf pg pn rt rn (nI cd) sn (nI il) tk am at_ aa 0 0 (-1) wt wy 0 (nI rm) (nI ud) (nI nu) sd (nI qn) (nI qw) qo (nI qb) (nI qp) qa (nI qi) (nI oc))), (g 24, .inl (cI, 6, .inl (l6 u0 u1 u2 u3 u4 u5))), (g 25, .inl (cI, 6, .inl (l6 v0 v1 v2 v3 v4 v5))), (g 26, .inl (cI, 3200, .inl (fun j => nI (cs j)))), (g 31, .inl (cI, 120, .inl nw)), (g 46, .inl (cI, 9, .inl (fun j => nI (pt j)))), (g 86, .inl (cJ, 1700, .inr (.inl ql))), (g 20, .inl (cI, 4, .inl (l4 (nI l0) (nI l1) (nI dm) (nI l3)))), (g 38, .inl (cI, 90, .inl ws_)), (g 36, .inl (cZ, 900, .inl yw)), (g 37, .inl (cZ, 900, .inl yo)), (g 43, .inl (cJ, 90, .inr (.inl be))), (g 44, .inl (cJ, 90, .inr (.inl bf))), (g 53, .inl (cI, 32, .inl rw_))]) [11, 0, 1, 2, 13, 3, 4, 12, 5, 6, 7, 8, 9, 10] (by decide +kernel) rfl
    exact sk_iret hx hb hr rfl hlocks hK hP hD hS (⟨tk, qp, am, at_, aa, wy, wt, ql, ws_, yw, yo, be, bf, rfl⟩) (Nat.le_of_ble_eq_true rfl) (Nat.le_of_ble_eq_true rfl) dX12_known_18
  · have c_4 : ¬ (b_1 = 0) := fun h => c_4 ((neq b_1 0 (by omega) (by omega)).mpr h)
    obtain ⟨kd_5, hkd_5, rfl⟩ := (hb1_3.resolve_left (by omega)).2
    refine lv_aload_n hx hb dX12_known_9 rfl (lv_at hl 0 rfl) ?_
    refine lv_iload_n hx hb dX12_known_10 rfl (lv_at hl 3 rfl) ?_
    refine sk_Vi (q0 := 0) (n := 1) (rest := []) (wr := [(g 24, .inl (cI, 6, .inl (l6 u0 u1 u2 u3 u4 u5))), (g 25, .inl (cI, 6, .inl (l6 v0 v1 v2 v3 v4 v5))), (g 26, .inl (cI, 3200, .inl (fun j => nI (cs j)))), (g 46, .inl (cI, 9, .inl (fun j => nI (pt j)))), (g 86, .inl (cJ, 1700, .inr (.inl ql))), (g 38, .inl (cI, 90, .inl ws_)), (g 36, .inl (cZ, 900, .inl yw)), (g 37, .inl (cZ, 900, .inl yo)), (g 43, .inl (cJ, 90, .inr (.inl be))), (g 44, .inl (cJ, 90, .inr (.inl bf))), (g 53, .inl (cI, 32, .inl rw_)), (g 31, .inl (cI, 120, .inl nw))]) ⟨hx, hb, hml, hown, hts⟩ hl.1 (c_m_isDay l D cI cJ cC cZ cS mm g ta pa pe pd pb pp pf pg pn rt rn cd sn il tk am at_ aa 0 0 (-1) wt wy 0 rm ud nu sd qn qw qo qb qp qa qi oc o l0 l1 dm l3 (by omega)) w_7_117 w_7_119 w_0_72 w_1_14 w_7_120 (by decide +kernel) ⟨⟨(Nat.le_of_ble_eq_true rfl), (Nat.le_of_ble_eq_true rfl)⟩, (Nat.le_of_ble_eq_true rfl), (Nat.le_of_ble_eq_true rfl)⟩ hK hP hD hS hA [11, 12] [0, 1, 2, 3, 4, 5, 6, 7, 8, 9, 10, 13] rfl rfl (by decide +kernel) (by decide +kernel) (by decide +kernel) rfl rfl rfl rfl (Nat.le_of_ble_eq_true rfl) dX12_known_11 (fun r_7 u H locs hw hP hD hS => ?_)
    obtain ⟨b_6, hb1_8, rfl, rfl⟩ := hw
    have hP : va_P D vwCl [(g 24, .inl (cI, 6, .inl (l6 u0 u1 u2 u3 u4 u5))), (g 25, .inl (cI, 6, .inl (l6 v0 v1 v2 v3 v4 v5))), (g 26, .inl (cI, 3200, .inl (fun j => nI (cs j)))), (g 46, .inl (cI, 9, .inl (fun j => nI (pt j)))), (g 86, .inl (cJ, 1700, .inr (.inl ql))), (g 38, .inl (cI, 90, .inl ws_)), (g 36, .inl (cZ, 900, .inl yw)), (g 37, .inl (cZ, 900, .inl yo)), (g 43, .inl (cJ, 90, .inr (.inl be))), (g 44, .inl (cJ, 90, .inr (.inl bf))), (g 53, .inl (cI, 32, .inl rw_)), (g 31, .inl (cI, 120, .inl nw)), (mm, .inr (12, mo g (nI ta) (nI pa) (nI pe) pd (nI pb) pp pf pg pn rt rn (nI cd) sn (nI il) tk am at_ aa 0 0 (-1) wt wy 0 (nI rm) (nI ud) (nI nu) sd (nI qn) (nI qw) qo (nI qb) (nI qp) qa (nI qi) (nI oc))), (g 20, .inl (cI, 4, .inl (l4 (nI l0) (nI l1) (nI dm) (nI l3))))] H := hP
    have hD : va_D A [(g 24, .inl (cI, 6, .inl (l6 u0 u1 u2 u3 u4 u5))), (g 25, .inl (cI, 6, .inl (l6 v0 v1 v2 v3 v4 v5))), (g 26, .inl (cI, 3200, .inl (fun j => nI (cs j)))), (g 46, .inl (cI, 9, .inl (fun j => nI (pt j)))), (g 86, .inl (cJ, 1700, .inr (.inl ql))), (g 38, .inl (cI, 90, .inl ws_)), (g 36, .inl (cZ, 900, .inl yw)), (g 37, .inl (cZ, 900, .inl yo)), (g 43, .inl (cJ, 90, .inr (.inl be))), (g 44, .inl (cJ, 90, .inr (.inl bf))), (g 53, .inl (cI, 32, .inl rw_)), (g 31, .inl (cI, 120, .inl nw)), (mm, .inr (12, mo g (nI ta) (nI pa) (nI pe) pd (nI pb) pp pf pg pn rt rn (nI cd) sn (nI il) tk am at_ aa 0 0 (-1) wt wy 0 (nI rm) (nI ud) (nI nu) sd (nI qn) (nI qw) qo (nI qb) (nI qp) qa (nI qi) (nI oc))), (g 20, .inl (cI, 4, .inl (l4 (nI l0) (nI l1) (nI dm) (nI l3))))] := hD
    refine lv_if_ne (tgt := 19) hx hb dX12_known_14 (by decide) (fun c_9 => ?_) (fun c_9 => ?_)
    · have c_9 : ¬ (b_6 = 0) := fun h => c_9 ((neq b_6 0 (by omega) (by omega)).mpr h)
      obtain ⟨kd_10, hkd_10, rfl⟩ := (hb1_8.resolve_left (by omega)).2
      refine lv_aload_n hx hb dX12_known_19 rfl (lv_at hl 0 rfl) ?_
      refine lv_iload_n hx hb dX12_known_20 rfl (lv_at hl 1 rfl) ?_
      refine lv_iload_n hx hb dX12_known_21 rfl (lv_at hl 2 rfl) ?_
      refine sk_Vv (q0 := 0) (n := 2) (rest := []) (wr := []) ⟨hx, hb, hml, hown, hts⟩ hl.1 (c_m_laysByWord l D cI cJ cC cZ cS mm g ta pa pe pd pb pp pf pg pn rt rn cd sn il tk am at_ aa wt wy rm ud nu sd qn qw qo qb qp qa qi oc (nI kd_5) w u0 u1 u2 u3 u4 u5 v0 v1 v2 v3 v4 v5 cs nw pt ql l0 l1 dm l3 ws_ yw yo be bf rw_ (by omega) (by omega) hp0 hp1 hp2 (by omega) hcs hnw hpt) w_8_81 w_8_83 w_0_102 w_1_14 w_8_84 (by decide +kernel) ⟨⟨(Nat.le_of_ble_eq_true rfl), (Nat.le_of_ble_eq_true rfl)⟩, (Nat.le_of_ble_eq_true rfl), (Nat.le_of_ble_eq_true rfl)⟩ hK hP hD hS hA [12, 0, 1, 2, 11, 3, 4, 13, 5, 6, 7, 8, 9, 10] [] rfl rfl (by decide +kernel) (by decide +kernel) (by decide +kernel) rfl rfl rfl rfl (Nat.le_of_ble_eq_true rfl) dX12_known_22 (fun u H locs hw hP hD hS => ?_)
      obtain ⟨tk2_11, qp2_12, am2_13, at_2_14, aa2_15, wy2_16, wt2_17, ql2_18, ws_2_19, yw2_20, yo2_21, be2_22, bf2_23, rfl⟩ := hw
      have hP : va_P D vwCl [(mm, .inr (12, mo g (nI ta) (nI pa) (nI pe) pd (nI pb) pp pf pg pn rt rn (nI cd) sn (nI il) tk2_11 am2_13 at_2_14 aa2_15 0 0 (-1) wt2_17 wy2_16 0 (nI rm) (nI ud) (nI nu) sd (nI qn) (nI qw) qo (nI qb) (nI qp2_12) qa (nI qi) (nI oc))), (g 24, .inl (cI, 6, .inl (l6 u0 u1 u2 u3 u4 u5))), (g 25, .inl (cI, 6, .inl (l6 v0 v1 v2 v3 v4 v5))), (g 26, .inl (cI, 3200, .inl (fun j => nI (cs j)))), (g 31, .inl (cI, 120, .inl nw)), (g 46, .inl (cI, 9, .inl (fun j => nI (pt j)))), (g 86, .inl (cJ, 1700, .inr (.inl ql2_18))), (g 20, .inl (cI, 4, .inl (l4 (nI l0) (nI l1) (nI dm) (nI l3)))), (g 38, .inl (cI, 90, .inl ws_2_19)), (g 36, .inl (cZ, 900, .inl yw2_20)), (g 37, .inl (cZ, 900, .inl yo2_21)), (g 43, .inl (cJ, 90, .inr (.inl be2_22))), (g 44, .inl (cJ, 90, .inr (.inl bf2_23))), (g 53, .inl (cI, 32, .inl rw_))] H := hP
      have hD : va_D A [(mm, .inr (12, mo g (nI ta) (nI pa) (nI pe) pd (nI pb) pp pf pg pn rt rn (nI cd) sn (nI il) tk2_11 am2_13 at_2_14 aa2_15 0 0 (-1) wt2_17 wy2_16 0 (nI rm) (nI ud) (nI nu) sd (nI qn) (nI qw) qo (nI qb) (nI qp2_12) qa (nI qi) (nI oc))), (g 24, .inl (cI, 6, .inl (l6 u0 u1 u2 u3 u4 u5))), (g 25, .inl (cI, 6, .inl (l6 v0 v1 v2 v3 v4 v5))), (g 26, .inl (cI, 3200, .inl (fun j => nI (cs j)))), (g 31, .inl (cI, 120, .inl nw)), (g 46, .inl (cI, 9, .inl (fun j => nI (pt j)))), (g 86, .inl (cJ, 1700, .inr (.inl ql2_18))), (g 20, .inl (cI, 4, .inl (l4 (nI l0) (nI l1) (nI dm) (nI l3)))), (g 38, .inl (cI, 90, .inl ws_2_19)), (g 36, .inl (cZ, 900, .inl yw2_20)), (g 37, .inl (cZ, 900, .inl yo2_21)), (g 43, .inl (cJ, 90, .inr (.inl be2_22))), (g 44, .inl (cJ, 90, .inr (.inl bf2_23))), (g 53, .inl (cI, 32, .inl rw_))] := hD
      refine lv_aload_n hx hb dX12_known_25 rfl (lv_at hl 0 rfl) ?_
      refine lv_iload_n hx hb dX12_known_26 rfl (lv_at hl 3 rfl) ?_
      refine sk_Vi (q0 := 0) (n := 1) (rest := []) (wr := [(g 24, .inl (cI, 6, .inl (l6 u0 u1 u2 u3 u4 u5))), (g 25, .inl (cI, 6, .inl (l6 v0 v1 v2 v3 v4 v5))), (g 26, .inl (cI, 3200, .inl (fun j => nI (cs j)))), (g 31, .inl (cI, 120, .inl nw)), (g 46, .inl (cI, 9, .inl (fun j => nI (pt j)))), (g 86, .inl (cJ, 1700, .inr (.inl ql2_18))), (g 20, .inl (cI, 4, .inl (l4 (nI l0) (nI l1) (nI dm) (nI l3)))), (g 38, .inl (cI, 90, .inl ws_2_19)), (g 36, .inl (cZ, 900, .inl yw2_20)), (g 37, .inl (cZ, 900, .inl yo2_21)), (g 53, .inl (cI, 32, .inl rw_))]) ⟨hx, hb, hml, hown, hts⟩ hl.1 (c_m_moodsOf l D cI cJ cC cZ cS mm g ta pa pe pd pb pp pf pg pn rt rn cd sn il tk2_11 am2_13 at_2_14 aa2_15 wt2_17 wy2_16 rm ud nu sd qn qw qo qb qp2_12 qa qi oc kd_10 be2_22 bf2_23 (by omega)) w_8_85 w_8_87 w_0_103 w_1_14 w_8_88 (by decide +kernel) ⟨⟨(Nat.le_of_ble_eq_true rfl), (Nat.le_of_ble_eq_true rfl)⟩, (Nat.le_of_ble_eq_true rfl), (Nat.le_of_ble_eq_true rfl)⟩ hK hP hD hS hA [0, 11, 12] [1, 2, 3, 4, 5, 6, 7, 8, 9, 10, 13] rfl rfl (by decide +kernel) (by decide +kernel) (by decide +kernel) rfl rfl rfl rfl (Nat.le_of_ble_eq_true rfl) dX12_known_27 (fun r_24 u H locs hw hP hD hS => ?_)
      obtain rfl := hw
      have hP : va_P D vwCl [(g 24, .inl (cI, 6, .inl (l6 u0 u1 u2 u3 u4 u5))), (g 25, .inl (cI, 6, .inl (l6 v0 v1 v2 v3 v4 v5))), (g 26, .inl (cI, 3200, .inl (fun j => nI (cs j)))), (g 31, .inl (cI, 120, .inl nw)), (g 46, .inl (cI, 9, .inl (fun j => nI (pt j)))), (g 86, .inl (cJ, 1700, .inr (.inl ql2_18))), (g 20, .inl (cI, 4, .inl (l4 (nI l0) (nI l1) (nI dm) (nI l3)))), (g 38, .inl (cI, 90, .inl ws_2_19)), (g 36, .inl (cZ, 900, .inl yw2_20)), (g 37, .inl (cZ, 900, .inl yo2_21)), (g 53, .inl (cI, 32, .inl rw_)), (mm, .inr (12, mo g (nI ta) (nI pa) (nI pe) pd (nI pb) pp pf pg pn rt rn (nI cd) sn (nI il) tk2_11 am2_13 at_2_14 aa2_15 0 0 (-1) wt2_17 wy2_16 0 (nI rm) (nI ud) (nI nu) sd (nI qn) (nI qw) qo (nI qb) (nI qp2_12) qa (nI qi) (nI oc))), (g 43, .inl (cJ, 90, .inr (.inl be2_22))), (g 44, .inl (cJ, 90, .inr (.inl bf2_23)))] H := hP
      have hD : va_D A [(g 24, .inl (cI, 6, .inl (l6 u0 u1 u2 u3 u4 u5))), (g 25, .inl (cI, 6, .inl (l6 v0 v1 v2 v3 v4 v5))), (g 26, .inl (cI, 3200, .inl (fun j => nI (cs j)))), (g 31, .inl (cI, 120, .inl nw)), (g 46, .inl (cI, 9, .inl (fun j => nI (pt j)))), (g 86, .inl (cJ, 1700, .inr (.inl ql2_18))), (g 20, .inl (cI, 4, .inl (l4 (nI l0) (nI l1) (nI dm) (nI l3)))), (g 38, .inl (cI, 90, .inl ws_2_19)), (g 36, .inl (cZ, 900, .inl yw2_20)), (g 37, .inl (cZ, 900, .inl yo2_21)), (g 53, .inl (cI, 32, .inl rw_)), (mm, .inr (12, mo g (nI ta) (nI pa) (nI pe) pd (nI pb) pp pf pg pn rt rn (nI cd) sn (nI il) tk2_11 am2_13 at_2_14 aa2_15 0 0 (-1) wt2_17 wy2_16 0 (nI rm) (nI ud) (nI nu) sd (nI qn) (nI qw) qo (nI qb) (nI qp2_12) qa (nI qi) (nI oc))), (g 43, .inl (cJ, 90, .inr (.inl be2_22))), (g 44, .inl (cJ, 90, .inr (.inl bf2_23)))] := hD
      have hP := hP.sub (ws' := [(mm, .inr (12, mo g (nI ta) (nI pa) (nI pe) pd (nI pb) pp pf pg pn rt rn (nI cd) sn (nI il) tk2_11 am2_13 at_2_14 aa2_15 0 0 (-1) wt2_17 wy2_16 0 (nI rm) (nI ud) (nI nu) sd (nI qn) (nI qw) qo (nI qb) (nI qp2_12) qa (nI qi) (nI oc))), (g 24, .inl (cI, 6, .inl (l6 u0 u1 u2 u3 u4 u5))), (g 25, .inl (cI, 6, .inl (l6 v0 v1 v2 v3 v4 v5))), (g 26, .inl (cI, 3200, .inl (fun j => nI (cs j)))), (g 31, .inl (cI, 120, .inl nw)), (g 46, .inl (cI, 9, .inl (fun j => nI (pt j)))), (g 86, .inl (cJ, 1700, .inr (.inl ql2_18))), (g 20, .inl (cI, 4, .inl (l4 (nI l0) (nI l1) (nI dm) (nI l3)))), (g 38, .inl (cI, 90, .inl ws_2_19)), (g 36, .inl (cZ, 900, .inl yw2_20)), (g 37, .inl (cZ, 900, .inl yo2_21)), (g 43, .inl (cJ, 90, .inr (.inl be2_22))), (g 44, .inl (cJ, 90, .inr (.inl bf2_23))), (g 53, .inl (cI, 32, .inl rw_))]) [11, 0, 1, 2, 3, 4, 5, 6, 7, 8, 9, 12, 13, 10] rfl
      have hD := hD.sub (ws' := [(mm, .inr (12, mo g (nI ta) (nI pa) (nI pe) pd (nI pb) pp pf pg pn rt rn (nI cd) sn (nI il) tk2_11 am2_13 at_2_14 aa2_15 0 0 (-1) wt2_17 wy2_16 0 (nI rm) (nI ud) (nI nu) sd (nI qn) (nI qw) qo (nI qb) (nI qp2_12) qa (nI qi) (nI oc))), (g 24, .inl (cI, 6, .inl (l6 u0 u1 u2 u3 u4 u5))), (g 25, .inl (cI, 6, .inl (l6 v0 v1 v2 v3 v4 v5))), (g 26, .inl (cI, 3200, .inl (fun j => nI (cs j)))), (g 31, .inl (cI, 120, .inl nw)), (g 46, .inl (cI, 9, .inl (fun j => nI (pt j)))), (g 86, .inl (cJ, 1700, .inr (.inl ql2_18))), (g 20, .inl (cI, 4, .inl (l4 (nI l0) (nI l1) (nI dm) (nI l3)))), (g 38, .inl (cI, 90, .inl ws_2_19)), (g 36, .inl (cZ, 900, .inl yw2_20)), (g 37, .inl (cZ, 900, .inl yo2_21)), (g 43, .inl (cJ, 90, .inr (.inl be2_22))), (g 44, .inl (cJ, 90, .inr (.inl bf2_23))), (g 53, .inl (cI, 32, .inl rw_))]) [11, 0, 1, 2, 3, 4, 5, 6, 7, 8, 9, 12, 13, 10] (by decide +kernel) rfl
      exact sk_iret hx hb hr rfl hlocks hK hP hD hS (⟨tk2_11, qp2_12, am2_13, at_2_14, aa2_15, wy2_16, wt2_17, ql2_18, ws_2_19, yw2_20, yo2_21, be2_22, bf2_23, rfl⟩) (Nat.le_of_ble_eq_true rfl) (Nat.le_of_ble_eq_true rfl) dX12_known_30
    · have c_9 : b_6 = 0 := (neq b_6 0 (by omega) (by omega)).mp c_9
      refine lv_iconst (v := (-1)) hx hb dX12_known_17 (by decide) ?_
      have hP := hP.sub (ws' := [(mm, .inr (12, mo g (nI ta) (nI pa) (nI pe) pd (nI pb) pp pf pg pn rt rn (nI cd) sn (nI il) tk am at_ aa 0 0 (-1) wt wy 0 (nI rm) (nI ud) (nI nu) sd (nI qn) (nI qw) qo (nI qb) (nI qp) qa (nI qi) (nI oc))), (g 24, .inl (cI, 6, .inl (l6 u0 u1 u2 u3 u4 u5))), (g 25, .inl (cI, 6, .inl (l6 v0 v1 v2 v3 v4 v5))), (g 26, .inl (cI, 3200, .inl (fun j => nI (cs j)))), (g 31, .inl (cI, 120, .inl nw)), (g 46, .inl (cI, 9, .inl (fun j => nI (pt j)))), (g 86, .inl (cJ, 1700, .inr (.inl ql))), (g 20, .inl (cI, 4, .inl (l4 (nI l0) (nI l1) (nI dm) (nI l3)))), (g 38, .inl (cI, 90, .inl ws_)), (g 36, .inl (cZ, 900, .inl yw)), (g 37, .inl (cZ, 900, .inl yo)), (g 43, .inl (cJ, 90, .inr (.inl be))), (g 44, .inl (cJ, 90, .inr (.inl bf))), (g 53, .inl (cI, 32, .inl rw_))]) [12, 0, 1, 2, 11, 3, 4, 13, 5, 6, 7, 8, 9, 10] rfl
      have hD := hD.sub (ws' := [(mm, .inr (12, mo g (nI ta) (nI pa) (nI pe) pd (nI pb) pp pf pg pn rt rn (nI cd) sn (nI il) tk am at_ aa 0 0 (-1) wt wy 0 (nI rm) (nI ud) (nI nu) sd (nI qn) (nI qw) qo (nI qb) (nI qp) qa (nI qi) (nI oc))), (g 24, .inl (cI, 6, .inl (l6 u0 u1 u2 u3 u4 u5))), (g 25, .inl (cI, 6, .inl (l6 v0 v1 v2 v3 v4 v5))), (g 26, .inl (cI, 3200, .inl (fun j => nI (cs j)))), (g 31, .inl (cI, 120, .inl nw)), (g 46, .inl (cI, 9, .inl (fun j => nI (pt j)))), (g 86, .inl (cJ, 1700, .inr (.inl ql))), (g 20, .inl (cI, 4, .inl (l4 (nI l0) (nI l1) (nI dm) (nI l3)))), (g 38, .inl (cI, 90, .inl ws_)), (g 36, .inl (cZ, 900, .inl yw)), (g 37, .inl (cZ, 900, .inl yo)), (g 43, .inl (cJ, 90, .inr (.inl be))), (g 44, .inl (cJ, 90, .inr (.inl bf))), (g 53, .inl (cI, 32, .inl rw_))]) [12, 0, 1, 2, 11, 3, 4, 13, 5, 6, 7, 8, 9, 10] (by decide +kernel) rfl
      exact sk_iret hx hb hr rfl hlocks hK hP hD hS (⟨tk, qp, am, at_, aa, wy, wt, ql, ws_, yw, yo, be, bf, rfl⟩) (Nat.le_of_ble_eq_true rfl) (Nat.le_of_ble_eq_true rfl) dX12_known_18
theorem dX12_sure_0 : decode cX12_sure 0 = .ok (.aload_n 0, 1) := by decide +kernel
theorem dX12_sure_1 : decode cX12_sure 1 = .ok (.iload_n 1, 1) := by decide +kernel
theorem dX12_sure_2 : decode cX12_sure 2 = .ok (.iload_n 2, 1) := by decide +kernel
theorem dX12_sure_3 : decode cX12_sure 3 = .ok (.invokevirtual 454, 3) := by decide +kernel
theorem dX12_sure_6 : decode cX12_sure 6 = .ok (.ifCond .ne 5, 3) := by decide +kernel
theorem dX12_sure_11 : decode cX12_sure 11 = .ok (.aload_n 0, 1) := by decide +kernel
theorem dX12_sure_12 : decode cX12_sure 12 = .ok (.iload_n 1, 1) := by decide +kernel
theorem dX12_sure_13 : decode cX12_sure 13 = .ok (.iload_n 2, 1) := by decide +kernel
theorem dX12_sure_14 : decode cX12_sure 14 = .ok (.invokevirtual 457, 3) := by decide +kernel
theorem dX12_sure_17 : decode cX12_sure 17 = .ok (.aload_n 0, 1) := by decide +kernel
theorem dX12_sure_18 : decode cX12_sure 18 = .ok (.getfield 382, 3) := by decide +kernel
theorem dX12_sure_21 : decode cX12_sure 21 = .ok (.lconst 0, 1) := by decide +kernel
theorem dX12_sure_22 : decode cX12_sure 22 = .ok (.lcmp, 1) := by decide +kernel
theorem dX12_sure_23 : decode cX12_sure 23 = .ok (.ifCond .ne 5, 3) := by decide +kernel
theorem dX12_sure_28 : decode cX12_sure 28 = .ok (.iconst 0, 1) := by decide +kernel
theorem dX12_sure_29 : decode cX12_sure 29 = .ok (.istore_n 3, 1) := by decide +kernel
theorem dX12_sure_30 : decode cX12_sure 30 = .ok (.iload_n 1, 1) := by decide +kernel
theorem dX12_sure_31 : decode cX12_sure 31 = .ok (.istore 4, 2) := by decide +kernel
theorem dX12_sure_33 : decode cX12_sure 33 = .ok (.iload 4, 2) := by decide +kernel
theorem dX12_sure_35 : decode cX12_sure 35 = .ok (.aload_n 0, 1) := by decide +kernel
theorem dX12_sure_36 : decode cX12_sure 36 = .ok (.invokevirtual 315, 3) := by decide +kernel
theorem dX12_sure_39 : decode cX12_sure 39 = .ok (.if_icmp .ge 25, 3) := by decide +kernel
theorem dX12_sure_64 : decode cX12_sure 64 = .ok (.iload_n 3, 1) := by decide +kernel
theorem dX12_sure_65 : decode cX12_sure 65 = .ok (.ireturn, 1) := by decide +kernel
theorem dX12_sure_42 : decode cX12_sure 42 = .ok (.aload_n 0, 1) := by decide +kernel
theorem dX12_sure_43 : decode cX12_sure 43 = .ok (.iload 4, 2) := by decide +kernel
theorem dX12_sure_45 : decode cX12_sure 45 = .ok (.invokevirtual 460, 3) := by decide +kernel
theorem dX12_sure_48 : decode cX12_sure 48 = .ok (.invokestatic 409, 3) := by decide +kernel
theorem dX12_sure_51 : decode cX12_sure 51 = .ok (.iconst 1, 1) := by decide +kernel
theorem dX12_sure_52 : decode cX12_sure 52 = .ok (.if_icmp .ne 12, 3) := by decide +kernel
theorem dX12_sure_55 : decode cX12_sure 55 = .ok (.iinc 3 1, 3) := by decide +kernel
theorem dX12_sure_58 : decode cX12_sure 58 = .ok (.iinc 4 1, 3) := by decide +kernel
theorem dX12_sure_61 : decode cX12_sure 61 = .ok (.goto (-28), 3) := by decide +kernel
theorem dX12_sure_26 : decode cX12_sure 26 = .ok (.iconst (-1), 1) := by decide +kernel
theorem dX12_sure_27 : decode cX12_sure 27 = .ok (.ireturn, 1) := by decide +kernel
theorem dX12_sure_9 : decode cX12_sure 9 = .ok (.iconst (-1), 1) := by decide +kernel
theorem dX12_sure_10 : decode cX12_sure 10 = .ok (.ireturn, 1) := by decide +kernel
theorem w_8_92 : (Cond.code yX12_sure cX12_sure 5 (some .int)) ∈ wsL_law := sk_mem (ck_8 _ (List.mem_of_getElem? (i := 92) rfl)) rfl
set_option maxHeartbeats 4000000 in
set_option maxRecDepth 100000 in
theorem c_m_sure (l : Launch) (D : va_G) (cI cJ cC cZ cS : ClassId) (mm : Nat) (g : Nat → Nat) (ta : Nat) (pa : Nat) (pe : Nat) (pd : Int32) (pb : Nat) (pp : Int32) (pf : Int32) (pg : Int32) (pn : Int32) (rt : Int32) (rn : Int32) (cd : Nat) (sn : Int32) (il : Nat) (tk : Int32) (am : Int32) (at_ : Int32) (aa : Int32) (wt : Int32) (wy : Int64) (rm : Nat) (ud : Nat) (nu : Nat) (sd : Int64) (qn : Nat) (qw : Nat) (qo : Int32) (qb : Nat) (qp : Nat) (qa : Int64) (qi : Nat) (oc : Nat) (d : Int32) (w : Int32) (u0 : Int32) (u1 : Int32) (u2 : Int32) (u3 : Int32) (u4 : Int32) (u5 : Int32) (v0 : Int32) (v1 : Int32) (v2 : Int32) (v3 : Int32) (v4 : Int32) (v5 : Int32) (cs : Nat → Nat) (nw : Nat → Int32) (pt : Nat → Nat) (ql : Nat → Int64) (l0 : Nat) (l1 : Nat) (dm : Nat) (l3 : Nat) (ws_ : Nat → Int32) (yw : Nat → Int32) (yo : Nat → Int32) (be : Nat → Int64) (bf : Nat → Int64) (rw_ : Nat → Int32) (hil : il ≤ 1) (hild : il = 1 → 1 ≤ dm) (hdm : dm ≤ 9) (hp0 : progOk cs u3 v3) (hp1 : progOk cs u4 v4) (hp2 : progOk cs u5 v5) (hrm : rm ≤ 16) (hcs : ∀ j, cs j ≤ 20000) (hnw : nowOk nw) (hpt : ∀ j, pt j ≤ 9) : skM l yX12_sure cX12_sure 5 (some .int) 6 144 0 0 D (skT cI cJ cC cZ cS) [.ref mm, .int d, .int w] [(mm, .inr (12, mo g (nI ta) (nI pa) (nI pe) pd (nI pb) pp pf pg pn rt rn (nI cd) sn (nI il) tk am at_ aa 0 0 (-1) wt wy 0 (nI rm) (nI ud) (nI nu) sd (nI qn) (nI qw) qo (nI qb) (nI qp) qa (nI qi) (nI oc))), (g 24, .inl (cI, 6, .inl (l6 u0 u1 u2 u3 u4 u5))), (g 25, .inl (cI, 6, .inl (l6 v0 v1 v2 v3 v4 v5))), (g 26, .inl (cI, 3200, .inl (fun j => nI (cs j)))), (g 31, .inl (cI, 120, .inl nw)), (g 46, .inl (cI, 9, .inl (fun j => nI (pt j)))), (g 86, .inl (cJ, 1700, .inr (.inl ql))), (g 20, .inl (cI, 4, .inl (l4 (nI l0) (nI l1) (nI dm) (nI l3)))), (g 38, .inl (cI, 90, .inl ws_)), (g 36, .inl (cZ, 900, .inl yw)), (g 37, .inl (cZ, 900, .inl yo)), (g 43, .inl (cJ, 90, .inr (.inl be))), (g 44, .inl (cJ, 90, .inr (.inl bf))), (g 53, .inl (cI, 32, .inl rw_))] (skI D (skT cI cJ cC cZ cS) (fun (r : Int32) (u : va_W) => ∃ (tk2 : Int32), ∃ (qp2 : Nat), ∃ (am2 : Int32), ∃ (at_2 : Int32), ∃ (aa2 : Int32), ∃ (wy2 : Int64), ∃ (wt2 : Int32), ∃ (ql2 : Nat → Int64), ∃ (ws_2 : Nat → Int32), ∃ (yw2 : Nat → Int32), ∃ (yo2 : Nat → Int32), ∃ (be2 : Nat → Int64), ∃ (bf2 : Nat → Int64), u = [(mm, .inr (12, mo g (nI ta) (nI pa) (nI pe) pd (nI pb) pp pf pg pn rt rn (nI cd) sn (nI il) tk2 am2 at_2 aa2 0 0 (-1) wt2 wy2 0 (nI rm) (nI ud) (nI nu) sd (nI qn) (nI qw) qo (nI qb) (nI qp2) qa (nI qi) (nI oc))), (g 24, .inl (cI, 6, .inl (l6 u0 u1 u2 u3 u4 u5))), (g 25, .inl (cI, 6, .inl (l6 v0 v1 v2 v3 v4 v5))), (g 26, .inl (cI, 3200, .inl (fun j => nI (cs j)))), (g 31, .inl (cI, 120, .inl nw)), (g 46, .inl (cI, 9, .inl (fun j => nI (pt j)))), (g 86, .inl (cJ, 1700, .inr (.inl ql2))), (g 20, .inl (cI, 4, .inl (l4 (nI l0) (nI l1) (nI dm) (nI l3)))), (g 38, .inl (cI, 90, .inl ws_2)), (g 36, .inl (cZ, 900, .inl yw2)), (g 37, .inl (cZ, 900, .inl yo2)), (g 43, .inl (cJ, 90, .inr (.inl be2))), (g 44, .inl (cJ, 90, .inr (.inl bf2))), (g 53, .inl (cI, 32, .inl rw_))])) := by
  refine skM_of (by decide +kernel) (Nat.le_of_ble_eq_true rfl) ?_
  intro p e s m below meth c A ls E hP hD hl
  obtain ⟨hx, hb, hr, hml, hlocks, hin, hown, hts, hK, hA⟩ := E
  have hown : s.vm.findClass RX12 = some m.cls := hown
  have hS : va_S A s.heap s.heap [] := va_S.rf
  have hl : lv_has ls 5 [(0, .ref mm), (1, .int d), (2, .int w)] := hl
  refine lv_aload_n hx hb dX12_sure_0 rfl (lv_at hl 0 rfl) ?_
  refine lv_iload_n hx hb dX12_sure_1 rfl (lv_at hl 1 rfl) ?_
  refine lv_iload_n hx hb dX12_sure_2 rfl (lv_at hl 2 rfl) ?_
  refine sk_Vi (q0 := 0) (n := 2) (rest := []) (wr := [(g 24, .inl (cI, 6, .inl (l6 u0 u1 u2 u3 u4 u5))), (g 25, .inl (cI, 6, .inl (l6 v0 v1 v2 v3 v4 v5))), (g 26, .inl (cI, 3200, .inl (fun j => nI (cs j)))), (g 46, .inl (cI, 9, .inl (fun j => nI (pt j)))), (g 86, .inl (cJ, 1700, .inr (.inl ql))), (g 38, .inl (cI, 90, .inl ws_)), (g 36, .inl (cZ, 900, .inl yw)), (g 37, .inl (cZ, 900, .inl yo)), (g 43, .inl (cJ, 90, .inr (.inl be))), (g 44, .inl (cJ, 90, .inr (.inl bf))), (g 53, .inl (cI, 32, .inl rw_))]) ⟨hx, hb, hml, hown, hts⟩ hl.1 (c_m_canBeTold l D cI cJ cC cZ cS mm g ta pa pe pd pb pp pf pg pn rt rn cd sn il tk am at_ aa wt wy rm ud nu sd qn qw qo qb qp qa qi oc d w l0 l1 dm l3 nw (by omega) hnw) w_8_77 w_8_79 w_0_101 w_1_14 w_8_80 (by decide +kernel) ⟨⟨(Nat.le_of_ble_eq_true rfl), (Nat.le_of_ble_eq_true rfl)⟩, (Nat.le_of_ble_eq_true rfl), (Nat.le_of_ble_eq_true rfl)⟩ hK hP hD hS hA [0, 7, 4] [1, 2, 3, 5, 6, 8, 9, 10, 11, 12, 13] rfl rfl (by decide +kernel) (by decide +kernel) (by decide +kernel) rfl rfl rfl rfl (Nat.le_of_ble_eq_true rfl) dX12_sure_3 (fun r_2 u H locs hw hP hD hS => ?_)
  obtain ⟨b_1, hb1_3, rfl, rfl⟩ := hw
  have hP : va_P D vwCl [(g 24, .inl (cI, 6, .inl (l6 u0 u1 u2 u3 u4 u5))), (g 25, .inl (cI, 6, .inl (l6 v0 v1 v2 v3 v4 v5))), (g 26, .inl (cI, 3200, .inl (fun j => nI (cs j)))), (g 46, .inl (cI, 9, .inl (fun j => nI (pt j)))), (g 86, .inl (cJ, 1700, .inr (.inl ql))), (g 38, .inl (cI, 90, .inl ws_)), (g 36, .inl (cZ, 900, .inl yw)), (g 37, .inl (cZ, 900, .inl yo)), (g 43, .inl (cJ, 90, .inr (.inl be))), (g 44, .inl (cJ, 90, .inr (.inl bf))), (g 53, .inl (cI, 32, .inl rw_)), (mm, .inr (12, mo g (nI ta) (nI pa) (nI pe) pd (nI pb) pp pf pg pn rt rn (nI cd) sn (nI il) tk am at_ aa 0 0 (-1) wt wy 0 (nI rm) (nI ud) (nI nu) sd (nI qn) (nI qw) qo (nI qb) (nI qp) qa (nI qi) (nI oc))), (g 20, .inl (cI, 4, .inl (l4 (nI l0) (nI l1) (nI dm) (nI l3)))), (g 31, .inl (cI, 120, .inl nw))] H := hP
  have hD : va_D A [(g 24, .inl (cI, 6, .inl (l6 u0 u1 u2 u3 u4 u5))), (g 25, .inl (cI, 6, .inl (l6 v0 v1 v2 v3 v4 v5))), (g 26, .inl (cI, 3200, .inl (fun j => nI (cs j)))), (g 46, .inl (cI, 9, .inl (fun j => nI (pt j)))), (g 86, .inl (cJ, 1700, .inr (.inl ql))), (g 38, .inl (cI, 90, .inl ws_)), (g 36, .inl (cZ, 900, .inl yw)), (g 37, .inl (cZ, 900, .inl yo)), (g 43, .inl (cJ, 90, .inr (.inl be))), (g 44, .inl (cJ, 90, .inr (.inl bf))), (g 53, .inl (cI, 32, .inl rw_)), (mm, .inr (12, mo g (nI ta) (nI pa) (nI pe) pd (nI pb) pp pf pg pn rt rn (nI cd) sn (nI il) tk am at_ aa 0 0 (-1) wt wy 0 (nI rm) (nI ud) (nI nu) sd (nI qn) (nI qw) qo (nI qb) (nI qp) qa (nI qi) (nI oc))), (g 20, .inl (cI, 4, .inl (l4 (nI l0) (nI l1) (nI dm) (nI l3)))), (g 31, .inl (cI, 120, .inl nw))] := hD
  refine lv_if_ne (tgt := 11) hx hb dX12_sure_6 (by decide) (fun c_4 => ?_) (fun c_4 => ?_)
  · have c_4 : ¬ (b_1 = 0) := fun h => c_4 ((neq b_1 0 (by omega) (by omega)).mpr h)
    obtain ⟨kd_5, hkd_5, rfl⟩ := (hb1_3.resolve_left (by omega)).2
    refine lv_aload_n hx hb dX12_sure_11 rfl (lv_at hl 0 rfl) ?_
    refine lv_iload_n hx hb dX12_sure_12 rfl (lv_at hl 1 rfl) ?_
    refine lv_iload_n hx hb dX12_sure_13 rfl (lv_at hl 2 rfl) ?_
    refine sk_Vv (q0 := 0) (n := 2) (rest := []) (wr := []) ⟨hx, hb, hml, hown, hts⟩ hl.1 (c_m_laysByWord l D cI cJ cC cZ cS mm g ta pa pe pd pb pp pf pg pn rt rn cd sn il tk am at_ aa wt wy rm ud nu sd qn qw qo qb qp qa qi oc (nI kd_5) w u0 u1 u2 u3 u4 u5 v0 v1 v2 v3 v4 v5 cs nw pt ql l0 l1 dm l3 ws_ yw yo be bf rw_ (by omega) (by omega) hp0 hp1 hp2 (by omega) hcs hnw hpt) w_8_81 w_8_83 w_0_102 w_1_14 w_8_84 (by decide +kernel) ⟨⟨(Nat.le_of_ble_eq_true rfl), (Nat.le_of_ble_eq_true rfl)⟩, (Nat.le_of_ble_eq_true rfl), (Nat.le_of_ble_eq_true rfl)⟩ hK hP hD hS hA [11, 0, 1, 2, 13, 3, 4, 12, 5, 6, 7, 8, 9, 10] [] rfl rfl (by decide +kernel) (by decide +kernel) (by decide +kernel) rfl rfl rfl rfl (Nat.le_of_ble_eq_true rfl) dX12_sure_14 (fun u H locs hw hP hD hS => ?_)
    obtain ⟨tk2_6, qp2_7, am2_8, at_2_9, aa2_10, wy2_11, wt2_12, ql2_13, ws_2_14, yw2_15, yo2_16, be2_17, bf2_18, rfl⟩ := hw
    have hP : va_P D vwCl [(mm, .inr (12, mo g (nI ta) (nI pa) (nI pe) pd (nI pb) pp pf pg pn rt rn (nI cd) sn (nI il) tk2_6 am2_8 at_2_9 aa2_10 0 0 (-1) wt2_12 wy2_11 0 (nI rm) (nI ud) (nI nu) sd (nI qn) (nI qw) qo (nI qb) (nI qp2_7) qa (nI qi) (nI oc))), (g 24, .inl (cI, 6, .inl (l6 u0 u1 u2 u3 u4 u5))), (g 25, .inl (cI, 6, .inl (l6 v0 v1 v2 v3 v4 v5))), (g 26, .inl (cI, 3200, .inl (fun j => nI (cs j)))), (g 31, .inl (cI, 120, .inl nw)), (g 46, .inl (cI, 9, .inl (fun j => nI (pt j)))), (g 86, .inl (cJ, 1700, .inr (.inl ql2_13))), (g 20, .inl (cI, 4, .inl (l4 (nI l0) (nI l1) (nI dm) (nI l3)))), (g 38, .inl (cI, 90, .inl ws_2_14)), (g 36, .inl (cZ, 900, .inl yw2_15)), (g 37, .inl (cZ, 900, .inl yo2_16)), (g 43, .inl (cJ, 90, .inr (.inl be2_17))), (g 44, .inl (cJ, 90, .inr (.inl bf2_18))), (g 53, .inl (cI, 32, .inl rw_))] H := hP
    have hD : va_D A [(mm, .inr (12, mo g (nI ta) (nI pa) (nI pe) pd (nI pb) pp pf pg pn rt rn (nI cd) sn (nI il) tk2_6 am2_8 at_2_9 aa2_10 0 0 (-1) wt2_12 wy2_11 0 (nI rm) (nI ud) (nI nu) sd (nI qn) (nI qw) qo (nI qb) (nI qp2_7) qa (nI qi) (nI oc))), (g 24, .inl (cI, 6, .inl (l6 u0 u1 u2 u3 u4 u5))), (g 25, .inl (cI, 6, .inl (l6 v0 v1 v2 v3 v4 v5))), (g 26, .inl (cI, 3200, .inl (fun j => nI (cs j)))), (g 31, .inl (cI, 120, .inl nw)), (g 46, .inl (cI, 9, .inl (fun j => nI (pt j)))), (g 86, .inl (cJ, 1700, .inr (.inl ql2_13))), (g 20, .inl (cI, 4, .inl (l4 (nI l0) (nI l1) (nI dm) (nI l3)))), (g 38, .inl (cI, 90, .inl ws_2_14)), (g 36, .inl (cZ, 900, .inl yw2_15)), (g 37, .inl (cZ, 900, .inl yo2_16)), (g 43, .inl (cJ, 90, .inr (.inl be2_17))), (g 44, .inl (cJ, 90, .inr (.inl bf2_18))), (g 53, .inl (cI, 32, .inl rw_))] := hD
    refine lv_aload_n hx hb dX12_sure_17 rfl (lv_at hl 0 rfl) ?_
    refine sk_get (v := .long wy2_11) (C := RX12) (T := TX12) (N := 92) hx hb hts inlX12 hown hK hP 0 rfl rfl 45 (by decide) w_5_200 rfl dX12_sure_18 ?_
    refine lv_lconst (v := 0) hx hb dX12_sure_21 (by decide) ?_
    refine W.lcmp hx hb dX12_sure_22 ?_
    refine lv_if_ne (tgt := 28) hx hb dX12_sure_23 (by decide) (fun c_19 => ?_) (fun c_19 => ?_)
    · skip
      refine lv_iconst (v := 0) hx hb dX12_sure_28 (by decide) ?_
      refine lv_istore_n (lv' := [(3, .int 0), (0, .ref mm), (1, .int (nI kd_5)), (2, .int w)]) hx hb dX12_sure_29 rfl hl (by decide) rfl (fun ls hl => ?_)
      refine lv_iload_n hx hb dX12_sure_30 rfl (lv_at hl 2 rfl) ?_
      refine lv_istore (lv' := [(4, .int (nI kd_5)), (3, .int 0), (0, .ref mm), (1, .int (nI kd_5)), (2, .int w)]) hx hb dX12_sure_31 hl (by decide) rfl (fun ls hl => ?_)
      have lp_20 : ∀ (n_21 : Nat) (i : Nat) (nn : Int32) (H : Heap) (locs : List Loc) (ls : Array Slot), 10 - i < n_21 → (i ≤ dm) → va_P D vwCl [(mm, .inr (12, mo g (nI ta) (nI pa) (nI pe) pd (nI pb) pp pf pg pn rt rn (nI cd) sn (nI il) tk2_6 am2_8 at_2_9 aa2_10 0 0 (-1) wt2_12 wy2_11 0 (nI rm) (nI ud) (nI nu) sd (nI qn) (nI qw) qo (nI qb) (nI qp2_7) qa (nI qi) (nI oc))), (g 24, .inl (cI, 6, .inl (l6 u0 u1 u2 u3 u4 u5))), (g 25, .inl (cI, 6, .inl (l6 v0 v1 v2 v3 v4 v5))), (g 26, .inl (cI, 3200, .inl (fun j => nI (cs j)))), (g 31, .inl (cI, 120, .inl nw)), (g 46, .inl (cI, 9, .inl (fun j => nI (pt j)))), (g 86, .inl (cJ, 1700, .inr (.inl ql2_13))), (g 20, .inl (cI, 4, .inl (l4 (nI l0) (nI l1) (nI dm) (nI l3)))), (g 38, .inl (cI, 90, .inl ws_2_14)), (g 36, .inl (cZ, 900, .inl yw2_15)), (g 37, .inl (cZ, 900, .inl yo2_16)), (g 43, .inl (cJ, 90, .inr (.inl be2_17))), (g 44, .inl (cJ, 90, .inr (.inl bf2_18))), (g 53, .inl (cI, 32, .inl rw_))] H → va_D A [(mm, .inr (12, mo g (nI ta) (nI pa) (nI pe) pd (nI pb) pp pf pg pn rt rn (nI cd) sn (nI il) tk2_6 am2_8 at_2_9 aa2_10 0 0 (-1) wt2_12 wy2_11 0 (nI rm) (nI ud) (nI nu) sd (nI qn) (nI qw) qo (nI qb) (nI qp2_7) qa (nI qi) (nI oc))), (g 24, .inl (cI, 6, .inl (l6 u0 u1 u2 u3 u4 u5))), (g 25, .inl (cI, 6, .inl (l6 v0 v1 v2 v3 v4 v5))), (g 26, .inl (cI, 3200, .inl (fun j => nI (cs j)))), (g 31, .inl (cI, 120, .inl nw)), (g 46, .inl (cI, 9, .inl (fun j => nI (pt j)))), (g 86, .inl (cJ, 1700, .inr (.inl ql2_13))), (g 20, .inl (cI, 4, .inl (l4 (nI l0) (nI l1) (nI dm) (nI l3)))), (g 38, .inl (cI, 90, .inl ws_2_14)), (g 36, .inl (cZ, 900, .inl yw2_15)), (g 37, .inl (cZ, 900, .inl yo2_16)), (g 43, .inl (cJ, 90, .inr (.inl be2_17))), (g 44, .inl (cJ, 90, .inr (.inl bf2_18))), (g 53, .inl (cI, 32, .inl rw_))] → va_S A s.heap H locs → lv_has ls 5 [(4, .int (nI i)), (3, .int nn), (0, .ref mm), (1, .int (nI kd_5)), (2, .int w)] → W p l e { frames := 6, cells := 0, slots := 0, locals := 144 } s m ([.ref mm, .int (nI kd_5), .int w] : List Value).toArray below meth c H locs 0 0 (MQ below (skI D (skT cI cJ cC cZ cS) (fun (r : Int32) (u : va_W) => ∃ (tk2 : Int32), ∃ (qp2 : Nat), ∃ (am2 : Int32), ∃ (at_2 : Int32), ∃ (aa2 : Int32), ∃ (wy2 : Int64), ∃ (wt2 : Int32), ∃ (ql2 : Nat → Int64), ∃ (ws_2 : Nat → Int32), ∃ (yw2 : Nat → Int32), ∃ (yo2 : Nat → Int32), ∃ (be2 : Nat → Int64), ∃ (bf2 : Nat → Int64), u = [(mm, .inr (12, mo g (nI ta) (nI pa) (nI pe) pd (nI pb) pp pf pg pn rt rn (nI cd) sn (nI il) tk2 am2 at_2 aa2 0 0 (-1) wt2 wy2 0 (nI rm) (nI ud) (nI nu) sd (nI qn) (nI qw) qo (nI qb) (nI qp2) qa (nI qi) (nI oc))), (g 24, .inl (cI, 6, .inl (l6 u0 u1 u2 u3 u4 u5))), (g 25, .inl (cI, 6, .inl (l6 v0 v1 v2 v3 v4 v5))), (g 26, .inl (cI, 3200, .inl (fun j => nI (cs j)))), (g 31, .inl (cI, 120, .inl nw)), (g 46, .inl (cI, 9, .inl (fun j => nI (pt j)))), (g 86, .inl (cJ, 1700, .inr (.inl ql2))), (g 20, .inl (cI, 4, .inl (l4 (nI l0) (nI l1) (nI dm) (nI l3)))), (g 38, .inl (cI, 90, .inl ws_2)), (g 36, .inl (cZ, 900, .inl yw2)), (g 37, .inl (cZ, 900, .inl yo2)), (g 43, .inl (cJ, 90, .inr (.inl be2))), (g 44, .inl (cJ, 90, .inr (.inl bf2))), (g 53, .inl (cI, 32, .inl rw_))]) A) ([.ref mm, .int (nI kd_5), .int w] : List Value).toArray s 0 0 A) (F0 m 33 ls []) := by
        intro n_21
        induction n_21 with
        | zero => intro i nn H locs ls hm; exact absurd hm (Nat.not_lt_zero _)
        | succ n_21 ih_lp_20 =>
          intro i nn H locs ls hm hi hP hD hS hl
          refine lv_iload hx hb dX12_sure_33 (lv_at hl 0 rfl) ?_
          refine lv_aload_n hx hb dX12_sure_35 rfl (lv_at hl 2 rfl) ?_
          refine sk_Vi (q0 := 0) (n := 0) (rest := [.int (nI i)]) (wr := [(g 24, .inl (cI, 6, .inl (l6 u0 u1 u2 u3 u4 u5))), (g 25, .inl (cI, 6, .inl (l6 v0 v1 v2 v3 v4 v5))), (g 26, .inl (cI, 3200, .inl (fun j => nI (cs j)))), (g 31, .inl (cI, 120, .inl nw)), (g 46, .inl (cI, 9, .inl (fun j => nI (pt j)))), (g 86, .inl (cJ, 1700, .inr (.inl ql2_13))), (g 38, .inl (cI, 90, .inl ws_2_14)), (g 36, .inl (cZ, 900, .inl yw2_15)), (g 37, .inl (cZ, 900, .inl yo2_16)), (g 43, .inl (cJ, 90, .inr (.inl be2_17))), (g 44, .inl (cJ, 90, .inr (.inl bf2_18))), (g 53, .inl (cI, 32, .inl rw_))]) ⟨hx, hb, hml, hown, hts⟩ hl.1 (c_m_dayMany l D cI cJ cC cZ cS mm g ta pa pe pd pb pp pf pg pn rt rn cd sn il tk2_6 am2_8 at_2_9 aa2_10 0 0 (-1) wt2_12 wy2_11 0 rm ud nu sd qn qw qo qb qp2_7 qa qi oc l0 l1 dm l3) w_7_98 w_7_100 w_0_69 w_1_14 w_7_101 (by decide +kernel) ⟨⟨(Nat.le_of_ble_eq_true rfl), (Nat.le_of_ble_eq_true rfl)⟩, (Nat.le_of_ble_eq_true rfl), (Nat.le_of_ble_eq_true rfl)⟩ hK hP hD hS hA [0, 7] [1, 2, 3, 4, 5, 6, 8, 9, 10, 11, 12, 13] rfl rfl (by decide +kernel) (by decide +kernel) (by decide +kernel) rfl rfl rfl rfl (Nat.le_of_ble_eq_true rfl) dX12_sure_36 (fun r_22 u H locs hw hP hD hS => ?_)
          obtain ⟨rfl, rfl⟩ := hw
          have hP : va_P D vwCl [(g 24, .inl (cI, 6, .inl (l6 u0 u1 u2 u3 u4 u5))), (g 25, .inl (cI, 6, .inl (l6 v0 v1 v2 v3 v4 v5))), (g 26, .inl (cI, 3200, .inl (fun j => nI (cs j)))), (g 31, .inl (cI, 120, .inl nw)), (g 46, .inl (cI, 9, .inl (fun j => nI (pt j)))), (g 86, .inl (cJ, 1700, .inr (.inl ql2_13))), (g 38, .inl (cI, 90, .inl ws_2_14)), (g 36, .inl (cZ, 900, .inl yw2_15)), (g 37, .inl (cZ, 900, .inl yo2_16)), (g 43, .inl (cJ, 90, .inr (.inl be2_17))), (g 44, .inl (cJ, 90, .inr (.inl bf2_18))), (g 53, .inl (cI, 32, .inl rw_)), (mm, .inr (12, mo g (nI ta) (nI pa) (nI pe) pd (nI pb) pp pf pg pn rt rn (nI cd) sn (nI il) tk2_6 am2_8 at_2_9 aa2_10 0 0 (-1) wt2_12 wy2_11 0 (nI rm) (nI ud) (nI nu) sd (nI qn) (nI qw) qo (nI qb) (nI qp2_7) qa (nI qi) (nI oc))), (g 20, .inl (cI, 4, .inl (l4 (nI l0) (nI l1) (nI dm) (nI l3))))] H := hP
          have hD : va_D A [(g 24, .inl (cI, 6, .inl (l6 u0 u1 u2 u3 u4 u5))), (g 25, .inl (cI, 6, .inl (l6 v0 v1 v2 v3 v4 v5))), (g 26, .inl (cI, 3200, .inl (fun j => nI (cs j)))), (g 31, .inl (cI, 120, .inl nw)), (g 46, .inl (cI, 9, .inl (fun j => nI (pt j)))), (g 86, .inl (cJ, 1700, .inr (.inl ql2_13))), (g 38, .inl (cI, 90, .inl ws_2_14)), (g 36, .inl (cZ, 900, .inl yw2_15)), (g 37, .inl (cZ, 900, .inl yo2_16)), (g 43, .inl (cJ, 90, .inr (.inl be2_17))), (g 44, .inl (cJ, 90, .inr (.inl bf2_18))), (g 53, .inl (cI, 32, .inl rw_)), (mm, .inr (12, mo g (nI ta) (nI pa) (nI pe) pd (nI pb) pp pf pg pn rt rn (nI cd) sn (nI il) tk2_6 am2_8 at_2_9 aa2_10 0 0 (-1) wt2_12 wy2_11 0 (nI rm) (nI ud) (nI nu) sd (nI qn) (nI qw) qo (nI qb) (nI qp2_7) qa (nI qi) (nI oc))), (g 20, .inl (cI, 4, .inl (l4 (nI l0) (nI l1) (nI dm) (nI l3))))] := hD
          refine lv_icmp_ge (tgt := 64) hx hb dX12_sure_39 (by decide) (fun c_23 => ?_) (fun c_23 => ?_)
          · have c_23 : dm ≤ i := (nle dm i (by omega) (by omega)).mp c_23
            refine lv_iload_n hx hb dX12_sure_64 rfl (lv_at hl 1 rfl) ?_
            have hP := hP.sub (ws' := [(mm, .inr (12, mo g (nI ta) (nI pa) (nI pe) pd (nI pb) pp pf pg pn rt rn (nI cd) sn (nI il) tk2_6 am2_8 at_2_9 aa2_10 0 0 (-1) wt2_12 wy2_11 0 (nI rm) (nI ud) (nI nu) sd (nI qn) (nI qw) qo (nI qb) (nI qp2_7) qa (nI qi) (nI oc))), (g 24, .inl (cI, 6, .inl (l6 u0 u1 u2 u3 u4 u5))), (g 25, .inl (cI, 6, .inl (l6 v0 v1 v2 v3 v4 v5))), (g 26, .inl (cI, 3200, .inl (fun j => nI (cs j)))), (g 31, .inl (cI, 120, .inl nw)), (g 46, .inl (cI, 9, .inl (fun j => nI (pt j)))), (g 86, .inl (cJ, 1700, .inr (.inl ql2_13))), (g 20, .inl (cI, 4, .inl (l4 (nI l0) (nI l1) (nI dm) (nI l3)))), (g 38, .inl (cI, 90, .inl ws_2_14)), (g 36, .inl (cZ, 900, .inl yw2_15)), (g 37, .inl (cZ, 900, .inl yo2_16)), (g 43, .inl (cJ, 90, .inr (.inl be2_17))), (g 44, .inl (cJ, 90, .inr (.inl bf2_18))), (g 53, .inl (cI, 32, .inl rw_))]) [12, 0, 1, 2, 3, 4, 5, 13, 6, 7, 8, 9, 10, 11] rfl
            have hD := hD.sub (ws' := [(mm, .inr (12, mo g (nI ta) (nI pa) (nI pe) pd (nI pb) pp pf pg pn rt rn (nI cd) sn (nI il) tk2_6 am2_8 at_2_9 aa2_10 0 0 (-1) wt2_12 wy2_11 0 (nI rm) (nI ud) (nI nu) sd (nI qn) (nI qw) qo (nI qb) (nI qp2_7) qa (nI qi) (nI oc))), (g 24, .inl (cI, 6, .inl (l6 u0 u1 u2 u3 u4 u5))), (g 25, .inl (cI, 6, .inl (l6 v0 v1 v2 v3 v4 v5))), (g 26, .inl (cI, 3200, .inl (fun j => nI (cs j)))), (g 31, .inl (cI, 120, .inl nw)), (g 46, .inl (cI, 9, .inl (fun j => nI (pt j)))), (g 86, .inl (cJ, 1700, .inr (.inl ql2_13))), (g 20, .inl (cI, 4, .inl (l4 (nI l0) (nI l1) (nI dm) (nI l3)))), (g 38, .inl (cI, 90, .inl ws_2_14)), (g 36, .inl (cZ, 900, .inl yw2_15)), (g 37, .inl (cZ, 900, .inl yo2_16)), (g 43, .inl (cJ, 90, .inr (.inl be2_17))), (g 44, .inl (cJ, 90, .inr (.inl bf2_18))), (g 53, .inl (cI, 32, .inl rw_))]) [12, 0, 1, 2, 3, 4, 5, 13, 6, 7, 8, 9, 10, 11] (by decide +kernel) rfl
            exact sk_iret hx hb hr rfl hlocks hK hP hD hS (⟨tk2_6, qp2_7, am2_8, at_2_9, aa2_10, wy2_11, wt2_12, ql2_13, ws_2_14, yw2_15, yo2_16, be2_17, bf2_18, rfl⟩) (Nat.le_of_ble_eq_true rfl) (Nat.le_of_ble_eq_true rfl) dX12_sure_65
          · have c_23 : ¬ (dm ≤ i) := fun h => c_23 ((nle dm i (by omega) (by omega)).mpr h)
            refine lv_aload_n hx hb dX12_sure_42 rfl (lv_at hl 2 rfl) ?_
            refine lv_iload hx hb dX12_sure_43 (lv_at hl 0 rfl) ?_
            refine sk_Vi (q0 := 0) (n := 1) (rest := []) (wr := [(g 24, .inl (cI, 6, .inl (l6 u0 u1 u2 u3 u4 u5))), (g 25, .inl (cI, 6, .inl (l6 v0 v1 v2 v3 v4 v5))), (g 26, .inl (cI, 3200, .inl (fun j => nI (cs j)))), (g 31, .inl (cI, 120, .inl nw)), (g 46, .inl (cI, 9, .inl (fun j => nI (pt j)))), (g 86, .inl (cJ, 1700, .inr (.inl ql2_13))), (g 38, .inl (cI, 90, .inl ws_2_14)), (g 36, .inl (cZ, 900, .inl yw2_15)), (g 37, .inl (cZ, 900, .inl yo2_16)), (g 53, .inl (cI, 32, .inl rw_)), (g 20, .inl (cI, 4, .inl (l4 (nI l0) (nI l1) (nI dm) (nI l3))))]) ⟨hx, hb, hml, hown, hts⟩ hl.1 (c_m_moodsOf l D cI cJ cC cZ cS mm g ta pa pe pd pb pp pf pg pn rt rn cd sn il tk2_6 am2_8 at_2_9 aa2_10 wt2_12 wy2_11 rm ud nu sd qn qw qo qb qp2_7 qa qi oc i be2_17 bf2_18 (by omega)) w_8_85 w_8_87 w_0_103 w_1_14 w_8_88 (by decide +kernel) ⟨⟨(Nat.le_of_ble_eq_true rfl), (Nat.le_of_ble_eq_true rfl)⟩, (Nat.le_of_ble_eq_true rfl), (Nat.le_of_ble_eq_true rfl)⟩ hK hP hD hS hA [12, 9, 10] [0, 1, 2, 3, 4, 5, 6, 7, 8, 11, 13] rfl rfl (by decide +kernel) (by decide +kernel) (by decide +kernel) rfl rfl rfl rfl (Nat.le_of_ble_eq_true rfl) dX12_sure_45 (fun r_24 u H locs hw hP hD hS => ?_)
            obtain rfl := hw
            have hP : va_P D vwCl [(g 24, .inl (cI, 6, .inl (l6 u0 u1 u2 u3 u4 u5))), (g 25, .inl (cI, 6, .inl (l6 v0 v1 v2 v3 v4 v5))), (g 26, .inl (cI, 3200, .inl (fun j => nI (cs j)))), (g 31, .inl (cI, 120, .inl nw)), (g 46, .inl (cI, 9, .inl (fun j => nI (pt j)))), (g 86, .inl (cJ, 1700, .inr (.inl ql2_13))), (g 38, .inl (cI, 90, .inl ws_2_14)), (g 36, .inl (cZ, 900, .inl yw2_15)), (g 37, .inl (cZ, 900, .inl yo2_16)), (g 53, .inl (cI, 32, .inl rw_)), (g 20, .inl (cI, 4, .inl (l4 (nI l0) (nI l1) (nI dm) (nI l3)))), (mm, .inr (12, mo g (nI ta) (nI pa) (nI pe) pd (nI pb) pp pf pg pn rt rn (nI cd) sn (nI il) tk2_6 am2_8 at_2_9 aa2_10 0 0 (-1) wt2_12 wy2_11 0 (nI rm) (nI ud) (nI nu) sd (nI qn) (nI qw) qo (nI qb) (nI qp2_7) qa (nI qi) (nI oc))), (g 43, .inl (cJ, 90, .inr (.inl be2_17))), (g 44, .inl (cJ, 90, .inr (.inl bf2_18)))] H := hP
            have hD : va_D A [(g 24, .inl (cI, 6, .inl (l6 u0 u1 u2 u3 u4 u5))), (g 25, .inl (cI, 6, .inl (l6 v0 v1 v2 v3 v4 v5))), (g 26, .inl (cI, 3200, .inl (fun j => nI (cs j)))), (g 31, .inl (cI, 120, .inl nw)), (g 46, .inl (cI, 9, .inl (fun j => nI (pt j)))), (g 86, .inl (cJ, 1700, .inr (.inl ql2_13))), (g 38, .inl (cI, 90, .inl ws_2_14)), (g 36, .inl (cZ, 900, .inl yw2_15)), (g 37, .inl (cZ, 900, .inl yo2_16)), (g 53, .inl (cI, 32, .inl rw_)), (g 20, .inl (cI, 4, .inl (l4 (nI l0) (nI l1) (nI dm) (nI l3)))), (mm, .inr (12, mo g (nI ta) (nI pa) (nI pe) pd (nI pb) pp pf pg pn rt rn (nI cd) sn (nI il) tk2_6 am2_8 at_2_9 aa2_10 0 0 (-1) wt2_12 wy2_11 0 (nI rm) (nI ud) (nI nu) sd (nI qn) (nI qw) qo (nI qb) (nI qp2_7) qa (nI qi) (nI oc))), (g 43, .inl (cJ, 90, .inr (.inl be2_17))), (g 44, .inl (cJ, 90, .inr (.inl bf2_18)))] := hD
            refine sk_Si (n := 1) (rest := []) (wr := [(g 24, .inl (cI, 6, .inl (l6 u0 u1 u2 u3 u4 u5))), (g 25, .inl (cI, 6, .inl (l6 v0 v1 v2 v3 v4 v5))), (g 26, .inl (cI, 3200, .inl (fun j => nI (cs j)))), (g 31, .inl (cI, 120, .inl nw)), (g 46, .inl (cI, 9, .inl (fun j => nI (pt j)))), (g 86, .inl (cJ, 1700, .inr (.inl ql2_13))), (g 38, .inl (cI, 90, .inl ws_2_14)), (g 36, .inl (cZ, 900, .inl yw2_15)), (g 37, .inl (cZ, 900, .inl yo2_16)), (g 53, .inl (cI, 32, .inl rw_)), (g 20, .inl (cI, 4, .inl (l4 (nI l0) (nI l1) (nI dm) (nI l3)))), (mm, .inr (12, mo g (nI ta) (nI pa) (nI pe) pd (nI pb) pp pf pg pn rt rn (nI cd) sn (nI il) tk2_6 am2_8 at_2_9 aa2_10 0 0 (-1) wt2_12 wy2_11 0 (nI rm) (nI ud) (nI nu) sd (nI qn) (nI qw) qo (nI qb) (nI qp2_7) qa (nI qi) (nI oc))), (g 43, .inl (cJ, 90, .inr (.inl be2_17))), (g 44, .inl (cJ, 90, .inr (.inl bf2_18)))]) ⟨hx, hb, hml, hown, hts⟩ hl.1 (c_m_bits l D cI cJ cC cZ cS r_24) w_7_110 w_7_111 w_1_14 w_7_112 (by decide +kernel) ⟨⟨(Nat.le_of_ble_eq_true rfl), (Nat.le_of_ble_eq_true rfl)⟩, (Nat.le_of_ble_eq_true rfl), (Nat.le_of_ble_eq_true rfl)⟩ hK hP hD hS hA [] [0, 1, 2, 3, 4, 5, 6, 7, 8, 9, 10, 11, 12, 13] rfl rfl (by decide +kernel) (by decide +kernel) (by decide +kernel) rfl rfl (Nat.le_of_ble_eq_true rfl) dX12_sure_48 (fun r_25 u H locs hw hP hD hS => ?_)
            obtain rfl := hw
            have hP : va_P D vwCl [(g 24, .inl (cI, 6, .inl (l6 u0 u1 u2 u3 u4 u5))), (g 25, .inl (cI, 6, .inl (l6 v0 v1 v2 v3 v4 v5))), (g 26, .inl (cI, 3200, .inl (fun j => nI (cs j)))), (g 31, .inl (cI, 120, .inl nw)), (g 46, .inl (cI, 9, .inl (fun j => nI (pt j)))), (g 86, .inl (cJ, 1700, .inr (.inl ql2_13))), (g 38, .inl (cI, 90, .inl ws_2_14)), (g 36, .inl (cZ, 900, .inl yw2_15)), (g 37, .inl (cZ, 900, .inl yo2_16)), (g 53, .inl (cI, 32, .inl rw_)), (g 20, .inl (cI, 4, .inl (l4 (nI l0) (nI l1) (nI dm) (nI l3)))), (mm, .inr (12, mo g (nI ta) (nI pa) (nI pe) pd (nI pb) pp pf pg pn rt rn (nI cd) sn (nI il) tk2_6 am2_8 at_2_9 aa2_10 0 0 (-1) wt2_12 wy2_11 0 (nI rm) (nI ud) (nI nu) sd (nI qn) (nI qw) qo (nI qb) (nI qp2_7) qa (nI qi) (nI oc))), (g 43, .inl (cJ, 90, .inr (.inl be2_17))), (g 44, .inl (cJ, 90, .inr (.inl bf2_18)))] H := hP
            have hD : va_D A [(g 24, .inl (cI, 6, .inl (l6 u0 u1 u2 u3 u4 u5))), (g 25, .inl (cI, 6, .inl (l6 v0 v1 v2 v3 v4 v5))), (g 26, .inl (cI, 3200, .inl (fun j => nI (cs j)))), (g 31, .inl (cI, 120, .inl nw)), (g 46, .inl (cI, 9, .inl (fun j => nI (pt j)))), (g 86, .inl (cJ, 1700, .inr (.inl ql2_13))), (g 38, .inl (cI, 90, .inl ws_2_14)), (g 36, .inl (cZ, 900, .inl yw2_15)), (g 37, .inl (cZ, 900, .inl yo2_16)), (g 53, .inl (cI, 32, .inl rw_)), (g 20, .inl (cI, 4, .inl (l4 (nI l0) (nI l1) (nI dm) (nI l3)))), (mm, .inr (12, mo g (nI ta) (nI pa) (nI pe) pd (nI pb) pp pf pg pn rt rn (nI cd) sn (nI il) tk2_6 am2_8 at_2_9 aa2_10 0 0 (-1) wt2_12 wy2_11 0 (nI rm) (nI ud) (nI nu) sd (nI qn) (nI qw) qo (nI qb) (nI qp2_7) qa (nI qi) (nI oc))), (g 43, .inl (cJ, 90, .inr (.inl be2_17))), (g 44, .inl (cJ, 90, .inr (.inl bf2_18)))] := hD
            refine lv_iconst (v := 1) hx hb dX12_sure_51 (by decide) ?_
            refine lv_icmp_ne (tgt := 64) hx hb dX12_sure_52 (by decide) (fun c_26 => ?_) (fun c_26 => ?_)
            · skip
              refine lv_iload_n hx hb dX12_sure_64 rfl (lv_at hl 1 rfl) ?_
              have hP := hP.sub (ws' := [(mm, .inr (12, mo g (nI ta) (nI pa) (nI pe) pd (nI pb) pp pf pg pn rt rn (nI cd) sn (nI il) tk2_6 am2_8 at_2_9 aa2_10 0 0 (-1) wt2_12 wy2_11 0 (nI rm) (nI ud) (nI nu) sd (nI qn) (nI qw) qo (nI qb) (nI qp2_7) qa (nI qi) (nI oc))), (g 24, .inl (cI, 6, .inl (l6 u0 u1 u2 u3 u4 u5))), (g 25, .inl (cI, 6, .inl (l6 v0 v1 v2 v3 v4 v5))), (g 26, .inl (cI, 3200, .inl (fun j => nI (cs j)))), (g 31, .inl (cI, 120, .inl nw)), (g 46, .inl (cI, 9, .inl (fun j => nI (pt j)))), (g 86, .inl (cJ, 1700, .inr (.inl ql2_13))), (g 20, .inl (cI, 4, .inl (l4 (nI l0) (nI l1) (nI dm) (nI l3)))), (g 38, .inl (cI, 90, .inl ws_2_14)), (g 36, .inl (cZ, 900, .inl yw2_15)), (g 37, .inl (cZ, 900, .inl yo2_16)), (g 43, .inl (cJ, 90, .inr (.inl be2_17))), (g 44, .inl (cJ, 90, .inr (.inl bf2_18))), (g 53, .inl (cI, 32, .inl rw_))]) [11, 0, 1, 2, 3, 4, 5, 10, 6, 7, 8, 12, 13, 9] rfl
              have hD := hD.sub (ws' := [(mm, .inr (12, mo g (nI ta) (nI pa) (nI pe) pd (nI pb) pp pf pg pn rt rn (nI cd) sn (nI il) tk2_6 am2_8 at_2_9 aa2_10 0 0 (-1) wt2_12 wy2_11 0 (nI rm) (nI ud) (nI nu) sd (nI qn) (nI qw) qo (nI qb) (nI qp2_7) qa (nI qi) (nI oc))), (g 24, .inl (cI, 6, .inl (l6 u0 u1 u2 u3 u4 u5))), (g 25, .inl (cI, 6, .inl (l6 v0 v1 v2 v3 v4 v5))), (g 26, .inl (cI, 3200, .inl (fun j => nI (cs j)))), (g 31, .inl (cI, 120, .inl nw)), (g 46, .inl (cI, 9, .inl (fun j => nI (pt j)))), (g 86, .inl (cJ, 1700, .inr (.inl ql2_13))), (g 20, .inl (cI, 4, .inl (l4 (nI l0) (nI l1) (nI dm) (nI l3)))), (g 38, .inl (cI, 90, .inl ws_2_14)), (g 36, .inl (cZ, 900, .inl yw2_15)), (g 37, .inl (cZ, 900, .inl yo2_16)), (g 43, .inl (cJ, 90, .inr (.inl be2_17))), (g 44, .inl (cJ, 90, .inr (.inl bf2_18))), (g 53, .inl (cI, 32, .inl rw_))]) [11, 0, 1, 2, 3, 4, 5, 10, 6, 7, 8, 12, 13, 9] (by decide +kernel) rfl
              exact sk_iret hx hb hr rfl hlocks hK hP hD hS (⟨tk2_6, qp2_7, am2_8, at_2_9, aa2_10, wy2_11, wt2_12, ql2_13, ws_2_14, yw2_15, yo2_16, be2_17, bf2_18, rfl⟩) (Nat.le_of_ble_eq_true rfl) (Nat.le_of_ble_eq_true rfl) dX12_sure_65
            · skip
              refine lv_iinc (v := nn + 1) (lv' := [(3, .int (nn + 1)), (4, .int (nI i)), (0, .ref mm), (1, .int (nI kd_5)), (2, .int w)]) hx hb dX12_sure_55 hl (k := 1) rfl rfl (by decide) rfl (fun ls hl => ?_)
              refine lv_iinc (v := nI (i + 1)) (lv' := [(4, .int (nI (i + 1))), (3, .int (nn + 1)), (0, .ref mm), (1, .int (nI kd_5)), (2, .int w)]) hx hb dX12_sure_58 hl (k := 1) rfl (ninc i 1 (by decide)) (by decide) rfl (fun ls hl => ?_)
              refine lv_goto (tgt := 33) hx hb dX12_sure_61 (by decide) ?_
              have hP := hP.sub (ws' := [(mm, .inr (12, mo g (nI ta) (nI pa) (nI pe) pd (nI pb) pp pf pg pn rt rn (nI cd) sn (nI il) tk2_6 am2_8 at_2_9 aa2_10 0 0 (-1) wt2_12 wy2_11 0 (nI rm) (nI ud) (nI nu) sd (nI qn) (nI qw) qo (nI qb) (nI qp2_7) qa (nI qi) (nI oc))), (g 24, .inl (cI, 6, .inl (l6 u0 u1 u2 u3 u4 u5))), (g 25, .inl (cI, 6, .inl (l6 v0 v1 v2 v3 v4 v5))), (g 26, .inl (cI, 3200, .inl (fun j => nI (cs j)))), (g 31, .inl (cI, 120, .inl nw)), (g 46, .inl (cI, 9, .inl (fun j => nI (pt j)))), (g 86, .inl (cJ, 1700, .inr (.inl ql2_13))), (g 20, .inl (cI, 4, .inl (l4 (nI l0) (nI l1) (nI dm) (nI l3)))), (g 38, .inl (cI, 90, .inl ws_2_14)), (g 36, .inl (cZ, 900, .inl yw2_15)), (g 37, .inl (cZ, 900, .inl yo2_16)), (g 43, .inl (cJ, 90, .inr (.inl be2_17))), (g 44, .inl (cJ, 90, .inr (.inl bf2_18))), (g 53, .inl (cI, 32, .inl rw_))]) [11, 0, 1, 2, 3, 4, 5, 10, 6, 7, 8, 12, 13, 9] rfl
              have hD := hD.sub (ws' := [(mm, .inr (12, mo g (nI ta) (nI pa) (nI pe) pd (nI pb) pp pf pg pn rt rn (nI cd) sn (nI il) tk2_6 am2_8 at_2_9 aa2_10 0 0 (-1) wt2_12 wy2_11 0 (nI rm) (nI ud) (nI nu) sd (nI qn) (nI qw) qo (nI qb) (nI qp2_7) qa (nI qi) (nI oc))), (g 24, .inl (cI, 6, .inl (l6 u0 u1 u2 u3 u4 u5))), (g 25, .inl (cI, 6, .inl (l6 v0 v1 v2 v3 v4 v5))), (g 26, .inl (cI, 3200, .inl (fun j => nI (cs j)))), (g 31, .inl (cI, 120, .inl nw)), (g 46, .inl (cI, 9, .inl (fun j => nI (pt j)))), (g 86, .inl (cJ, 1700, .inr (.inl ql2_13))), (g 20, .inl (cI, 4, .inl (l4 (nI l0) (nI l1) (nI dm) (nI l3)))), (g 38, .inl (cI, 90, .inl ws_2_14)), (g 36, .inl (cZ, 900, .inl yw2_15)), (g 37, .inl (cZ, 900, .inl yo2_16)), (g 43, .inl (cJ, 90, .inr (.inl be2_17))), (g 44, .inl (cJ, 90, .inr (.inl bf2_18))), (g 53, .inl (cI, 32, .inl rw_))]) [11, 0, 1, 2, 3, 4, 5, 10, 6, 7, 8, 12, 13, 9] (by decide +kernel) rfl
              exact ih_lp_20 (i + 1) (nn + 1) _ _ _ (by omega) (by omega) hP hD hS (lv_sub hl [0, 1, 2, 3, 4] rfl)
      exact lp_20 (10 - kd_5 + 1) kd_5 0 _ _ _ (Nat.lt_succ_self _) (by omega) hP hD hS (lv_sub hl [0, 1, 2, 3, 4] rfl)
    · skip
      refine lv_iconst (v := (-1)) hx hb dX12_sure_26 (by decide) ?_
      exact sk_iret hx hb hr rfl hlocks hK hP hD hS (⟨tk2_6, qp2_7, am2_8, at_2_9, aa2_10, wy2_11, wt2_12, ql2_13, ws_2_14, yw2_15, yo2_16, be2_17, bf2_18, rfl⟩) (Nat.le_of_ble_eq_true rfl) (Nat.le_of_ble_eq_true rfl) dX12_sure_27
  · have c_4 : b_1 = 0 := (neq b_1 0 (by omega) (by omega)).mp c_4
    refine lv_iconst (v := (-1)) hx hb dX12_sure_9 (by decide) ?_
    have hP := hP.sub (ws' := [(mm, .inr (12, mo g (nI ta) (nI pa) (nI pe) pd (nI pb) pp pf pg pn rt rn (nI cd) sn (nI il) tk am at_ aa 0 0 (-1) wt wy 0 (nI rm) (nI ud) (nI nu) sd (nI qn) (nI qw) qo (nI qb) (nI qp) qa (nI qi) (nI oc))), (g 24, .inl (cI, 6, .inl (l6 u0 u1 u2 u3 u4 u5))), (g 25, .inl (cI, 6, .inl (l6 v0 v1 v2 v3 v4 v5))), (g 26, .inl (cI, 3200, .inl (fun j => nI (cs j)))), (g 31, .inl (cI, 120, .inl nw)), (g 46, .inl (cI, 9, .inl (fun j => nI (pt j)))), (g 86, .inl (cJ, 1700, .inr (.inl ql))), (g 20, .inl (cI, 4, .inl (l4 (nI l0) (nI l1) (nI dm) (nI l3)))), (g 38, .inl (cI, 90, .inl ws_)), (g 36, .inl (cZ, 900, .inl yw)), (g 37, .inl (cZ, 900, .inl yo)), (g 43, .inl (cJ, 90, .inr (.inl be))), (g 44, .inl (cJ, 90, .inr (.inl bf))), (g 53, .inl (cI, 32, .inl rw_))]) [11, 0, 1, 2, 13, 3, 4, 12, 5, 6, 7, 8, 9, 10] rfl
    have hD := hD.sub (ws' := [(mm, .inr (12, mo g (nI ta) (nI pa) (nI pe) pd (nI pb) pp pf pg pn rt rn (nI cd) sn (nI il) tk am at_ aa 0 0 (-1) wt wy 0 (nI rm) (nI ud) (nI nu) sd (nI qn) (nI qw) qo (nI qb) (nI qp) qa (nI qi) (nI oc))), (g 24, .inl (cI, 6, .inl (l6 u0 u1 u2 u3 u4 u5))), (g 25, .inl (cI, 6, .inl (l6 v0 v1 v2 v3 v4 v5))), (g 26, .inl (cI, 3200, .inl (fun j => nI (cs j)))), (g 31, .inl (cI, 120, .inl nw)), (g 46, .inl (cI, 9, .inl (fun j => nI (pt j)))), (g 86, .inl (cJ, 1700, .inr (.inl ql))), (g 20, .inl (cI, 4, .inl (l4 (nI l0) (nI l1) (nI dm) (nI l3)))), (g 38, .inl (cI, 90, .inl ws_)), (g 36, .inl (cZ, 900, .inl yw)), (g 37, .inl (cZ, 900, .inl yo)), (g 43, .inl (cJ, 90, .inr (.inl be))), (g 44, .inl (cJ, 90, .inr (.inl bf))), (g 53, .inl (cI, 32, .inl rw_))]) [11, 0, 1, 2, 13, 3, 4, 12, 5, 6, 7, 8, 9, 10] (by decide +kernel) rfl
    exact sk_iret hx hb hr rfl hlocks hK hP hD hS (⟨tk, qp, am, at_, aa, wy, wt, ql, ws_, yw, yo, be, bf, rfl⟩) (Nat.le_of_ble_eq_true rfl) (Nat.le_of_ble_eq_true rfl) dX12_sure_10
theorem dX12_refuses_0 : decode cX12_refuses 0 = .ok (.aload_n 0, 1) := by decide +kernel
theorem dX12_refuses_1 : decode cX12_refuses 1 = .ok (.getfield 17, 3) := by decide +kernel
theorem dX12_refuses_4 : decode cX12_refuses 4 = .ok (.iload_n 1, 1) := by decide +kernel
theorem dX12_refuses_5 : decode cX12_refuses 5 = .ok (.dup2, 1) := by decide +kernel
theorem dX12_refuses_6 : decode cX12_refuses 6 = .ok (.iaload, 1) := by decide +kernel
theorem dX12_refuses_7 : decode cX12_refuses 7 = .ok (.iconst 1, 1) := by decide +kernel
theorem dX12_refuses_8 : decode cX12_refuses 8 = .ok (.iadd, 1) := by decide +kernel
theorem dX12_refuses_9 : decode cX12_refuses 9 = .ok (.iastore, 1) := by decide +kernel
theorem dX12_refuses_10 : decode cX12_refuses 10 = .ok (.iconst (-1), 1) := by decide +kernel
theorem dX12_refuses_11 : decode cX12_refuses 11 = .ok (.ireturn, 1) := by decide +kernel
theorem w_5_164 : (Cond.fieldLink RX12 17 "SameKeeperModel" "refused" "[I") ∈ wsL_law := sk_mem (ck_5 _ (List.mem_of_getElem? (i := 164) rfl)) rfl
theorem w_8_100 : (Cond.code yX12_refuses cX12_refuses 2 (some .int)) ∈ wsL_law := sk_mem (ck_8 _ (List.mem_of_getElem? (i := 100) rfl)) rfl
theorem dX12_heard_0 : decode cX12_heard 0 = .ok (.aload_n 0, 1) := by decide +kernel
theorem dX12_heard_1 : decode cX12_heard 1 = .ok (.getfield 302, 3) := by decide +kernel
theorem dX12_heard_4 : decode cX12_heard 4 = .ok (.ifCond .ne 7, 3) := by decide +kernel
theorem dX12_heard_11 : decode cX12_heard 11 = .ok (.aload_n 0, 1) := by decide +kernel
theorem dX12_heard_12 : decode cX12_heard 12 = .ok (.invokevirtual 466, 3) := by decide +kernel
theorem dX12_heard_15 : decode cX12_heard 15 = .ok (.aload_n 0, 1) := by decide +kernel
theorem dX12_heard_16 : decode cX12_heard 16 = .ok (.getfield 382, 3) := by decide +kernel
theorem dX12_heard_19 : decode cX12_heard 19 = .ok (.lreturn, 1) := by decide +kernel
theorem dX12_heard_7 : decode cX12_heard 7 = .ok (.ldc2_w 421, 3) := by decide +kernel
theorem dX12_heard_10 : decode cX12_heard 10 = .ok (.lreturn, 1) := by decide +kernel
theorem w_8_105 : (Cond.methodLink RX12 466 yX12_laysHeard) ∈ wsL_law := sk_mem (ck_8 _ (List.mem_of_getElem? (i := 105) rfl)) rfl
theorem w_8_107 : (Cond.instanceMethod yX12_laysHeard) ∈ wsL_law := sk_mem (ck_8 _ (List.mem_of_getElem? (i := 107) rfl)) rfl
theorem w_0_105 : (Cond.selects RX12 yX12_laysHeard yX12_laysHeard) ∈ wsL_law := sk_mem (ck_0 _ (List.mem_of_getElem? (i := 105) rfl)) rfl
theorem w_8_104 : (Cond.code yX12_heard cX12_heard 1 (some .long)) ∈ wsL_law := sk_mem (ck_8 _ (List.mem_of_getElem? (i := 104) rfl)) rfl
set_option maxHeartbeats 4000000 in
set_option maxRecDepth 100000 in
theorem c_m_heard (l : Launch) (D : va_G) (cI cJ cC cZ cS : ClassId) (mm : Nat) (g : Nat → Nat) (ta : Nat) (pa : Nat) (pe : Nat) (pd : Int32) (pb : Nat) (pp : Int32) (pf : Int32) (pg : Int32) (pn : Int32) (rt : Int32) (rn : Int32) (cd : Nat) (sn : Int32) (il : Nat) (tk : Int32) (am : Int32) (at_ : Int32) (aa : Int32) (wt : Int32) (wy : Int64) (rm : Nat) (ud : Nat) (nu : Nat) (sd : Int64) (qn : Nat) (qw : Nat) (qo : Int32) (qb : Nat) (qp : Nat) (qa : Int64) (qi : Nat) (oc : Nat) (u0 : Int32) (u1 : Int32) (u2 : Int32) (u3 : Int32) (u4 : Int32) (u5 : Int32) (v0 : Int32) (v1 : Int32) (v2 : Int32) (v3 : Int32) (v4 : Int32) (v5 : Int32) (cs : Nat → Nat) (nw : Nat → Int32) (pt : Nat → Nat) (ql : Nat → Int64) (l0 : Nat) (l1 : Nat) (dm : Nat) (l3 : Nat) (ws_ : Nat → Int32) (yw : Nat → Int32) (yo : Nat → Int32) (be : Nat → Int64) (bf : Nat → Int64) (rw_ : Nat → Int32) (hil : il ≤ 1) (hild : il = 1 → 1 ≤ dm) (hdm : dm ≤ 9) (hp0 : progOk cs u3 v3) (hp1 : progOk cs u4 v4) (hp2 : progOk cs u5 v5) (hrm : rm ≤ 16) (hcs : ∀ j, cs j ≤ 20000) (hnw : nowOk nw) (hpt : ∀ j, pt j ≤ 9) : skM l yX12_heard cX12_heard 1 (some .long) 6 142 0 0 D (skT cI cJ cC cZ cS) [.ref mm] [(mm, .inr (12, mo g (nI ta) (nI pa) (nI pe) pd (nI pb) pp pf pg pn rt rn (nI cd) sn (nI il) tk am at_ aa 0 0 (-1) wt wy 0 (nI rm) (nI ud) (nI nu) sd (nI qn) (nI qw) qo (nI qb) (nI qp) qa (nI qi) (nI oc))), (g 24, .inl (cI, 6, .inl (l6 u0 u1 u2 u3 u4 u5))), (g 25, .inl (cI, 6, .inl (l6 v0 v1 v2 v3 v4 v5))), (g 26, .inl (cI, 3200, .inl (fun j => nI (cs j)))), (g 31, .inl (cI, 120, .inl nw)), (g 46, .inl (cI, 9, .inl (fun j => nI (pt j)))), (g 86, .inl (cJ, 1700, .inr (.inl ql))), (g 20, .inl (cI, 4, .inl (l4 (nI l0) (nI l1) (nI dm) (nI l3)))), (g 38, .inl (cI, 90, .inl ws_)), (g 36, .inl (cZ, 900, .inl yw)), (g 37, .inl (cZ, 900, .inl yo)), (g 43, .inl (cJ, 90, .inr (.inl be))), (g 44, .inl (cJ, 90, .inr (.inl bf))), (g 53, .inl (cI, 32, .inl rw_))] (skL D (skT cI cJ cC cZ cS) (fun (r : Int64) (u : va_W) => ∃ (tk2 : Int32), ∃ (qp2 : Nat), ∃ (am2 : Int32), ∃ (at_2 : Int32), ∃ (aa2 : Int32), ∃ (wy2 : Int64), ∃ (ql2 : Nat → Int64), ∃ (ws_2 : Nat → Int32), ∃ (yw2 : Nat → Int32), ∃ (yo2 : Nat → Int32), ∃ (be2 : Nat → Int64), ∃ (bf2 : Nat → Int64), u = [(mm, .inr (12, mo g (nI ta) (nI pa) (nI pe) pd (nI pb) pp pf pg pn rt rn (nI cd) sn (nI il) tk2 am2 at_2 aa2 0 0 (-1) wt wy2 0 (nI rm) (nI ud) (nI nu) sd (nI qn) (nI qw) qo (nI qb) (nI qp2) qa (nI qi) (nI oc))), (g 24, .inl (cI, 6, .inl (l6 u0 u1 u2 u3 u4 u5))), (g 25, .inl (cI, 6, .inl (l6 v0 v1 v2 v3 v4 v5))), (g 26, .inl (cI, 3200, .inl (fun j => nI (cs j)))), (g 31, .inl (cI, 120, .inl nw)), (g 46, .inl (cI, 9, .inl (fun j => nI (pt j)))), (g 86, .inl (cJ, 1700, .inr (.inl ql2))), (g 20, .inl (cI, 4, .inl (l4 (nI l0) (nI l1) (nI dm) (nI l3)))), (g 38, .inl (cI, 90, .inl ws_2)), (g 36, .inl (cZ, 900, .inl yw2)), (g 37, .inl (cZ, 900, .inl yo2)), (g 43, .inl (cJ, 90, .inr (.inl be2))), (g 44, .inl (cJ, 90, .inr (.inl bf2))), (g 53, .inl (cI, 32, .inl rw_))])) := by
  refine skM_of (by decide +kernel) (Nat.le_of_ble_eq_true rfl) ?_
  intro p e s m below meth c A ls E hP hD hl
  obtain ⟨hx, hb, hr, hml, hlocks, hin, hown, hts, hK, hA⟩ := E
  have hown : s.vm.findClass RX12 = some m.cls := hown
  have hS : va_S A s.heap s.heap [] := va_S.rf
  have hl : lv_has ls 1 [(0, .ref mm)] := hl
  refine lv_aload_n hx hb dX12_heard_0 rfl (lv_at hl 0 rfl) ?_
  refine sk_get (v := .int (nI il)) (C := RX12) (T := TX12) (N := 92) hx hb hts inlX12 hown hK hP 0 rfl rfl 29 (by decide) w_5_184 rfl dX12_heard_1 ?_
  refine lv_if_ne (tgt := 11) hx hb dX12_heard_4 (by decide) (fun c_1 => ?_) (fun c_1 => ?_)
  · have c_1 : ¬ (il = 0) := fun h => c_1 ((neq il 0 (by omega) (by omega)).mpr h)
    refine lv_aload_n hx hb dX12_heard_11 rfl (lv_at hl 0 rfl) ?_
    refine sk_Vv (q0 := 0) (n := 0) (rest := []) (wr := []) ⟨hx, hb, hml, hown, hts⟩ hl.1 (c_m_laysHeard l D cI cJ cC cZ cS mm g ta pa pe pd pb pp pf pg pn rt rn cd sn il tk am at_ aa wt wy rm ud nu sd qn qw qo qb qp qa qi oc u0 u1 u2 u3 u4 u5 v0 v1 v2 v3 v4 v5 cs nw pt ql l0 l1 dm l3 ws_ yw yo be bf rw_ (by omega) (by omega) hp0 hp1 hp2 (by omega) hcs hnw hpt) w_8_105 w_8_107 w_0_105 w_1_14 w_8_108 (by decide +kernel) ⟨⟨(Nat.le_of_ble_eq_true rfl), (Nat.le_of_ble_eq_true rfl)⟩, (Nat.le_of_ble_eq_true rfl), (Nat.le_of_ble_eq_true rfl)⟩ hK hP hD hS hA [0, 1, 2, 3, 4, 5, 6, 7, 8, 9, 10, 11, 12, 13] [] rfl rfl (by decide +kernel) (by decide +kernel) (by decide +kernel) rfl rfl rfl rfl (Nat.le_of_ble_eq_true rfl) dX12_heard_12 (fun u H locs hw hP hD hS => ?_)
    obtain ⟨tk2_2, qp2_3, am2_4, at_2_5, aa2_6, wy2_7, ql2_8, ws_2_9, yw2_10, yo2_11, be2_12, bf2_13, rfl⟩ := hw
    have hP : va_P D vwCl [(mm, .inr (12, mo g (nI ta) (nI pa) (nI pe) pd (nI pb) pp pf pg pn rt rn (nI cd) sn (nI il) tk2_2 am2_4 at_2_5 aa2_6 0 0 (-1) wt wy2_7 0 (nI rm) (nI ud) (nI nu) sd (nI qn) (nI qw) qo (nI qb) (nI qp2_3) qa (nI qi) (nI oc))), (g 24, .inl (cI, 6, .inl (l6 u0 u1 u2 u3 u4 u5))), (g 25, .inl (cI, 6, .inl (l6 v0 v1 v2 v3 v4 v5))), (g 26, .inl (cI, 3200, .inl (fun j => nI (cs j)))), (g 31, .inl (cI, 120, .inl nw)), (g 46, .inl (cI, 9, .inl (fun j => nI (pt j)))), (g 86, .inl (cJ, 1700, .inr (.inl ql2_8))), (g 20, .inl (cI, 4, .inl (l4 (nI l0) (nI l1) (nI dm) (nI l3)))), (g 38, .inl (cI, 90, .inl ws_2_9)), (g 36, .inl (cZ, 900, .inl yw2_10)), (g 37, .inl (cZ, 900, .inl yo2_11)), (g 43, .inl (cJ, 90, .inr (.inl be2_12))), (g 44, .inl (cJ, 90, .inr (.inl bf2_13))), (g 53, .inl (cI, 32, .inl rw_))] H := hP
    have hD : va_D A [(mm, .inr (12, mo g (nI ta) (nI pa) (nI pe) pd (nI pb) pp pf pg pn rt rn (nI cd) sn (nI il) tk2_2 am2_4 at_2_5 aa2_6 0 0 (-1) wt wy2_7 0 (nI rm) (nI ud) (nI nu) sd (nI qn) (nI qw) qo (nI qb) (nI qp2_3) qa (nI qi) (nI oc))), (g 24, .inl (cI, 6, .inl (l6 u0 u1 u2 u3 u4 u5))), (g 25, .inl (cI, 6, .inl (l6 v0 v1 v2 v3 v4 v5))), (g 26, .inl (cI, 3200, .inl (fun j => nI (cs j)))), (g 31, .inl (cI, 120, .inl nw)), (g 46, .inl (cI, 9, .inl (fun j => nI (pt j)))), (g 86, .inl (cJ, 1700, .inr (.inl ql2_8))), (g 20, .inl (cI, 4, .inl (l4 (nI l0) (nI l1) (nI dm) (nI l3)))), (g 38, .inl (cI, 90, .inl ws_2_9)), (g 36, .inl (cZ, 900, .inl yw2_10)), (g 37, .inl (cZ, 900, .inl yo2_11)), (g 43, .inl (cJ, 90, .inr (.inl be2_12))), (g 44, .inl (cJ, 90, .inr (.inl bf2_13))), (g 53, .inl (cI, 32, .inl rw_))] := hD
    refine lv_aload_n hx hb dX12_heard_15 rfl (lv_at hl 0 rfl) ?_
    refine sk_get (v := .long wy2_7) (C := RX12) (T := TX12) (N := 92) hx hb hts inlX12 hown hK hP 0 rfl rfl 45 (by decide) w_5_200 rfl dX12_heard_16 ?_
    exact sk_lret hx hb hr hlocks hK hP hD hS (⟨tk2_2, qp2_3, am2_4, at_2_5, aa2_6, wy2_7, ql2_8, ws_2_9, yw2_10, yo2_11, be2_12, bf2_13, rfl⟩) (Nat.le_of_ble_eq_true rfl) (Nat.le_of_ble_eq_true rfl) dX12_heard_19
  · have c_1 : il = 0 := (neq il 0 (by omega) (by omega)).mp c_1
    refine lv_ldc2 (v := (-1000000000000000)) hx hb hown (hts _ w_7_184) dX12_heard_7 ?_
    exact sk_lret hx hb hr hlocks hK hP hD hS (⟨tk, qp, am, at_, aa, wy, ql, ws_, yw, yo, be, bf, rfl⟩) (Nat.le_of_ble_eq_true rfl) (Nat.le_of_ble_eq_true rfl) dX12_heard_10
theorem dX12_tells_0 : decode cX12_tells 0 = .ok (.aload_n 0, 1) := by decide +kernel
theorem dX12_tells_1 : decode cX12_tells 1 = .ok (.getfield 302, 3) := by decide +kernel
theorem dX12_tells_4 : decode cX12_tells 4 = .ok (.ifCond .eq 13, 3) := by decide +kernel
theorem dX12_tells_17 : decode cX12_tells 17 = .ok (.ldc2_w 421, 3) := by decide +kernel
theorem dX12_tells_20 : decode cX12_tells 20 = .ok (.lreturn, 1) := by decide +kernel
theorem dX12_tells_7 : decode cX12_tells 7 = .ok (.iload_n 1, 1) := by decide +kernel
theorem dX12_tells_8 : decode cX12_tells 8 = .ok (.i2l, 1) := by decide +kernel
theorem dX12_tells_9 : decode cX12_tells 9 = .ok (.lconst 0, 1) := by decide +kernel
theorem dX12_tells_10 : decode cX12_tells 10 = .ok (.lconst 1, 1) := by decide +kernel
theorem dX12_tells_11 : decode cX12_tells 11 = .ok (.invokestatic 238, 3) := by decide +kernel
theorem dX12_tells_14 : decode cX12_tells 14 = .ok (.ifCond .ne 7, 3) := by decide +kernel
theorem dX12_tells_21 : decode cX12_tells 21 = .ok (.aload_n 0, 1) := by decide +kernel
theorem dX12_tells_22 : decode cX12_tells 22 = .ok (.invokevirtual 466, 3) := by decide +kernel
theorem dX12_tells_25 : decode cX12_tells 25 = .ok (.iconst (-1), 1) := by decide +kernel
theorem dX12_tells_26 : decode cX12_tells 26 = .ok (.istore_n 2, 1) := by decide +kernel
theorem dX12_tells_27 : decode cX12_tells 27 = .ok (.lconst 0, 1) := by decide +kernel
theorem dX12_tells_28 : decode cX12_tells 28 = .ok (.lstore_n 3, 1) := by decide +kernel
theorem dX12_tells_29 : decode cX12_tells 29 = .ok (.iconst 0, 1) := by decide +kernel
theorem dX12_tells_30 : decode cX12_tells 30 = .ok (.istore 5, 2) := by decide +kernel
theorem dX12_tells_32 : decode cX12_tells 32 = .ok (.iload 5, 2) := by decide +kernel
theorem dX12_tells_34 : decode cX12_tells 34 = .ok (.aload_n 0, 1) := by decide +kernel
theorem dX12_tells_35 : decode cX12_tells 35 = .ok (.invokevirtual 315, 3) := by decide +kernel
theorem dX12_tells_38 : decode cX12_tells 38 = .ok (.if_icmp .ge 99, 3) := by decide +kernel
theorem dX12_tells_137 : decode cX12_tells 137 = .ok (.iload_n 2, 1) := by decide +kernel
theorem dX12_tells_138 : decode cX12_tells 138 = .ok (.iconst (-1), 1) := by decide +kernel
theorem dX12_tells_139 : decode cX12_tells 139 = .ok (.if_icmp .ne 9, 3) := by decide +kernel
theorem dX12_tells_148 : decode cX12_tells 148 = .ok (.iload_n 1, 1) := by decide +kernel
theorem dX12_tells_149 : decode cX12_tells 149 = .ok (.ifCond .ne 8, 3) := by decide +kernel
theorem dX12_tells_157 : decode cX12_tells 157 = .ok (.lload_n 3, 1) := by decide +kernel
theorem dX12_tells_158 : decode cX12_tells 158 = .ok (.lreturn, 1) := by decide +kernel
theorem dX12_tells_152 : decode cX12_tells 152 = .ok (.iload_n 2, 1) := by decide +kernel
theorem dX12_tells_153 : decode cX12_tells 153 = .ok (.i2l, 1) := by decide +kernel
theorem dX12_tells_154 : decode cX12_tells 154 = .ok (.goto 4, 3) := by decide +kernel
theorem dX12_tells_142 : decode cX12_tells 142 = .ok (.ldc2_w 421, 3) := by decide +kernel
theorem dX12_tells_145 : decode cX12_tells 145 = .ok (.goto 13, 3) := by decide +kernel
theorem dX12_tells_41 : decode cX12_tells 41 = .ok (.aload_n 0, 1) := by decide +kernel
theorem dX12_tells_42 : decode cX12_tells 42 = .ok (.getfield 382, 3) := by decide +kernel
theorem dX12_tells_45 : decode cX12_tells 45 = .ok (.lconst 0, 1) := by decide +kernel
theorem dX12_tells_46 : decode cX12_tells 46 = .ok (.lcmp, 1) := by decide +kernel
theorem dX12_tells_47 : decode cX12_tells 47 = .ok (.ifCond .le 90, 3) := by decide +kernel
theorem dX12_tells_50 : decode cX12_tells 50 = .ok (.lconst 0, 1) := by decide +kernel
theorem dX12_tells_51 : decode cX12_tells 51 = .ok (.lstore 6, 2) := by decide +kernel
theorem dX12_tells_53 : decode cX12_tells 53 = .ok (.iconst 0, 1) := by decide +kernel
theorem dX12_tells_54 : decode cX12_tells 54 = .ok (.istore 8, 2) := by decide +kernel
theorem dX12_tells_56 : decode cX12_tells 56 = .ok (.iload 8, 2) := by decide +kernel
theorem dX12_tells_58 : decode cX12_tells 58 = .ok (.bipush 10, 2) := by decide +kernel
theorem dX12_tells_60 : decode cX12_tells 60 = .ok (.if_icmp .ge 50, 3) := by decide +kernel
theorem dX12_tells_110 : decode cX12_tells 110 = .ok (.iload_n 2, 1) := by decide +kernel
theorem dX12_tells_111 : decode cX12_tells 111 = .ok (.iconst (-1), 1) := by decide +kernel
theorem dX12_tells_112 : decode cX12_tells 112 = .ok (.if_icmp .eq 13, 3) := by decide +kernel
theorem dX12_tells_125 : decode cX12_tells 125 = .ok (.iload 5, 2) := by decide +kernel
theorem dX12_tells_127 : decode cX12_tells 127 = .ok (.istore_n 2, 1) := by decide +kernel
theorem dX12_tells_128 : decode cX12_tells 128 = .ok (.lload 6, 2) := by decide +kernel
theorem dX12_tells_130 : decode cX12_tells 130 = .ok (.lstore_n 3, 1) := by decide +kernel
theorem dX12_tells_131 : decode cX12_tells 131 = .ok (.iinc 5 1, 3) := by decide +kernel
theorem dX12_tells_134 : decode cX12_tells 134 = .ok (.goto (-102), 3) := by decide +kernel
theorem dX12_tells_115 : decode cX12_tells 115 = .ok (.lload 6, 2) := by decide +kernel
theorem dX12_tells_117 : decode cX12_tells 117 = .ok (.lload_n 3, 1) := by decide +kernel
theorem dX12_tells_118 : decode cX12_tells 118 = .ok (.lcmp, 1) := by decide +kernel
theorem dX12_tells_119 : decode cX12_tells 119 = .ok (.ifCond .lt 6, 3) := by decide +kernel
theorem dX12_tells_122 : decode cX12_tells 122 = .ok (.goto 9, 3) := by decide +kernel
theorem dX12_tells_63 : decode cX12_tells 63 = .ok (.aload_n 0, 1) := by decide +kernel
theorem dX12_tells_64 : decode cX12_tells 64 = .ok (.getfield 86, 3) := by decide +kernel
theorem dX12_tells_67 : decode cX12_tells 67 = .ok (.bipush 10, 2) := by decide +kernel
theorem dX12_tells_69 : decode cX12_tells 69 = .ok (.iload 5, 2) := by decide +kernel
theorem dX12_tells_71 : decode cX12_tells 71 = .ok (.imul, 1) := by decide +kernel
theorem dX12_tells_72 : decode cX12_tells 72 = .ok (.iload 8, 2) := by decide +kernel
theorem dX12_tells_74 : decode cX12_tells 74 = .ok (.iadd, 1) := by decide +kernel
theorem dX12_tells_75 : decode cX12_tells 75 = .ok (.laload, 1) := by decide +kernel
theorem dX12_tells_76 : decode cX12_tells 76 = .ok (.aload_n 0, 1) := by decide +kernel
theorem dX12_tells_77 : decode cX12_tells 77 = .ok (.getfield 82, 3) := by decide +kernel
theorem dX12_tells_80 : decode cX12_tells 80 = .ok (.bipush 10, 2) := by decide +kernel
theorem dX12_tells_82 : decode cX12_tells 82 = .ok (.iload 5, 2) := by decide +kernel
theorem dX12_tells_84 : decode cX12_tells 84 = .ok (.imul, 1) := by decide +kernel
theorem dX12_tells_85 : decode cX12_tells 85 = .ok (.iload 8, 2) := by decide +kernel
theorem dX12_tells_87 : decode cX12_tells 87 = .ok (.iadd, 1) := by decide +kernel
theorem dX12_tells_88 : decode cX12_tells 88 = .ok (.laload, 1) := by decide +kernel
theorem dX12_tells_89 : decode cX12_tells 89 = .ok (.lmul, 1) := by decide +kernel
theorem dX12_tells_90 : decode cX12_tells 90 = .ok (.lstore 9, 2) := by decide +kernel
theorem dX12_tells_92 : decode cX12_tells 92 = .ok (.lload 9, 2) := by decide +kernel
theorem dX12_tells_94 : decode cX12_tells 94 = .ok (.lload 6, 2) := by decide +kernel
theorem dX12_tells_96 : decode cX12_tells 96 = .ok (.lcmp, 1) := by decide +kernel
theorem dX12_tells_97 : decode cX12_tells 97 = .ok (.ifCond .le 7, 3) := by decide +kernel
theorem dX12_tells_104 : decode cX12_tells 104 = .ok (.iinc 8 1, 3) := by decide +kernel
theorem dX12_tells_107 : decode cX12_tells 107 = .ok (.goto (-51), 3) := by decide +kernel
theorem dX12_tells_100 : decode cX12_tells 100 = .ok (.lload 9, 2) := by decide +kernel
theorem dX12_tells_102 : decode cX12_tells 102 = .ok (.lstore 6, 2) := by decide +kernel
theorem w_8_112 : (Cond.code yX12_tells cX12_tells 11 (some .long)) ∈ wsL_law := sk_mem (ck_8 _ (List.mem_of_getElem? (i := 112) rfl)) rfl
set_option maxHeartbeats 4000000 in
set_option maxRecDepth 100000 in
theorem c_m_tells (l : Launch) (D : va_G) (cI cJ cC cZ cS : ClassId) (mm : Nat) (g : Nat → Nat) (ta : Nat) (pa : Nat) (pe : Nat) (pd : Int32) (pb : Nat) (pp : Int32) (pf : Int32) (pg : Int32) (pn : Int32) (rt : Int32) (rn : Int32) (cd : Nat) (sn : Int32) (il : Nat) (tk : Int32) (am : Int32) (at_ : Int32) (aa : Int32) (wt : Int32) (wy : Int64) (rm : Nat) (ud : Nat) (nu : Nat) (sd : Int64) (qn : Nat) (qw : Nat) (qo : Int32) (qb : Nat) (qp : Nat) (qa : Int64) (qi : Nat) (oc : Nat) (w : Int32) (u0 : Int32) (u1 : Int32) (u2 : Int32) (u3 : Int32) (u4 : Int32) (u5 : Int32) (v0 : Int32) (v1 : Int32) (v2 : Int32) (v3 : Int32) (v4 : Int32) (v5 : Int32) (cs : Nat → Nat) (nw : Nat → Int32) (pt : Nat → Nat) (ql : Nat → Int64) (l0 : Nat) (l1 : Nat) (dm : Nat) (l3 : Nat) (ws_ : Nat → Int32) (yw : Nat → Int32) (yo : Nat → Int32) (be : Nat → Int64) (bf : Nat → Int64) (rw_ : Nat → Int32) (hil : il ≤ 1) (hild : il = 1 → 1 ≤ dm) (hdm : dm ≤ 9) (hp0 : progOk cs u3 v3) (hp1 : progOk cs u4 v4) (hp2 : progOk cs u5 v5) (hrm : rm ≤ 16) (hcs : ∀ j, cs j ≤ 20000) (hnw : nowOk nw) (hpt : ∀ j, pt j ≤ 9) : skM l yX12_tells cX12_tells 11 (some .long) 6 142 0 0 D (skT cI cJ cC cZ cS) [.ref mm, .int w] [(mm, .inr (12, mo g (nI ta) (nI pa) (nI pe) pd (nI pb) pp pf pg pn rt rn (nI cd) sn (nI il) tk am at_ aa 0 0 (-1) wt wy 0 (nI rm) (nI ud) (nI nu) sd (nI qn) (nI qw) qo (nI qb) (nI qp) qa (nI qi) (nI oc))), (g 24, .inl (cI, 6, .inl (l6 u0 u1 u2 u3 u4 u5))), (g 25, .inl (cI, 6, .inl (l6 v0 v1 v2 v3 v4 v5))), (g 26, .inl (cI, 3200, .inl (fun j => nI (cs j)))), (g 31, .inl (cI, 120, .inl nw)), (g 46, .inl (cI, 9, .inl (fun j => nI (pt j)))), (g 86, .inl (cJ, 1700, .inr (.inl ql))), (g 20, .inl (cI, 4, .inl (l4 (nI l0) (nI l1) (nI dm) (nI l3)))), (g 38, .inl (cI, 90, .inl ws_)), (g 36, .inl (cZ, 900, .inl yw)), (g 37, .inl (cZ, 900, .inl yo)), (g 43, .inl (cJ, 90, .inr (.inl be))), (g 44, .inl (cJ, 90, .inr (.inl bf))), (g 53, .inl (cI, 32, .inl rw_))] (skL D (skT cI cJ cC cZ cS) (fun (r : Int64) (u : va_W) => ∃ (tk2 : Int32), ∃ (qp2 : Nat), ∃ (am2 : Int32), ∃ (at_2 : Int32), ∃ (aa2 : Int32), ∃ (wy2 : Int64), ∃ (ql2 : Nat → Int64), ∃ (ws_2 : Nat → Int32), ∃ (yw2 : Nat → Int32), ∃ (yo2 : Nat → Int32), ∃ (be2 : Nat → Int64), ∃ (bf2 : Nat → Int64), u = [(mm, .inr (12, mo g (nI ta) (nI pa) (nI pe) pd (nI pb) pp pf pg pn rt rn (nI cd) sn (nI il) tk2 am2 at_2 aa2 0 0 (-1) wt wy2 0 (nI rm) (nI ud) (nI nu) sd (nI qn) (nI qw) qo (nI qb) (nI qp2) qa (nI qi) (nI oc))), (g 24, .inl (cI, 6, .inl (l6 u0 u1 u2 u3 u4 u5))), (g 25, .inl (cI, 6, .inl (l6 v0 v1 v2 v3 v4 v5))), (g 26, .inl (cI, 3200, .inl (fun j => nI (cs j)))), (g 31, .inl (cI, 120, .inl nw)), (g 46, .inl (cI, 9, .inl (fun j => nI (pt j)))), (g 86, .inl (cJ, 1700, .inr (.inl ql2))), (g 20, .inl (cI, 4, .inl (l4 (nI l0) (nI l1) (nI dm) (nI l3)))), (g 38, .inl (cI, 90, .inl ws_2)), (g 36, .inl (cZ, 900, .inl yw2)), (g 37, .inl (cZ, 900, .inl yo2)), (g 43, .inl (cJ, 90, .inr (.inl be2))), (g 44, .inl (cJ, 90, .inr (.inl bf2))), (g 53, .inl (cI, 32, .inl rw_))])) := by
  refine skM_of (by decide +kernel) (Nat.le_of_ble_eq_true rfl) ?_
  intro p e s m below meth c A ls E hP hD hl
  obtain ⟨hx, hb, hr, hml, hlocks, hin, hown, hts, hK, hA⟩ := E
  have hown : s.vm.findClass RX12 = some m.cls := hown
  have hS : va_S A s.heap s.heap [] := va_S.rf
  have hl : lv_has ls 11 [(0, .ref mm), (1, .int w)] := hl
  refine lv_aload_n hx hb dX12_tells_0 rfl (lv_at hl 0 rfl) ?_
  refine sk_get (v := .int (nI il)) (C := RX12) (T := TX12) (N := 92) hx hb hts inlX12 hown hK hP 0 rfl rfl 29 (by decide) w_5_184 rfl dX12_tells_1 ?_
  refine lv_if_eq (tgt := 17) hx hb dX12_tells_4 (by decide) (fun c_1 => ?_) (fun c_1 => ?_)
  · have c_1 : il = 0 := (neq il 0 (by omega) (by omega)).mp c_1
    refine lv_ldc2 (v := (-1000000000000000)) hx hb hown (hts _ w_7_184) dX12_tells_17 ?_
    exact sk_lret hx hb hr hlocks hK hP hD hS (⟨tk, qp, am, at_, aa, wy, ql, ws_, yw, yo, be, bf, rfl⟩) (Nat.le_of_ble_eq_true rfl) (Nat.le_of_ble_eq_true rfl) dX12_tells_20
  · have c_1 : ¬ (il = 0) := fun h => c_1 ((neq il 0 (by omega) (by omega)).mpr h)
    refine lv_iload_n hx hb dX12_tells_7 rfl (lv_at hl 1 rfl) ?_
    refine lv_i2l hx hb dX12_tells_8 rfl ?_
    refine lv_lconst (v := 0) hx hb dX12_tells_9 (by decide) ?_
    refine lv_lconst (v := 1) hx hb dX12_tells_10 (by decide) ?_
    refine sk_Si (n := 3) (rest := []) (wr := [(mm, .inr (12, mo g (nI ta) (nI pa) (nI pe) pd (nI pb) pp pf pg pn rt rn (nI cd) sn (nI il) tk am at_ aa 0 0 (-1) wt wy 0 (nI rm) (nI ud) (nI nu) sd (nI qn) (nI qw) qo (nI qb) (nI qp) qa (nI qi) (nI oc))), (g 24, .inl (cI, 6, .inl (l6 u0 u1 u2 u3 u4 u5))), (g 25, .inl (cI, 6, .inl (l6 v0 v1 v2 v3 v4 v5))), (g 26, .inl (cI, 3200, .inl (fun j => nI (cs j)))), (g 31, .inl (cI, 120, .inl nw)), (g 46, .inl (cI, 9, .inl (fun j => nI (pt j)))), (g 86, .inl (cJ, 1700, .inr (.inl ql))), (g 20, .inl (cI, 4, .inl (l4 (nI l0) (nI l1) (nI dm) (nI l3)))), (g 38, .inl (cI, 90, .inl ws_)), (g 36, .inl (cZ, 900, .inl yw)), (g 37, .inl (cZ, 900, .inl yo)), (g 43, .inl (cJ, 90, .inr (.inl be))), (g 44, .inl (cJ, 90, .inr (.inl bf))), (g 53, .inl (cI, 32, .inl rw_))]) ⟨hx, hb, hml, hown, hts⟩ hl.1 (c_m_isIn l D cI cJ cC cZ cS (Int32.toInt64 w) 0 1) w_7_0 w_7_1 w_1_14 w_7_2 (by decide +kernel) ⟨⟨(Nat.le_of_ble_eq_true rfl), (Nat.le_of_ble_eq_true rfl)⟩, (Nat.le_of_ble_eq_true rfl), (Nat.le_of_ble_eq_true rfl)⟩ hK hP hD hS hA [] [0, 1, 2, 3, 4, 5, 6, 7, 8, 9, 10, 11, 12, 13] rfl rfl (by decide +kernel) (by decide +kernel) (by decide +kernel) rfl rfl (Nat.le_of_ble_eq_true rfl) dX12_tells_11 (fun r_3 u H locs hw hP hD hS => ?_)
    obtain ⟨b_2, hb1_4, rfl, rfl⟩ := hw
    have hP : va_P D vwCl [(mm, .inr (12, mo g (nI ta) (nI pa) (nI pe) pd (nI pb) pp pf pg pn rt rn (nI cd) sn (nI il) tk am at_ aa 0 0 (-1) wt wy 0 (nI rm) (nI ud) (nI nu) sd (nI qn) (nI qw) qo (nI qb) (nI qp) qa (nI qi) (nI oc))), (g 24, .inl (cI, 6, .inl (l6 u0 u1 u2 u3 u4 u5))), (g 25, .inl (cI, 6, .inl (l6 v0 v1 v2 v3 v4 v5))), (g 26, .inl (cI, 3200, .inl (fun j => nI (cs j)))), (g 31, .inl (cI, 120, .inl nw)), (g 46, .inl (cI, 9, .inl (fun j => nI (pt j)))), (g 86, .inl (cJ, 1700, .inr (.inl ql))), (g 20, .inl (cI, 4, .inl (l4 (nI l0) (nI l1) (nI dm) (nI l3)))), (g 38, .inl (cI, 90, .inl ws_)), (g 36, .inl (cZ, 900, .inl yw)), (g 37, .inl (cZ, 900, .inl yo)), (g 43, .inl (cJ, 90, .inr (.inl be))), (g 44, .inl (cJ, 90, .inr (.inl bf))), (g 53, .inl (cI, 32, .inl rw_))] H := hP
    have hD : va_D A [(mm, .inr (12, mo g (nI ta) (nI pa) (nI pe) pd (nI pb) pp pf pg pn rt rn (nI cd) sn (nI il) tk am at_ aa 0 0 (-1) wt wy 0 (nI rm) (nI ud) (nI nu) sd (nI qn) (nI qw) qo (nI qb) (nI qp) qa (nI qi) (nI oc))), (g 24, .inl (cI, 6, .inl (l6 u0 u1 u2 u3 u4 u5))), (g 25, .inl (cI, 6, .inl (l6 v0 v1 v2 v3 v4 v5))), (g 26, .inl (cI, 3200, .inl (fun j => nI (cs j)))), (g 31, .inl (cI, 120, .inl nw)), (g 46, .inl (cI, 9, .inl (fun j => nI (pt j)))), (g 86, .inl (cJ, 1700, .inr (.inl ql))), (g 20, .inl (cI, 4, .inl (l4 (nI l0) (nI l1) (nI dm) (nI l3)))), (g 38, .inl (cI, 90, .inl ws_)), (g 36, .inl (cZ, 900, .inl yw)), (g 37, .inl (cZ, 900, .inl yo)), (g 43, .inl (cJ, 90, .inr (.inl be))), (g 44, .inl (cJ, 90, .inr (.inl bf))), (g 53, .inl (cI, 32, .inl rw_))] := hD
    refine lv_if_ne (tgt := 21) hx hb dX12_tells_14 (by decide) (fun c_5 => ?_) (fun c_5 => ?_)
    · have c_5 : ¬ (b_2 = 0) := fun h => c_5 ((neq b_2 0 (by omega) (by omega)).mpr h)
      obtain ⟨kd_6, hkd_6, rfl⟩ := inK 2 (hb1_4.resolve_left (by omega)).2.1 (hb1_4.resolve_left (by omega)).2.2 (by decide)
      refine lv_aload_n hx hb dX12_tells_21 rfl (lv_at hl 0 rfl) ?_
      refine sk_Vv (q0 := 0) (n := 0) (rest := []) (wr := []) ⟨hx, hb, hml, hown, hts⟩ hl.1 (c_m_laysHeard l D cI cJ cC cZ cS mm g ta pa pe pd pb pp pf pg pn rt rn cd sn il tk am at_ aa wt wy rm ud nu sd qn qw qo qb qp qa qi oc u0 u1 u2 u3 u4 u5 v0 v1 v2 v3 v4 v5 cs nw pt ql l0 l1 dm l3 ws_ yw yo be bf rw_ (by omega) (by omega) hp0 hp1 hp2 (by omega) hcs hnw hpt) w_8_105 w_8_107 w_0_105 w_1_14 w_8_108 (by decide +kernel) ⟨⟨(Nat.le_of_ble_eq_true rfl), (Nat.le_of_ble_eq_true rfl)⟩, (Nat.le_of_ble_eq_true rfl), (Nat.le_of_ble_eq_true rfl)⟩ hK hP hD hS hA [0, 1, 2, 3, 4, 5, 6, 7, 8, 9, 10, 11, 12, 13] [] rfl rfl (by decide +kernel) (by decide +kernel) (by decide +kernel) rfl rfl rfl rfl (Nat.le_of_ble_eq_true rfl) dX12_tells_22 (fun u H locs hw hP hD hS => ?_)
      obtain ⟨tk2_7, qp2_8, am2_9, at_2_10, aa2_11, wy2_12, ql2_13, ws_2_14, yw2_15, yo2_16, be2_17, bf2_18, rfl⟩ := hw
      have hP : va_P D vwCl [(mm, .inr (12, mo g (nI ta) (nI pa) (nI pe) pd (nI pb) pp pf pg pn rt rn (nI cd) sn (nI il) tk2_7 am2_9 at_2_10 aa2_11 0 0 (-1) wt wy2_12 0 (nI rm) (nI ud) (nI nu) sd (nI qn) (nI qw) qo (nI qb) (nI qp2_8) qa (nI qi) (nI oc))), (g 24, .inl (cI, 6, .inl (l6 u0 u1 u2 u3 u4 u5))), (g 25, .inl (cI, 6, .inl (l6 v0 v1 v2 v3 v4 v5))), (g 26, .inl (cI, 3200, .inl (fun j => nI (cs j)))), (g 31, .inl (cI, 120, .inl nw)), (g 46, .inl (cI, 9, .inl (fun j => nI (pt j)))), (g 86, .inl (cJ, 1700, .inr (.inl ql2_13))), (g 20, .inl (cI, 4, .inl (l4 (nI l0) (nI l1) (nI dm) (nI l3)))), (g 38, .inl (cI, 90, .inl ws_2_14)), (g 36, .inl (cZ, 900, .inl yw2_15)), (g 37, .inl (cZ, 900, .inl yo2_16)), (g 43, .inl (cJ, 90, .inr (.inl be2_17))), (g 44, .inl (cJ, 90, .inr (.inl bf2_18))), (g 53, .inl (cI, 32, .inl rw_))] H := hP
      have hD : va_D A [(mm, .inr (12, mo g (nI ta) (nI pa) (nI pe) pd (nI pb) pp pf pg pn rt rn (nI cd) sn (nI il) tk2_7 am2_9 at_2_10 aa2_11 0 0 (-1) wt wy2_12 0 (nI rm) (nI ud) (nI nu) sd (nI qn) (nI qw) qo (nI qb) (nI qp2_8) qa (nI qi) (nI oc))), (g 24, .inl (cI, 6, .inl (l6 u0 u1 u2 u3 u4 u5))), (g 25, .inl (cI, 6, .inl (l6 v0 v1 v2 v3 v4 v5))), (g 26, .inl (cI, 3200, .inl (fun j => nI (cs j)))), (g 31, .inl (cI, 120, .inl nw)), (g 46, .inl (cI, 9, .inl (fun j => nI (pt j)))), (g 86, .inl (cJ, 1700, .inr (.inl ql2_13))), (g 20, .inl (cI, 4, .inl (l4 (nI l0) (nI l1) (nI dm) (nI l3)))), (g 38, .inl (cI, 90, .inl ws_2_14)), (g 36, .inl (cZ, 900, .inl yw2_15)), (g 37, .inl (cZ, 900, .inl yo2_16)), (g 43, .inl (cJ, 90, .inr (.inl be2_17))), (g 44, .inl (cJ, 90, .inr (.inl bf2_18))), (g 53, .inl (cI, 32, .inl rw_))] := hD
      refine lv_iconst (v := (-1)) hx hb dX12_tells_25 (by decide) ?_
      refine lv_istore_n (lv' := [(2, .int (-1)), (0, .ref mm), (1, .int (nI kd_6))]) hx hb dX12_tells_26 rfl hl (by decide) rfl (fun ls hl => ?_)
      refine lv_lconst (v := 0) hx hb dX12_tells_27 (by decide) ?_
      refine lv_lstore_n (lv' := [(3, .long 0), (2, .int (-1)), (0, .ref mm), (1, .int (nI kd_6))]) hx hb dX12_tells_28 rfl hl (by decide) rfl (fun ls hl => ?_)
      refine lv_iconst (v := 0) hx hb dX12_tells_29 (by decide) ?_
      refine lv_istore (lv' := [(5, .int 0), (3, .long 0), (2, .int (-1)), (0, .ref mm), (1, .int (nI kd_6))]) hx hb dX12_tells_30 hl (by decide) rfl (fun ls hl => ?_)
      have lp_19 : ∀ (n_20 : Nat) (i : Nat) (fe : Int64) (be_ : Int32) (H : Heap) (locs : List Loc) (ls : Array Slot), dm - i < n_20 → (i ≤ dm) → va_P D vwCl [(mm, .inr (12, mo g (nI ta) (nI pa) (nI pe) pd (nI pb) pp pf pg pn rt rn (nI cd) sn (nI il) tk2_7 am2_9 at_2_10 aa2_11 0 0 (-1) wt wy2_12 0 (nI rm) (nI ud) (nI nu) sd (nI qn) (nI qw) qo (nI qb) (nI qp2_8) qa (nI qi) (nI oc))), (g 24, .inl (cI, 6, .inl (l6 u0 u1 u2 u3 u4 u5))), (g 25, .inl (cI, 6, .inl (l6 v0 v1 v2 v3 v4 v5))), (g 26, .inl (cI, 3200, .inl (fun j => nI (cs j)))), (g 31, .inl (cI, 120, .inl nw)), (g 46, .inl (cI, 9, .inl (fun j => nI (pt j)))), (g 86, .inl (cJ, 1700, .inr (.inl ql2_13))), (g 20, .inl (cI, 4, .inl (l4 (nI l0) (nI l1) (nI dm) (nI l3)))), (g 38, .inl (cI, 90, .inl ws_2_14)), (g 36, .inl (cZ, 900, .inl yw2_15)), (g 37, .inl (cZ, 900, .inl yo2_16)), (g 43, .inl (cJ, 90, .inr (.inl be2_17))), (g 44, .inl (cJ, 90, .inr (.inl bf2_18))), (g 53, .inl (cI, 32, .inl rw_))] H → va_D A [(mm, .inr (12, mo g (nI ta) (nI pa) (nI pe) pd (nI pb) pp pf pg pn rt rn (nI cd) sn (nI il) tk2_7 am2_9 at_2_10 aa2_11 0 0 (-1) wt wy2_12 0 (nI rm) (nI ud) (nI nu) sd (nI qn) (nI qw) qo (nI qb) (nI qp2_8) qa (nI qi) (nI oc))), (g 24, .inl (cI, 6, .inl (l6 u0 u1 u2 u3 u4 u5))), (g 25, .inl (cI, 6, .inl (l6 v0 v1 v2 v3 v4 v5))), (g 26, .inl (cI, 3200, .inl (fun j => nI (cs j)))), (g 31, .inl (cI, 120, .inl nw)), (g 46, .inl (cI, 9, .inl (fun j => nI (pt j)))), (g 86, .inl (cJ, 1700, .inr (.inl ql2_13))), (g 20, .inl (cI, 4, .inl (l4 (nI l0) (nI l1) (nI dm) (nI l3)))), (g 38, .inl (cI, 90, .inl ws_2_14)), (g 36, .inl (cZ, 900, .inl yw2_15)), (g 37, .inl (cZ, 900, .inl yo2_16)), (g 43, .inl (cJ, 90, .inr (.inl be2_17))), (g 44, .inl (cJ, 90, .inr (.inl bf2_18))), (g 53, .inl (cI, 32, .inl rw_))] → va_S A s.heap H locs → lv_has ls 11 [(5, .int (nI i)), (3, .long fe), (2, .int be_), (0, .ref mm), (1, .int (nI kd_6))] → W p l e { frames := 6, cells := 0, slots := 0, locals := 142 } s m ([.ref mm, .int (nI kd_6)] : List Value).toArray below meth c H locs 0 0 (MQ below (skL D (skT cI cJ cC cZ cS) (fun (r : Int64) (u : va_W) => ∃ (tk2 : Int32), ∃ (qp2 : Nat), ∃ (am2 : Int32), ∃ (at_2 : Int32), ∃ (aa2 : Int32), ∃ (wy2 : Int64), ∃ (ql2 : Nat → Int64), ∃ (ws_2 : Nat → Int32), ∃ (yw2 : Nat → Int32), ∃ (yo2 : Nat → Int32), ∃ (be2 : Nat → Int64), ∃ (bf2 : Nat → Int64), u = [(mm, .inr (12, mo g (nI ta) (nI pa) (nI pe) pd (nI pb) pp pf pg pn rt rn (nI cd) sn (nI il) tk2 am2 at_2 aa2 0 0 (-1) wt wy2 0 (nI rm) (nI ud) (nI nu) sd (nI qn) (nI qw) qo (nI qb) (nI qp2) qa (nI qi) (nI oc))), (g 24, .inl (cI, 6, .inl (l6 u0 u1 u2 u3 u4 u5))), (g 25, .inl (cI, 6, .inl (l6 v0 v1 v2 v3 v4 v5))), (g 26, .inl (cI, 3200, .inl (fun j => nI (cs j)))), (g 31, .inl (cI, 120, .inl nw)), (g 46, .inl (cI, 9, .inl (fun j => nI (pt j)))), (g 86, .inl (cJ, 1700, .inr (.inl ql2))), (g 20, .inl (cI, 4, .inl (l4 (nI l0) (nI l1) (nI dm) (nI l3)))), (g 38, .inl (cI, 90, .inl ws_2)), (g 36, .inl (cZ, 900, .inl yw2)), (g 37, .inl (cZ, 900, .inl yo2)), (g 43, .inl (cJ, 90, .inr (.inl be2))), (g 44, .inl (cJ, 90, .inr (.inl bf2))), (g 53, .inl (cI, 32, .inl rw_))]) A) ([.ref mm, .int (nI kd_6)] : List Value).toArray s 0 0 A) (F0 m 32 ls []) := by
        intro n_20
        induction n_20 with
        | zero => intro i fe be_ H locs ls hm; exact absurd hm (Nat.not_lt_zero _)
        | succ n_20 ih_lp_19 =>
          intro i fe be_ H locs ls hm hi hP hD hS hl
          refine lv_iload hx hb dX12_tells_32 (lv_at hl 0 rfl) ?_
          refine lv_aload_n hx hb dX12_tells_34 rfl (lv_at hl 3 rfl) ?_
          refine sk_Vi (q0 := 0) (n := 0) (rest := [.int (nI i)]) (wr := [(g 24, .inl (cI, 6, .inl (l6 u0 u1 u2 u3 u4 u5))), (g 25, .inl (cI, 6, .inl (l6 v0 v1 v2 v3 v4 v5))), (g 26, .inl (cI, 3200, .inl (fun j => nI (cs j)))), (g 31, .inl (cI, 120, .inl nw)), (g 46, .inl (cI, 9, .inl (fun j => nI (pt j)))), (g 86, .inl (cJ, 1700, .inr (.inl ql2_13))), (g 38, .inl (cI, 90, .inl ws_2_14)), (g 36, .inl (cZ, 900, .inl yw2_15)), (g 37, .inl (cZ, 900, .inl yo2_16)), (g 43, .inl (cJ, 90, .inr (.inl be2_17))), (g 44, .inl (cJ, 90, .inr (.inl bf2_18))), (g 53, .inl (cI, 32, .inl rw_))]) ⟨hx, hb, hml, hown, hts⟩ hl.1 (c_m_dayMany l D cI cJ cC cZ cS mm g ta pa pe pd pb pp pf pg pn rt rn cd sn il tk2_7 am2_9 at_2_10 aa2_11 0 0 (-1) wt wy2_12 0 rm ud nu sd qn qw qo qb qp2_8 qa qi oc l0 l1 dm l3) w_7_98 w_7_100 w_0_69 w_1_14 w_7_101 (by decide +kernel) ⟨⟨(Nat.le_of_ble_eq_true rfl), (Nat.le_of_ble_eq_true rfl)⟩, (Nat.le_of_ble_eq_true rfl), (Nat.le_of_ble_eq_true rfl)⟩ hK hP hD hS hA [0, 7] [1, 2, 3, 4, 5, 6, 8, 9, 10, 11, 12, 13] rfl rfl (by decide +kernel) (by decide +kernel) (by decide +kernel) rfl rfl rfl rfl (Nat.le_of_ble_eq_true rfl) dX12_tells_35 (fun r_21 u H locs hw hP hD hS => ?_)
          obtain ⟨rfl, rfl⟩ := hw
          have hP : va_P D vwCl [(g 24, .inl (cI, 6, .inl (l6 u0 u1 u2 u3 u4 u5))), (g 25, .inl (cI, 6, .inl (l6 v0 v1 v2 v3 v4 v5))), (g 26, .inl (cI, 3200, .inl (fun j => nI (cs j)))), (g 31, .inl (cI, 120, .inl nw)), (g 46, .inl (cI, 9, .inl (fun j => nI (pt j)))), (g 86, .inl (cJ, 1700, .inr (.inl ql2_13))), (g 38, .inl (cI, 90, .inl ws_2_14)), (g 36, .inl (cZ, 900, .inl yw2_15)), (g 37, .inl (cZ, 900, .inl yo2_16)), (g 43, .inl (cJ, 90, .inr (.inl be2_17))), (g 44, .inl (cJ, 90, .inr (.inl bf2_18))), (g 53, .inl (cI, 32, .inl rw_)), (mm, .inr (12, mo g (nI ta) (nI pa) (nI pe) pd (nI pb) pp pf pg pn rt rn (nI cd) sn (nI il) tk2_7 am2_9 at_2_10 aa2_11 0 0 (-1) wt wy2_12 0 (nI rm) (nI ud) (nI nu) sd (nI qn) (nI qw) qo (nI qb) (nI qp2_8) qa (nI qi) (nI oc))), (g 20, .inl (cI, 4, .inl (l4 (nI l0) (nI l1) (nI dm) (nI l3))))] H := hP
          have hD : va_D A [(g 24, .inl (cI, 6, .inl (l6 u0 u1 u2 u3 u4 u5))), (g 25, .inl (cI, 6, .inl (l6 v0 v1 v2 v3 v4 v5))), (g 26, .inl (cI, 3200, .inl (fun j => nI (cs j)))), (g 31, .inl (cI, 120, .inl nw)), (g 46, .inl (cI, 9, .inl (fun j => nI (pt j)))), (g 86, .inl (cJ, 1700, .inr (.inl ql2_13))), (g 38, .inl (cI, 90, .inl ws_2_14)), (g 36, .inl (cZ, 900, .inl yw2_15)), (g 37, .inl (cZ, 900, .inl yo2_16)), (g 43, .inl (cJ, 90, .inr (.inl be2_17))), (g 44, .inl (cJ, 90, .inr (.inl bf2_18))), (g 53, .inl (cI, 32, .inl rw_)), (mm, .inr (12, mo g (nI ta) (nI pa) (nI pe) pd (nI pb) pp pf pg pn rt rn (nI cd) sn (nI il) tk2_7 am2_9 at_2_10 aa2_11 0 0 (-1) wt wy2_12 0 (nI rm) (nI ud) (nI nu) sd (nI qn) (nI qw) qo (nI qb) (nI qp2_8) qa (nI qi) (nI oc))), (g 20, .inl (cI, 4, .inl (l4 (nI l0) (nI l1) (nI dm) (nI l3))))] := hD
          refine lv_icmp_ge (tgt := 137) hx hb dX12_tells_38 (by decide) (fun c_22 => ?_) (fun c_22 => ?_)
          · have c_22 : dm ≤ i := (nle dm i (by omega) (by omega)).mp c_22
            refine lv_iload_n hx hb dX12_tells_137 rfl (lv_at hl 2 rfl) ?_
            refine lv_iconst (v := (-1)) hx hb dX12_tells_138 (by decide) ?_
            refine lv_icmp_ne (tgt := 148) hx hb dX12_tells_139 (by decide) (fun c_23 => ?_) (fun c_23 => ?_)
            · skip
              refine lv_iload_n hx hb dX12_tells_148 rfl (lv_at hl 4 rfl) ?_
              refine lv_if_ne (tgt := 157) hx hb dX12_tells_149 (by decide) (fun c_24 => ?_) (fun c_24 => ?_)
              · have c_24 : ¬ (kd_6 = 0) := fun h => c_24 ((neq kd_6 0 (by omega) (by omega)).mpr h)
                refine lv_lload_n hx hb dX12_tells_157 rfl (lv_at hl 1 rfl) ?_
                have hP := hP.sub (ws' := [(mm, .inr (12, mo g (nI ta) (nI pa) (nI pe) pd (nI pb) pp pf pg pn rt rn (nI cd) sn (nI il) tk2_7 am2_9 at_2_10 aa2_11 0 0 (-1) wt wy2_12 0 (nI rm) (nI ud) (nI nu) sd (nI qn) (nI qw) qo (nI qb) (nI qp2_8) qa (nI qi) (nI oc))), (g 24, .inl (cI, 6, .inl (l6 u0 u1 u2 u3 u4 u5))), (g 25, .inl (cI, 6, .inl (l6 v0 v1 v2 v3 v4 v5))), (g 26, .inl (cI, 3200, .inl (fun j => nI (cs j)))), (g 31, .inl (cI, 120, .inl nw)), (g 46, .inl (cI, 9, .inl (fun j => nI (pt j)))), (g 86, .inl (cJ, 1700, .inr (.inl ql2_13))), (g 20, .inl (cI, 4, .inl (l4 (nI l0) (nI l1) (nI dm) (nI l3)))), (g 38, .inl (cI, 90, .inl ws_2_14)), (g 36, .inl (cZ, 900, .inl yw2_15)), (g 37, .inl (cZ, 900, .inl yo2_16)), (g 43, .inl (cJ, 90, .inr (.inl be2_17))), (g 44, .inl (cJ, 90, .inr (.inl bf2_18))), (g 53, .inl (cI, 32, .inl rw_))]) [12, 0, 1, 2, 3, 4, 5, 13, 6, 7, 8, 9, 10, 11] rfl
                have hD := hD.sub (ws' := [(mm, .inr (12, mo g (nI ta) (nI pa) (nI pe) pd (nI pb) pp pf pg pn rt rn (nI cd) sn (nI il) tk2_7 am2_9 at_2_10 aa2_11 0 0 (-1) wt wy2_12 0 (nI rm) (nI ud) (nI nu) sd (nI qn) (nI qw) qo (nI qb) (nI qp2_8) qa (nI qi) (nI oc))), (g 24, .inl (cI, 6, .inl (l6 u0 u1 u2 u3 u4 u5))), (g 25, .inl (cI, 6, .inl (l6 v0 v1 v2 v3 v4 v5))), (g 26, .inl (cI, 3200, .inl (fun j => nI (cs j)))), (g 31, .inl (cI, 120, .inl nw)), (g 46, .inl (cI, 9, .inl (fun j => nI (pt j)))), (g 86, .inl (cJ, 1700, .inr (.inl ql2_13))), (g 20, .inl (cI, 4, .inl (l4 (nI l0) (nI l1) (nI dm) (nI l3)))), (g 38, .inl (cI, 90, .inl ws_2_14)), (g 36, .inl (cZ, 900, .inl yw2_15)), (g 37, .inl (cZ, 900, .inl yo2_16)), (g 43, .inl (cJ, 90, .inr (.inl be2_17))), (g 44, .inl (cJ, 90, .inr (.inl bf2_18))), (g 53, .inl (cI, 32, .inl rw_))]) [12, 0, 1, 2, 3, 4, 5, 13, 6, 7, 8, 9, 10, 11] (by decide +kernel) rfl
                exact sk_lret hx hb hr hlocks hK hP hD hS (⟨tk2_7, qp2_8, am2_9, at_2_10, aa2_11, wy2_12, ql2_13, ws_2_14, yw2_15, yo2_16, be2_17, bf2_18, rfl⟩) (Nat.le_of_ble_eq_true rfl) (Nat.le_of_ble_eq_true rfl) dX12_tells_158
              · have c_24 : kd_6 = 0 := (neq kd_6 0 (by omega) (by omega)).mp c_24
                refine lv_iload_n hx hb dX12_tells_152 rfl (lv_at hl 2 rfl) ?_
                refine lv_i2l hx hb dX12_tells_153 rfl ?_
                refine lv_goto (tgt := 158) hx hb dX12_tells_154 (by decide) ?_
                have hP := hP.sub (ws' := [(mm, .inr (12, mo g (nI ta) (nI pa) (nI pe) pd (nI pb) pp pf pg pn rt rn (nI cd) sn (nI il) tk2_7 am2_9 at_2_10 aa2_11 0 0 (-1) wt wy2_12 0 (nI rm) (nI ud) (nI nu) sd (nI qn) (nI qw) qo (nI qb) (nI qp2_8) qa (nI qi) (nI oc))), (g 24, .inl (cI, 6, .inl (l6 u0 u1 u2 u3 u4 u5))), (g 25, .inl (cI, 6, .inl (l6 v0 v1 v2 v3 v4 v5))), (g 26, .inl (cI, 3200, .inl (fun j => nI (cs j)))), (g 31, .inl (cI, 120, .inl nw)), (g 46, .inl (cI, 9, .inl (fun j => nI (pt j)))), (g 86, .inl (cJ, 1700, .inr (.inl ql2_13))), (g 20, .inl (cI, 4, .inl (l4 (nI l0) (nI l1) (nI dm) (nI l3)))), (g 38, .inl (cI, 90, .inl ws_2_14)), (g 36, .inl (cZ, 900, .inl yw2_15)), (g 37, .inl (cZ, 900, .inl yo2_16)), (g 43, .inl (cJ, 90, .inr (.inl be2_17))), (g 44, .inl (cJ, 90, .inr (.inl bf2_18))), (g 53, .inl (cI, 32, .inl rw_))]) [12, 0, 1, 2, 3, 4, 5, 13, 6, 7, 8, 9, 10, 11] rfl
                have hD := hD.sub (ws' := [(mm, .inr (12, mo g (nI ta) (nI pa) (nI pe) pd (nI pb) pp pf pg pn rt rn (nI cd) sn (nI il) tk2_7 am2_9 at_2_10 aa2_11 0 0 (-1) wt wy2_12 0 (nI rm) (nI ud) (nI nu) sd (nI qn) (nI qw) qo (nI qb) (nI qp2_8) qa (nI qi) (nI oc))), (g 24, .inl (cI, 6, .inl (l6 u0 u1 u2 u3 u4 u5))), (g 25, .inl (cI, 6, .inl (l6 v0 v1 v2 v3 v4 v5))), (g 26, .inl (cI, 3200, .inl (fun j => nI (cs j)))), (g 31, .inl (cI, 120, .inl nw)), (g 46, .inl (cI, 9, .inl (fun j => nI (pt j)))), (g 86, .inl (cJ, 1700, .inr (.inl ql2_13))), (g 20, .inl (cI, 4, .inl (l4 (nI l0) (nI l1) (nI dm) (nI l3)))), (g 38, .inl (cI, 90, .inl ws_2_14)), (g 36, .inl (cZ, 900, .inl yw2_15)), (g 37, .inl (cZ, 900, .inl yo2_16)), (g 43, .inl (cJ, 90, .inr (.inl be2_17))), (g 44, .inl (cJ, 90, .inr (.inl bf2_18))), (g 53, .inl (cI, 32, .inl rw_))]) [12, 0, 1, 2, 3, 4, 5, 13, 6, 7, 8, 9, 10, 11] (by decide +kernel) rfl
                exact sk_lret hx hb hr hlocks hK hP hD hS (⟨tk2_7, qp2_8, am2_9, at_2_10, aa2_11, wy2_12, ql2_13, ws_2_14, yw2_15, yo2_16, be2_17, bf2_18, rfl⟩) (Nat.le_of_ble_eq_true rfl) (Nat.le_of_ble_eq_true rfl) dX12_tells_158
            · skip
              refine lv_ldc2 (v := (-1000000000000000)) hx hb hown (hts _ w_7_184) dX12_tells_142 ?_
              refine lv_goto (tgt := 158) hx hb dX12_tells_145 (by decide) ?_
              have hP := hP.sub (ws' := [(mm, .inr (12, mo g (nI ta) (nI pa) (nI pe) pd (nI pb) pp pf pg pn rt rn (nI cd) sn (nI il) tk2_7 am2_9 at_2_10 aa2_11 0 0 (-1) wt wy2_12 0 (nI rm) (nI ud) (nI nu) sd (nI qn) (nI qw) qo (nI qb) (nI qp2_8) qa (nI qi) (nI oc))), (g 24, .inl (cI, 6, .inl (l6 u0 u1 u2 u3 u4 u5))), (g 25, .inl (cI, 6, .inl (l6 v0 v1 v2 v3 v4 v5))), (g 26, .inl (cI, 3200, .inl (fun j => nI (cs j)))), (g 31, .inl (cI, 120, .inl nw)), (g 46, .inl (cI, 9, .inl (fun j => nI (pt j)))), (g 86, .inl (cJ, 1700, .inr (.inl ql2_13))), (g 20, .inl (cI, 4, .inl (l4 (nI l0) (nI l1) (nI dm) (nI l3)))), (g 38, .inl (cI, 90, .inl ws_2_14)), (g 36, .inl (cZ, 900, .inl yw2_15)), (g 37, .inl (cZ, 900, .inl yo2_16)), (g 43, .inl (cJ, 90, .inr (.inl be2_17))), (g 44, .inl (cJ, 90, .inr (.inl bf2_18))), (g 53, .inl (cI, 32, .inl rw_))]) [12, 0, 1, 2, 3, 4, 5, 13, 6, 7, 8, 9, 10, 11] rfl
              have hD := hD.sub (ws' := [(mm, .inr (12, mo g (nI ta) (nI pa) (nI pe) pd (nI pb) pp pf pg pn rt rn (nI cd) sn (nI il) tk2_7 am2_9 at_2_10 aa2_11 0 0 (-1) wt wy2_12 0 (nI rm) (nI ud) (nI nu) sd (nI qn) (nI qw) qo (nI qb) (nI qp2_8) qa (nI qi) (nI oc))), (g 24, .inl (cI, 6, .inl (l6 u0 u1 u2 u3 u4 u5))), (g 25, .inl (cI, 6, .inl (l6 v0 v1 v2 v3 v4 v5))), (g 26, .inl (cI, 3200, .inl (fun j => nI (cs j)))), (g 31, .inl (cI, 120, .inl nw)), (g 46, .inl (cI, 9, .inl (fun j => nI (pt j)))), (g 86, .inl (cJ, 1700, .inr (.inl ql2_13))), (g 20, .inl (cI, 4, .inl (l4 (nI l0) (nI l1) (nI dm) (nI l3)))), (g 38, .inl (cI, 90, .inl ws_2_14)), (g 36, .inl (cZ, 900, .inl yw2_15)), (g 37, .inl (cZ, 900, .inl yo2_16)), (g 43, .inl (cJ, 90, .inr (.inl be2_17))), (g 44, .inl (cJ, 90, .inr (.inl bf2_18))), (g 53, .inl (cI, 32, .inl rw_))]) [12, 0, 1, 2, 3, 4, 5, 13, 6, 7, 8, 9, 10, 11] (by decide +kernel) rfl
              exact sk_lret hx hb hr hlocks hK hP hD hS (⟨tk2_7, qp2_8, am2_9, at_2_10, aa2_11, wy2_12, ql2_13, ws_2_14, yw2_15, yo2_16, be2_17, bf2_18, rfl⟩) (Nat.le_of_ble_eq_true rfl) (Nat.le_of_ble_eq_true rfl) dX12_tells_158
          · have c_22 : ¬ (dm ≤ i) := fun h => c_22 ((nle dm i (by omega) (by omega)).mpr h)
            refine lv_aload_n hx hb dX12_tells_41 rfl (lv_at hl 3 rfl) ?_
            refine sk_get (v := .long wy2_12) (C := RX12) (T := TX12) (N := 92) hx hb hts inlX12 hown hK hP 12 rfl rfl 45 (by decide) w_5_200 rfl dX12_tells_42 ?_
            refine lv_lconst (v := 0) hx hb dX12_tells_45 (by decide) ?_
            refine W.lcmp hx hb dX12_tells_46 ?_
            refine lv_if_le (tgt := 137) hx hb dX12_tells_47 (by decide) (fun c_25 => ?_) (fun c_25 => ?_)
            · skip
              refine lv_iload_n hx hb dX12_tells_137 rfl (lv_at hl 2 rfl) ?_
              refine lv_iconst (v := (-1)) hx hb dX12_tells_138 (by decide) ?_
              refine lv_icmp_ne (tgt := 148) hx hb dX12_tells_139 (by decide) (fun c_26 => ?_) (fun c_26 => ?_)
              · skip
                refine lv_iload_n hx hb dX12_tells_148 rfl (lv_at hl 4 rfl) ?_
                refine lv_if_ne (tgt := 157) hx hb dX12_tells_149 (by decide) (fun c_27 => ?_) (fun c_27 => ?_)
                · have c_27 : ¬ (kd_6 = 0) := fun h => c_27 ((neq kd_6 0 (by omega) (by omega)).mpr h)
                  refine lv_lload_n hx hb dX12_tells_157 rfl (lv_at hl 1 rfl) ?_
                  have hP := hP.sub (ws' := [(mm, .inr (12, mo g (nI ta) (nI pa) (nI pe) pd (nI pb) pp pf pg pn rt rn (nI cd) sn (nI il) tk2_7 am2_9 at_2_10 aa2_11 0 0 (-1) wt wy2_12 0 (nI rm) (nI ud) (nI nu) sd (nI qn) (nI qw) qo (nI qb) (nI qp2_8) qa (nI qi) (nI oc))), (g 24, .inl (cI, 6, .inl (l6 u0 u1 u2 u3 u4 u5))), (g 25, .inl (cI, 6, .inl (l6 v0 v1 v2 v3 v4 v5))), (g 26, .inl (cI, 3200, .inl (fun j => nI (cs j)))), (g 31, .inl (cI, 120, .inl nw)), (g 46, .inl (cI, 9, .inl (fun j => nI (pt j)))), (g 86, .inl (cJ, 1700, .inr (.inl ql2_13))), (g 20, .inl (cI, 4, .inl (l4 (nI l0) (nI l1) (nI dm) (nI l3)))), (g 38, .inl (cI, 90, .inl ws_2_14)), (g 36, .inl (cZ, 900, .inl yw2_15)), (g 37, .inl (cZ, 900, .inl yo2_16)), (g 43, .inl (cJ, 90, .inr (.inl be2_17))), (g 44, .inl (cJ, 90, .inr (.inl bf2_18))), (g 53, .inl (cI, 32, .inl rw_))]) [12, 0, 1, 2, 3, 4, 5, 13, 6, 7, 8, 9, 10, 11] rfl
                  have hD := hD.sub (ws' := [(mm, .inr (12, mo g (nI ta) (nI pa) (nI pe) pd (nI pb) pp pf pg pn rt rn (nI cd) sn (nI il) tk2_7 am2_9 at_2_10 aa2_11 0 0 (-1) wt wy2_12 0 (nI rm) (nI ud) (nI nu) sd (nI qn) (nI qw) qo (nI qb) (nI qp2_8) qa (nI qi) (nI oc))), (g 24, .inl (cI, 6, .inl (l6 u0 u1 u2 u3 u4 u5))), (g 25, .inl (cI, 6, .inl (l6 v0 v1 v2 v3 v4 v5))), (g 26, .inl (cI, 3200, .inl (fun j => nI (cs j)))), (g 31, .inl (cI, 120, .inl nw)), (g 46, .inl (cI, 9, .inl (fun j => nI (pt j)))), (g 86, .inl (cJ, 1700, .inr (.inl ql2_13))), (g 20, .inl (cI, 4, .inl (l4 (nI l0) (nI l1) (nI dm) (nI l3)))), (g 38, .inl (cI, 90, .inl ws_2_14)), (g 36, .inl (cZ, 900, .inl yw2_15)), (g 37, .inl (cZ, 900, .inl yo2_16)), (g 43, .inl (cJ, 90, .inr (.inl be2_17))), (g 44, .inl (cJ, 90, .inr (.inl bf2_18))), (g 53, .inl (cI, 32, .inl rw_))]) [12, 0, 1, 2, 3, 4, 5, 13, 6, 7, 8, 9, 10, 11] (by decide +kernel) rfl
                  exact sk_lret hx hb hr hlocks hK hP hD hS (⟨tk2_7, qp2_8, am2_9, at_2_10, aa2_11, wy2_12, ql2_13, ws_2_14, yw2_15, yo2_16, be2_17, bf2_18, rfl⟩) (Nat.le_of_ble_eq_true rfl) (Nat.le_of_ble_eq_true rfl) dX12_tells_158
                · have c_27 : kd_6 = 0 := (neq kd_6 0 (by omega) (by omega)).mp c_27
                  refine lv_iload_n hx hb dX12_tells_152 rfl (lv_at hl 2 rfl) ?_
                  refine lv_i2l hx hb dX12_tells_153 rfl ?_
                  refine lv_goto (tgt := 158) hx hb dX12_tells_154 (by decide) ?_
                  have hP := hP.sub (ws' := [(mm, .inr (12, mo g (nI ta) (nI pa) (nI pe) pd (nI pb) pp pf pg pn rt rn (nI cd) sn (nI il) tk2_7 am2_9 at_2_10 aa2_11 0 0 (-1) wt wy2_12 0 (nI rm) (nI ud) (nI nu) sd (nI qn) (nI qw) qo (nI qb) (nI qp2_8) qa (nI qi) (nI oc))), (g 24, .inl (cI, 6, .inl (l6 u0 u1 u2 u3 u4 u5))), (g 25, .inl (cI, 6, .inl (l6 v0 v1 v2 v3 v4 v5))), (g 26, .inl (cI, 3200, .inl (fun j => nI (cs j)))), (g 31, .inl (cI, 120, .inl nw)), (g 46, .inl (cI, 9, .inl (fun j => nI (pt j)))), (g 86, .inl (cJ, 1700, .inr (.inl ql2_13))), (g 20, .inl (cI, 4, .inl (l4 (nI l0) (nI l1) (nI dm) (nI l3)))), (g 38, .inl (cI, 90, .inl ws_2_14)), (g 36, .inl (cZ, 900, .inl yw2_15)), (g 37, .inl (cZ, 900, .inl yo2_16)), (g 43, .inl (cJ, 90, .inr (.inl be2_17))), (g 44, .inl (cJ, 90, .inr (.inl bf2_18))), (g 53, .inl (cI, 32, .inl rw_))]) [12, 0, 1, 2, 3, 4, 5, 13, 6, 7, 8, 9, 10, 11] rfl
                  have hD := hD.sub (ws' := [(mm, .inr (12, mo g (nI ta) (nI pa) (nI pe) pd (nI pb) pp pf pg pn rt rn (nI cd) sn (nI il) tk2_7 am2_9 at_2_10 aa2_11 0 0 (-1) wt wy2_12 0 (nI rm) (nI ud) (nI nu) sd (nI qn) (nI qw) qo (nI qb) (nI qp2_8) qa (nI qi) (nI oc))), (g 24, .inl (cI, 6, .inl (l6 u0 u1 u2 u3 u4 u5))), (g 25, .inl (cI, 6, .inl (l6 v0 v1 v2 v3 v4 v5))), (g 26, .inl (cI, 3200, .inl (fun j => nI (cs j)))), (g 31, .inl (cI, 120, .inl nw)), (g 46, .inl (cI, 9, .inl (fun j => nI (pt j)))), (g 86, .inl (cJ, 1700, .inr (.inl ql2_13))), (g 20, .inl (cI, 4, .inl (l4 (nI l0) (nI l1) (nI dm) (nI l3)))), (g 38, .inl (cI, 90, .inl ws_2_14)), (g 36, .inl (cZ, 900, .inl yw2_15)), (g 37, .inl (cZ, 900, .inl yo2_16)), (g 43, .inl (cJ, 90, .inr (.inl be2_17))), (g 44, .inl (cJ, 90, .inr (.inl bf2_18))), (g 53, .inl (cI, 32, .inl rw_))]) [12, 0, 1, 2, 3, 4, 5, 13, 6, 7, 8, 9, 10, 11] (by decide +kernel) rfl
                  exact sk_lret hx hb hr hlocks hK hP hD hS (⟨tk2_7, qp2_8, am2_9, at_2_10, aa2_11, wy2_12, ql2_13, ws_2_14, yw2_15, yo2_16, be2_17, bf2_18, rfl⟩) (Nat.le_of_ble_eq_true rfl) (Nat.le_of_ble_eq_true rfl) dX12_tells_158
              · skip
                refine lv_ldc2 (v := (-1000000000000000)) hx hb hown (hts _ w_7_184) dX12_tells_142 ?_
                refine lv_goto (tgt := 158) hx hb dX12_tells_145 (by decide) ?_
                have hP := hP.sub (ws' := [(mm, .inr (12, mo g (nI ta) (nI pa) (nI pe) pd (nI pb) pp pf pg pn rt rn (nI cd) sn (nI il) tk2_7 am2_9 at_2_10 aa2_11 0 0 (-1) wt wy2_12 0 (nI rm) (nI ud) (nI nu) sd (nI qn) (nI qw) qo (nI qb) (nI qp2_8) qa (nI qi) (nI oc))), (g 24, .inl (cI, 6, .inl (l6 u0 u1 u2 u3 u4 u5))), (g 25, .inl (cI, 6, .inl (l6 v0 v1 v2 v3 v4 v5))), (g 26, .inl (cI, 3200, .inl (fun j => nI (cs j)))), (g 31, .inl (cI, 120, .inl nw)), (g 46, .inl (cI, 9, .inl (fun j => nI (pt j)))), (g 86, .inl (cJ, 1700, .inr (.inl ql2_13))), (g 20, .inl (cI, 4, .inl (l4 (nI l0) (nI l1) (nI dm) (nI l3)))), (g 38, .inl (cI, 90, .inl ws_2_14)), (g 36, .inl (cZ, 900, .inl yw2_15)), (g 37, .inl (cZ, 900, .inl yo2_16)), (g 43, .inl (cJ, 90, .inr (.inl be2_17))), (g 44, .inl (cJ, 90, .inr (.inl bf2_18))), (g 53, .inl (cI, 32, .inl rw_))]) [12, 0, 1, 2, 3, 4, 5, 13, 6, 7, 8, 9, 10, 11] rfl
                have hD := hD.sub (ws' := [(mm, .inr (12, mo g (nI ta) (nI pa) (nI pe) pd (nI pb) pp pf pg pn rt rn (nI cd) sn (nI il) tk2_7 am2_9 at_2_10 aa2_11 0 0 (-1) wt wy2_12 0 (nI rm) (nI ud) (nI nu) sd (nI qn) (nI qw) qo (nI qb) (nI qp2_8) qa (nI qi) (nI oc))), (g 24, .inl (cI, 6, .inl (l6 u0 u1 u2 u3 u4 u5))), (g 25, .inl (cI, 6, .inl (l6 v0 v1 v2 v3 v4 v5))), (g 26, .inl (cI, 3200, .inl (fun j => nI (cs j)))), (g 31, .inl (cI, 120, .inl nw)), (g 46, .inl (cI, 9, .inl (fun j => nI (pt j)))), (g 86, .inl (cJ, 1700, .inr (.inl ql2_13))), (g 20, .inl (cI, 4, .inl (l4 (nI l0) (nI l1) (nI dm) (nI l3)))), (g 38, .inl (cI, 90, .inl ws_2_14)), (g 36, .inl (cZ, 900, .inl yw2_15)), (g 37, .inl (cZ, 900, .inl yo2_16)), (g 43, .inl (cJ, 90, .inr (.inl be2_17))), (g 44, .inl (cJ, 90, .inr (.inl bf2_18))), (g 53, .inl (cI, 32, .inl rw_))]) [12, 0, 1, 2, 3, 4, 5, 13, 6, 7, 8, 9, 10, 11] (by decide +kernel) rfl
                exact sk_lret hx hb hr hlocks hK hP hD hS (⟨tk2_7, qp2_8, am2_9, at_2_10, aa2_11, wy2_12, ql2_13, ws_2_14, yw2_15, yo2_16, be2_17, bf2_18, rfl⟩) (Nat.le_of_ble_eq_true rfl) (Nat.le_of_ble_eq_true rfl) dX12_tells_158
            · skip
              refine lv_lconst (v := 0) hx hb dX12_tells_50 (by decide) ?_
              refine lv_lstore (lv' := [(6, .long 0), (5, .int (nI i)), (3, .long fe), (2, .int be_), (0, .ref mm), (1, .int (nI kd_6))]) hx hb dX12_tells_51 hl (by decide) rfl (fun ls hl => ?_)
              refine lv_iconst (v := 0) hx hb dX12_tells_53 (by decide) ?_
              refine lv_istore (lv' := [(8, .int 0), (6, .long 0), (5, .int (nI i)), (3, .long fe), (2, .int be_), (0, .ref mm), (1, .int (nI kd_6))]) hx hb dX12_tells_54 hl (by decide) rfl (fun ls hl => ?_)
              have lp_28 : ∀ (n_29 : Nat) (jm : Nat) (mo_ : Int64) (H : Heap) (locs : List Loc) (ls : Array Slot), 10 - jm < n_29 → (jm ≤ 10) → va_P D vwCl [(g 24, .inl (cI, 6, .inl (l6 u0 u1 u2 u3 u4 u5))), (g 25, .inl (cI, 6, .inl (l6 v0 v1 v2 v3 v4 v5))), (g 26, .inl (cI, 3200, .inl (fun j => nI (cs j)))), (g 31, .inl (cI, 120, .inl nw)), (g 46, .inl (cI, 9, .inl (fun j => nI (pt j)))), (g 86, .inl (cJ, 1700, .inr (.inl ql2_13))), (g 38, .inl (cI, 90, .inl ws_2_14)), (g 36, .inl (cZ, 900, .inl yw2_15)), (g 37, .inl (cZ, 900, .inl yo2_16)), (g 43, .inl (cJ, 90, .inr (.inl be2_17))), (g 44, .inl (cJ, 90, .inr (.inl bf2_18))), (g 53, .inl (cI, 32, .inl rw_)), (mm, .inr (12, mo g (nI ta) (nI pa) (nI pe) pd (nI pb) pp pf pg pn rt rn (nI cd) sn (nI il) tk2_7 am2_9 at_2_10 aa2_11 0 0 (-1) wt wy2_12 0 (nI rm) (nI ud) (nI nu) sd (nI qn) (nI qw) qo (nI qb) (nI qp2_8) qa (nI qi) (nI oc))), (g 20, .inl (cI, 4, .inl (l4 (nI l0) (nI l1) (nI dm) (nI l3))))] H → va_D A [(g 24, .inl (cI, 6, .inl (l6 u0 u1 u2 u3 u4 u5))), (g 25, .inl (cI, 6, .inl (l6 v0 v1 v2 v3 v4 v5))), (g 26, .inl (cI, 3200, .inl (fun j => nI (cs j)))), (g 31, .inl (cI, 120, .inl nw)), (g 46, .inl (cI, 9, .inl (fun j => nI (pt j)))), (g 86, .inl (cJ, 1700, .inr (.inl ql2_13))), (g 38, .inl (cI, 90, .inl ws_2_14)), (g 36, .inl (cZ, 900, .inl yw2_15)), (g 37, .inl (cZ, 900, .inl yo2_16)), (g 43, .inl (cJ, 90, .inr (.inl be2_17))), (g 44, .inl (cJ, 90, .inr (.inl bf2_18))), (g 53, .inl (cI, 32, .inl rw_)), (mm, .inr (12, mo g (nI ta) (nI pa) (nI pe) pd (nI pb) pp pf pg pn rt rn (nI cd) sn (nI il) tk2_7 am2_9 at_2_10 aa2_11 0 0 (-1) wt wy2_12 0 (nI rm) (nI ud) (nI nu) sd (nI qn) (nI qw) qo (nI qb) (nI qp2_8) qa (nI qi) (nI oc))), (g 20, .inl (cI, 4, .inl (l4 (nI l0) (nI l1) (nI dm) (nI l3))))] → va_S A s.heap H locs → lv_has ls 11 [(8, .int (nI jm)), (6, .long mo_), (5, .int (nI i)), (3, .long fe), (2, .int be_), (0, .ref mm), (1, .int (nI kd_6))] → W p l e { frames := 6, cells := 0, slots := 0, locals := 142 } s m ([.ref mm, .int (nI kd_6)] : List Value).toArray below meth c H locs 0 0 (MQ below (skL D (skT cI cJ cC cZ cS) (fun (r : Int64) (u : va_W) => ∃ (tk2 : Int32), ∃ (qp2 : Nat), ∃ (am2 : Int32), ∃ (at_2 : Int32), ∃ (aa2 : Int32), ∃ (wy2 : Int64), ∃ (ql2 : Nat → Int64), ∃ (ws_2 : Nat → Int32), ∃ (yw2 : Nat → Int32), ∃ (yo2 : Nat → Int32), ∃ (be2 : Nat → Int64), ∃ (bf2 : Nat → Int64), u = [(mm, .inr (12, mo g (nI ta) (nI pa) (nI pe) pd (nI pb) pp pf pg pn rt rn (nI cd) sn (nI il) tk2 am2 at_2 aa2 0 0 (-1) wt wy2 0 (nI rm) (nI ud) (nI nu) sd (nI qn) (nI qw) qo (nI qb) (nI qp2) qa (nI qi) (nI oc))), (g 24, .inl (cI, 6, .inl (l6 u0 u1 u2 u3 u4 u5))), (g 25, .inl (cI, 6, .inl (l6 v0 v1 v2 v3 v4 v5))), (g 26, .inl (cI, 3200, .inl (fun j => nI (cs j)))), (g 31, .inl (cI, 120, .inl nw)), (g 46, .inl (cI, 9, .inl (fun j => nI (pt j)))), (g 86, .inl (cJ, 1700, .inr (.inl ql2))), (g 20, .inl (cI, 4, .inl (l4 (nI l0) (nI l1) (nI dm) (nI l3)))), (g 38, .inl (cI, 90, .inl ws_2)), (g 36, .inl (cZ, 900, .inl yw2)), (g 37, .inl (cZ, 900, .inl yo2)), (g 43, .inl (cJ, 90, .inr (.inl be2))), (g 44, .inl (cJ, 90, .inr (.inl bf2))), (g 53, .inl (cI, 32, .inl rw_))]) A) ([.ref mm, .int (nI kd_6)] : List Value).toArray s 0 0 A) (F0 m 56 ls []) := by
                intro n_29
                induction n_29 with
                | zero => intro jm mo_ H locs ls hm; exact absurd hm (Nat.not_lt_zero _)
                | succ n_29 ih_lp_28 =>
                  intro jm mo_ H locs ls hm hjm hP hD hS hl
                  refine lv_iload hx hb dX12_tells_56 (lv_at hl 0 rfl) ?_
                  refine lv_bipush (v := 10) hx hb dX12_tells_58 (by decide) ?_
                  refine lv_icmp_ge (tgt := 110) hx hb dX12_tells_60 (by decide) (fun c_30 => ?_) (fun c_30 => ?_)
                  · have c_30 : 10 ≤ jm := (nle 10 jm (by omega) (by omega)).mp c_30
                    refine lv_iload_n hx hb dX12_tells_110 rfl (lv_at hl 4 rfl) ?_
                    refine lv_iconst (v := (-1)) hx hb dX12_tells_111 (by decide) ?_
                    refine lv_icmp_eq (tgt := 125) hx hb dX12_tells_112 (by decide) (fun c_31 => ?_) (fun c_31 => ?_)
                    · skip
                      refine lv_iload hx hb dX12_tells_125 (lv_at hl 2 rfl) ?_
                      refine lv_istore_n (lv' := [(2, .int (nI i)), (8, .int (nI jm)), (6, .long mo_), (5, .int (nI i)), (3, .long fe), (0, .ref mm), (1, .int (nI kd_6))]) hx hb dX12_tells_127 rfl hl (by decide) rfl (fun ls hl => ?_)
                      refine lv_lload hx hb dX12_tells_128 (lv_at hl 2 rfl) ?_
                      refine lv_lstore_n (lv' := [(3, .long mo_), (2, .int (nI i)), (8, .int (nI jm)), (6, .long mo_), (5, .int (nI i)), (0, .ref mm), (1, .int (nI kd_6))]) hx hb dX12_tells_130 rfl hl (by decide) rfl (fun ls hl => ?_)
                      refine lv_iinc (v := nI (i + 1)) (lv' := [(5, .int (nI (i + 1))), (3, .long mo_), (2, .int (nI i)), (8, .int (nI jm)), (6, .long mo_), (0, .ref mm), (1, .int (nI kd_6))]) hx hb dX12_tells_131 hl (k := 4) rfl (ninc i 1 (by decide)) (by decide) rfl (fun ls hl => ?_)
                      refine lv_goto (tgt := 32) hx hb dX12_tells_134 (by decide) ?_
                      have hP := hP.sub (ws' := [(mm, .inr (12, mo g (nI ta) (nI pa) (nI pe) pd (nI pb) pp pf pg pn rt rn (nI cd) sn (nI il) tk2_7 am2_9 at_2_10 aa2_11 0 0 (-1) wt wy2_12 0 (nI rm) (nI ud) (nI nu) sd (nI qn) (nI qw) qo (nI qb) (nI qp2_8) qa (nI qi) (nI oc))), (g 24, .inl (cI, 6, .inl (l6 u0 u1 u2 u3 u4 u5))), (g 25, .inl (cI, 6, .inl (l6 v0 v1 v2 v3 v4 v5))), (g 26, .inl (cI, 3200, .inl (fun j => nI (cs j)))), (g 31, .inl (cI, 120, .inl nw)), (g 46, .inl (cI, 9, .inl (fun j => nI (pt j)))), (g 86, .inl (cJ, 1700, .inr (.inl ql2_13))), (g 20, .inl (cI, 4, .inl (l4 (nI l0) (nI l1) (nI dm) (nI l3)))), (g 38, .inl (cI, 90, .inl ws_2_14)), (g 36, .inl (cZ, 900, .inl yw2_15)), (g 37, .inl (cZ, 900, .inl yo2_16)), (g 43, .inl (cJ, 90, .inr (.inl be2_17))), (g 44, .inl (cJ, 90, .inr (.inl bf2_18))), (g 53, .inl (cI, 32, .inl rw_))]) [12, 0, 1, 2, 3, 4, 5, 13, 6, 7, 8, 9, 10, 11] rfl
                      have hD := hD.sub (ws' := [(mm, .inr (12, mo g (nI ta) (nI pa) (nI pe) pd (nI pb) pp pf pg pn rt rn (nI cd) sn (nI il) tk2_7 am2_9 at_2_10 aa2_11 0 0 (-1) wt wy2_12 0 (nI rm) (nI ud) (nI nu) sd (nI qn) (nI qw) qo (nI qb) (nI qp2_8) qa (nI qi) (nI oc))), (g 24, .inl (cI, 6, .inl (l6 u0 u1 u2 u3 u4 u5))), (g 25, .inl (cI, 6, .inl (l6 v0 v1 v2 v3 v4 v5))), (g 26, .inl (cI, 3200, .inl (fun j => nI (cs j)))), (g 31, .inl (cI, 120, .inl nw)), (g 46, .inl (cI, 9, .inl (fun j => nI (pt j)))), (g 86, .inl (cJ, 1700, .inr (.inl ql2_13))), (g 20, .inl (cI, 4, .inl (l4 (nI l0) (nI l1) (nI dm) (nI l3)))), (g 38, .inl (cI, 90, .inl ws_2_14)), (g 36, .inl (cZ, 900, .inl yw2_15)), (g 37, .inl (cZ, 900, .inl yo2_16)), (g 43, .inl (cJ, 90, .inr (.inl be2_17))), (g 44, .inl (cJ, 90, .inr (.inl bf2_18))), (g 53, .inl (cI, 32, .inl rw_))]) [12, 0, 1, 2, 3, 4, 5, 13, 6, 7, 8, 9, 10, 11] (by decide +kernel) rfl
                      exact ih_lp_19 (i + 1) mo_ (nI i) _ _ _ (by omega) (by omega) hP hD hS (lv_sub hl [0, 1, 2, 5, 6] rfl)
                    · skip
                      refine lv_lload hx hb dX12_tells_115 (lv_at hl 1 rfl) ?_
                      refine lv_lload_n hx hb dX12_tells_117 rfl (lv_at hl 3 rfl) ?_
                      refine W.lcmp hx hb dX12_tells_118 ?_
                      refine lv_if_lt (tgt := 125) hx hb dX12_tells_119 (by decide) (fun c_32 => ?_) (fun c_32 => ?_)
                      · skip
                        refine lv_iload hx hb dX12_tells_125 (lv_at hl 2 rfl) ?_
                        refine lv_istore_n (lv' := [(2, .int (nI i)), (8, .int (nI jm)), (6, .long mo_), (5, .int (nI i)), (3, .long fe), (0, .ref mm), (1, .int (nI kd_6))]) hx hb dX12_tells_127 rfl hl (by decide) rfl (fun ls hl => ?_)
                        refine lv_lload hx hb dX12_tells_128 (lv_at hl 2 rfl) ?_
                        refine lv_lstore_n (lv' := [(3, .long mo_), (2, .int (nI i)), (8, .int (nI jm)), (6, .long mo_), (5, .int (nI i)), (0, .ref mm), (1, .int (nI kd_6))]) hx hb dX12_tells_130 rfl hl (by decide) rfl (fun ls hl => ?_)
                        refine lv_iinc (v := nI (i + 1)) (lv' := [(5, .int (nI (i + 1))), (3, .long mo_), (2, .int (nI i)), (8, .int (nI jm)), (6, .long mo_), (0, .ref mm), (1, .int (nI kd_6))]) hx hb dX12_tells_131 hl (k := 4) rfl (ninc i 1 (by decide)) (by decide) rfl (fun ls hl => ?_)
                        refine lv_goto (tgt := 32) hx hb dX12_tells_134 (by decide) ?_
                        have hP := hP.sub (ws' := [(mm, .inr (12, mo g (nI ta) (nI pa) (nI pe) pd (nI pb) pp pf pg pn rt rn (nI cd) sn (nI il) tk2_7 am2_9 at_2_10 aa2_11 0 0 (-1) wt wy2_12 0 (nI rm) (nI ud) (nI nu) sd (nI qn) (nI qw) qo (nI qb) (nI qp2_8) qa (nI qi) (nI oc))), (g 24, .inl (cI, 6, .inl (l6 u0 u1 u2 u3 u4 u5))), (g 25, .inl (cI, 6, .inl (l6 v0 v1 v2 v3 v4 v5))), (g 26, .inl (cI, 3200, .inl (fun j => nI (cs j)))), (g 31, .inl (cI, 120, .inl nw)), (g 46, .inl (cI, 9, .inl (fun j => nI (pt j)))), (g 86, .inl (cJ, 1700, .inr (.inl ql2_13))), (g 20, .inl (cI, 4, .inl (l4 (nI l0) (nI l1) (nI dm) (nI l3)))), (g 38, .inl (cI, 90, .inl ws_2_14)), (g 36, .inl (cZ, 900, .inl yw2_15)), (g 37, .inl (cZ, 900, .inl yo2_16)), (g 43, .inl (cJ, 90, .inr (.inl be2_17))), (g 44, .inl (cJ, 90, .inr (.inl bf2_18))), (g 53, .inl (cI, 32, .inl rw_))]) [12, 0, 1, 2, 3, 4, 5, 13, 6, 7, 8, 9, 10, 11] rfl
                        have hD := hD.sub (ws' := [(mm, .inr (12, mo g (nI ta) (nI pa) (nI pe) pd (nI pb) pp pf pg pn rt rn (nI cd) sn (nI il) tk2_7 am2_9 at_2_10 aa2_11 0 0 (-1) wt wy2_12 0 (nI rm) (nI ud) (nI nu) sd (nI qn) (nI qw) qo (nI qb) (nI qp2_8) qa (nI qi) (nI oc))), (g 24, .inl (cI, 6, .inl (l6 u0 u1 u2 u3 u4 u5))), (g 25, .inl (cI, 6, .inl (l6 v0 v1 v2 v3 v4 v5))), (g 26, .inl (cI, 3200, .inl (fun j => nI (cs j)))), (g 31, .inl (cI, 120, .inl nw)), (g 46, .inl (cI, 9, .inl (fun j => nI (pt j)))), (g 86, .inl (cJ, 1700, .inr (.inl ql2_13))), (g 20, .inl (cI, 4, .inl (l4 (nI l0) (nI l1) (nI dm) (nI l3)))), (g 38, .inl (cI, 90, .inl ws_2_14)), (g 36, .inl (cZ, 900, .inl yw2_15)), (g 37, .inl (cZ, 900, .inl yo2_16)), (g 43, .inl (cJ, 90, .inr (.inl be2_17))), (g 44, .inl (cJ, 90, .inr (.inl bf2_18))), (g 53, .inl (cI, 32, .inl rw_))]) [12, 0, 1, 2, 3, 4, 5, 13, 6, 7, 8, 9, 10, 11] (by decide +kernel) rfl
                        exact ih_lp_19 (i + 1) mo_ (nI i) _ _ _ (by omega) (by omega) hP hD hS (lv_sub hl [0, 1, 2, 5, 6] rfl)
                      · skip
                        refine lv_goto (tgt := 131) hx hb dX12_tells_122 (by decide) ?_
                        refine lv_iinc (v := nI (i + 1)) (lv' := [(5, .int (nI (i + 1))), (8, .int (nI jm)), (6, .long mo_), (3, .long fe), (2, .int be_), (0, .ref mm), (1, .int (nI kd_6))]) hx hb dX12_tells_131 hl (k := 2) rfl (ninc i 1 (by decide)) (by decide) rfl (fun ls hl => ?_)
                        refine lv_goto (tgt := 32) hx hb dX12_tells_134 (by decide) ?_
                        have hP := hP.sub (ws' := [(mm, .inr (12, mo g (nI ta) (nI pa) (nI pe) pd (nI pb) pp pf pg pn rt rn (nI cd) sn (nI il) tk2_7 am2_9 at_2_10 aa2_11 0 0 (-1) wt wy2_12 0 (nI rm) (nI ud) (nI nu) sd (nI qn) (nI qw) qo (nI qb) (nI qp2_8) qa (nI qi) (nI oc))), (g 24, .inl (cI, 6, .inl (l6 u0 u1 u2 u3 u4 u5))), (g 25, .inl (cI, 6, .inl (l6 v0 v1 v2 v3 v4 v5))), (g 26, .inl (cI, 3200, .inl (fun j => nI (cs j)))), (g 31, .inl (cI, 120, .inl nw)), (g 46, .inl (cI, 9, .inl (fun j => nI (pt j)))), (g 86, .inl (cJ, 1700, .inr (.inl ql2_13))), (g 20, .inl (cI, 4, .inl (l4 (nI l0) (nI l1) (nI dm) (nI l3)))), (g 38, .inl (cI, 90, .inl ws_2_14)), (g 36, .inl (cZ, 900, .inl yw2_15)), (g 37, .inl (cZ, 900, .inl yo2_16)), (g 43, .inl (cJ, 90, .inr (.inl be2_17))), (g 44, .inl (cJ, 90, .inr (.inl bf2_18))), (g 53, .inl (cI, 32, .inl rw_))]) [12, 0, 1, 2, 3, 4, 5, 13, 6, 7, 8, 9, 10, 11] rfl
                        have hD := hD.sub (ws' := [(mm, .inr (12, mo g (nI ta) (nI pa) (nI pe) pd (nI pb) pp pf pg pn rt rn (nI cd) sn (nI il) tk2_7 am2_9 at_2_10 aa2_11 0 0 (-1) wt wy2_12 0 (nI rm) (nI ud) (nI nu) sd (nI qn) (nI qw) qo (nI qb) (nI qp2_8) qa (nI qi) (nI oc))), (g 24, .inl (cI, 6, .inl (l6 u0 u1 u2 u3 u4 u5))), (g 25, .inl (cI, 6, .inl (l6 v0 v1 v2 v3 v4 v5))), (g 26, .inl (cI, 3200, .inl (fun j => nI (cs j)))), (g 31, .inl (cI, 120, .inl nw)), (g 46, .inl (cI, 9, .inl (fun j => nI (pt j)))), (g 86, .inl (cJ, 1700, .inr (.inl ql2_13))), (g 20, .inl (cI, 4, .inl (l4 (nI l0) (nI l1) (nI dm) (nI l3)))), (g 38, .inl (cI, 90, .inl ws_2_14)), (g 36, .inl (cZ, 900, .inl yw2_15)), (g 37, .inl (cZ, 900, .inl yo2_16)), (g 43, .inl (cJ, 90, .inr (.inl be2_17))), (g 44, .inl (cJ, 90, .inr (.inl bf2_18))), (g 53, .inl (cI, 32, .inl rw_))]) [12, 0, 1, 2, 3, 4, 5, 13, 6, 7, 8, 9, 10, 11] (by decide +kernel) rfl
                        exact ih_lp_19 (i + 1) fe be_ _ _ _ (by omega) (by omega) hP hD hS (lv_sub hl [0, 3, 4, 5, 6] rfl)
                  · have c_30 : ¬ (10 ≤ jm) := fun h => c_30 ((nle 10 jm (by omega) (by omega)).mpr h)
                    refine lv_aload_n hx hb dX12_tells_63 rfl (lv_at hl 5 rfl) ?_
                    refine sk_get (v := .ref (g 44)) (C := RX12) (T := TX12) (N := 92) hx hb hts inlX12 hown hK hP 12 rfl rfl 44 (by decide) w_5_199 rfl dX12_tells_64 ?_
                    refine lv_bipush (v := 10) hx hb dX12_tells_67 (by decide) ?_
                    refine lv_iload hx hb dX12_tells_69 (lv_at hl 2 rfl) ?_
                    refine lv_imul hx hb dX12_tells_71 ?_
                    refine sk_top (nI (10 * i)) (nmul 10 i) ?_
                    refine lv_iload hx hb dX12_tells_72 (lv_at hl 0 rfl) ?_
                    refine lv_iadd hx hb dX12_tells_74 ?_
                    refine sk_top (nI (10 * i + jm)) (nI_add (10 * i) jm) ?_
                    refine va_lald hx hb hK.1 hP 10 1 rfl rfl (vin (10 * i + jm) 90 (by omega) (by omega)) dX12_tells_75 ?_
                    refine lv_topl (fun v_33 ev_33 => ?_)
                    refine lv_aload_n hx hb dX12_tells_76 rfl (lv_at hl 5 rfl) ?_
                    refine sk_get (v := .ref (g 43)) (C := RX12) (T := TX12) (N := 92) hx hb hts inlX12 hown hK hP 12 rfl rfl 43 (by decide) w_5_198 rfl dX12_tells_77 ?_
                    refine lv_bipush (v := 10) hx hb dX12_tells_80 (by decide) ?_
                    refine lv_iload hx hb dX12_tells_82 (lv_at hl 2 rfl) ?_
                    refine lv_imul hx hb dX12_tells_84 ?_
                    refine sk_top (nI (10 * i)) (nmul 10 i) ?_
                    refine lv_iload hx hb dX12_tells_85 (lv_at hl 0 rfl) ?_
                    refine lv_iadd hx hb dX12_tells_87 ?_
                    refine sk_top (nI (10 * i + jm)) (nI_add (10 * i) jm) ?_
                    refine va_lald hx hb hK.1 hP 9 1 rfl rfl (vin (10 * i + jm) 90 (by omega) (by omega)) dX12_tells_88 ?_
                    refine lv_topl (fun v_34 ev_34 => ?_)
                    refine lv_lmul hx hb dX12_tells_89 ?_
                    refine lv_topl (fun v_35 ev_35 => ?_)
                    refine lv_lstore (lv' := [(9, .long v_35), (8, .int (nI jm)), (6, .long mo_), (5, .int (nI i)), (3, .long fe), (2, .int be_), (0, .ref mm), (1, .int (nI kd_6))]) hx hb dX12_tells_90 hl (by decide) rfl (fun ls hl => ?_)
                    refine lv_lload hx hb dX12_tells_92 (lv_at hl 0 rfl) ?_
                    refine lv_lload hx hb dX12_tells_94 (lv_at hl 2 rfl) ?_
                    refine W.lcmp hx hb dX12_tells_96 ?_
                    refine lv_if_le (tgt := 104) hx hb dX12_tells_97 (by decide) (fun c_36 => ?_) (fun c_36 => ?_)
                    · skip
                      refine lv_iinc (v := nI (jm + 1)) (lv' := [(8, .int (nI (jm + 1))), (9, .long v_35), (6, .long mo_), (5, .int (nI i)), (3, .long fe), (2, .int be_), (0, .ref mm), (1, .int (nI kd_6))]) hx hb dX12_tells_104 hl (k := 1) rfl (ninc jm 1 (by decide)) (by decide) rfl (fun ls hl => ?_)
                      refine lv_goto (tgt := 56) hx hb dX12_tells_107 (by decide) ?_
                      exact ih_lp_28 (jm + 1) mo_ _ _ _ (by omega) (by omega) hP hD hS (lv_sub hl [0, 2, 3, 4, 5, 6, 7] rfl)
                    · skip
                      refine lv_lload hx hb dX12_tells_100 (lv_at hl 0 rfl) ?_
                      refine lv_lstore (lv' := [(6, .long v_35), (9, .long v_35), (8, .int (nI jm)), (5, .int (nI i)), (3, .long fe), (2, .int be_), (0, .ref mm), (1, .int (nI kd_6))]) hx hb dX12_tells_102 hl (by decide) rfl (fun ls hl => ?_)
                      refine lv_iinc (v := nI (jm + 1)) (lv' := [(8, .int (nI (jm + 1))), (6, .long v_35), (9, .long v_35), (5, .int (nI i)), (3, .long fe), (2, .int be_), (0, .ref mm), (1, .int (nI kd_6))]) hx hb dX12_tells_104 hl (k := 2) rfl (ninc jm 1 (by decide)) (by decide) rfl (fun ls hl => ?_)
                      refine lv_goto (tgt := 56) hx hb dX12_tells_107 (by decide) ?_
                      exact ih_lp_28 (jm + 1) v_35 _ _ _ (by omega) (by omega) hP hD hS (lv_sub hl [0, 1, 3, 4, 5, 6, 7] rfl)
              exact lp_28 (10 - 0 + 1) 0 0 _ _ _ (Nat.lt_succ_self _) (by omega) hP hD hS (lv_sub hl [0, 1, 2, 3, 4, 5, 6] rfl)
      exact lp_19 (dm - 0 + 1) 0 0 (-1) _ _ _ (Nat.lt_succ_self _) (by omega) hP hD hS (lv_sub hl [0, 1, 2, 3, 4] rfl)
    · have c_5 : b_2 = 0 := (neq b_2 0 (by omega) (by omega)).mp c_5
      refine lv_ldc2 (v := (-1000000000000000)) hx hb hown (hts _ w_7_184) dX12_tells_17 ?_
      exact sk_lret hx hb hr hlocks hK hP hD hS (⟨tk, qp, am, at_, aa, wy, ql, ws_, yw, yo, be, bf, rfl⟩) (Nat.le_of_ble_eq_true rfl) (Nat.le_of_ble_eq_true rfl) dX12_tells_20
set_option maxHeartbeats 4000000 in
set_option maxRecDepth 100000 in
theorem c_m_isInX (l : Launch) (D : va_G) (cI cJ cC cZ cS : ClassId) (v : Int64) (y : Int64) (z : Int64)  : skM l yX12_isIn cX12_isIn 6 (some .boolean) 0 0 0 0 D (skT cI cJ cC cZ cS) [.long v, .long y, .long z] [] (skI D (skT cI cJ cC cZ cS) (fun (r : Int32) (u : va_W) => ∃ (b : Nat), ((b = 0 ∧ ¬ (y ≤ v ∧ v ≤ z)) ∨ (b = 1 ∧ y ≤ v ∧ v ≤ z)) ∧ r = nI b ∧ u = [])) := by
  refine skM_of (by decide +kernel) (Nat.le_of_ble_eq_true rfl) ?_
  intro p e s m below meth c A ls E hP hD hl
  obtain ⟨hx, hb, hr, hml, hlocks, hin, hown, hts, hK, hA⟩ := E
  have hown : s.vm.findClass RX12 = some m.cls := hown
  have hS : va_S A s.heap s.heap [] := va_S.rf
  have hl : lv_has ls 6 [(0, .long v), (2, .long y), (4, .long z)] := hl
  refine lv_lload_n hx hb dX12_isIn_0 rfl (lv_at hl 0 rfl) ?_
  refine lv_lload_n hx hb dX12_isIn_1 rfl (lv_at hl 1 rfl) ?_
  refine W.lcmp hx hb dX12_isIn_2 ?_
  refine lv_if_lt (tgt := 17) hx hb dX12_isIn_3 (by decide) (fun c_1 => ?_) (fun c_1 => ?_)
  · skip
    refine lv_iconst (v := 0) hx hb dX12_isIn_17 (by decide) ?_
    exact sk_iret hx hb hr rfl hlocks hK hP hD hS (⟨0, Or.inl ⟨rfl, fun q => absurd q.1 (Int64.not_le.mpr ((lg_cmp_lt _ _).mp c_1))⟩, rfl, rfl⟩) (Nat.le_of_ble_eq_true rfl) (Nat.le_of_ble_eq_true rfl) dX12_isIn_18
  · skip
    refine lv_lload_n hx hb dX12_isIn_6 rfl (lv_at hl 0 rfl) ?_
    refine lv_lload hx hb dX12_isIn_7 (lv_at hl 2 rfl) ?_
    refine W.lcmp hx hb dX12_isIn_9 ?_
    refine lv_if_gt (tgt := 17) hx hb dX12_isIn_10 (by decide) (fun c_2 => ?_) (fun c_2 => ?_)
    · skip
      refine lv_iconst (v := 0) hx hb dX12_isIn_17 (by decide) ?_
      exact sk_iret hx hb hr rfl hlocks hK hP hD hS (⟨0, Or.inl ⟨rfl, fun q => absurd q.2 (Int64.not_le.mpr ((lg_cmp_gt _ _).mp c_2))⟩, rfl, rfl⟩) (Nat.le_of_ble_eq_true rfl) (Nat.le_of_ble_eq_true rfl) dX12_isIn_18
    · skip
      refine lv_iconst (v := 1) hx hb dX12_isIn_13 (by decide) ?_
      refine lv_goto (tgt := 18) hx hb dX12_isIn_14 (by decide) ?_
      exact sk_iret hx hb hr rfl hlocks hK hP hD hS (⟨1, Or.inr ⟨rfl, lg_ge c_1, lg_le c_2⟩, rfl, rfl⟩) (Nat.le_of_ble_eq_true rfl) (Nat.le_of_ble_eq_true rfl) dX12_isIn_18
theorem sd_of {p e n : Nat} (h : (p + 1440 * e - e * n) % 1440 = 0) : sd p e n := h
theorem dX12_same_0 : decode cX12_same 0 = .ok (.iload_n 1, 1) := by decide +kernel
theorem dX12_same_1 : decode cX12_same 1 = .ok (.i2l, 1) := by decide +kernel
theorem dX12_same_2 : decode cX12_same 2 = .ok (.lconst 0, 1) := by decide +kernel
theorem dX12_same_3 : decode cX12_same 3 = .ok (.ldc2_w 469, 3) := by decide +kernel
theorem dX12_same_6 : decode cX12_same 6 = .ok (.invokestatic 238, 3) := by decide +kernel
theorem dX12_same_9 : decode cX12_same 9 = .ok (.ifCond .eq 15, 3) := by decide +kernel
theorem dX12_same_24 : decode cX12_same 24 = .ok (.iconst (-1), 1) := by decide +kernel
theorem dX12_same_25 : decode cX12_same 25 = .ok (.ireturn, 1) := by decide +kernel
theorem dX12_same_12 : decode cX12_same 12 = .ok (.iload_n 2, 1) := by decide +kernel
theorem dX12_same_13 : decode cX12_same 13 = .ok (.i2l, 1) := by decide +kernel
theorem dX12_same_14 : decode cX12_same 14 = .ok (.lconst 0, 1) := by decide +kernel
theorem dX12_same_15 : decode cX12_same 15 = .ok (.ldc2_w 469, 3) := by decide +kernel
theorem dX12_same_18 : decode cX12_same 18 = .ok (.invokestatic 238, 3) := by decide +kernel
theorem dX12_same_21 : decode cX12_same 21 = .ok (.ifCond .ne 5, 3) := by decide +kernel
theorem dX12_same_26 : decode cX12_same 26 = .ok (.iload_n 1, 1) := by decide +kernel
theorem dX12_same_27 : decode cX12_same 27 = .ok (.istore_n 3, 1) := by decide +kernel
theorem dX12_same_28 : decode cX12_same 28 = .ok (.iconst 0, 1) := by decide +kernel
theorem dX12_same_29 : decode cX12_same 29 = .ok (.istore 4, 2) := by decide +kernel
theorem dX12_same_31 : decode cX12_same 31 = .ok (.iload 4, 2) := by decide +kernel
theorem dX12_same_33 : decode cX12_same 33 = .ok (.sipush 1440, 3) := by decide +kernel
theorem dX12_same_36 : decode cX12_same 36 = .ok (.if_icmp .ge 28, 3) := by decide +kernel
theorem dX12_same_64 : decode cX12_same 64 = .ok (.iconst (-1), 1) := by decide +kernel
theorem dX12_same_65 : decode cX12_same 65 = .ok (.ireturn, 1) := by decide +kernel
theorem dX12_same_39 : decode cX12_same 39 = .ok (.iload_n 3, 1) := by decide +kernel
theorem dX12_same_40 : decode cX12_same 40 = .ok (.ifCond .ne 6, 3) := by decide +kernel
theorem dX12_same_46 : decode cX12_same 46 = .ok (.iload_n 3, 1) := by decide +kernel
theorem dX12_same_47 : decode cX12_same 47 = .ok (.sipush 1440, 3) := by decide +kernel
theorem dX12_same_50 : decode cX12_same 50 = .ok (.iadd, 1) := by decide +kernel
theorem dX12_same_51 : decode cX12_same 51 = .ok (.iload_n 2, 1) := by decide +kernel
theorem dX12_same_52 : decode cX12_same 52 = .ok (.isub, 1) := by decide +kernel
theorem dX12_same_53 : decode cX12_same 53 = .ok (.sipush 1440, 3) := by decide +kernel
theorem dX12_same_56 : decode cX12_same 56 = .ok (.irem, 1) := by decide +kernel
theorem dX12_same_57 : decode cX12_same 57 = .ok (.istore_n 3, 1) := by decide +kernel
theorem dX12_same_58 : decode cX12_same 58 = .ok (.iinc 4 1, 3) := by decide +kernel
theorem dX12_same_61 : decode cX12_same 61 = .ok (.goto (-30), 3) := by decide +kernel
theorem dX12_same_43 : decode cX12_same 43 = .ok (.iload 4, 2) := by decide +kernel
theorem dX12_same_45 : decode cX12_same 45 = .ok (.ireturn, 1) := by decide +kernel
theorem w_8_117 : (Cond.constantLong RX12 469 (1439)) ∈ wsL_law := sk_mem (ck_8 _ (List.mem_of_getElem? (i := 117) rfl)) rfl
theorem w_8_116 : (Cond.code yX12_same cX12_same 5 (some .int)) ∈ wsL_law := sk_mem (ck_8 _ (List.mem_of_getElem? (i := 116) rfl)) rfl
set_option maxHeartbeats 4000000 in
set_option maxRecDepth 100000 in
theorem c_m_same (l : Launch) (D : va_G) (cI cJ cC cZ cS : ClassId) (mm : Nat) (g : Nat → Nat) (ta : Nat) (pa : Nat) (pe : Nat) (pd : Int32) (pb : Nat) (pp : Int32) (pf : Int32) (pg : Int32) (pn : Int32) (rt : Int32) (rn : Int32) (cd : Nat) (sn : Int32) (il : Nat) (tk : Int32) (am : Int32) (at_ : Int32) (aa : Int32) (wt : Int32) (wy : Int64) (rm : Nat) (ud : Nat) (nu : Nat) (sd : Int64) (qn : Nat) (qw : Nat) (qo : Int32) (qb : Nat) (qp : Nat) (qa : Int64) (qi : Nat) (oc : Nat) (o : Int32) (w : Int32)  : skM l yX12_same cX12_same 5 (some .int) 1 25 0 0 D (skT cI cJ cC cZ cS) [.ref mm, .int o, .int w] [(mm, .inr (12, mo g (nI ta) (nI pa) (nI pe) pd (nI pb) pp pf pg pn rt rn (nI cd) sn (nI il) tk am at_ aa 0 0 (-1) wt wy 0 (nI rm) (nI ud) (nI nu) sd (nI qn) (nI qw) qo (nI qb) (nI qp) qa (nI qi) (nI oc)))] (skI D (skT cI cJ cC cZ cS) (fun (r : Int32) (u : va_W) => smR o w r ∧ u = [(mm, .inr (12, mo g (nI ta) (nI pa) (nI pe) pd (nI pb) pp pf pg pn rt rn (nI cd) sn (nI il) tk am at_ aa 0 0 (-1) wt wy 0 (nI rm) (nI ud) (nI nu) sd (nI qn) (nI qw) qo (nI qb) (nI qp) qa (nI qi) (nI oc)))])) := by
  refine skM_of (by decide +kernel) (Nat.le_of_ble_eq_true rfl) ?_
  intro p e s m below meth c A ls E hP hD hl
  obtain ⟨hx, hb, hr, hml, hlocks, hin, hown, hts, hK, hA⟩ := E
  have hown : s.vm.findClass RX12 = some m.cls := hown
  have hS : va_S A s.heap s.heap [] := va_S.rf
  have hl : lv_has ls 5 [(0, .ref mm), (1, .int o), (2, .int w)] := hl
  refine lv_iload_n hx hb dX12_same_0 rfl (lv_at hl 1 rfl) ?_
  refine lv_i2l hx hb dX12_same_1 rfl ?_
  refine lv_lconst (v := 0) hx hb dX12_same_2 (by decide) ?_
  refine lv_ldc2 (v := 1439) hx hb hown (hts _ w_8_117) dX12_same_3 ?_
  refine sk_Si (n := 3) (rest := []) (wr := [(mm, .inr (12, mo g (nI ta) (nI pa) (nI pe) pd (nI pb) pp pf pg pn rt rn (nI cd) sn (nI il) tk am at_ aa 0 0 (-1) wt wy 0 (nI rm) (nI ud) (nI nu) sd (nI qn) (nI qw) qo (nI qb) (nI qp) qa (nI qi) (nI oc)))]) ⟨hx, hb, hml, hown, hts⟩ hl.1 (c_m_isInX l D cI cJ cC cZ cS (Int32.toInt64 o) 0 1439) w_7_0 w_7_1 w_1_14 w_7_2 (by decide +kernel) ⟨⟨(Nat.le_of_ble_eq_true rfl), (Nat.le_of_ble_eq_true rfl)⟩, (Nat.le_of_ble_eq_true rfl), (Nat.le_of_ble_eq_true rfl)⟩ hK hP hD hS hA [] [0] rfl rfl (by decide +kernel) (by decide +kernel) (by decide +kernel) rfl rfl (Nat.le_of_ble_eq_true rfl) dX12_same_6 (fun r_2 u H locs hw hP hD hS => ?_)
  obtain ⟨b_1, hb1_3, rfl, rfl⟩ := hw
  have hP : va_P D vwCl [(mm, .inr (12, mo g (nI ta) (nI pa) (nI pe) pd (nI pb) pp pf pg pn rt rn (nI cd) sn (nI il) tk am at_ aa 0 0 (-1) wt wy 0 (nI rm) (nI ud) (nI nu) sd (nI qn) (nI qw) qo (nI qb) (nI qp) qa (nI qi) (nI oc)))] H := hP
  have hD : va_D A [(mm, .inr (12, mo g (nI ta) (nI pa) (nI pe) pd (nI pb) pp pf pg pn rt rn (nI cd) sn (nI il) tk am at_ aa 0 0 (-1) wt wy 0 (nI rm) (nI ud) (nI nu) sd (nI qn) (nI qw) qo (nI qb) (nI qp) qa (nI qi) (nI oc)))] := hD
  refine lv_if_eq (tgt := 24) hx hb dX12_same_9 (by decide) (fun c_4 => ?_) (fun c_4 => ?_)
  · have c_4 : b_1 = 0 := (neq b_1 0 (by omega) (by omega)).mp c_4
    refine lv_iconst (v := (-1)) hx hb dX12_same_24 (by decide) ?_
    exact sk_iret hx hb hr rfl hlocks hK hP hD hS (⟨(Or.inr ⟨outA (hb1_3.resolve_right (by omega)).2, rfl⟩), rfl⟩) (Nat.le_of_ble_eq_true rfl) (Nat.le_of_ble_eq_true rfl) dX12_same_25
  · have c_4 : ¬ (b_1 = 0) := fun h => c_4 ((neq b_1 0 (by omega) (by omega)).mpr h)
    obtain ⟨kd_5, hkd_5, rfl⟩ := inK 1440 (hb1_3.resolve_left (by omega)).2.1 (hb1_3.resolve_left (by omega)).2.2 (by decide)
    refine lv_iload_n hx hb dX12_same_12 rfl (lv_at hl 2 rfl) ?_
    refine lv_i2l hx hb dX12_same_13 rfl ?_
    refine lv_lconst (v := 0) hx hb dX12_same_14 (by decide) ?_
    refine lv_ldc2 (v := 1439) hx hb hown (hts _ w_8_117) dX12_same_15 ?_
    refine sk_Si (n := 3) (rest := []) (wr := [(mm, .inr (12, mo g (nI ta) (nI pa) (nI pe) pd (nI pb) pp pf pg pn rt rn (nI cd) sn (nI il) tk am at_ aa 0 0 (-1) wt wy 0 (nI rm) (nI ud) (nI nu) sd (nI qn) (nI qw) qo (nI qb) (nI qp) qa (nI qi) (nI oc)))]) ⟨hx, hb, hml, hown, hts⟩ hl.1 (c_m_isInX l D cI cJ cC cZ cS (Int32.toInt64 w) 0 1439) w_7_0 w_7_1 w_1_14 w_7_2 (by decide +kernel) ⟨⟨(Nat.le_of_ble_eq_true rfl), (Nat.le_of_ble_eq_true rfl)⟩, (Nat.le_of_ble_eq_true rfl), (Nat.le_of_ble_eq_true rfl)⟩ hK hP hD hS hA [] [0] rfl rfl (by decide +kernel) (by decide +kernel) (by decide +kernel) rfl rfl (Nat.le_of_ble_eq_true rfl) dX12_same_18 (fun r_7 u H locs hw hP hD hS => ?_)
    obtain ⟨b_6, hb1_8, rfl, rfl⟩ := hw
    have hP : va_P D vwCl [(mm, .inr (12, mo g (nI ta) (nI pa) (nI pe) pd (nI pb) pp pf pg pn rt rn (nI cd) sn (nI il) tk am at_ aa 0 0 (-1) wt wy 0 (nI rm) (nI ud) (nI nu) sd (nI qn) (nI qw) qo (nI qb) (nI qp) qa (nI qi) (nI oc)))] H := hP
    have hD : va_D A [(mm, .inr (12, mo g (nI ta) (nI pa) (nI pe) pd (nI pb) pp pf pg pn rt rn (nI cd) sn (nI il) tk am at_ aa 0 0 (-1) wt wy 0 (nI rm) (nI ud) (nI nu) sd (nI qn) (nI qw) qo (nI qb) (nI qp) qa (nI qi) (nI oc)))] := hD
    refine lv_if_ne (tgt := 26) hx hb dX12_same_21 (by decide) (fun c_9 => ?_) (fun c_9 => ?_)
    · have c_9 : ¬ (b_6 = 0) := fun h => c_9 ((neq b_6 0 (by omega) (by omega)).mpr h)
      obtain ⟨kd_10, hkd_10, rfl⟩ := inK 1440 (hb1_8.resolve_left (by omega)).2.1 (hb1_8.resolve_left (by omega)).2.2 (by decide)
      refine lv_iload_n hx hb dX12_same_26 rfl (lv_at hl 1 rfl) ?_
      refine lv_istore_n (lv' := [(3, .int (nI kd_5)), (0, .ref mm), (1, .int (nI kd_5)), (2, .int (nI kd_10))]) hx hb dX12_same_27 rfl hl (by decide) rfl (fun ls hl => ?_)
      refine lv_iconst (v := 0) hx hb dX12_same_28 (by decide) ?_
      refine lv_istore (lv' := [(4, .int 0), (3, .int (nI kd_5)), (0, .ref mm), (1, .int (nI kd_5)), (2, .int (nI kd_10))]) hx hb dX12_same_29 hl (by decide) rfl (fun ls hl => ?_)
      have lp_11 : ∀ (n_12 : Nat) (i : Nat) (vv : Nat) (H : Heap) (locs : List Loc) (ls : Array Slot), 1440 - i < n_12 → (i ≤ 1440) → (vv < 1440) → (vv = (kd_5 + 1440 * kd_10 - kd_10 * i) % 1440) → (sno kd_5 kd_10 i) → va_P D vwCl [(mm, .inr (12, mo g (nI ta) (nI pa) (nI pe) pd (nI pb) pp pf pg pn rt rn (nI cd) sn (nI il) tk am at_ aa 0 0 (-1) wt wy 0 (nI rm) (nI ud) (nI nu) sd (nI qn) (nI qw) qo (nI qb) (nI qp) qa (nI qi) (nI oc)))] H → va_D A [(mm, .inr (12, mo g (nI ta) (nI pa) (nI pe) pd (nI pb) pp pf pg pn rt rn (nI cd) sn (nI il) tk am at_ aa 0 0 (-1) wt wy 0 (nI rm) (nI ud) (nI nu) sd (nI qn) (nI qw) qo (nI qb) (nI qp) qa (nI qi) (nI oc)))] → va_S A s.heap H locs → lv_has ls 5 [(4, .int (nI i)), (3, .int (nI vv)), (0, .ref mm), (1, .int (nI kd_5)), (2, .int (nI kd_10))] → W p l e { frames := 1, cells := 0, slots := 0, locals := 25 } s m ([.ref mm, .int (nI kd_5), .int (nI kd_10)] : List Value).toArray below meth c H locs 0 0 (MQ below (skI D (skT cI cJ cC cZ cS) (fun (r : Int32) (u : va_W) => smR (nI kd_5) (nI kd_10) r ∧ u = [(mm, .inr (12, mo g (nI ta) (nI pa) (nI pe) pd (nI pb) pp pf pg pn rt rn (nI cd) sn (nI il) tk am at_ aa 0 0 (-1) wt wy 0 (nI rm) (nI ud) (nI nu) sd (nI qn) (nI qw) qo (nI qb) (nI qp) qa (nI qi) (nI oc)))]) A) ([.ref mm, .int (nI kd_5), .int (nI kd_10)] : List Value).toArray s 0 0 A) (F0 m 31 ls []) := by
        intro n_12
        induction n_12 with
        | zero => intro i vv H locs ls hm; exact absurd hm (Nat.not_lt_zero _)
        | succ n_12 ih_lp_11 =>
          intro i vv H locs ls hm hi hv9 hvv hno hP hD hS hl
          refine lv_iload hx hb dX12_same_31 (lv_at hl 0 rfl) ?_
          refine lv_sipush (v := 1440) hx hb dX12_same_33 (by decide) ?_
          refine lv_icmp_ge (tgt := 64) hx hb dX12_same_36 (by decide) (fun c_13 => ?_) (fun c_13 => ?_)
          · have c_13 : 1440 ≤ i := (nle 1440 i (by omega) (by omega)).mp c_13
            refine lv_iconst (v := (-1)) hx hb dX12_same_64 (by decide) ?_
            exact sk_iret hx hb hr rfl hlocks hK hP hD hS (⟨(sm_none (by omega) (by omega) (by omega) hno), rfl⟩) (Nat.le_of_ble_eq_true rfl) (Nat.le_of_ble_eq_true rfl) dX12_same_65
          · have c_13 : ¬ (1440 ≤ i) := fun h => c_13 ((nle 1440 i (by omega) (by omega)).mpr h)
            refine lv_iload_n hx hb dX12_same_39 rfl (lv_at hl 1 rfl) ?_
            refine lv_if_ne (tgt := 46) hx hb dX12_same_40 (by decide) (fun c_14 => ?_) (fun c_14 => ?_)
            · have c_14 : ¬ (vv = 0) := fun h => c_14 ((neq vv 0 (by omega) (by omega)).mpr h)
              refine lv_iload_n hx hb dX12_same_46 rfl (lv_at hl 1 rfl) ?_
              refine lv_sipush (v := 1440) hx hb dX12_same_47 (by decide) ?_
              refine lv_iadd hx hb dX12_same_50 ?_
              refine sk_top (nI (vv + 1440)) (nI_add vv 1440) ?_
              refine lv_iload_n hx hb dX12_same_51 rfl (lv_at hl 4 rfl) ?_
              refine lv_isub hx hb dX12_same_52 ?_
              refine sk_top (nI (vv + 1440 - kd_10)) (nsub (vv + 1440) kd_10 (by omega)) ?_
              refine lv_sipush (v := 1440) hx hb dX12_same_53 (by decide) ?_
              refine lv_irem hx hb dX12_same_56 (by decide) ?_
              refine sk_top (nI ((vv + 1440 - kd_10) % 1440)) (nrem (vv + 1440 - kd_10) 1440 (by omega) (by omega) (by omega)) ?_
              refine lv_istore_n (lv' := [(3, .int (nI ((vv + 1440 - kd_10) % 1440))), (4, .int (nI i)), (0, .ref mm), (1, .int (nI kd_5)), (2, .int (nI kd_10))]) hx hb dX12_same_57 rfl hl (by decide) rfl (fun ls hl => ?_)
              refine lv_iinc (v := nI (i + 1)) (lv' := [(4, .int (nI (i + 1))), (3, .int (nI ((vv + 1440 - kd_10) % 1440))), (0, .ref mm), (1, .int (nI kd_5)), (2, .int (nI kd_10))]) hx hb dX12_same_58 hl (k := 1) rfl (ninc i 1 (by decide)) (by decide) rfl (fun ls hl => ?_)
              refine lv_goto (tgt := 31) hx hb dX12_same_61 (by decide) ?_
              exact ih_lp_11 (i + 1) ((vv + 1440 - kd_10) % 1440) _ _ _ (by omega) (by omega) (by omega) (sm_next (by omega) (by omega) hvv) (sno_s hno (fun h => absurd (show _ = 0 from h) (by omega))) hP hD hS (lv_sub hl [0, 1, 2, 3, 4] rfl)
            · have c_14 : vv = 0 := (neq vv 0 (by omega) (by omega)).mp c_14
              refine lv_iload hx hb dX12_same_43 (lv_at hl 0 rfl) ?_
              exact sk_iret hx hb hr rfl hlocks hK hP hD hS (⟨(sm_found (by omega) (by omega) (by omega) (sd_of (hvv.symm.trans (by omega))) hno), rfl⟩) (Nat.le_of_ble_eq_true rfl) (Nat.le_of_ble_eq_true rfl) dX12_same_45
      exact lp_11 (1440 - 0 + 1) 0 kd_5 _ _ _ (Nat.lt_succ_self _) (by omega) (by omega) (sm_0 (by omega)) sno_0 hP hD hS (lv_sub hl [0, 1, 2, 3, 4] rfl)
    · have c_9 : b_6 = 0 := (neq b_6 0 (by omega) (by omega)).mp c_9
      refine lv_iconst (v := (-1)) hx hb dX12_same_24 (by decide) ?_
      exact sk_iret hx hb hr rfl hlocks hK hP hD hS (⟨(Or.inr ⟨outB (hb1_8.resolve_right (by omega)).2, rfl⟩), rfl⟩) (Nat.le_of_ble_eq_true rfl) (Nat.le_of_ble_eq_true rfl) dX12_same_25
theorem dX12_checked_0 : decode cX12_checked 0 = .ok (.sipush 139, 3) := by decide +kernel
theorem dX12_checked_3 : decode cX12_checked 3 = .ok (.istore_n 2, 1) := by decide +kernel
theorem dX12_checked_4 : decode cX12_checked 4 = .ok (.iconst 0, 1) := by decide +kernel
theorem dX12_checked_5 : decode cX12_checked 5 = .ok (.istore_n 3, 1) := by decide +kernel
theorem dX12_checked_6 : decode cX12_checked 6 = .ok (.iload_n 3, 1) := by decide +kernel
theorem dX12_checked_7 : decode cX12_checked 7 = .ok (.iload_n 1, 1) := by decide +kernel
theorem dX12_checked_8 : decode cX12_checked 8 = .ok (.if_icmp .ge 21, 3) := by decide +kernel
theorem dX12_checked_29 : decode cX12_checked 29 = .ok (.iload_n 2, 1) := by decide +kernel
theorem dX12_checked_30 : decode cX12_checked 30 = .ok (.ireturn, 1) := by decide +kernel
theorem dX12_checked_11 : decode cX12_checked 11 = .ok (.iconst 3, 1) := by decide +kernel
theorem dX12_checked_12 : decode cX12_checked 12 = .ok (.iload_n 2, 1) := by decide +kernel
theorem dX12_checked_13 : decode cX12_checked 13 = .ok (.imul, 1) := by decide +kernel
theorem dX12_checked_14 : decode cX12_checked 14 = .ok (.aload_n 0, 1) := by decide +kernel
theorem dX12_checked_15 : decode cX12_checked 15 = .ok (.iload_n 3, 1) := by decide +kernel
theorem dX12_checked_16 : decode cX12_checked 16 = .ok (.iaload, 1) := by decide +kernel
theorem dX12_checked_17 : decode cX12_checked 17 = .ok (.iadd, 1) := by decide +kernel
theorem dX12_checked_18 : decode cX12_checked 18 = .ok (.sipush 251, 3) := by decide +kernel
theorem dX12_checked_21 : decode cX12_checked 21 = .ok (.irem, 1) := by decide +kernel
theorem dX12_checked_22 : decode cX12_checked 22 = .ok (.istore_n 2, 1) := by decide +kernel
theorem dX12_checked_23 : decode cX12_checked 23 = .ok (.iinc 3 1, 3) := by decide +kernel
theorem dX12_checked_26 : decode cX12_checked 26 = .ok (.goto (-20), 3) := by decide +kernel
theorem w_8_213 : (Cond.code yX12_checked cX12_checked 4 (some .int)) ∈ wsL_law := sk_mem (ck_8 _ (List.mem_of_getElem? (i := 213) rfl)) rfl
set_option maxHeartbeats 4000000 in
set_option maxRecDepth 100000 in
theorem c_m_checkedX (l : Launch) (D : va_G) (cI cJ cC cZ cS : ClassId) (h0 : Nat) (tb : Nat → Nat) (n : Nat) (hn : n ≤ 1600) (htb : ∀ j, tb j ≤ 255) : skM l yX12_checked cX12_checked 4 (some .int) 0 0 0 0 D (skT cI cJ cC cZ cS) [.ref h0, .int (nI n)] [(h0, .inl (cI, 1600, .inl (fun j => nI (tb j))))] (skI D (skT cI cJ cC cZ cS) (fun (r : Int32) (u : va_W) => ∃ (ck2 : Nat), ck2 = chkN tb n ∧ ck2 < 251 ∧ r = nI ck2 ∧ u = [(h0, .inl (cI, 1600, .inl (fun j => nI (tb j))))])) := by
  refine skM_of (by decide +kernel) (Nat.le_of_ble_eq_true rfl) ?_
  intro p e s m below meth c A ls E hP hD hl
  obtain ⟨hx, hb, hr, hml, hlocks, hin, hown, hts, hK, hA⟩ := E
  have hown : s.vm.findClass RX12 = some m.cls := hown
  have hS : va_S A s.heap s.heap [] := va_S.rf
  have hl : lv_has ls 4 [(0, .ref h0), (1, .int (nI n))] := hl
  refine lv_sipush (v := 139) hx hb dX12_checked_0 (by decide) ?_
  refine lv_istore_n (lv' := [(2, .int 139), (0, .ref h0), (1, .int (nI n))]) hx hb dX12_checked_3 rfl hl (by decide) rfl (fun ls hl => ?_)
  refine lv_iconst (v := 0) hx hb dX12_checked_4 (by decide) ?_
  refine lv_istore_n (lv' := [(3, .int 0), (2, .int 139), (0, .ref h0), (1, .int (nI n))]) hx hb dX12_checked_5 rfl hl (by decide) rfl (fun ls hl => ?_)
  have lp_1 : ∀ (n_2 : Nat) (i : Nat) (ck : Nat) (H : Heap) (locs : List Loc) (ls : Array Slot), n - i < n_2 → (i ≤ n) → (ck < 251) → (ck = chkN tb i) → va_P D vwCl [(h0, .inl (cI, 1600, .inl (fun j => nI (tb j))))] H → va_D A [(h0, .inl (cI, 1600, .inl (fun j => nI (tb j))))] → va_S A s.heap H locs → lv_has ls 4 [(3, .int (nI i)), (2, .int (nI ck)), (0, .ref h0), (1, .int (nI n))] → W p l e { frames := 0, cells := 0, slots := 0, locals := 0 } s m ([.ref h0, .int (nI n)] : List Value).toArray below meth c H locs 0 0 (MQ below (skI D (skT cI cJ cC cZ cS) (fun (r : Int32) (u : va_W) => ∃ (ck2 : Nat), ck2 = chkN tb n ∧ ck2 < 251 ∧ r = nI ck2 ∧ u = [(h0, .inl (cI, 1600, .inl (fun j => nI (tb j))))]) A) ([.ref h0, .int (nI n)] : List Value).toArray s 0 0 A) (F0 m 6 ls []) := by
    intro n_2
    induction n_2 with
    | zero => intro i ck H locs ls hm; exact absurd hm (Nat.not_lt_zero _)
    | succ n_2 ih_lp_1 =>
      intro i ck H locs ls hm hi hc9 hci hP hD hS hl
      refine lv_iload_n hx hb dX12_checked_6 rfl (lv_at hl 0 rfl) ?_
      refine lv_iload_n hx hb dX12_checked_7 rfl (lv_at hl 3 rfl) ?_
      refine lv_icmp_ge (tgt := 29) hx hb dX12_checked_8 (by decide) (fun c_3 => ?_) (fun c_3 => ?_)
      · have c_3 : n ≤ i := (nle n i (by omega) (by omega)).mp c_3
        refine lv_iload_n hx hb dX12_checked_29 rfl (lv_at hl 1 rfl) ?_
        exact sk_iret hx hb hr rfl hlocks hK hP hD hS (⟨ck, (by rw [show n = i by omega]; exact hci), by omega, rfl, rfl⟩) (Nat.le_of_ble_eq_true rfl) (Nat.le_of_ble_eq_true rfl) dX12_checked_30
      · have c_3 : ¬ (n ≤ i) := fun h => c_3 ((nle n i (by omega) (by omega)).mpr h)
        refine lv_iconst (v := 3) hx hb dX12_checked_11 (by decide) ?_
        refine lv_iload_n hx hb dX12_checked_12 rfl (lv_at hl 1 rfl) ?_
        refine lv_imul hx hb dX12_checked_13 ?_
        refine sk_top (nI (3 * ck)) (nmul 3 ck) ?_
        refine lv_aload_n hx hb dX12_checked_14 rfl (lv_at hl 2 rfl) ?_
        refine lv_iload_n hx hb dX12_checked_15 rfl (lv_at hl 0 rfl) ?_
        refine va_iald hx hb hK.1 hP 0 0 rfl rfl (vin i 1600 (by omega) (by omega)) dX12_checked_16 ?_
        refine sk_top (nI (tb i)) (nrd tb i (by omega)) ?_
        have hb_4 := htb i
        refine lv_iadd hx hb dX12_checked_17 ?_
        refine sk_top (nI (3 * ck + (tb i))) (nI_add (3 * ck) (tb i)) ?_
        refine lv_sipush (v := 251) hx hb dX12_checked_18 (by decide) ?_
        refine lv_irem hx hb dX12_checked_21 (by decide) ?_
        refine sk_top (nI ((3 * ck + (tb i)) % 251)) (nrem (3 * ck + (tb i)) 251 (by omega) (by omega) (by omega)) ?_
        refine lv_istore_n (lv' := [(2, .int (nI ((3 * ck + (tb i)) % 251))), (3, .int (nI i)), (0, .ref h0), (1, .int (nI n))]) hx hb dX12_checked_22 rfl hl (by decide) rfl (fun ls hl => ?_)
        refine lv_iinc (v := nI (i + 1)) (lv' := [(3, .int (nI (i + 1))), (2, .int (nI ((3 * ck + (tb i)) % 251))), (0, .ref h0), (1, .int (nI n))]) hx hb dX12_checked_23 hl (k := 1) rfl (ninc i 1 (by decide)) (by decide) rfl (fun ls hl => ?_)
        refine lv_goto (tgt := 6) hx hb dX12_checked_26 (by decide) ?_
        exact ih_lp_1 (i + 1) ((3 * ck + (tb i)) % 251) _ _ _ (by omega) (by omega) (by omega) (by rw [chkN, ← hci]) hP hD hS (lv_sub hl [0, 1, 2, 3] rfl)
  exact lp_1 (n - 0 + 1) 0 139 _ _ _ (Nat.lt_succ_self _) (by omega) (by omega) rfl hP hD hS (lv_sub hl [0, 1, 2, 3] rfl)
theorem imgK_1 {tb : Nat → Nat} {i : Nat} (h : imgK tb i) (h1 : tb i ≤ 9) (h2 : 2 < i → i % 3 = 2 → tb i ≤ 1) : imgK tb (i + 1) := fun k q1 q2 => by
  by_cases e : k < i
  · exact h k q1 e
  · obtain rfl : k = i := by omega
    exact ⟨h1, h2⟩
theorem img_at {tb : Nat → Nat} {n d c : Nat} (hn : n - 1 = 3 * d + 3) (hc : c = chkN tb (n - 1)) : tb (n - 1) = c ↔ tb (3 * d + 3) = chkN tb (3 * d + 3) := by
  rw [hc, hn]
theorem fd_s {tb zb f1 : Nat → Nat} {t zt i : Nat} {a b c d e v w : Int32} (h : zb = feedN tb t (wByte a b c d e) i) (ht : zt = t + i) (hu : f1 = updN zb zt (lo8 v)) (hv : v = w >>> (nI (8 * (3 - i % 4)) &&& 31)) (hw : (if i < 4 then a else if i < 8 then b else if i < 12 then c else if i < 16 then d else e) = w) : f1 = feedN tb t (wByte a b c d e) (i + 1) := by
  rw [hu, h, ht]
  show updN _ _ _ = updN _ _ (wByte a b c d e i)
  unfold wByte
  rw [hw, hv]
theorem fd_20 {tb zb : Nat → Nat} {t i : Nat} {a b c d e : Int32} (h : zb = feedN tb t (wByte a b c d e) i) (hi : i = 20) : zb = feedT tb t a b c d e := by
  subst hi
  exact h
theorem dX12_isImage_0 : decode cX12_isImage 0 = .ok (.aload_n 0, 1) := by decide +kernel
theorem dX12_isImage_1 : decode cX12_isImage 1 = .ok (.getfield 302, 3) := by decide +kernel
theorem dX12_isImage_4 : decode cX12_isImage 4 = .ok (.ifCond .eq 59, 3) := by decide +kernel
theorem dX12_isImage_63 : decode cX12_isImage 63 = .ok (.iconst 0, 1) := by decide +kernel
theorem dX12_isImage_64 : decode cX12_isImage 64 = .ok (.ireturn, 1) := by decide +kernel
theorem dX12_isImage_7 : decode cX12_isImage 7 = .ok (.iload_n 1, 1) := by decide +kernel
theorem dX12_isImage_8 : decode cX12_isImage 8 = .ok (.iconst 4, 1) := by decide +kernel
theorem dX12_isImage_9 : decode cX12_isImage 9 = .ok (.iconst 3, 1) := by decide +kernel
theorem dX12_isImage_10 : decode cX12_isImage 10 = .ok (.aload_n 0, 1) := by decide +kernel
theorem dX12_isImage_11 : decode cX12_isImage 11 = .ok (.invokevirtual 315, 3) := by decide +kernel
theorem dX12_isImage_14 : decode cX12_isImage 14 = .ok (.imul, 1) := by decide +kernel
theorem dX12_isImage_15 : decode cX12_isImage 15 = .ok (.iadd, 1) := by decide +kernel
theorem dX12_isImage_16 : decode cX12_isImage 16 = .ok (.if_icmp .ne 47, 3) := by decide +kernel
theorem dX12_isImage_19 : decode cX12_isImage 19 = .ok (.aload_n 0, 1) := by decide +kernel
theorem dX12_isImage_20 : decode cX12_isImage 20 = .ok (.getfield 7, 3) := by decide +kernel
theorem dX12_isImage_23 : decode cX12_isImage 23 = .ok (.iload_n 1, 1) := by decide +kernel
theorem dX12_isImage_24 : decode cX12_isImage 24 = .ok (.iconst 1, 1) := by decide +kernel
theorem dX12_isImage_25 : decode cX12_isImage 25 = .ok (.isub, 1) := by decide +kernel
theorem dX12_isImage_26 : decode cX12_isImage 26 = .ok (.iaload, 1) := by decide +kernel
theorem dX12_isImage_27 : decode cX12_isImage 27 = .ok (.aload_n 0, 1) := by decide +kernel
theorem dX12_isImage_28 : decode cX12_isImage 28 = .ok (.getfield 7, 3) := by decide +kernel
theorem dX12_isImage_31 : decode cX12_isImage 31 = .ok (.iload_n 1, 1) := by decide +kernel
theorem dX12_isImage_32 : decode cX12_isImage 32 = .ok (.iconst 1, 1) := by decide +kernel
theorem dX12_isImage_33 : decode cX12_isImage 33 = .ok (.isub, 1) := by decide +kernel
theorem dX12_isImage_34 : decode cX12_isImage 34 = .ok (.invokestatic 601, 3) := by decide +kernel
theorem dX12_isImage_37 : decode cX12_isImage 37 = .ok (.if_icmp .ne 26, 3) := by decide +kernel
theorem dX12_isImage_40 : decode cX12_isImage 40 = .ok (.sipush 256, 3) := by decide +kernel
theorem dX12_isImage_43 : decode cX12_isImage 43 = .ok (.aload_n 0, 1) := by decide +kernel
theorem dX12_isImage_44 : decode cX12_isImage 44 = .ok (.getfield 7, 3) := by decide +kernel
theorem dX12_isImage_47 : decode cX12_isImage 47 = .ok (.iconst 0, 1) := by decide +kernel
theorem dX12_isImage_48 : decode cX12_isImage 48 = .ok (.iaload, 1) := by decide +kernel
theorem dX12_isImage_49 : decode cX12_isImage 49 = .ok (.imul, 1) := by decide +kernel
theorem dX12_isImage_50 : decode cX12_isImage 50 = .ok (.aload_n 0, 1) := by decide +kernel
theorem dX12_isImage_51 : decode cX12_isImage 51 = .ok (.getfield 7, 3) := by decide +kernel
theorem dX12_isImage_54 : decode cX12_isImage 54 = .ok (.iconst 1, 1) := by decide +kernel
theorem dX12_isImage_55 : decode cX12_isImage 55 = .ok (.iaload, 1) := by decide +kernel
theorem dX12_isImage_56 : decode cX12_isImage 56 = .ok (.iadd, 1) := by decide +kernel
theorem dX12_isImage_57 : decode cX12_isImage 57 = .ok (.sipush 999, 3) := by decide +kernel
theorem dX12_isImage_60 : decode cX12_isImage 60 = .ok (.if_icmp .le 5, 3) := by decide +kernel
theorem dX12_isImage_65 : decode cX12_isImage 65 = .ok (.iconst 2, 1) := by decide +kernel
theorem dX12_isImage_66 : decode cX12_isImage 66 = .ok (.istore_n 2, 1) := by decide +kernel
theorem dX12_isImage_67 : decode cX12_isImage 67 = .ok (.iload_n 2, 1) := by decide +kernel
theorem dX12_isImage_68 : decode cX12_isImage 68 = .ok (.iload_n 1, 1) := by decide +kernel
theorem dX12_isImage_69 : decode cX12_isImage 69 = .ok (.iconst 1, 1) := by decide +kernel
theorem dX12_isImage_70 : decode cX12_isImage 70 = .ok (.isub, 1) := by decide +kernel
theorem dX12_isImage_71 : decode cX12_isImage 71 = .ok (.if_icmp .ge 38, 3) := by decide +kernel
theorem dX12_isImage_109 : decode cX12_isImage 109 = .ok (.iconst 1, 1) := by decide +kernel
theorem dX12_isImage_110 : decode cX12_isImage 110 = .ok (.ireturn, 1) := by decide +kernel
theorem dX12_isImage_74 : decode cX12_isImage 74 = .ok (.aload_n 0, 1) := by decide +kernel
theorem dX12_isImage_75 : decode cX12_isImage 75 = .ok (.getfield 7, 3) := by decide +kernel
theorem dX12_isImage_78 : decode cX12_isImage 78 = .ok (.iload_n 2, 1) := by decide +kernel
theorem dX12_isImage_79 : decode cX12_isImage 79 = .ok (.iaload, 1) := by decide +kernel
theorem dX12_isImage_80 : decode cX12_isImage 80 = .ok (.iload_n 2, 1) := by decide +kernel
theorem dX12_isImage_81 : decode cX12_isImage 81 = .ok (.iconst 2, 1) := by decide +kernel
theorem dX12_isImage_82 : decode cX12_isImage 82 = .ok (.if_icmp .le 14, 3) := by decide +kernel
theorem dX12_isImage_96 : decode cX12_isImage 96 = .ok (.bipush 9, 2) := by decide +kernel
theorem dX12_isImage_98 : decode cX12_isImage 98 = .ok (.if_icmp .le 5, 3) := by decide +kernel
theorem dX12_isImage_103 : decode cX12_isImage 103 = .ok (.iinc 2 1, 3) := by decide +kernel
theorem dX12_isImage_106 : decode cX12_isImage 106 = .ok (.goto (-39), 3) := by decide +kernel
theorem dX12_isImage_101 : decode cX12_isImage 101 = .ok (.iconst 0, 1) := by decide +kernel
theorem dX12_isImage_102 : decode cX12_isImage 102 = .ok (.ireturn, 1) := by decide +kernel
theorem dX12_isImage_85 : decode cX12_isImage 85 = .ok (.iload_n 2, 1) := by decide +kernel
theorem dX12_isImage_86 : decode cX12_isImage 86 = .ok (.iconst 3, 1) := by decide +kernel
theorem dX12_isImage_87 : decode cX12_isImage 87 = .ok (.irem, 1) := by decide +kernel
theorem dX12_isImage_88 : decode cX12_isImage 88 = .ok (.iconst 2, 1) := by decide +kernel
theorem dX12_isImage_89 : decode cX12_isImage 89 = .ok (.if_icmp .ne 7, 3) := by decide +kernel
theorem dX12_isImage_92 : decode cX12_isImage 92 = .ok (.iconst 1, 1) := by decide +kernel
theorem dX12_isImage_93 : decode cX12_isImage 93 = .ok (.goto 5, 3) := by decide +kernel
theorem w_5_155 : (Cond.fieldLink RX12 7 "SameKeeperModel" "tape" "[I") ∈ wsL_law := sk_mem (ck_5 _ (List.mem_of_getElem? (i := 155) rfl)) rfl
theorem w_8_211 : (Cond.methodLink RX12 601 yX12_checked) ∈ wsL_law := sk_mem (ck_8 _ (List.mem_of_getElem? (i := 211) rfl)) rfl
theorem w_8_212 : (Cond.static yX12_checked) ∈ wsL_law := sk_mem (ck_8 _ (List.mem_of_getElem? (i := 212) rfl)) rfl
theorem w_8_225 : (Cond.code yX12_isImage cX12_isImage 3 (some .boolean)) ∈ wsL_law := sk_mem (ck_8 _ (List.mem_of_getElem? (i := 225) rfl)) rfl
set_option maxHeartbeats 4000000 in
set_option maxRecDepth 100000 in
theorem c_m_isImage (l : Launch) (D : va_G) (cI cJ cC cZ cS : ClassId) (mm : Nat) (g : Nat → Nat) (ta : Nat) (pa : Nat) (pe : Nat) (pd : Int32) (pb : Nat) (pp : Int32) (pf : Int32) (pg : Int32) (pn : Int32) (rt : Int32) (rn : Int32) (cd : Nat) (sn : Int32) (il : Nat) (tk : Int32) (am : Int32) (at_ : Int32) (aa : Int32) (wt : Int32) (wy : Int64) (rm : Nat) (ud : Nat) (nu : Nat) (sd : Int64) (qn : Nat) (qw : Nat) (qo : Int32) (qb : Nat) (qp : Nat) (qa : Int64) (qi : Nat) (oc : Nat) (n : Nat) (l0 : Nat) (l1 : Nat) (dm : Nat) (l3 : Nat) (tb : Nat → Nat) (hil : il ≤ 1) (hild : il = 1 → 1 ≤ dm) (hdm : dm ≤ 9) (hn : n ≤ 1600) (htb : ∀ j, tb j ≤ 255) : skM l yX12_isImage cX12_isImage 3 (some .boolean) 1 23 0 0 D (skT cI cJ cC cZ cS) [.ref mm, .int (nI n)] [(mm, .inr (12, mo g (nI ta) (nI pa) (nI pe) pd (nI pb) pp pf pg pn rt rn (nI cd) sn (nI il) tk am at_ aa 0 0 (-1) wt wy 0 (nI rm) (nI ud) (nI nu) sd (nI qn) (nI qw) qo (nI qb) (nI qp) qa (nI qi) (nI oc))), (g 20, .inl (cI, 4, .inl (l4 (nI l0) (nI l1) (nI dm) (nI l3)))), (g 0, .inl (cI, 1600, .inl (fun j => nI (tb j))))] (skI D (skT cI cJ cC cZ cS) (fun (r : Int32) (u : va_W) => ∃ (b : Nat), (b = 0 ∨ (b = 1 ∧ tb 2 ≤ 9)) ∧ ((b = 0 ∧ ¬ (1 ≤ il ∧ imgO tb n dm)) ∨ (b = 1 ∧ 1 ≤ il ∧ imgO tb n dm)) ∧ r = nI b ∧ u = [(mm, .inr (12, mo g (nI ta) (nI pa) (nI pe) pd (nI pb) pp pf pg pn rt rn (nI cd) sn (nI il) tk am at_ aa 0 0 (-1) wt wy 0 (nI rm) (nI ud) (nI nu) sd (nI qn) (nI qw) qo (nI qb) (nI qp) qa (nI qi) (nI oc))), (g 20, .inl (cI, 4, .inl (l4 (nI l0) (nI l1) (nI dm) (nI l3)))), (g 0, .inl (cI, 1600, .inl (fun j => nI (tb j))))])) := by
  refine skM_of (by decide +kernel) (Nat.le_of_ble_eq_true rfl) ?_
  intro p e s m below meth c A ls E hP hD hl
  obtain ⟨hx, hb, hr, hml, hlocks, hin, hown, hts, hK, hA⟩ := E
  have hown : s.vm.findClass RX12 = some m.cls := hown
  have hS : va_S A s.heap s.heap [] := va_S.rf
  have hl : lv_has ls 3 [(0, .ref mm), (1, .int (nI n))] := hl
  refine lv_aload_n hx hb dX12_isImage_0 rfl (lv_at hl 0 rfl) ?_
  refine sk_get (v := .int (nI il)) (C := RX12) (T := TX12) (N := 92) hx hb hts inlX12 hown hK hP 0 rfl rfl 29 (by decide) w_5_184 rfl dX12_isImage_1 ?_
  refine lv_if_eq (tgt := 63) hx hb dX12_isImage_4 (by decide) (fun c_1 => ?_) (fun c_1 => ?_)
  · have c_1 : il = 0 := (neq il 0 (by omega) (by omega)).mp c_1
    refine lv_iconst (v := 0) hx hb dX12_isImage_63 (by decide) ?_
    exact sk_iret hx hb hr rfl hlocks hK hP hD hS (⟨0, (Or.inl rfl), (Or.inl ⟨rfl, fun hq => absurd hq.1 (by omega)⟩), rfl, rfl⟩) (Nat.le_of_ble_eq_true rfl) (Nat.le_of_ble_eq_true rfl) dX12_isImage_64
  · have c_1 : ¬ (il = 0) := fun h => c_1 ((neq il 0 (by omega) (by omega)).mpr h)
    refine lv_iload_n hx hb dX12_isImage_7 rfl (lv_at hl 1 rfl) ?_
    refine lv_iconst (v := 4) hx hb dX12_isImage_8 (by decide) ?_
    refine lv_iconst (v := 3) hx hb dX12_isImage_9 (by decide) ?_
    refine lv_aload_n hx hb dX12_isImage_10 rfl (lv_at hl 0 rfl) ?_
    refine sk_Vi (q0 := 0) (n := 0) (rest := [.int 3, .int 4, .int (nI n)]) (wr := [(g 0, .inl (cI, 1600, .inl (fun j => nI (tb j))))]) ⟨hx, hb, hml, hown, hts⟩ hl.1 (c_m_dayMany l D cI cJ cC cZ cS mm g ta pa pe pd pb pp pf pg pn rt rn cd sn il tk am at_ aa 0 0 (-1) wt wy 0 rm ud nu sd qn qw qo qb qp qa qi oc l0 l1 dm l3) w_7_98 w_7_100 w_0_69 w_1_14 w_7_101 (by decide +kernel) ⟨⟨(Nat.le_of_ble_eq_true rfl), (Nat.le_of_ble_eq_true rfl)⟩, (Nat.le_of_ble_eq_true rfl), (Nat.le_of_ble_eq_true rfl)⟩ hK hP hD hS hA [0, 1] [2] rfl rfl (by decide +kernel) (by decide +kernel) (by decide +kernel) rfl rfl rfl rfl (Nat.le_of_ble_eq_true rfl) dX12_isImage_11 (fun r_2 u H locs hw hP hD hS => ?_)
    obtain ⟨rfl, rfl⟩ := hw
    have hP : va_P D vwCl [(g 0, .inl (cI, 1600, .inl (fun j => nI (tb j)))), (mm, .inr (12, mo g (nI ta) (nI pa) (nI pe) pd (nI pb) pp pf pg pn rt rn (nI cd) sn (nI il) tk am at_ aa 0 0 (-1) wt wy 0 (nI rm) (nI ud) (nI nu) sd (nI qn) (nI qw) qo (nI qb) (nI qp) qa (nI qi) (nI oc))), (g 20, .inl (cI, 4, .inl (l4 (nI l0) (nI l1) (nI dm) (nI l3))))] H := hP
    have hD : va_D A [(g 0, .inl (cI, 1600, .inl (fun j => nI (tb j)))), (mm, .inr (12, mo g (nI ta) (nI pa) (nI pe) pd (nI pb) pp pf pg pn rt rn (nI cd) sn (nI il) tk am at_ aa 0 0 (-1) wt wy 0 (nI rm) (nI ud) (nI nu) sd (nI qn) (nI qw) qo (nI qb) (nI qp) qa (nI qi) (nI oc))), (g 20, .inl (cI, 4, .inl (l4 (nI l0) (nI l1) (nI dm) (nI l3))))] := hD
    refine lv_imul hx hb dX12_isImage_14 ?_
    refine sk_top (nI (3 * dm)) (nmul 3 dm) ?_
    refine lv_iadd hx hb dX12_isImage_15 ?_
    refine sk_top (nI (4 + (3 * dm))) (nI_add 4 (3 * dm)) ?_
    refine lv_icmp_ne (tgt := 63) hx hb dX12_isImage_16 (by decide) (fun c_3 => ?_) (fun c_3 => ?_)
    · have c_3 : ¬ (n = 4 + (3 * dm)) := fun h => c_3 ((neq n (4 + (3 * dm)) (by omega) (by omega)).mpr h)
      refine lv_iconst (v := 0) hx hb dX12_isImage_63 (by decide) ?_
      have hP := hP.sub (ws' := [(mm, .inr (12, mo g (nI ta) (nI pa) (nI pe) pd (nI pb) pp pf pg pn rt rn (nI cd) sn (nI il) tk am at_ aa 0 0 (-1) wt wy 0 (nI rm) (nI ud) (nI nu) sd (nI qn) (nI qw) qo (nI qb) (nI qp) qa (nI qi) (nI oc))), (g 20, .inl (cI, 4, .inl (l4 (nI l0) (nI l1) (nI dm) (nI l3)))), (g 0, .inl (cI, 1600, .inl (fun j => nI (tb j))))]) [1, 2, 0] rfl
      have hD := hD.sub (ws' := [(mm, .inr (12, mo g (nI ta) (nI pa) (nI pe) pd (nI pb) pp pf pg pn rt rn (nI cd) sn (nI il) tk am at_ aa 0 0 (-1) wt wy 0 (nI rm) (nI ud) (nI nu) sd (nI qn) (nI qw) qo (nI qb) (nI qp) qa (nI qi) (nI oc))), (g 20, .inl (cI, 4, .inl (l4 (nI l0) (nI l1) (nI dm) (nI l3)))), (g 0, .inl (cI, 1600, .inl (fun j => nI (tb j))))]) [1, 2, 0] (by decide +kernel) rfl
      exact sk_iret hx hb hr rfl hlocks hK hP hD hS (⟨0, (Or.inl rfl), (Or.inl ⟨rfl, fun hq => absurd hq.2.1 (by omega)⟩), rfl, rfl⟩) (Nat.le_of_ble_eq_true rfl) (Nat.le_of_ble_eq_true rfl) dX12_isImage_64
    · have c_3 : n = 4 + (3 * dm) := (neq n (4 + (3 * dm)) (by omega) (by omega)).mp c_3
      refine lv_aload_n hx hb dX12_isImage_19 rfl (lv_at hl 0 rfl) ?_
      refine sk_get (v := .ref (g 0)) (C := RX12) (T := TX12) (N := 92) hx hb hts inlX12 hown hK hP 1 rfl rfl 0 (by decide) w_5_155 rfl dX12_isImage_20 ?_
      refine lv_iload_n hx hb dX12_isImage_23 rfl (lv_at hl 1 rfl) ?_
      refine lv_iconst (v := 1) hx hb dX12_isImage_24 (by decide) ?_
      refine lv_isub hx hb dX12_isImage_25 ?_
      refine sk_top (nI (n - 1)) (nsub n 1 (by omega)) ?_
      refine va_iald hx hb hK.1 hP 0 0 rfl rfl (vin (n - 1) 1600 (by omega) (by omega)) dX12_isImage_26 ?_
      refine sk_top (nI (tb (n - 1))) (nrd tb (n - 1) (by omega)) ?_
      have hb_4 := htb (n - 1)
      refine lv_aload_n hx hb dX12_isImage_27 rfl (lv_at hl 0 rfl) ?_
      refine sk_get (v := .ref (g 0)) (C := RX12) (T := TX12) (N := 92) hx hb hts inlX12 hown hK hP 1 rfl rfl 0 (by decide) w_5_155 rfl dX12_isImage_28 ?_
      refine lv_iload_n hx hb dX12_isImage_31 rfl (lv_at hl 1 rfl) ?_
      refine lv_iconst (v := 1) hx hb dX12_isImage_32 (by decide) ?_
      refine lv_isub hx hb dX12_isImage_33 ?_
      refine sk_top (nI (n - 1)) (nsub n 1 (by omega)) ?_
      refine sk_Si (n := 2) (rest := [.int (nI (tb (n - 1)))]) (wr := [(mm, .inr (12, mo g (nI ta) (nI pa) (nI pe) pd (nI pb) pp pf pg pn rt rn (nI cd) sn (nI il) tk am at_ aa 0 0 (-1) wt wy 0 (nI rm) (nI ud) (nI nu) sd (nI qn) (nI qw) qo (nI qb) (nI qp) qa (nI qi) (nI oc))), (g 20, .inl (cI, 4, .inl (l4 (nI l0) (nI l1) (nI dm) (nI l3))))]) ⟨hx, hb, hml, hown, hts⟩ hl.1 (c_m_checkedX l D cI cJ cC cZ cS (g 0) tb (n - 1) (by omega) htb) w_8_211 w_8_212 w_1_14 w_8_213 (by decide +kernel) ⟨⟨(Nat.le_of_ble_eq_true rfl), (Nat.le_of_ble_eq_true rfl)⟩, (Nat.le_of_ble_eq_true rfl), (Nat.le_of_ble_eq_true rfl)⟩ hK hP hD hS hA [0] [1, 2] rfl rfl (by decide +kernel) (by decide +kernel) (by decide +kernel) rfl rfl (Nat.le_of_ble_eq_true rfl) dX12_isImage_34 (fun r_6 u H locs hw hP hD hS => ?_)
      obtain ⟨ck2_5, hck_7, hck9_8, rfl, rfl⟩ := hw
      have hP : va_P D vwCl [(mm, .inr (12, mo g (nI ta) (nI pa) (nI pe) pd (nI pb) pp pf pg pn rt rn (nI cd) sn (nI il) tk am at_ aa 0 0 (-1) wt wy 0 (nI rm) (nI ud) (nI nu) sd (nI qn) (nI qw) qo (nI qb) (nI qp) qa (nI qi) (nI oc))), (g 20, .inl (cI, 4, .inl (l4 (nI l0) (nI l1) (nI dm) (nI l3)))), (g 0, .inl (cI, 1600, .inl (fun j => nI (tb j))))] H := hP
      have hD : va_D A [(mm, .inr (12, mo g (nI ta) (nI pa) (nI pe) pd (nI pb) pp pf pg pn rt rn (nI cd) sn (nI il) tk am at_ aa 0 0 (-1) wt wy 0 (nI rm) (nI ud) (nI nu) sd (nI qn) (nI qw) qo (nI qb) (nI qp) qa (nI qi) (nI oc))), (g 20, .inl (cI, 4, .inl (l4 (nI l0) (nI l1) (nI dm) (nI l3)))), (g 0, .inl (cI, 1600, .inl (fun j => nI (tb j))))] := hD
      have hn1 : n - 1 = 3 * dm + 3 := by omega
      refine lv_icmp_ne (tgt := 63) hx hb dX12_isImage_37 (by decide) (fun c_9 => ?_) (fun c_9 => ?_)
      · have c_9 : ¬ (tb (n - 1) = ck2_5) := fun h => c_9 ((neq (tb (n - 1)) ck2_5 (by omega) (by omega)).mpr h)
        refine lv_iconst (v := 0) hx hb dX12_isImage_63 (by decide) ?_
        exact sk_iret hx hb hr rfl hlocks hK hP hD hS (⟨0, (Or.inl rfl), (Or.inl ⟨rfl, fun hq => c_9 ((img_at hn1 hck_7).mpr hq.2.2.1)⟩), rfl, rfl⟩) (Nat.le_of_ble_eq_true rfl) (Nat.le_of_ble_eq_true rfl) dX12_isImage_64
      · have c_9 : tb (n - 1) = ck2_5 := (neq (tb (n - 1)) ck2_5 (by omega) (by omega)).mp c_9
        refine lv_sipush (v := 256) hx hb dX12_isImage_40 (by decide) ?_
        refine lv_aload_n hx hb dX12_isImage_43 rfl (lv_at hl 0 rfl) ?_
        refine sk_get (v := .ref (g 0)) (C := RX12) (T := TX12) (N := 92) hx hb hts inlX12 hown hK hP 0 rfl rfl 0 (by decide) w_5_155 rfl dX12_isImage_44 ?_
        refine lv_iconst (v := 0) hx hb dX12_isImage_47 (by decide) ?_
        refine va_iald hx hb hK.1 hP 2 0 rfl rfl (by unfold vp_in; decide) dX12_isImage_48 ?_
        refine sk_top (nI (tb 0)) (nrd tb 0 (by omega)) ?_
        have hb_10 := htb 0
        refine lv_imul hx hb dX12_isImage_49 ?_
        refine sk_top (nI (256 * (tb 0))) (nmul 256 (tb 0)) ?_
        refine lv_aload_n hx hb dX12_isImage_50 rfl (lv_at hl 0 rfl) ?_
        refine sk_get (v := .ref (g 0)) (C := RX12) (T := TX12) (N := 92) hx hb hts inlX12 hown hK hP 0 rfl rfl 0 (by decide) w_5_155 rfl dX12_isImage_51 ?_
        refine lv_iconst (v := 1) hx hb dX12_isImage_54 (by decide) ?_
        refine va_iald hx hb hK.1 hP 2 0 rfl rfl (by unfold vp_in; decide) dX12_isImage_55 ?_
        refine sk_top (nI (tb 1)) (nrd tb 1 (by omega)) ?_
        have hb_11 := htb 1
        refine lv_iadd hx hb dX12_isImage_56 ?_
        refine sk_top (nI (256 * (tb 0) + (tb 1))) (nI_add (256 * (tb 0)) (tb 1)) ?_
        refine lv_sipush (v := 999) hx hb dX12_isImage_57 (by decide) ?_
        refine lv_icmp_le (tgt := 65) hx hb dX12_isImage_60 (by decide) (fun c_12 => ?_) (fun c_12 => ?_)
        · have c_12 : 256 * (tb 0) + (tb 1) ≤ 999 := (nle (256 * (tb 0) + (tb 1)) 999 (by omega) (by omega)).mp c_12
          refine lv_iconst (v := 2) hx hb dX12_isImage_65 (by decide) ?_
          refine lv_istore_n (lv' := [(2, .int 2), (0, .ref mm), (1, .int (nI n))]) hx hb dX12_isImage_66 rfl hl (by decide) rfl (fun ls hl => ?_)
          have lp_13 : ∀ (n_14 : Nat) (i : Nat) (H : Heap) (locs : List Loc) (ls : Array Slot), n - i < n_14 → (i ≤ n) → (2 ≤ i) → (imgK tb i) → va_P D vwCl [(mm, .inr (12, mo g (nI ta) (nI pa) (nI pe) pd (nI pb) pp pf pg pn rt rn (nI cd) sn (nI il) tk am at_ aa 0 0 (-1) wt wy 0 (nI rm) (nI ud) (nI nu) sd (nI qn) (nI qw) qo (nI qb) (nI qp) qa (nI qi) (nI oc))), (g 20, .inl (cI, 4, .inl (l4 (nI l0) (nI l1) (nI dm) (nI l3)))), (g 0, .inl (cI, 1600, .inl (fun j => nI (tb j))))] H → va_D A [(mm, .inr (12, mo g (nI ta) (nI pa) (nI pe) pd (nI pb) pp pf pg pn rt rn (nI cd) sn (nI il) tk am at_ aa 0 0 (-1) wt wy 0 (nI rm) (nI ud) (nI nu) sd (nI qn) (nI qw) qo (nI qb) (nI qp) qa (nI qi) (nI oc))), (g 20, .inl (cI, 4, .inl (l4 (nI l0) (nI l1) (nI dm) (nI l3)))), (g 0, .inl (cI, 1600, .inl (fun j => nI (tb j))))] → va_S A s.heap H locs → lv_has ls 3 [(2, .int (nI i)), (0, .ref mm), (1, .int (nI n))] → W p l e { frames := 1, cells := 0, slots := 0, locals := 23 } s m ([.ref mm, .int (nI n)] : List Value).toArray below meth c H locs 0 0 (MQ below (skI D (skT cI cJ cC cZ cS) (fun (r : Int32) (u : va_W) => ∃ (b : Nat), (b = 0 ∨ (b = 1 ∧ tb 2 ≤ 9)) ∧ ((b = 0 ∧ ¬ (1 ≤ il ∧ imgO tb n dm)) ∨ (b = 1 ∧ 1 ≤ il ∧ imgO tb n dm)) ∧ r = nI b ∧ u = [(mm, .inr (12, mo g (nI ta) (nI pa) (nI pe) pd (nI pb) pp pf pg pn rt rn (nI cd) sn (nI il) tk am at_ aa 0 0 (-1) wt wy 0 (nI rm) (nI ud) (nI nu) sd (nI qn) (nI qw) qo (nI qb) (nI qp) qa (nI qi) (nI oc))), (g 20, .inl (cI, 4, .inl (l4 (nI l0) (nI l1) (nI dm) (nI l3)))), (g 0, .inl (cI, 1600, .inl (fun j => nI (tb j))))]) A) ([.ref mm, .int (nI n)] : List Value).toArray s 0 0 A) (F0 m 67 ls []) := by
            intro n_14
            induction n_14 with
            | zero => intro i H locs ls hm; exact absurd hm (Nat.not_lt_zero _)
            | succ n_14 ih_lp_13 =>
              intro i H locs ls hm hi hi2 hal hP hD hS hl
              refine lv_iload_n hx hb dX12_isImage_67 rfl (lv_at hl 0 rfl) ?_
              refine lv_iload_n hx hb dX12_isImage_68 rfl (lv_at hl 2 rfl) ?_
              refine lv_iconst (v := 1) hx hb dX12_isImage_69 (by decide) ?_
              refine lv_isub hx hb dX12_isImage_70 ?_
              refine sk_top (nI (n - 1)) (nsub n 1 (by omega)) ?_
              refine lv_icmp_ge (tgt := 109) hx hb dX12_isImage_71 (by decide) (fun c_15 => ?_) (fun c_15 => ?_)
              · have c_15 : n - 1 ≤ i := (nle (n - 1) i (by omega) (by omega)).mp c_15
                refine lv_iconst (v := 1) hx hb dX12_isImage_109 (by decide) ?_
                exact sk_iret hx hb hr rfl hlocks hK hP hD hS (⟨1, (Or.inr ⟨rfl, (hal 2 (by omega) (by omega)).1⟩), (Or.inr ⟨rfl, by omega, by omega, (img_at hn1 hck_7).mp c_9, by omega, fun k h1 h2 => hal k h1 (by omega)⟩), rfl, rfl⟩) (Nat.le_of_ble_eq_true rfl) (Nat.le_of_ble_eq_true rfl) dX12_isImage_110
              · have c_15 : ¬ (n - 1 ≤ i) := fun h => c_15 ((nle (n - 1) i (by omega) (by omega)).mpr h)
                refine lv_aload_n hx hb dX12_isImage_74 rfl (lv_at hl 1 rfl) ?_
                refine sk_get (v := .ref (g 0)) (C := RX12) (T := TX12) (N := 92) hx hb hts inlX12 hown hK hP 0 rfl rfl 0 (by decide) w_5_155 rfl dX12_isImage_75 ?_
                refine lv_iload_n hx hb dX12_isImage_78 rfl (lv_at hl 0 rfl) ?_
                refine va_iald hx hb hK.1 hP 2 0 rfl rfl (vin i 1600 (by omega) (by omega)) dX12_isImage_79 ?_
                refine sk_top (nI (tb i)) (nrd tb i (by omega)) ?_
                have hb_16 := htb i
                refine lv_iload_n hx hb dX12_isImage_80 rfl (lv_at hl 0 rfl) ?_
                refine lv_iconst (v := 2) hx hb dX12_isImage_81 (by decide) ?_
                refine lv_icmp_le (tgt := 96) hx hb dX12_isImage_82 (by decide) (fun c_17 => ?_) (fun c_17 => ?_)
                · have c_17 : i ≤ 2 := (nle i 2 (by omega) (by omega)).mp c_17
                  refine lv_bipush (v := 9) hx hb dX12_isImage_96 (by decide) ?_
                  refine lv_icmp_le (tgt := 103) hx hb dX12_isImage_98 (by decide) (fun c_18 => ?_) (fun c_18 => ?_)
                  · have c_18 : tb i ≤ 9 := (nle (tb i) 9 (by omega) (by omega)).mp c_18
                    refine lv_iinc (v := nI (i + 1)) (lv' := [(2, .int (nI (i + 1))), (0, .ref mm), (1, .int (nI n))]) hx hb dX12_isImage_103 hl (k := 0) rfl (ninc i 1 (by decide)) (by decide) rfl (fun ls hl => ?_)
                    refine lv_goto (tgt := 67) hx hb dX12_isImage_106 (by decide) ?_
                    exact ih_lp_13 (i + 1) _ _ _ (by omega) (by omega) (by omega) (imgK_1 hal (by omega) (fun _ _ => by omega)) hP hD hS (lv_sub hl [0, 1, 2] rfl)
                  · have c_18 : ¬ (tb i ≤ 9) := fun h => c_18 ((nle (tb i) 9 (by omega) (by omega)).mpr h)
                    refine lv_iconst (v := 0) hx hb dX12_isImage_101 (by decide) ?_
                    exact sk_iret hx hb hr rfl hlocks hK hP hD hS (⟨0, (Or.inl rfl), (Or.inl ⟨rfl, fun hq => by have h9 := hq.2.2.2.2 i (by omega) (by omega); first | (have h8 := h9.1; omega) | (have h8 := h9.2 (by omega) (by omega); omega)⟩), rfl, rfl⟩) (Nat.le_of_ble_eq_true rfl) (Nat.le_of_ble_eq_true rfl) dX12_isImage_102
                · have c_17 : ¬ (i ≤ 2) := fun h => c_17 ((nle i 2 (by omega) (by omega)).mpr h)
                  refine lv_iload_n hx hb dX12_isImage_85 rfl (lv_at hl 0 rfl) ?_
                  refine lv_iconst (v := 3) hx hb dX12_isImage_86 (by decide) ?_
                  refine lv_irem hx hb dX12_isImage_87 (by decide) ?_
                  refine sk_top (nI (i % 3)) (nrem i 3 (by omega) (by omega) (by omega)) ?_
                  refine lv_iconst (v := 2) hx hb dX12_isImage_88 (by decide) ?_
                  refine lv_icmp_ne (tgt := 96) hx hb dX12_isImage_89 (by decide) (fun c_19 => ?_) (fun c_19 => ?_)
                  · have c_19 : ¬ (i % 3 = 2) := fun h => c_19 ((neq (i % 3) 2 (by omega) (by omega)).mpr h)
                    refine lv_bipush (v := 9) hx hb dX12_isImage_96 (by decide) ?_
                    refine lv_icmp_le (tgt := 103) hx hb dX12_isImage_98 (by decide) (fun c_20 => ?_) (fun c_20 => ?_)
                    · have c_20 : tb i ≤ 9 := (nle (tb i) 9 (by omega) (by omega)).mp c_20
                      refine lv_iinc (v := nI (i + 1)) (lv' := [(2, .int (nI (i + 1))), (0, .ref mm), (1, .int (nI n))]) hx hb dX12_isImage_103 hl (k := 0) rfl (ninc i 1 (by decide)) (by decide) rfl (fun ls hl => ?_)
                      refine lv_goto (tgt := 67) hx hb dX12_isImage_106 (by decide) ?_
                      exact ih_lp_13 (i + 1) _ _ _ (by omega) (by omega) (by omega) (imgK_1 hal (by omega) (fun _ _ => by omega)) hP hD hS (lv_sub hl [0, 1, 2] rfl)
                    · have c_20 : ¬ (tb i ≤ 9) := fun h => c_20 ((nle (tb i) 9 (by omega) (by omega)).mpr h)
                      refine lv_iconst (v := 0) hx hb dX12_isImage_101 (by decide) ?_
                      exact sk_iret hx hb hr rfl hlocks hK hP hD hS (⟨0, (Or.inl rfl), (Or.inl ⟨rfl, fun hq => by have h9 := hq.2.2.2.2 i (by omega) (by omega); first | (have h8 := h9.1; omega) | (have h8 := h9.2 (by omega) (by omega); omega)⟩), rfl, rfl⟩) (Nat.le_of_ble_eq_true rfl) (Nat.le_of_ble_eq_true rfl) dX12_isImage_102
                  · have c_19 : i % 3 = 2 := (neq (i % 3) 2 (by omega) (by omega)).mp c_19
                    refine lv_iconst (v := 1) hx hb dX12_isImage_92 (by decide) ?_
                    refine lv_goto (tgt := 98) hx hb dX12_isImage_93 (by decide) ?_
                    refine lv_icmp_le (tgt := 103) hx hb dX12_isImage_98 (by decide) (fun c_21 => ?_) (fun c_21 => ?_)
                    · have c_21 : tb i ≤ 1 := (nle (tb i) 1 (by omega) (by omega)).mp c_21
                      refine lv_iinc (v := nI (i + 1)) (lv' := [(2, .int (nI (i + 1))), (0, .ref mm), (1, .int (nI n))]) hx hb dX12_isImage_103 hl (k := 0) rfl (ninc i 1 (by decide)) (by decide) rfl (fun ls hl => ?_)
                      refine lv_goto (tgt := 67) hx hb dX12_isImage_106 (by decide) ?_
                      exact ih_lp_13 (i + 1) _ _ _ (by omega) (by omega) (by omega) (imgK_1 hal (by omega) (fun _ _ => by omega)) hP hD hS (lv_sub hl [0, 1, 2] rfl)
                    · have c_21 : ¬ (tb i ≤ 1) := fun h => c_21 ((nle (tb i) 1 (by omega) (by omega)).mpr h)
                      refine lv_iconst (v := 0) hx hb dX12_isImage_101 (by decide) ?_
                      exact sk_iret hx hb hr rfl hlocks hK hP hD hS (⟨0, (Or.inl rfl), (Or.inl ⟨rfl, fun hq => by have h9 := hq.2.2.2.2 i (by omega) (by omega); first | (have h8 := h9.1; omega) | (have h8 := h9.2 (by omega) (by omega); omega)⟩), rfl, rfl⟩) (Nat.le_of_ble_eq_true rfl) (Nat.le_of_ble_eq_true rfl) dX12_isImage_102
          exact lp_13 (n - 2 + 1) 2 _ _ _ (Nat.lt_succ_self _) (by omega) (by omega) (fun k h1 h2 => absurd h1 (by omega)) hP hD hS (lv_sub hl [0, 1, 2] rfl)
        · have c_12 : ¬ (256 * (tb 0) + (tb 1) ≤ 999) := fun h => c_12 ((nle (256 * (tb 0) + (tb 1)) 999 (by omega) (by omega)).mpr h)
          refine lv_iconst (v := 0) hx hb dX12_isImage_63 (by decide) ?_
          exact sk_iret hx hb hr rfl hlocks hK hP hD hS (⟨0, (Or.inl rfl), (Or.inl ⟨rfl, fun hq => absurd hq.2.2.2.1 (by omega)⟩), rfl, rfl⟩) (Nat.le_of_ble_eq_true rfl) (Nat.le_of_ble_eq_true rfl) dX12_isImage_64
theorem dX12_fault_0 : decode cX12_fault 0 = .ok (.iload_n 1, 1) := by decide +kernel
theorem dX12_fault_1 : decode cX12_fault 1 = .ok (.ifCond .ne 10, 3) := by decide +kernel
theorem dX12_fault_11 : decode cX12_fault 11 = .ok (.iload_n 1, 1) := by decide +kernel
theorem dX12_fault_12 : decode cX12_fault 12 = .ok (.iconst 1, 1) := by decide +kernel
theorem dX12_fault_13 : decode cX12_fault 13 = .ok (.if_icmp .ne 10, 3) := by decide +kernel
theorem dX12_fault_23 : decode cX12_fault 23 = .ok (.iconst (-1), 1) := by decide +kernel
theorem dX12_fault_24 : decode cX12_fault 24 = .ok (.ireturn, 1) := by decide +kernel
theorem dX12_fault_16 : decode cX12_fault 16 = .ok (.aload_n 0, 1) := by decide +kernel
theorem dX12_fault_17 : decode cX12_fault 17 = .ok (.getfield 13, 3) := by decide +kernel
theorem dX12_fault_20 : decode cX12_fault 20 = .ok (.goto 4, 3) := by decide +kernel
theorem dX12_fault_4 : decode cX12_fault 4 = .ok (.aload_n 0, 1) := by decide +kernel
theorem dX12_fault_5 : decode cX12_fault 5 = .ok (.getfield 296, 3) := by decide +kernel
theorem dX12_fault_8 : decode cX12_fault 8 = .ok (.goto 16, 3) := by decide +kernel
theorem w_5_163 : (Cond.fieldLink RX12 13 "SameKeeperModel" "faultPlace" "I") ∈ wsL_law := sk_mem (ck_5 _ (List.mem_of_getElem? (i := 163) rfl)) rfl
theorem w_5_162 : (Cond.fieldLink RX12 296 "SameKeeperModel" "fault" "I") ∈ wsL_law := sk_mem (ck_5 _ (List.mem_of_getElem? (i := 162) rfl)) rfl
theorem w_7_93 : (Cond.code yX12_fault cX12_fault 2 (some .int)) ∈ wsL_law := sk_mem (ck_7 _ (List.mem_of_getElem? (i := 93) rfl)) rfl
set_option maxHeartbeats 4000000 in
set_option maxRecDepth 100000 in
theorem c_m_fault (l : Launch) (D : va_G) (cI cJ cC cZ cS : ClassId) (mm : Nat) (g : Nat → Nat) (ta : Nat) (pa : Nat) (pe : Nat) (pd : Int32) (pb : Nat) (pp : Int32) (pf : Int32) (pg : Int32) (pn : Int32) (rt : Int32) (rn : Int32) (cd : Nat) (sn : Int32) (il : Nat) (tk : Int32) (am : Int32) (at_ : Int32) (aa : Int32) (wt : Int32) (wy : Int64) (rm : Nat) (ud : Nat) (nu : Nat) (sd : Int64) (qn : Nat) (qw : Nat) (qo : Int32) (qb : Nat) (qp : Nat) (qa : Int64) (qi : Nat) (oc : Nat) (w : Int32)  : skM l yX12_fault cX12_fault 2 (some .int) 0 0 0 0 D (skT cI cJ cC cZ cS) [.ref mm, .int w] [(mm, .inr (12, mo g (nI ta) (nI pa) (nI pe) pd (nI pb) pp pf pg pn rt rn (nI cd) sn (nI il) tk am at_ aa 0 0 (-1) wt wy 0 (nI rm) (nI ud) (nI nu) sd (nI qn) (nI qw) qo (nI qb) (nI qp) qa (nI qi) (nI oc)))] (skI D (skT cI cJ cC cZ cS) (fun (r : Int32) (u : va_W) => ((w = 0 ∧ r = pf) ∨ (w = 1 ∧ r = pg) ∨ (¬ w = 0 ∧ ¬ w = 1 ∧ r = -1)) ∧ u = [(mm, .inr (12, mo g (nI ta) (nI pa) (nI pe) pd (nI pb) pp pf pg pn rt rn (nI cd) sn (nI il) tk am at_ aa 0 0 (-1) wt wy 0 (nI rm) (nI ud) (nI nu) sd (nI qn) (nI qw) qo (nI qb) (nI qp) qa (nI qi) (nI oc)))])) := by
  refine skM_of (by decide +kernel) (Nat.le_of_ble_eq_true rfl) ?_
  intro p e s m below meth c A ls E hP hD hl
  obtain ⟨hx, hb, hr, hml, hlocks, hin, hown, hts, hK, hA⟩ := E
  have hown : s.vm.findClass RX12 = some m.cls := hown
  have hS : va_S A s.heap s.heap [] := va_S.rf
  have hl : lv_has ls 2 [(0, .ref mm), (1, .int w)] := hl
  refine lv_iload_n hx hb dX12_fault_0 rfl (lv_at hl 1 rfl) ?_
  refine lv_if_ne (tgt := 11) hx hb dX12_fault_1 (by decide) (fun c_1 => ?_) (fun c_1 => ?_)
  · skip
    refine lv_iload_n hx hb dX12_fault_11 rfl (lv_at hl 1 rfl) ?_
    refine lv_iconst (v := 1) hx hb dX12_fault_12 (by decide) ?_
    refine lv_icmp_ne (tgt := 23) hx hb dX12_fault_13 (by decide) (fun c_2 => ?_) (fun c_2 => ?_)
    · skip
      refine lv_iconst (v := (-1)) hx hb dX12_fault_23 (by decide) ?_
      exact sk_iret hx hb hr rfl hlocks hK hP hD hS (⟨(Or.inr (Or.inr ⟨c_1, c_2, rfl⟩)), rfl⟩) (Nat.le_of_ble_eq_true rfl) (Nat.le_of_ble_eq_true rfl) dX12_fault_24
    · skip
      refine lv_aload_n hx hb dX12_fault_16 rfl (lv_at hl 0 rfl) ?_
      refine sk_get (v := .int pg) (C := RX12) (T := TX12) (N := 92) hx hb hts inlX12 hown hK hP 0 rfl rfl 8 (by decide) w_5_163 rfl dX12_fault_17 ?_
      refine lv_goto (tgt := 24) hx hb dX12_fault_20 (by decide) ?_
      exact sk_iret hx hb hr rfl hlocks hK hP hD hS (⟨(Or.inr (Or.inl ⟨c_2, rfl⟩)), rfl⟩) (Nat.le_of_ble_eq_true rfl) (Nat.le_of_ble_eq_true rfl) dX12_fault_24
  · skip
    refine lv_aload_n hx hb dX12_fault_4 rfl (lv_at hl 0 rfl) ?_
    refine sk_get (v := .int pf) (C := RX12) (T := TX12) (N := 92) hx hb hts inlX12 hown hK hP 0 rfl rfl 7 (by decide) w_5_162 rfl dX12_fault_5 ?_
    refine lv_goto (tgt := 24) hx hb dX12_fault_8 (by decide) ?_
    exact sk_iret hx hb hr rfl hlocks hK hP hD hS (⟨(Or.inl ⟨c_1, rfl⟩), rfl⟩) (Nat.le_of_ble_eq_true rfl) (Nat.le_of_ble_eq_true rfl) dX12_fault_24
