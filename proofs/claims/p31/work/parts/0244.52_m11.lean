def om_9_180 : List Bool := true :: true :: false :: false :: false :: false :: false :: false :: false :: []
def om_9_17c : List Bool := true :: false :: true :: true :: true :: true :: true :: false :: false :: []
set_option maxHeartbeats 4000000 in
set_option maxRecDepth 100000 in
theorem c_m_laysWaysS (l : Launch) (D : va_G) (cI cJ cC cZ cS : ClassId) (mm : Nat) (g : Nat → Nat) (ta : Nat) (pa : Nat) (pe : Nat) (pd : Int32) (pb : Nat) (pp : Int32) (pf : Int32) (pg : Int32) (pn : Int32) (rt : Int32) (rn : Int32) (cd : Nat) (sn : Int32) (il : Nat) (tk : Int32) (am : Int32) (at_ : Int32) (aa : Int32) (mt_ : Int32) (bh : Nat) (wd : Int32) (wt : Int32) (wy : Int64) (it_ : Nat) (rm : Nat) (ud : Nat) (nu : Nat) (sd : Int64) (qn : Nat) (qw : Nat) (qo : Int32) (qb : Nat) (qp : Nat) (qa : Int64) (qi : Nat) (oc : Nat) (l0 : Nat) (l1 : Nat) (dm : Nat) (l3 : Nat) (nw : Nat → Int32) (ws_ : Nat → Int32) (rw_ : Nat → Int32) (yo : Nat → Int32) (yw : Nat → Int32) (be : Nat → Int64) (bf : Nat → Int64) (hdm : dm ≤ 9) (hdm1 : 1 ≤ dm) (hrm : rm ≤ 16) (hbh : bh ≤ 1) (hnw : nowOk nw) : skM l yX12_laysWays cX12_laysWays 7 none 3 68 0 0 D (skT cI cJ cC cZ cS) [.ref mm] [(mm, .inr (12, mo g (nI ta) (nI pa) (nI pe) pd (nI pb) pp pf pg pn rt rn (nI cd) sn (nI il) tk am at_ aa mt_ (nI bh) wd wt wy (nI it_) (nI rm) (nI ud) (nI nu) sd (nI qn) (nI qw) qo (nI qb) (nI qp) qa (nI qi) (nI oc))), (g 20, .inl (cI, 4, .inl (l4 (nI l0) (nI l1) (nI dm) (nI l3)))), (g 31, .inl (cI, 120, .inl nw)), (g 38, .inl (cI, 90, .inl ws_)), (g 53, .inl (cI, 32, .inl rw_)), (g 37, .inl (cZ, 900, .inl yo)), (g 36, .inl (cZ, 900, .inl yw)), (g 43, .inl (cJ, 90, .inr (.inl be))), (g 44, .inl (cJ, 90, .inr (.inl bf)))] (skV D (skT cI cJ cC cZ cS) (fun (u : va_W) => ∃ (wy2 : Int64), ∃ (be2 : Nat → Int64), ∃ (bf2 : Nat → Int64), u = [(mm, .inr (12, mo g (nI ta) (nI pa) (nI pe) pd (nI pb) pp pf pg pn rt rn (nI cd) sn (nI il) tk am at_ aa mt_ (nI bh) wd wt wy2 (nI it_) (nI rm) (nI ud) (nI nu) sd (nI qn) (nI qw) qo (nI qb) (nI qp) qa (nI qi) (nI oc))), (g 20, .inl (cI, 4, .inl (l4 (nI l0) (nI l1) (nI dm) (nI l3)))), (g 31, .inl (cI, 120, .inl nw)), (g 38, .inl (cI, 90, .inl ws_)), (g 53, .inl (cI, 32, .inl rw_)), (g 37, .inl (cZ, 900, .inl yo)), (g 36, .inl (cZ, 900, .inl yw)), (g 43, .inl (cJ, 90, .inr (.inl be2))), (g 44, .inl (cJ, 90, .inr (.inl bf2)))])) := by
  refine skM_of pf_X12_laysWays (Nat.le_of_ble_eq_true rfl) ?_
  intro p e s m below meth c A ls E hP hD hl
  refine skE_el E (fun hx hb hr hml hlocks hin hown hts hK hA => ?_)
  have hown : s.vm.findClass RX12 = some m.cls := hown
  have hS : va_S A s.heap s.heap [] := va_S.rf
  have hl : lv_has ls 7 [(0, .ref mm)] := hl
  refine lv_aload_n hx hb dX12_laysWays_0 rfl (lv_at hl 0 rfl) ?_
  refine sk_Vi (q0 := 0) (n := 0) (rest := []) (wr := fmR om_9_180 _) ⟨hx, hb, hml, hown, hts⟩ hl.1 (c_m_dayMany l D cI cJ cC cZ cS mm g ta pa pe pd pb pp pf pg pn rt rn cd sn il tk am at_ aa mt_ bh wd wt wy it_ rm ud nu sd qn qw qo qb qp qa qi oc l0 l1 dm l3) w_7_98 w_7_100 w_0_69 w_1_14 w_7_101 hd_X12_dayMany_0 ⟨⟨(Nat.le_of_ble_eq_true rfl), (Nat.le_of_ble_eq_true rfl)⟩, (Nat.le_of_ble_eq_true rfl), (Nat.le_of_ble_eq_true rfl)⟩ hK hP hD hS hA (fmT om_9_180 0) (fmF om_9_180 0) (fm_C1 rfl rfl) (fm_R rfl rfl) (fm_nT om_9_180 0) (fm_nF om_9_180 0) (fm_di om_9_180 0) rfl rfl rfl rfl (Nat.le_of_ble_eq_true rfl) dX12_laysWays_1 (fun r_1 u H locs hw hP hD hS => ?_)
  refine anE hw (fun er_3 eu_2 => ?_)
  clear hw
  subst er_3
  refine o_mgE (ws' := [(mm, .inr (12, mo g (nI ta) (nI pa) (nI pe) pd (nI pb) pp pf pg pn rt rn (nI cd) sn (nI il) tk am at_ aa mt_ (nI bh) wd wt wy (nI it_) (nI rm) (nI ud) (nI nu) sd (nI qn) (nI qw) qo (nI qb) (nI qp) qa (nI qi) (nI oc))), (g 20, .inl (cI, 4, .inl (l4 (nI l0) (nI l1) (nI dm) (nI l3)))), (g 31, .inl (cI, 120, .inl nw)), (g 38, .inl (cI, 90, .inl ws_)), (g 53, .inl (cI, 32, .inl rw_)), (g 37, .inl (cZ, 900, .inl yo)), (g 36, .inl (cZ, 900, .inl yw)), (g 43, .inl (cJ, 90, .inr (.inl be))), (g 44, .inl (cJ, 90, .inr (.inl bf)))]) eu_2 hP hD rfl (fun hP hD => ?_)
  refine lv_iconst (v := 1) hx hb dX12_laysWays_4 (by decide) ?_
  refine lv_isub hx hb dX12_laysWays_5 ?_
  refine lv_istore_n (lv' := [(1, .int (nI dm - 1)), (0, .ref mm)]) hx hb dX12_laysWays_6 rfl hl (by decide) rfl (fun ls hl => ?_)
  refine lv_iload_n hx hb dX12_laysWays_7 rfl (lv_at hl 0 rfl) ?_
  refine lv_istore_n (lv' := [(2, .int (nI dm - 1)), (1, .int (nI dm - 1)), (0, .ref mm)]) hx hb dX12_laysWays_8 rfl hl (by decide) rfl (fun ls hl => ?_)
  have lp_4 : ∀ (n_5 : Nat) (dd : Nat) (zb : Nat → Int64) (H : Heap) (locs : List Loc) (ls : Array Slot), dd < n_5 → (dd ≤ dm) → va_P D vwCl [(mm, .inr (12, mo g (nI ta) (nI pa) (nI pe) pd (nI pb) pp pf pg pn rt rn (nI cd) sn (nI il) tk am at_ aa mt_ (nI bh) wd wt wy (nI it_) (nI rm) (nI ud) (nI nu) sd (nI qn) (nI qw) qo (nI qb) (nI qp) qa (nI qi) (nI oc))), (g 20, .inl (cI, 4, .inl (l4 (nI l0) (nI l1) (nI dm) (nI l3)))), (g 31, .inl (cI, 120, .inl nw)), (g 38, .inl (cI, 90, .inl ws_)), (g 53, .inl (cI, 32, .inl rw_)), (g 37, .inl (cZ, 900, .inl yo)), (g 36, .inl (cZ, 900, .inl yw)), (g 43, .inl (cJ, 90, .inr (.inl zb))), (g 44, .inl (cJ, 90, .inr (.inl bf)))] H → va_D A [(mm, .inr (12, mo g (nI ta) (nI pa) (nI pe) pd (nI pb) pp pf pg pn rt rn (nI cd) sn (nI il) tk am at_ aa mt_ (nI bh) wd wt wy (nI it_) (nI rm) (nI ud) (nI nu) sd (nI qn) (nI qw) qo (nI qb) (nI qp) qa (nI qi) (nI oc))), (g 20, .inl (cI, 4, .inl (l4 (nI l0) (nI l1) (nI dm) (nI l3)))), (g 31, .inl (cI, 120, .inl nw)), (g 38, .inl (cI, 90, .inl ws_)), (g 53, .inl (cI, 32, .inl rw_)), (g 37, .inl (cZ, 900, .inl yo)), (g 36, .inl (cZ, 900, .inl yw)), (g 43, .inl (cJ, 90, .inr (.inl zb))), (g 44, .inl (cJ, 90, .inr (.inl bf)))] → va_S A s.heap H locs → lv_has ls 7 [(2, .int (nI dd - 1)), (1, .int (nI dm - 1)), (0, .ref mm)] → W p l e { frames := 3, cells := 0, slots := 0, locals := 68 } s m ([.ref mm] : List Value).toArray below meth c H locs 0 0 (MQ below (skV D (skT cI cJ cC cZ cS) (fun (u : va_W) => ∃ (wy2 : Int64), ∃ (be2 : Nat → Int64), ∃ (bf2 : Nat → Int64), u = [(mm, .inr (12, mo g (nI ta) (nI pa) (nI pe) pd (nI pb) pp pf pg pn rt rn (nI cd) sn (nI il) tk am at_ aa mt_ (nI bh) wd wt wy2 (nI it_) (nI rm) (nI ud) (nI nu) sd (nI qn) (nI qw) qo (nI qb) (nI qp) qa (nI qi) (nI oc))), (g 20, .inl (cI, 4, .inl (l4 (nI l0) (nI l1) (nI dm) (nI l3)))), (g 31, .inl (cI, 120, .inl nw)), (g 38, .inl (cI, 90, .inl ws_)), (g 53, .inl (cI, 32, .inl rw_)), (g 37, .inl (cZ, 900, .inl yo)), (g 36, .inl (cZ, 900, .inl yw)), (g 43, .inl (cJ, 90, .inr (.inl be2))), (g 44, .inl (cJ, 90, .inr (.inl bf2)))]) A) ([.ref mm] : List Value).toArray s 0 0 A) (F0 m 9 ls []) := by
    intro n_5
    induction n_5 with
    | zero => intro dd zb H locs ls hm; exact absurd hm (Nat.not_lt_zero _)
    | succ n_5 ih_lp_4 =>
      intro dd zb H locs ls hm hdd hP hD hS hl
      refine lv_iload_n hx hb dX12_laysWays_9 rfl (lv_at hl 0 rfl) ?_
      refine lv_if_lt (tgt := 111) hx hb dX12_laysWays_10 (by decide) (fun c_6 => ?_) (fun c_6 => ?_)
      · have c_6 : dd = 0 := npm0 dd (by omega) c_6
        refine lv_aload_n hx hb dX12_laysWays_111 rfl (lv_at hl 2 rfl) ?_
        refine lv_lconst (v := 0) hx hb dX12_laysWays_112 (by decide) ?_
        refine sk_put (ws' := [(mm, .inr (12, mo g (nI ta) (nI pa) (nI pe) pd (nI pb) pp pf pg pn rt rn (nI cd) sn (nI il) tk am at_ aa mt_ (nI bh) wd wt 0 (nI it_) (nI rm) (nI ud) (nI nu) sd (nI qn) (nI qw) qo (nI qb) (nI qp) qa (nI qi) (nI oc))), (g 20, .inl (cI, 4, .inl (l4 (nI l0) (nI l1) (nI dm) (nI l3)))), (g 31, .inl (cI, 120, .inl nw)), (g 38, .inl (cI, 90, .inl ws_)), (g 53, .inl (cI, 32, .inl rw_)), (g 37, .inl (cZ, 900, .inl yo)), (g 36, .inl (cZ, 900, .inl yw)), (g 43, .inl (cJ, 90, .inr (.inl zb))), (g 44, .inl (cJ, 90, .inr (.inl bf)))]) (C := RX12) (T := TX12) (N := 92) (v := .long 0) hx hb hts inlX12 tyX12 tyX12_ok nmX12 hown hK hP hD hS 0 rfl rfl 45 (by decide) w_5_200 rfl rfl rfl (Nat.le_of_ble_eq_true rfl) rfl dX12_laysWays_113 (fun H locs hP hD hS => ?_)
        refine lv_iconst (v := 0) hx hb dX12_laysWays_116 (by decide) ?_
        refine lv_istore_n (lv' := [(2, .int 0), (1, .int (nI dm - 1)), (0, .ref mm)]) hx hb dX12_laysWays_117 rfl hl (by decide) rfl (fun ls hl => ?_)
        have lp_7 : ∀ (n_8 : Nat) (i : Nat) (zy : Int64) (zf : Nat → Int64) (H : Heap) (locs : List Loc) (ls : Array Slot), dm - i < n_8 → (i ≤ dm) → va_P D vwCl [(mm, .inr (12, mo g (nI ta) (nI pa) (nI pe) pd (nI pb) pp pf pg pn rt rn (nI cd) sn (nI il) tk am at_ aa mt_ (nI bh) wd wt zy (nI it_) (nI rm) (nI ud) (nI nu) sd (nI qn) (nI qw) qo (nI qb) (nI qp) qa (nI qi) (nI oc))), (g 20, .inl (cI, 4, .inl (l4 (nI l0) (nI l1) (nI dm) (nI l3)))), (g 31, .inl (cI, 120, .inl nw)), (g 38, .inl (cI, 90, .inl ws_)), (g 53, .inl (cI, 32, .inl rw_)), (g 37, .inl (cZ, 900, .inl yo)), (g 36, .inl (cZ, 900, .inl yw)), (g 43, .inl (cJ, 90, .inr (.inl zb))), (g 44, .inl (cJ, 90, .inr (.inl zf)))] H → va_D A [(mm, .inr (12, mo g (nI ta) (nI pa) (nI pe) pd (nI pb) pp pf pg pn rt rn (nI cd) sn (nI il) tk am at_ aa mt_ (nI bh) wd wt zy (nI it_) (nI rm) (nI ud) (nI nu) sd (nI qn) (nI qw) qo (nI qb) (nI qp) qa (nI qi) (nI oc))), (g 20, .inl (cI, 4, .inl (l4 (nI l0) (nI l1) (nI dm) (nI l3)))), (g 31, .inl (cI, 120, .inl nw)), (g 38, .inl (cI, 90, .inl ws_)), (g 53, .inl (cI, 32, .inl rw_)), (g 37, .inl (cZ, 900, .inl yo)), (g 36, .inl (cZ, 900, .inl yw)), (g 43, .inl (cJ, 90, .inr (.inl zb))), (g 44, .inl (cJ, 90, .inr (.inl zf)))] → va_S A s.heap H locs → lv_has ls 7 [(2, .int (nI i)), (1, .int (nI dm - 1)), (0, .ref mm)] → W p l e { frames := 3, cells := 0, slots := 0, locals := 68 } s m ([.ref mm] : List Value).toArray below meth c H locs 0 0 (MQ below (skV D (skT cI cJ cC cZ cS) (fun (u : va_W) => ∃ (wy2 : Int64), ∃ (be2 : Nat → Int64), ∃ (bf2 : Nat → Int64), u = [(mm, .inr (12, mo g (nI ta) (nI pa) (nI pe) pd (nI pb) pp pf pg pn rt rn (nI cd) sn (nI il) tk am at_ aa mt_ (nI bh) wd wt wy2 (nI it_) (nI rm) (nI ud) (nI nu) sd (nI qn) (nI qw) qo (nI qb) (nI qp) qa (nI qi) (nI oc))), (g 20, .inl (cI, 4, .inl (l4 (nI l0) (nI l1) (nI dm) (nI l3)))), (g 31, .inl (cI, 120, .inl nw)), (g 38, .inl (cI, 90, .inl ws_)), (g 53, .inl (cI, 32, .inl rw_)), (g 37, .inl (cZ, 900, .inl yo)), (g 36, .inl (cZ, 900, .inl yw)), (g 43, .inl (cJ, 90, .inr (.inl be2))), (g 44, .inl (cJ, 90, .inr (.inl bf2)))]) A) ([.ref mm] : List Value).toArray s 0 0 A) (F0 m 118 ls []) := by
          intro n_8
          induction n_8 with
          | zero => intro i zy zf H locs ls hm; exact absurd hm (Nat.not_lt_zero _)
          | succ n_8 ih_lp_7 =>
            intro i zy zf H locs ls hm hi hP hD hS hl
            refine lv_iload_n hx hb dX12_laysWays_118 rfl (lv_at hl 0 rfl) ?_
            refine lv_iload_n hx hb dX12_laysWays_119 rfl (lv_at hl 1 rfl) ?_
            refine lv_icmp_gt (tgt := 248) hx hb dX12_laysWays_120 (by decide) (fun c_9 => ?_) (fun c_9 => ?_)
            · have c_9 : ((dm : Nat) : Int) - 1 < ((i : Nat) : Int) := (ilt (ivp dm (by omega)) (ivn i (by omega))).mp c_9
              exact sk_vret hx hb hr hlocks hK hP hD hS (⟨zy, zb, zf, rfl⟩) (Nat.le_of_ble_eq_true rfl) (Nat.le_of_ble_eq_true rfl) dX12_laysWays_248
            · have c_9 : ¬ (((dm : Nat) : Int) - 1 < ((i : Nat) : Int)) := fun h => c_9 ((ilt (ivp dm (by omega)) (ivn i (by omega))).mpr h)
              refine lv_iconst (v := 0) hx hb dX12_laysWays_123 (by decide) ?_
              refine lv_istore_n (lv' := [(3, .int 0), (2, .int (nI i)), (1, .int (nI dm - 1)), (0, .ref mm)]) hx hb dX12_laysWays_124 rfl hl (by decide) rfl (fun ls hl => ?_)
              have lp_10 : ∀ (n_11 : Nat) (jm : Nat) (zyb : Int64) (zg : Nat → Int64) (H : Heap) (locs : List Loc) (ls : Array Slot), 10 - jm < n_11 → (jm ≤ 10) → va_P D vwCl [(mm, .inr (12, mo g (nI ta) (nI pa) (nI pe) pd (nI pb) pp pf pg pn rt rn (nI cd) sn (nI il) tk am at_ aa mt_ (nI bh) wd wt zyb (nI it_) (nI rm) (nI ud) (nI nu) sd (nI qn) (nI qw) qo (nI qb) (nI qp) qa (nI qi) (nI oc))), (g 20, .inl (cI, 4, .inl (l4 (nI l0) (nI l1) (nI dm) (nI l3)))), (g 31, .inl (cI, 120, .inl nw)), (g 38, .inl (cI, 90, .inl ws_)), (g 53, .inl (cI, 32, .inl rw_)), (g 37, .inl (cZ, 900, .inl yo)), (g 36, .inl (cZ, 900, .inl yw)), (g 43, .inl (cJ, 90, .inr (.inl zb))), (g 44, .inl (cJ, 90, .inr (.inl zg)))] H → va_D A [(mm, .inr (12, mo g (nI ta) (nI pa) (nI pe) pd (nI pb) pp pf pg pn rt rn (nI cd) sn (nI il) tk am at_ aa mt_ (nI bh) wd wt zyb (nI it_) (nI rm) (nI ud) (nI nu) sd (nI qn) (nI qw) qo (nI qb) (nI qp) qa (nI qi) (nI oc))), (g 20, .inl (cI, 4, .inl (l4 (nI l0) (nI l1) (nI dm) (nI l3)))), (g 31, .inl (cI, 120, .inl nw)), (g 38, .inl (cI, 90, .inl ws_)), (g 53, .inl (cI, 32, .inl rw_)), (g 37, .inl (cZ, 900, .inl yo)), (g 36, .inl (cZ, 900, .inl yw)), (g 43, .inl (cJ, 90, .inr (.inl zb))), (g 44, .inl (cJ, 90, .inr (.inl zg)))] → va_S A s.heap H locs → lv_has ls 7 [(3, .int (nI jm)), (2, .int (nI i)), (1, .int (nI dm - 1)), (0, .ref mm)] → W p l e { frames := 3, cells := 0, slots := 0, locals := 68 } s m ([.ref mm] : List Value).toArray below meth c H locs 0 0 (MQ below (skV D (skT cI cJ cC cZ cS) (fun (u : va_W) => ∃ (wy2 : Int64), ∃ (be2 : Nat → Int64), ∃ (bf2 : Nat → Int64), u = [(mm, .inr (12, mo g (nI ta) (nI pa) (nI pe) pd (nI pb) pp pf pg pn rt rn (nI cd) sn (nI il) tk am at_ aa mt_ (nI bh) wd wt wy2 (nI it_) (nI rm) (nI ud) (nI nu) sd (nI qn) (nI qw) qo (nI qb) (nI qp) qa (nI qi) (nI oc))), (g 20, .inl (cI, 4, .inl (l4 (nI l0) (nI l1) (nI dm) (nI l3)))), (g 31, .inl (cI, 120, .inl nw)), (g 38, .inl (cI, 90, .inl ws_)), (g 53, .inl (cI, 32, .inl rw_)), (g 37, .inl (cZ, 900, .inl yo)), (g 36, .inl (cZ, 900, .inl yw)), (g 43, .inl (cJ, 90, .inr (.inl be2))), (g 44, .inl (cJ, 90, .inr (.inl bf2)))]) A) ([.ref mm] : List Value).toArray s 0 0 A) (F0 m 125 ls []) := by
                intro n_11
                induction n_11 with
                | zero => intro jm zyb zg H locs ls hm; exact absurd hm (Nat.not_lt_zero _)
                | succ n_11 ih_lp_10 =>
                  intro jm zyb zg H locs ls hm hjm hP hD hS hl
                  refine lv_iload_n hx hb dX12_laysWays_125 rfl (lv_at hl 0 rfl) ?_
                  refine lv_bipush (v := 10) hx hb dX12_laysWays_126 (by decide) ?_
                  refine lv_icmp_ge (tgt := 242) hx hb dX12_laysWays_128 (by decide) (fun c_12 => ?_) (fun c_12 => ?_)
                  · have c_12 : 10 ≤ jm := (nle 10 jm (by omega) (by omega)).mp c_12
                    refine lv_iinc (v := nI (i + 1)) (lv' := [(2, .int (nI (i + 1))), (3, .int (nI jm)), (1, .int (nI dm - 1)), (0, .ref mm)]) hx hb dX12_laysWays_242 hl (k := 1) rfl (ninc i 1 (by decide)) (by decide) rfl (fun ls hl => ?_)
                    refine lv_goto (tgt := 118) hx hb dX12_laysWays_245 (by decide) ?_
                    exact ih_lp_7 (i + 1) zyb zg _ _ _ (by omega) (by omega) hP hD hS (lv_sub hl [0, 2, 3] rfl)
                  · have c_12 : ¬ (10 ≤ jm) := fun h => c_12 ((nle 10 jm (by omega) (by omega)).mpr h)
                    refine lv_iload_n hx hb dX12_laysWays_131 rfl (lv_at hl 1 rfl) ?_
                    refine lv_if_ne (tgt := 154) hx hb dX12_laysWays_132 (by decide) (fun c_13 => ?_) (fun c_13 => ?_)
                    · have c_13 : ¬ (i = 0) := fun h => c_13 ((neq i 0 (by omega) (by omega)).mpr h)
                      refine lv_lconst (v := 0) hx hb dX12_laysWays_154 (by decide) ?_
                      refine lv_lstore (lv' := [(4, .long 0), (3, .int (nI jm)), (2, .int (nI i)), (1, .int (nI dm - 1)), (0, .ref mm)]) hx hb dX12_laysWays_155 hl (by decide) rfl (fun ls hl => ?_)
                      refine lv_iconst (v := 0) hx hb dX12_laysWays_157 (by decide) ?_
                      refine lv_istore (lv' := [(6, .int 0), (4, .long 0), (3, .int (nI jm)), (2, .int (nI i)), (1, .int (nI dm - 1)), (0, .ref mm)]) hx hb dX12_laysWays_158 hl (by decide) rfl (fun ls hl => ?_)
                      have lp_14 : ∀ (n_15 : Nat) (kk : Nat) (xn : Int64) (H : Heap) (locs : List Loc) (ls : Array Slot), 10 - kk < n_15 → (kk ≤ 10) → va_P D vwCl [(mm, .inr (12, mo g (nI ta) (nI pa) (nI pe) pd (nI pb) pp pf pg pn rt rn (nI cd) sn (nI il) tk am at_ aa mt_ (nI bh) wd wt zyb (nI it_) (nI rm) (nI ud) (nI nu) sd (nI qn) (nI qw) qo (nI qb) (nI qp) qa (nI qi) (nI oc))), (g 20, .inl (cI, 4, .inl (l4 (nI l0) (nI l1) (nI dm) (nI l3)))), (g 31, .inl (cI, 120, .inl nw)), (g 38, .inl (cI, 90, .inl ws_)), (g 53, .inl (cI, 32, .inl rw_)), (g 37, .inl (cZ, 900, .inl yo)), (g 36, .inl (cZ, 900, .inl yw)), (g 43, .inl (cJ, 90, .inr (.inl zb))), (g 44, .inl (cJ, 90, .inr (.inl zg)))] H → va_D A [(mm, .inr (12, mo g (nI ta) (nI pa) (nI pe) pd (nI pb) pp pf pg pn rt rn (nI cd) sn (nI il) tk am at_ aa mt_ (nI bh) wd wt zyb (nI it_) (nI rm) (nI ud) (nI nu) sd (nI qn) (nI qw) qo (nI qb) (nI qp) qa (nI qi) (nI oc))), (g 20, .inl (cI, 4, .inl (l4 (nI l0) (nI l1) (nI dm) (nI l3)))), (g 31, .inl (cI, 120, .inl nw)), (g 38, .inl (cI, 90, .inl ws_)), (g 53, .inl (cI, 32, .inl rw_)), (g 37, .inl (cZ, 900, .inl yo)), (g 36, .inl (cZ, 900, .inl yw)), (g 43, .inl (cJ, 90, .inr (.inl zb))), (g 44, .inl (cJ, 90, .inr (.inl zg)))] → va_S A s.heap H locs → lv_has ls 7 [(6, .int (nI kk)), (4, .long xn), (3, .int (nI jm)), (2, .int (nI i)), (1, .int (nI dm - 1)), (0, .ref mm)] → W p l e { frames := 3, cells := 0, slots := 0, locals := 68 } s m ([.ref mm] : List Value).toArray below meth c H locs 0 0 (MQ below (skV D (skT cI cJ cC cZ cS) (fun (u : va_W) => ∃ (wy2 : Int64), ∃ (be2 : Nat → Int64), ∃ (bf2 : Nat → Int64), u = [(mm, .inr (12, mo g (nI ta) (nI pa) (nI pe) pd (nI pb) pp pf pg pn rt rn (nI cd) sn (nI il) tk am at_ aa mt_ (nI bh) wd wt wy2 (nI it_) (nI rm) (nI ud) (nI nu) sd (nI qn) (nI qw) qo (nI qb) (nI qp) qa (nI qi) (nI oc))), (g 20, .inl (cI, 4, .inl (l4 (nI l0) (nI l1) (nI dm) (nI l3)))), (g 31, .inl (cI, 120, .inl nw)), (g 38, .inl (cI, 90, .inl ws_)), (g 53, .inl (cI, 32, .inl rw_)), (g 37, .inl (cZ, 900, .inl yo)), (g 36, .inl (cZ, 900, .inl yw)), (g 43, .inl (cJ, 90, .inr (.inl be2))), (g 44, .inl (cJ, 90, .inr (.inl bf2)))]) A) ([.ref mm] : List Value).toArray s 0 0 A) (F0 m 160 ls []) := by
                        intro n_15
                        induction n_15 with
                        | zero => intro kk xn H locs ls hm; exact absurd hm (Nat.not_lt_zero _)
                        | succ n_15 ih_lp_14 =>
                          intro kk xn H locs ls hm hkk hP hD hS hl
                          refine lv_iload hx hb dX12_laysWays_160 (lv_at hl 0 rfl) ?_
                          refine lv_bipush (v := 10) hx hb dX12_laysWays_162 (by decide) ?_
                          refine lv_icmp_ge (tgt := 207) hx hb dX12_laysWays_164 (by decide) (fun c_16 => ?_) (fun c_16 => ?_)
                          · have c_16 : 10 ≤ kk := (nle 10 kk (by omega) (by omega)).mp c_16
                            refine lv_aload_n hx hb dX12_laysWays_207 rfl (lv_at hl 5 rfl) ?_
                            refine sk_get (v := .ref (g 44)) (C := RX12) (T := TX12) (N := 92) hx hb hts inlX12 hown hK hP 0 rfl rfl 44 (by decide) w_5_199 rfl dX12_laysWays_208 ?_
                            refine lv_bipush (v := 10) hx hb dX12_laysWays_211 (by decide) ?_
                            refine lv_iload_n hx hb dX12_laysWays_213 rfl (lv_at hl 3 rfl) ?_
                            refine lv_imul hx hb dX12_laysWays_214 ?_
                            refine sk_top (nI (10 * i)) (nmul 10 i) ?_
                            refine lv_iload_n hx hb dX12_laysWays_215 rfl (lv_at hl 2 rfl) ?_
                            refine lv_iadd hx hb dX12_laysWays_216 ?_
                            refine sk_top (nI (10 * i + jm)) (nI_add (10 * i) jm) ?_
                            refine lv_lload hx hb dX12_laysWays_217 (lv_at hl 1 rfl) ?_
                            refine sk_lastO (ws' := fun f_17 => [(mm, .inr (12, mo g (nI ta) (nI pa) (nI pe) pd (nI pb) pp pf pg pn rt rn (nI cd) sn (nI il) tk am at_ aa mt_ (nI bh) wd wt zyb (nI it_) (nI rm) (nI ud) (nI nu) sd (nI qn) (nI qw) qo (nI qb) (nI qp) qa (nI qi) (nI oc))), (g 20, .inl (cI, 4, .inl (l4 (nI l0) (nI l1) (nI dm) (nI l3)))), (g 31, .inl (cI, 120, .inl nw)), (g 38, .inl (cI, 90, .inl ws_)), (g 53, .inl (cI, 32, .inl rw_)), (g 37, .inl (cZ, 900, .inl yo)), (g 36, .inl (cZ, 900, .inl yw)), (g 43, .inl (cJ, 90, .inr (.inl zb))), (g 44, .inl (cJ, 90, .inr (.inl f_17)))]) hx hb hK hP hD hS 8 1 rfl rfl (vin (10 * i + jm) 90 (by omega) (by omega)) (fun _ => rfl) dX12_laysWays_219 (fun f_17 H locs hP hD hS => ?_)
                            refine lv_iload_n hx hb dX12_laysWays_220 rfl (lv_at hl 3 rfl) ?_
                            refine lv_iload_n hx hb dX12_laysWays_221 rfl (lv_at hl 4 rfl) ?_
                            refine lv_icmp_ne (tgt := 236) hx hb dX12_laysWays_222 (by decide) (fun c_18 => ?_) (fun c_18 => ?_)
                            · have c_18 : ¬ (((i : Nat) : Int) = ((dm : Nat) : Int) - 1) := fun h => c_18 ((ieq (ivn i (by omega)) (ivp dm (by omega))).mpr h)
                              refine lv_iinc (v := nI (jm + 1)) (lv' := [(3, .int (nI (jm + 1))), (6, .int (nI kk)), (4, .long xn), (2, .int (nI i)), (1, .int (nI dm - 1)), (0, .ref mm)]) hx hb dX12_laysWays_236 hl (k := 2) rfl (ninc jm 1 (by decide)) (by decide) rfl (fun ls hl => ?_)
                              refine lv_goto (tgt := 125) hx hb dX12_laysWays_239 (by decide) ?_
                              exact ih_lp_10 (jm + 1) zyb f_17 _ _ _ (by omega) (by omega) hP hD hS (lv_sub hl [0, 3, 4, 5] rfl)
                            · have c_18 : ((i : Nat) : Int) = ((dm : Nat) : Int) - 1 := (ieq (ivn i (by omega)) (ivp dm (by omega))).mp c_18
                              refine lv_aload_n hx hb dX12_laysWays_225 rfl (lv_at hl 5 rfl) ?_
                              refine lv_dup hx hb dX12_laysWays_226 rfl ?_
                              refine sk_get (v := .long zyb) (C := RX12) (T := TX12) (N := 92) hx hb hts inlX12 hown hK hP 0 rfl rfl 45 (by decide) w_5_200 rfl dX12_laysWays_227 ?_
                              refine lv_lload hx hb dX12_laysWays_230 (lv_at hl 1 rfl) ?_
                              refine lv_ladd hx hb dX12_laysWays_232 ?_
                              refine lv_topl (fun v_19 ev_19 => ?_)
                              refine sk_put (ws' := [(mm, .inr (12, mo g (nI ta) (nI pa) (nI pe) pd (nI pb) pp pf pg pn rt rn (nI cd) sn (nI il) tk am at_ aa mt_ (nI bh) wd wt v_19 (nI it_) (nI rm) (nI ud) (nI nu) sd (nI qn) (nI qw) qo (nI qb) (nI qp) qa (nI qi) (nI oc))), (g 20, .inl (cI, 4, .inl (l4 (nI l0) (nI l1) (nI dm) (nI l3)))), (g 31, .inl (cI, 120, .inl nw)), (g 38, .inl (cI, 90, .inl ws_)), (g 53, .inl (cI, 32, .inl rw_)), (g 37, .inl (cZ, 900, .inl yo)), (g 36, .inl (cZ, 900, .inl yw)), (g 43, .inl (cJ, 90, .inr (.inl zb))), (g 44, .inl (cJ, 90, .inr (.inl f_17)))]) (C := RX12) (T := TX12) (N := 92) (v := .long v_19) hx hb hts inlX12 tyX12 tyX12_ok nmX12 hown hK hP hD hS 0 rfl rfl 45 (by decide) w_5_200 rfl rfl rfl (Nat.le_of_ble_eq_true rfl) rfl dX12_laysWays_233 (fun H locs hP hD hS => ?_)
                              refine lv_iinc (v := nI (jm + 1)) (lv' := [(3, .int (nI (jm + 1))), (6, .int (nI kk)), (4, .long xn), (2, .int (nI i)), (1, .int (nI dm - 1)), (0, .ref mm)]) hx hb dX12_laysWays_236 hl (k := 2) rfl (ninc jm 1 (by decide)) (by decide) rfl (fun ls hl => ?_)
                              refine lv_goto (tgt := 125) hx hb dX12_laysWays_239 (by decide) ?_
                              exact ih_lp_10 (jm + 1) v_19 f_17 _ _ _ (by omega) (by omega) hP hD hS (lv_sub hl [0, 3, 4, 5] rfl)
                          · have c_16 : ¬ (10 ≤ kk) := fun h => c_16 ((nle 10 kk (by omega) (by omega)).mpr h)
                            refine lv_iload_n hx hb dX12_laysWays_167 rfl (lv_at hl 3 rfl) ?_
                            refine lv_if_le (tgt := 207) hx hb dX12_laysWays_168 (by decide) (fun c_20 => ?_) (fun c_20 => ?_)
                            · have c_20 : i ≤ 0 := (nle i 0 (by omega) (by omega)).mp c_20
                              refine lv_aload_n hx hb dX12_laysWays_207 rfl (lv_at hl 5 rfl) ?_
                              refine sk_get (v := .ref (g 44)) (C := RX12) (T := TX12) (N := 92) hx hb hts inlX12 hown hK hP 0 rfl rfl 44 (by decide) w_5_199 rfl dX12_laysWays_208 ?_
                              refine lv_bipush (v := 10) hx hb dX12_laysWays_211 (by decide) ?_
                              refine lv_iload_n hx hb dX12_laysWays_213 rfl (lv_at hl 3 rfl) ?_
                              refine lv_imul hx hb dX12_laysWays_214 ?_
                              refine sk_top (nI (10 * i)) (nmul 10 i) ?_
                              refine lv_iload_n hx hb dX12_laysWays_215 rfl (lv_at hl 2 rfl) ?_
                              refine lv_iadd hx hb dX12_laysWays_216 ?_
                              refine sk_top (nI (10 * i + jm)) (nI_add (10 * i) jm) ?_
                              refine lv_lload hx hb dX12_laysWays_217 (lv_at hl 1 rfl) ?_
                              refine sk_lastO (ws' := fun f_21 => [(mm, .inr (12, mo g (nI ta) (nI pa) (nI pe) pd (nI pb) pp pf pg pn rt rn (nI cd) sn (nI il) tk am at_ aa mt_ (nI bh) wd wt zyb (nI it_) (nI rm) (nI ud) (nI nu) sd (nI qn) (nI qw) qo (nI qb) (nI qp) qa (nI qi) (nI oc))), (g 20, .inl (cI, 4, .inl (l4 (nI l0) (nI l1) (nI dm) (nI l3)))), (g 31, .inl (cI, 120, .inl nw)), (g 38, .inl (cI, 90, .inl ws_)), (g 53, .inl (cI, 32, .inl rw_)), (g 37, .inl (cZ, 900, .inl yo)), (g 36, .inl (cZ, 900, .inl yw)), (g 43, .inl (cJ, 90, .inr (.inl zb))), (g 44, .inl (cJ, 90, .inr (.inl f_21)))]) hx hb hK hP hD hS 8 1 rfl rfl (vin (10 * i + jm) 90 (by omega) (by omega)) (fun _ => rfl) dX12_laysWays_219 (fun f_21 H locs hP hD hS => ?_)
                              refine lv_iload_n hx hb dX12_laysWays_220 rfl (lv_at hl 3 rfl) ?_
                              refine lv_iload_n hx hb dX12_laysWays_221 rfl (lv_at hl 4 rfl) ?_
                              refine lv_icmp_ne (tgt := 236) hx hb dX12_laysWays_222 (by decide) (fun c_22 => ?_) (fun c_22 => ?_)
                              · have c_22 : ¬ (((i : Nat) : Int) = ((dm : Nat) : Int) - 1) := fun h => c_22 ((ieq (ivn i (by omega)) (ivp dm (by omega))).mpr h)
                                refine lv_iinc (v := nI (jm + 1)) (lv' := [(3, .int (nI (jm + 1))), (6, .int (nI kk)), (4, .long xn), (2, .int (nI i)), (1, .int (nI dm - 1)), (0, .ref mm)]) hx hb dX12_laysWays_236 hl (k := 2) rfl (ninc jm 1 (by decide)) (by decide) rfl (fun ls hl => ?_)
                                refine lv_goto (tgt := 125) hx hb dX12_laysWays_239 (by decide) ?_
                                exact ih_lp_10 (jm + 1) zyb f_21 _ _ _ (by omega) (by omega) hP hD hS (lv_sub hl [0, 3, 4, 5] rfl)
                              · have c_22 : ((i : Nat) : Int) = ((dm : Nat) : Int) - 1 := (ieq (ivn i (by omega)) (ivp dm (by omega))).mp c_22
                                refine lv_aload_n hx hb dX12_laysWays_225 rfl (lv_at hl 5 rfl) ?_
                                refine lv_dup hx hb dX12_laysWays_226 rfl ?_
                                refine sk_get (v := .long zyb) (C := RX12) (T := TX12) (N := 92) hx hb hts inlX12 hown hK hP 0 rfl rfl 45 (by decide) w_5_200 rfl dX12_laysWays_227 ?_
                                refine lv_lload hx hb dX12_laysWays_230 (lv_at hl 1 rfl) ?_
                                refine lv_ladd hx hb dX12_laysWays_232 ?_
                                refine lv_topl (fun v_23 ev_23 => ?_)
                                refine sk_put (ws' := [(mm, .inr (12, mo g (nI ta) (nI pa) (nI pe) pd (nI pb) pp pf pg pn rt rn (nI cd) sn (nI il) tk am at_ aa mt_ (nI bh) wd wt v_23 (nI it_) (nI rm) (nI ud) (nI nu) sd (nI qn) (nI qw) qo (nI qb) (nI qp) qa (nI qi) (nI oc))), (g 20, .inl (cI, 4, .inl (l4 (nI l0) (nI l1) (nI dm) (nI l3)))), (g 31, .inl (cI, 120, .inl nw)), (g 38, .inl (cI, 90, .inl ws_)), (g 53, .inl (cI, 32, .inl rw_)), (g 37, .inl (cZ, 900, .inl yo)), (g 36, .inl (cZ, 900, .inl yw)), (g 43, .inl (cJ, 90, .inr (.inl zb))), (g 44, .inl (cJ, 90, .inr (.inl f_21)))]) (C := RX12) (T := TX12) (N := 92) (v := .long v_23) hx hb hts inlX12 tyX12 tyX12_ok nmX12 hown hK hP hD hS 0 rfl rfl 45 (by decide) w_5_200 rfl rfl rfl (Nat.le_of_ble_eq_true rfl) rfl dX12_laysWays_233 (fun H locs hP hD hS => ?_)
                                refine lv_iinc (v := nI (jm + 1)) (lv' := [(3, .int (nI (jm + 1))), (6, .int (nI kk)), (4, .long xn), (2, .int (nI i)), (1, .int (nI dm - 1)), (0, .ref mm)]) hx hb dX12_laysWays_236 hl (k := 2) rfl (ninc jm 1 (by decide)) (by decide) rfl (fun ls hl => ?_)
                                refine lv_goto (tgt := 125) hx hb dX12_laysWays_239 (by decide) ?_
                                exact ih_lp_10 (jm + 1) v_23 f_21 _ _ _ (by omega) (by omega) hP hD hS (lv_sub hl [0, 3, 4, 5] rfl)
                            · have c_20 : ¬ (i ≤ 0) := fun h => c_20 ((nle i 0 (by omega) (by omega)).mpr h)
                              refine lv_aload_n hx hb dX12_laysWays_171 rfl (lv_at hl 5 rfl) ?_
                              refine lv_iload_n hx hb dX12_laysWays_172 rfl (lv_at hl 3 rfl) ?_
                              refine lv_iload hx hb dX12_laysWays_173 (lv_at hl 0 rfl) ?_
                              refine lv_iload_n hx hb dX12_laysWays_175 rfl (lv_at hl 2 rfl) ?_
                              refine sk_Vi (q0 := 0) (n := 3) (rest := []) (wr := fmR om_9_17c _) ⟨hx, hb, hml, hown, hts⟩ hl.1 (c_m_canFollowS l D cI cJ cC cZ cS mm g ta pa pe pd pb pp pf pg pn rt rn cd sn il tk am at_ aa mt_ bh wd wt zyb it_ rm ud nu sd qn qw qo qb qp qa qi oc i kk jm nw ws_ rw_ yo yw (by omega) (by omega) (by omega) (by omega) (by omega) hnw) w_7_201 w_7_203 w_0_85 w_1_14 w_7_204 hd_X12_canFollow_3 ⟨⟨(Nat.le_of_ble_eq_true rfl), (Nat.le_of_ble_eq_true rfl)⟩, (Nat.le_of_ble_eq_true rfl), (Nat.le_of_ble_eq_true rfl)⟩ hK hP hD hS hA (fmT om_9_17c 0) (fmF om_9_17c 0) (fm_C1 rfl rfl) (fm_R rfl rfl) (fm_nT om_9_17c 0) (fm_nF om_9_17c 0) (fm_di om_9_17c 0) rfl rfl rfl rfl (Nat.le_of_ble_eq_true rfl) dX12_laysWays_176 (fun r_25 u H locs hw hP hD hS => ?_)
                              refine exE hw (fun b_24 hw1 => anE hw1 (fun hb1_26 hw2 => anE hw2 (fun er_28 eu_27 => ?_)))
                              clear hw hw1 hw2
                              subst er_28
                              refine o_mgE (ws' := [(mm, .inr (12, mo g (nI ta) (nI pa) (nI pe) pd (nI pb) pp pf pg pn rt rn (nI cd) sn (nI il) tk am at_ aa mt_ (nI bh) wd wt zyb (nI it_) (nI rm) (nI ud) (nI nu) sd (nI qn) (nI qw) qo (nI qb) (nI qp) qa (nI qi) (nI oc))), (g 20, .inl (cI, 4, .inl (l4 (nI l0) (nI l1) (nI dm) (nI l3)))), (g 31, .inl (cI, 120, .inl nw)), (g 38, .inl (cI, 90, .inl ws_)), (g 53, .inl (cI, 32, .inl rw_)), (g 37, .inl (cZ, 900, .inl yo)), (g 36, .inl (cZ, 900, .inl yw)), (g 43, .inl (cJ, 90, .inr (.inl zb))), (g 44, .inl (cJ, 90, .inr (.inl zg)))]) eu_27 hP hD rfl (fun hP hD => ?_)
                              refine lv_if_eq (tgt := 201) hx hb dX12_laysWays_179 (by decide) (fun c_29 => ?_) (fun c_29 => ?_)
                              · have c_29 : b_24 = 0 := (neq b_24 0 (by omega) (by omega)).mp c_29
                                refine lv_iinc (v := nI (kk + 1)) (lv' := [(6, .int (nI (kk + 1))), (4, .long xn), (3, .int (nI jm)), (2, .int (nI i)), (1, .int (nI dm - 1)), (0, .ref mm)]) hx hb dX12_laysWays_201 hl (k := 0) rfl (ninc kk 1 (by decide)) (by decide) rfl (fun ls hl => ?_)
                                refine lv_goto (tgt := 160) hx hb dX12_laysWays_204 (by decide) ?_
                                exact ih_lp_14 (kk + 1) xn _ _ _ (by omega) (by omega) hP hD hS (lv_sub hl [0, 1, 2, 3, 4, 5] rfl)
                              · have c_29 : ¬ (b_24 = 0) := fun h => c_29 ((neq b_24 0 (by omega) (by omega)).mpr h)
                                refine lv_lload hx hb dX12_laysWays_182 (lv_at hl 1 rfl) ?_
                                refine lv_aload_n hx hb dX12_laysWays_184 rfl (lv_at hl 5 rfl) ?_
                                refine sk_get (v := .ref (g 44)) (C := RX12) (T := TX12) (N := 92) hx hb hts inlX12 hown hK hP 0 rfl rfl 44 (by decide) w_5_199 rfl dX12_laysWays_185 ?_
                                refine lv_bipush (v := 10) hx hb dX12_laysWays_188 (by decide) ?_
                                refine lv_iload_n hx hb dX12_laysWays_190 rfl (lv_at hl 3 rfl) ?_
                                refine lv_iconst (v := 1) hx hb dX12_laysWays_191 (by decide) ?_
                                refine lv_isub hx hb dX12_laysWays_192 ?_
                                refine sk_top (nI (i - 1)) (nsub i 1 (by omega)) ?_
                                refine lv_imul hx hb dX12_laysWays_193 ?_
                                refine sk_top (nI (10 * (i - 1))) (nmul 10 (i - 1)) ?_
                                refine lv_iload hx hb dX12_laysWays_194 (lv_at hl 0 rfl) ?_
                                refine lv_iadd hx hb dX12_laysWays_196 ?_
                                refine sk_top (nI (10 * (i - 1) + kk)) (nI_add (10 * (i - 1)) kk) ?_
                                refine va_lald hx hb hK.1 hP 8 1 rfl rfl (vin (10 * (i - 1) + kk) 90 (by omega) (by omega)) dX12_laysWays_197 ?_
                                refine lv_topl (fun v_30 ev_30 => ?_)
                                refine lv_ladd hx hb dX12_laysWays_198 ?_
                                refine lv_topl (fun v_31 ev_31 => ?_)
                                refine lv_lstore (lv' := [(4, .long v_31), (6, .int (nI kk)), (3, .int (nI jm)), (2, .int (nI i)), (1, .int (nI dm - 1)), (0, .ref mm)]) hx hb dX12_laysWays_199 hl (by decide) rfl (fun ls hl => ?_)
                                refine lv_iinc (v := nI (kk + 1)) (lv' := [(6, .int (nI (kk + 1))), (4, .long v_31), (3, .int (nI jm)), (2, .int (nI i)), (1, .int (nI dm - 1)), (0, .ref mm)]) hx hb dX12_laysWays_201 hl (k := 1) rfl (ninc kk 1 (by decide)) (by decide) rfl (fun ls hl => ?_)
                                refine lv_goto (tgt := 160) hx hb dX12_laysWays_204 (by decide) ?_
                                exact ih_lp_14 (kk + 1) v_31 _ _ _ (by omega) (by omega) hP hD hS (lv_sub hl [0, 1, 2, 3, 4, 5] rfl)
                      exact lp_14 (10 - 0 + 1) 0 0 _ _ _ (Nat.lt_succ_self _) (by omega) hP hD hS (lv_sub hl [0, 1, 2, 3, 4, 5] rfl)
                    · have c_13 : i = 0 := (neq i 0 (by omega) (by omega)).mp c_13
                      refine lv_aload_n hx hb dX12_laysWays_135 rfl (lv_at hl 3 rfl) ?_
                      refine lv_iconst (v := 0) hx hb dX12_laysWays_136 (by decide) ?_
                      refine lv_aload_n hx hb dX12_laysWays_137 rfl (lv_at hl 3 rfl) ?_
                      refine sk_get (v := .ref (g 31)) (C := RX12) (T := TX12) (N := 92) hx hb hts inlX12 hown hK hP 0 rfl rfl 31 (by decide) w_5_186 rfl dX12_laysWays_138 ?_
                      refine lv_iconst (v := 1) hx hb dX12_laysWays_141 (by decide) ?_
                      refine va_iald hx hb hK.1 hP 2 0 rfl rfl (by unfold vp_in; decide) dX12_laysWays_142 ?_
                      obtain ⟨k_32, hk_32, ek_32⟩ := nowOk_1 hnw
                      refine sk_top (nI k_32) ek_32 ?_
                      refine lv_iload_n hx hb dX12_laysWays_143 rfl (lv_at hl 0 rfl) ?_
                      refine sk_Vi (q0 := 0) (n := 3) (rest := []) (wr := fmR om_9_17c _) ⟨hx, hb, hml, hown, hts⟩ hl.1 (c_m_canFollowS l D cI cJ cC cZ cS mm g ta pa pe pd pb pp pf pg pn rt rn cd sn il tk am at_ aa mt_ bh wd wt zyb it_ rm ud nu sd qn qw qo qb qp qa qi oc 0 k_32 jm nw ws_ rw_ yo yw (by omega) (by omega) (by omega) (by omega) (by omega) hnw) w_7_201 w_7_203 w_0_85 w_1_14 w_7_204 hd_X12_canFollow_3 ⟨⟨(Nat.le_of_ble_eq_true rfl), (Nat.le_of_ble_eq_true rfl)⟩, (Nat.le_of_ble_eq_true rfl), (Nat.le_of_ble_eq_true rfl)⟩ hK hP hD hS hA (fmT om_9_17c 0) (fmF om_9_17c 0) (fm_C1 rfl rfl) (fm_R rfl rfl) (fm_nT om_9_17c 0) (fm_nF om_9_17c 0) (fm_di om_9_17c 0) rfl rfl rfl rfl (Nat.le_of_ble_eq_true rfl) dX12_laysWays_144 (fun r_34 u H locs hw hP hD hS => ?_)
                      refine exE hw (fun b_33 hw1 => anE hw1 (fun hb1_35 hw2 => anE hw2 (fun er_37 eu_36 => ?_)))
                      clear hw hw1 hw2
                      subst er_37
                      refine o_mgE (ws' := [(mm, .inr (12, mo g (nI ta) (nI pa) (nI pe) pd (nI pb) pp pf pg pn rt rn (nI cd) sn (nI il) tk am at_ aa mt_ (nI bh) wd wt zyb (nI it_) (nI rm) (nI ud) (nI nu) sd (nI qn) (nI qw) qo (nI qb) (nI qp) qa (nI qi) (nI oc))), (g 20, .inl (cI, 4, .inl (l4 (nI l0) (nI l1) (nI dm) (nI l3)))), (g 31, .inl (cI, 120, .inl nw)), (g 38, .inl (cI, 90, .inl ws_)), (g 53, .inl (cI, 32, .inl rw_)), (g 37, .inl (cZ, 900, .inl yo)), (g 36, .inl (cZ, 900, .inl yw)), (g 43, .inl (cJ, 90, .inr (.inl zb))), (g 44, .inl (cJ, 90, .inr (.inl zg)))]) eu_36 hP hD rfl (fun hP hD => ?_)
                      refine lv_if_eq (tgt := 154) hx hb dX12_laysWays_147 (by decide) (fun c_38 => ?_) (fun c_38 => ?_)
                      · have c_38 : b_33 = 0 := (neq b_33 0 (by omega) (by omega)).mp c_38
                        refine lv_lconst (v := 0) hx hb dX12_laysWays_154 (by decide) ?_
                        refine lv_lstore (lv' := [(4, .long 0), (3, .int (nI jm)), (2, .int (nI i)), (1, .int (nI dm - 1)), (0, .ref mm)]) hx hb dX12_laysWays_155 hl (by decide) rfl (fun ls hl => ?_)
                        refine lv_iconst (v := 0) hx hb dX12_laysWays_157 (by decide) ?_
                        refine lv_istore (lv' := [(6, .int 0), (4, .long 0), (3, .int (nI jm)), (2, .int (nI i)), (1, .int (nI dm - 1)), (0, .ref mm)]) hx hb dX12_laysWays_158 hl (by decide) rfl (fun ls hl => ?_)
                        have lp_39 : ∀ (n_40 : Nat) (kk : Nat) (xn : Int64) (H : Heap) (locs : List Loc) (ls : Array Slot), 10 - kk < n_40 → (kk ≤ 10) → va_P D vwCl [(mm, .inr (12, mo g (nI ta) (nI pa) (nI pe) pd (nI pb) pp pf pg pn rt rn (nI cd) sn (nI il) tk am at_ aa mt_ (nI bh) wd wt zyb (nI it_) (nI rm) (nI ud) (nI nu) sd (nI qn) (nI qw) qo (nI qb) (nI qp) qa (nI qi) (nI oc))), (g 20, .inl (cI, 4, .inl (l4 (nI l0) (nI l1) (nI dm) (nI l3)))), (g 31, .inl (cI, 120, .inl nw)), (g 38, .inl (cI, 90, .inl ws_)), (g 53, .inl (cI, 32, .inl rw_)), (g 37, .inl (cZ, 900, .inl yo)), (g 36, .inl (cZ, 900, .inl yw)), (g 43, .inl (cJ, 90, .inr (.inl zb))), (g 44, .inl (cJ, 90, .inr (.inl zg)))] H → va_D A [(mm, .inr (12, mo g (nI ta) (nI pa) (nI pe) pd (nI pb) pp pf pg pn rt rn (nI cd) sn (nI il) tk am at_ aa mt_ (nI bh) wd wt zyb (nI it_) (nI rm) (nI ud) (nI nu) sd (nI qn) (nI qw) qo (nI qb) (nI qp) qa (nI qi) (nI oc))), (g 20, .inl (cI, 4, .inl (l4 (nI l0) (nI l1) (nI dm) (nI l3)))), (g 31, .inl (cI, 120, .inl nw)), (g 38, .inl (cI, 90, .inl ws_)), (g 53, .inl (cI, 32, .inl rw_)), (g 37, .inl (cZ, 900, .inl yo)), (g 36, .inl (cZ, 900, .inl yw)), (g 43, .inl (cJ, 90, .inr (.inl zb))), (g 44, .inl (cJ, 90, .inr (.inl zg)))] → va_S A s.heap H locs → lv_has ls 7 [(6, .int (nI kk)), (4, .long xn), (3, .int (nI jm)), (2, .int (nI i)), (1, .int (nI dm - 1)), (0, .ref mm)] → W p l e { frames := 3, cells := 0, slots := 0, locals := 68 } s m ([.ref mm] : List Value).toArray below meth c H locs 0 0 (MQ below (skV D (skT cI cJ cC cZ cS) (fun (u : va_W) => ∃ (wy2 : Int64), ∃ (be2 : Nat → Int64), ∃ (bf2 : Nat → Int64), u = [(mm, .inr (12, mo g (nI ta) (nI pa) (nI pe) pd (nI pb) pp pf pg pn rt rn (nI cd) sn (nI il) tk am at_ aa mt_ (nI bh) wd wt wy2 (nI it_) (nI rm) (nI ud) (nI nu) sd (nI qn) (nI qw) qo (nI qb) (nI qp) qa (nI qi) (nI oc))), (g 20, .inl (cI, 4, .inl (l4 (nI l0) (nI l1) (nI dm) (nI l3)))), (g 31, .inl (cI, 120, .inl nw)), (g 38, .inl (cI, 90, .inl ws_)), (g 53, .inl (cI, 32, .inl rw_)), (g 37, .inl (cZ, 900, .inl yo)), (g 36, .inl (cZ, 900, .inl yw)), (g 43, .inl (cJ, 90, .inr (.inl be2))), (g 44, .inl (cJ, 90, .inr (.inl bf2)))]) A) ([.ref mm] : List Value).toArray s 0 0 A) (F0 m 160 ls []) := by
                          intro n_40
                          induction n_40 with
                          | zero => intro kk xn H locs ls hm; exact absurd hm (Nat.not_lt_zero _)
                          | succ n_40 ih_lp_39 =>
                            intro kk xn H locs ls hm hkk hP hD hS hl
                            refine lv_iload hx hb dX12_laysWays_160 (lv_at hl 0 rfl) ?_
                            refine lv_bipush (v := 10) hx hb dX12_laysWays_162 (by decide) ?_
                            refine lv_icmp_ge (tgt := 207) hx hb dX12_laysWays_164 (by decide) (fun c_41 => ?_) (fun c_41 => ?_)
                            · have c_41 : 10 ≤ kk := (nle 10 kk (by omega) (by omega)).mp c_41
                              refine lv_aload_n hx hb dX12_laysWays_207 rfl (lv_at hl 5 rfl) ?_
                              refine sk_get (v := .ref (g 44)) (C := RX12) (T := TX12) (N := 92) hx hb hts inlX12 hown hK hP 0 rfl rfl 44 (by decide) w_5_199 rfl dX12_laysWays_208 ?_
                              refine lv_bipush (v := 10) hx hb dX12_laysWays_211 (by decide) ?_
                              refine lv_iload_n hx hb dX12_laysWays_213 rfl (lv_at hl 3 rfl) ?_
                              refine lv_imul hx hb dX12_laysWays_214 ?_
                              refine sk_top (nI (10 * i)) (nmul 10 i) ?_
                              refine lv_iload_n hx hb dX12_laysWays_215 rfl (lv_at hl 2 rfl) ?_
                              refine lv_iadd hx hb dX12_laysWays_216 ?_
                              refine sk_top (nI (10 * i + jm)) (nI_add (10 * i) jm) ?_
                              refine lv_lload hx hb dX12_laysWays_217 (lv_at hl 1 rfl) ?_
                              refine sk_lastO (ws' := fun f_42 => [(mm, .inr (12, mo g (nI ta) (nI pa) (nI pe) pd (nI pb) pp pf pg pn rt rn (nI cd) sn (nI il) tk am at_ aa mt_ (nI bh) wd wt zyb (nI it_) (nI rm) (nI ud) (nI nu) sd (nI qn) (nI qw) qo (nI qb) (nI qp) qa (nI qi) (nI oc))), (g 20, .inl (cI, 4, .inl (l4 (nI l0) (nI l1) (nI dm) (nI l3)))), (g 31, .inl (cI, 120, .inl nw)), (g 38, .inl (cI, 90, .inl ws_)), (g 53, .inl (cI, 32, .inl rw_)), (g 37, .inl (cZ, 900, .inl yo)), (g 36, .inl (cZ, 900, .inl yw)), (g 43, .inl (cJ, 90, .inr (.inl zb))), (g 44, .inl (cJ, 90, .inr (.inl f_42)))]) hx hb hK hP hD hS 8 1 rfl rfl (vin (10 * i + jm) 90 (by omega) (by omega)) (fun _ => rfl) dX12_laysWays_219 (fun f_42 H locs hP hD hS => ?_)
                              refine lv_iload_n hx hb dX12_laysWays_220 rfl (lv_at hl 3 rfl) ?_
                              refine lv_iload_n hx hb dX12_laysWays_221 rfl (lv_at hl 4 rfl) ?_
                              refine lv_icmp_ne (tgt := 236) hx hb dX12_laysWays_222 (by decide) (fun c_43 => ?_) (fun c_43 => ?_)
                              · have c_43 : ¬ (((i : Nat) : Int) = ((dm : Nat) : Int) - 1) := fun h => c_43 ((ieq (ivn i (by omega)) (ivp dm (by omega))).mpr h)
                                refine lv_iinc (v := nI (jm + 1)) (lv' := [(3, .int (nI (jm + 1))), (6, .int (nI kk)), (4, .long xn), (2, .int (nI i)), (1, .int (nI dm - 1)), (0, .ref mm)]) hx hb dX12_laysWays_236 hl (k := 2) rfl (ninc jm 1 (by decide)) (by decide) rfl (fun ls hl => ?_)
                                refine lv_goto (tgt := 125) hx hb dX12_laysWays_239 (by decide) ?_
                                exact ih_lp_10 (jm + 1) zyb f_42 _ _ _ (by omega) (by omega) hP hD hS (lv_sub hl [0, 3, 4, 5] rfl)
                              · have c_43 : ((i : Nat) : Int) = ((dm : Nat) : Int) - 1 := (ieq (ivn i (by omega)) (ivp dm (by omega))).mp c_43
                                refine lv_aload_n hx hb dX12_laysWays_225 rfl (lv_at hl 5 rfl) ?_
                                refine lv_dup hx hb dX12_laysWays_226 rfl ?_
                                refine sk_get (v := .long zyb) (C := RX12) (T := TX12) (N := 92) hx hb hts inlX12 hown hK hP 0 rfl rfl 45 (by decide) w_5_200 rfl dX12_laysWays_227 ?_
                                refine lv_lload hx hb dX12_laysWays_230 (lv_at hl 1 rfl) ?_
                                refine lv_ladd hx hb dX12_laysWays_232 ?_
                                refine lv_topl (fun v_44 ev_44 => ?_)
                                refine sk_put (ws' := [(mm, .inr (12, mo g (nI ta) (nI pa) (nI pe) pd (nI pb) pp pf pg pn rt rn (nI cd) sn (nI il) tk am at_ aa mt_ (nI bh) wd wt v_44 (nI it_) (nI rm) (nI ud) (nI nu) sd (nI qn) (nI qw) qo (nI qb) (nI qp) qa (nI qi) (nI oc))), (g 20, .inl (cI, 4, .inl (l4 (nI l0) (nI l1) (nI dm) (nI l3)))), (g 31, .inl (cI, 120, .inl nw)), (g 38, .inl (cI, 90, .inl ws_)), (g 53, .inl (cI, 32, .inl rw_)), (g 37, .inl (cZ, 900, .inl yo)), (g 36, .inl (cZ, 900, .inl yw)), (g 43, .inl (cJ, 90, .inr (.inl zb))), (g 44, .inl (cJ, 90, .inr (.inl f_42)))]) (C := RX12) (T := TX12) (N := 92) (v := .long v_44) hx hb hts inlX12 tyX12 tyX12_ok nmX12 hown hK hP hD hS 0 rfl rfl 45 (by decide) w_5_200 rfl rfl rfl (Nat.le_of_ble_eq_true rfl) rfl dX12_laysWays_233 (fun H locs hP hD hS => ?_)
                                refine lv_iinc (v := nI (jm + 1)) (lv' := [(3, .int (nI (jm + 1))), (6, .int (nI kk)), (4, .long xn), (2, .int (nI i)), (1, .int (nI dm - 1)), (0, .ref mm)]) hx hb dX12_laysWays_236 hl (k := 2) rfl (ninc jm 1 (by decide)) (by decide) rfl (fun ls hl => ?_)
                                refine lv_goto (tgt := 125) hx hb dX12_laysWays_239 (by decide) ?_
                                exact ih_lp_10 (jm + 1) v_44 f_42 _ _ _ (by omega) (by omega) hP hD hS (lv_sub hl [0, 3, 4, 5] rfl)
                            · have c_41 : ¬ (10 ≤ kk) := fun h => c_41 ((nle 10 kk (by omega) (by omega)).mpr h)
                              refine lv_iload_n hx hb dX12_laysWays_167 rfl (lv_at hl 3 rfl) ?_
                              refine lv_if_le (tgt := 207) hx hb dX12_laysWays_168 (by decide) (fun c_45 => ?_) (fun c_45 => ?_)
                              · have c_45 : i ≤ 0 := (nle i 0 (by omega) (by omega)).mp c_45
                                refine lv_aload_n hx hb dX12_laysWays_207 rfl (lv_at hl 5 rfl) ?_
                                refine sk_get (v := .ref (g 44)) (C := RX12) (T := TX12) (N := 92) hx hb hts inlX12 hown hK hP 0 rfl rfl 44 (by decide) w_5_199 rfl dX12_laysWays_208 ?_
                                refine lv_bipush (v := 10) hx hb dX12_laysWays_211 (by decide) ?_
                                refine lv_iload_n hx hb dX12_laysWays_213 rfl (lv_at hl 3 rfl) ?_
                                refine lv_imul hx hb dX12_laysWays_214 ?_
                                refine sk_top (nI (10 * i)) (nmul 10 i) ?_
                                refine lv_iload_n hx hb dX12_laysWays_215 rfl (lv_at hl 2 rfl) ?_
                                refine lv_iadd hx hb dX12_laysWays_216 ?_
                                refine sk_top (nI (10 * i + jm)) (nI_add (10 * i) jm) ?_
                                refine lv_lload hx hb dX12_laysWays_217 (lv_at hl 1 rfl) ?_
                                refine sk_lastO (ws' := fun f_46 => [(mm, .inr (12, mo g (nI ta) (nI pa) (nI pe) pd (nI pb) pp pf pg pn rt rn (nI cd) sn (nI il) tk am at_ aa mt_ (nI bh) wd wt zyb (nI it_) (nI rm) (nI ud) (nI nu) sd (nI qn) (nI qw) qo (nI qb) (nI qp) qa (nI qi) (nI oc))), (g 20, .inl (cI, 4, .inl (l4 (nI l0) (nI l1) (nI dm) (nI l3)))), (g 31, .inl (cI, 120, .inl nw)), (g 38, .inl (cI, 90, .inl ws_)), (g 53, .inl (cI, 32, .inl rw_)), (g 37, .inl (cZ, 900, .inl yo)), (g 36, .inl (cZ, 900, .inl yw)), (g 43, .inl (cJ, 90, .inr (.inl zb))), (g 44, .inl (cJ, 90, .inr (.inl f_46)))]) hx hb hK hP hD hS 8 1 rfl rfl (vin (10 * i + jm) 90 (by omega) (by omega)) (fun _ => rfl) dX12_laysWays_219 (fun f_46 H locs hP hD hS => ?_)
                                refine lv_iload_n hx hb dX12_laysWays_220 rfl (lv_at hl 3 rfl) ?_
                                refine lv_iload_n hx hb dX12_laysWays_221 rfl (lv_at hl 4 rfl) ?_
                                refine lv_icmp_ne (tgt := 236) hx hb dX12_laysWays_222 (by decide) (fun c_47 => ?_) (fun c_47 => ?_)
                                · have c_47 : ¬ (((i : Nat) : Int) = ((dm : Nat) : Int) - 1) := fun h => c_47 ((ieq (ivn i (by omega)) (ivp dm (by omega))).mpr h)
                                  refine lv_iinc (v := nI (jm + 1)) (lv' := [(3, .int (nI (jm + 1))), (6, .int (nI kk)), (4, .long xn), (2, .int (nI i)), (1, .int (nI dm - 1)), (0, .ref mm)]) hx hb dX12_laysWays_236 hl (k := 2) rfl (ninc jm 1 (by decide)) (by decide) rfl (fun ls hl => ?_)
                                  refine lv_goto (tgt := 125) hx hb dX12_laysWays_239 (by decide) ?_
                                  exact ih_lp_10 (jm + 1) zyb f_46 _ _ _ (by omega) (by omega) hP hD hS (lv_sub hl [0, 3, 4, 5] rfl)
                                · have c_47 : ((i : Nat) : Int) = ((dm : Nat) : Int) - 1 := (ieq (ivn i (by omega)) (ivp dm (by omega))).mp c_47
                                  refine lv_aload_n hx hb dX12_laysWays_225 rfl (lv_at hl 5 rfl) ?_
                                  refine lv_dup hx hb dX12_laysWays_226 rfl ?_
                                  refine sk_get (v := .long zyb) (C := RX12) (T := TX12) (N := 92) hx hb hts inlX12 hown hK hP 0 rfl rfl 45 (by decide) w_5_200 rfl dX12_laysWays_227 ?_
                                  refine lv_lload hx hb dX12_laysWays_230 (lv_at hl 1 rfl) ?_
                                  refine lv_ladd hx hb dX12_laysWays_232 ?_
                                  refine lv_topl (fun v_48 ev_48 => ?_)
                                  refine sk_put (ws' := [(mm, .inr (12, mo g (nI ta) (nI pa) (nI pe) pd (nI pb) pp pf pg pn rt rn (nI cd) sn (nI il) tk am at_ aa mt_ (nI bh) wd wt v_48 (nI it_) (nI rm) (nI ud) (nI nu) sd (nI qn) (nI qw) qo (nI qb) (nI qp) qa (nI qi) (nI oc))), (g 20, .inl (cI, 4, .inl (l4 (nI l0) (nI l1) (nI dm) (nI l3)))), (g 31, .inl (cI, 120, .inl nw)), (g 38, .inl (cI, 90, .inl ws_)), (g 53, .inl (cI, 32, .inl rw_)), (g 37, .inl (cZ, 900, .inl yo)), (g 36, .inl (cZ, 900, .inl yw)), (g 43, .inl (cJ, 90, .inr (.inl zb))), (g 44, .inl (cJ, 90, .inr (.inl f_46)))]) (C := RX12) (T := TX12) (N := 92) (v := .long v_48) hx hb hts inlX12 tyX12 tyX12_ok nmX12 hown hK hP hD hS 0 rfl rfl 45 (by decide) w_5_200 rfl rfl rfl (Nat.le_of_ble_eq_true rfl) rfl dX12_laysWays_233 (fun H locs hP hD hS => ?_)
                                  refine lv_iinc (v := nI (jm + 1)) (lv' := [(3, .int (nI (jm + 1))), (6, .int (nI kk)), (4, .long xn), (2, .int (nI i)), (1, .int (nI dm - 1)), (0, .ref mm)]) hx hb dX12_laysWays_236 hl (k := 2) rfl (ninc jm 1 (by decide)) (by decide) rfl (fun ls hl => ?_)
                                  refine lv_goto (tgt := 125) hx hb dX12_laysWays_239 (by decide) ?_
                                  exact ih_lp_10 (jm + 1) v_48 f_46 _ _ _ (by omega) (by omega) hP hD hS (lv_sub hl [0, 3, 4, 5] rfl)
                              · have c_45 : ¬ (i ≤ 0) := fun h => c_45 ((nle i 0 (by omega) (by omega)).mpr h)
                                refine lv_aload_n hx hb dX12_laysWays_171 rfl (lv_at hl 5 rfl) ?_
                                refine lv_iload_n hx hb dX12_laysWays_172 rfl (lv_at hl 3 rfl) ?_
                                refine lv_iload hx hb dX12_laysWays_173 (lv_at hl 0 rfl) ?_
                                refine lv_iload_n hx hb dX12_laysWays_175 rfl (lv_at hl 2 rfl) ?_
                                refine sk_Vi (q0 := 0) (n := 3) (rest := []) (wr := fmR om_9_17c _) ⟨hx, hb, hml, hown, hts⟩ hl.1 (c_m_canFollowS l D cI cJ cC cZ cS mm g ta pa pe pd pb pp pf pg pn rt rn cd sn il tk am at_ aa mt_ bh wd wt zyb it_ rm ud nu sd qn qw qo qb qp qa qi oc i kk jm nw ws_ rw_ yo yw (by omega) (by omega) (by omega) (by omega) (by omega) hnw) w_7_201 w_7_203 w_0_85 w_1_14 w_7_204 hd_X12_canFollow_3 ⟨⟨(Nat.le_of_ble_eq_true rfl), (Nat.le_of_ble_eq_true rfl)⟩, (Nat.le_of_ble_eq_true rfl), (Nat.le_of_ble_eq_true rfl)⟩ hK hP hD hS hA (fmT om_9_17c 0) (fmF om_9_17c 0) (fm_C1 rfl rfl) (fm_R rfl rfl) (fm_nT om_9_17c 0) (fm_nF om_9_17c 0) (fm_di om_9_17c 0) rfl rfl rfl rfl (Nat.le_of_ble_eq_true rfl) dX12_laysWays_176 (fun r_50 u H locs hw hP hD hS => ?_)
                                refine exE hw (fun b_49 hw1 => anE hw1 (fun hb1_51 hw2 => anE hw2 (fun er_53 eu_52 => ?_)))
                                clear hw hw1 hw2
                                subst er_53
                                refine o_mgE (ws' := [(mm, .inr (12, mo g (nI ta) (nI pa) (nI pe) pd (nI pb) pp pf pg pn rt rn (nI cd) sn (nI il) tk am at_ aa mt_ (nI bh) wd wt zyb (nI it_) (nI rm) (nI ud) (nI nu) sd (nI qn) (nI qw) qo (nI qb) (nI qp) qa (nI qi) (nI oc))), (g 20, .inl (cI, 4, .inl (l4 (nI l0) (nI l1) (nI dm) (nI l3)))), (g 31, .inl (cI, 120, .inl nw)), (g 38, .inl (cI, 90, .inl ws_)), (g 53, .inl (cI, 32, .inl rw_)), (g 37, .inl (cZ, 900, .inl yo)), (g 36, .inl (cZ, 900, .inl yw)), (g 43, .inl (cJ, 90, .inr (.inl zb))), (g 44, .inl (cJ, 90, .inr (.inl zg)))]) eu_52 hP hD rfl (fun hP hD => ?_)
                                refine lv_if_eq (tgt := 201) hx hb dX12_laysWays_179 (by decide) (fun c_54 => ?_) (fun c_54 => ?_)
                                · have c_54 : b_49 = 0 := (neq b_49 0 (by omega) (by omega)).mp c_54
                                  refine lv_iinc (v := nI (kk + 1)) (lv' := [(6, .int (nI (kk + 1))), (4, .long xn), (3, .int (nI jm)), (2, .int (nI i)), (1, .int (nI dm - 1)), (0, .ref mm)]) hx hb dX12_laysWays_201 hl (k := 0) rfl (ninc kk 1 (by decide)) (by decide) rfl (fun ls hl => ?_)
                                  refine lv_goto (tgt := 160) hx hb dX12_laysWays_204 (by decide) ?_
                                  exact ih_lp_39 (kk + 1) xn _ _ _ (by omega) (by omega) hP hD hS (lv_sub hl [0, 1, 2, 3, 4, 5] rfl)
                                · have c_54 : ¬ (b_49 = 0) := fun h => c_54 ((neq b_49 0 (by omega) (by omega)).mpr h)
                                  refine lv_lload hx hb dX12_laysWays_182 (lv_at hl 1 rfl) ?_
                                  refine lv_aload_n hx hb dX12_laysWays_184 rfl (lv_at hl 5 rfl) ?_
                                  refine sk_get (v := .ref (g 44)) (C := RX12) (T := TX12) (N := 92) hx hb hts inlX12 hown hK hP 0 rfl rfl 44 (by decide) w_5_199 rfl dX12_laysWays_185 ?_
                                  refine lv_bipush (v := 10) hx hb dX12_laysWays_188 (by decide) ?_
                                  refine lv_iload_n hx hb dX12_laysWays_190 rfl (lv_at hl 3 rfl) ?_
                                  refine lv_iconst (v := 1) hx hb dX12_laysWays_191 (by decide) ?_
                                  refine lv_isub hx hb dX12_laysWays_192 ?_
                                  refine sk_top (nI (i - 1)) (nsub i 1 (by omega)) ?_
                                  refine lv_imul hx hb dX12_laysWays_193 ?_
                                  refine sk_top (nI (10 * (i - 1))) (nmul 10 (i - 1)) ?_
                                  refine lv_iload hx hb dX12_laysWays_194 (lv_at hl 0 rfl) ?_
                                  refine lv_iadd hx hb dX12_laysWays_196 ?_
                                  refine sk_top (nI (10 * (i - 1) + kk)) (nI_add (10 * (i - 1)) kk) ?_
                                  refine va_lald hx hb hK.1 hP 8 1 rfl rfl (vin (10 * (i - 1) + kk) 90 (by omega) (by omega)) dX12_laysWays_197 ?_
                                  refine lv_topl (fun v_55 ev_55 => ?_)
                                  refine lv_ladd hx hb dX12_laysWays_198 ?_
                                  refine lv_topl (fun v_56 ev_56 => ?_)
                                  refine lv_lstore (lv' := [(4, .long v_56), (6, .int (nI kk)), (3, .int (nI jm)), (2, .int (nI i)), (1, .int (nI dm - 1)), (0, .ref mm)]) hx hb dX12_laysWays_199 hl (by decide) rfl (fun ls hl => ?_)
                                  refine lv_iinc (v := nI (kk + 1)) (lv' := [(6, .int (nI (kk + 1))), (4, .long v_56), (3, .int (nI jm)), (2, .int (nI i)), (1, .int (nI dm - 1)), (0, .ref mm)]) hx hb dX12_laysWays_201 hl (k := 1) rfl (ninc kk 1 (by decide)) (by decide) rfl (fun ls hl => ?_)
                                  refine lv_goto (tgt := 160) hx hb dX12_laysWays_204 (by decide) ?_
                                  exact ih_lp_39 (kk + 1) v_56 _ _ _ (by omega) (by omega) hP hD hS (lv_sub hl [0, 1, 2, 3, 4, 5] rfl)
                        exact lp_39 (10 - 0 + 1) 0 0 _ _ _ (Nat.lt_succ_self _) (by omega) hP hD hS (lv_sub hl [0, 1, 2, 3, 4, 5] rfl)
                      · have c_38 : ¬ (b_33 = 0) := fun h => c_38 ((neq b_33 0 (by omega) (by omega)).mpr h)
                        refine lv_lconst (v := 1) hx hb dX12_laysWays_150 (by decide) ?_
                        refine lv_goto (tgt := 155) hx hb dX12_laysWays_151 (by decide) ?_
                        refine lv_lstore (lv' := [(4, .long 1), (3, .int (nI jm)), (2, .int (nI i)), (1, .int (nI dm - 1)), (0, .ref mm)]) hx hb dX12_laysWays_155 hl (by decide) rfl (fun ls hl => ?_)
                        refine lv_iconst (v := 0) hx hb dX12_laysWays_157 (by decide) ?_
                        refine lv_istore (lv' := [(6, .int 0), (4, .long 1), (3, .int (nI jm)), (2, .int (nI i)), (1, .int (nI dm - 1)), (0, .ref mm)]) hx hb dX12_laysWays_158 hl (by decide) rfl (fun ls hl => ?_)
                        have lp_57 : ∀ (n_58 : Nat) (kk : Nat) (xn : Int64) (H : Heap) (locs : List Loc) (ls : Array Slot), 10 - kk < n_58 → (kk ≤ 10) → va_P D vwCl [(mm, .inr (12, mo g (nI ta) (nI pa) (nI pe) pd (nI pb) pp pf pg pn rt rn (nI cd) sn (nI il) tk am at_ aa mt_ (nI bh) wd wt zyb (nI it_) (nI rm) (nI ud) (nI nu) sd (nI qn) (nI qw) qo (nI qb) (nI qp) qa (nI qi) (nI oc))), (g 20, .inl (cI, 4, .inl (l4 (nI l0) (nI l1) (nI dm) (nI l3)))), (g 31, .inl (cI, 120, .inl nw)), (g 38, .inl (cI, 90, .inl ws_)), (g 53, .inl (cI, 32, .inl rw_)), (g 37, .inl (cZ, 900, .inl yo)), (g 36, .inl (cZ, 900, .inl yw)), (g 43, .inl (cJ, 90, .inr (.inl zb))), (g 44, .inl (cJ, 90, .inr (.inl zg)))] H → va_D A [(mm, .inr (12, mo g (nI ta) (nI pa) (nI pe) pd (nI pb) pp pf pg pn rt rn (nI cd) sn (nI il) tk am at_ aa mt_ (nI bh) wd wt zyb (nI it_) (nI rm) (nI ud) (nI nu) sd (nI qn) (nI qw) qo (nI qb) (nI qp) qa (nI qi) (nI oc))), (g 20, .inl (cI, 4, .inl (l4 (nI l0) (nI l1) (nI dm) (nI l3)))), (g 31, .inl (cI, 120, .inl nw)), (g 38, .inl (cI, 90, .inl ws_)), (g 53, .inl (cI, 32, .inl rw_)), (g 37, .inl (cZ, 900, .inl yo)), (g 36, .inl (cZ, 900, .inl yw)), (g 43, .inl (cJ, 90, .inr (.inl zb))), (g 44, .inl (cJ, 90, .inr (.inl zg)))] → va_S A s.heap H locs → lv_has ls 7 [(6, .int (nI kk)), (4, .long xn), (3, .int (nI jm)), (2, .int (nI i)), (1, .int (nI dm - 1)), (0, .ref mm)] → W p l e { frames := 3, cells := 0, slots := 0, locals := 68 } s m ([.ref mm] : List Value).toArray below meth c H locs 0 0 (MQ below (skV D (skT cI cJ cC cZ cS) (fun (u : va_W) => ∃ (wy2 : Int64), ∃ (be2 : Nat → Int64), ∃ (bf2 : Nat → Int64), u = [(mm, .inr (12, mo g (nI ta) (nI pa) (nI pe) pd (nI pb) pp pf pg pn rt rn (nI cd) sn (nI il) tk am at_ aa mt_ (nI bh) wd wt wy2 (nI it_) (nI rm) (nI ud) (nI nu) sd (nI qn) (nI qw) qo (nI qb) (nI qp) qa (nI qi) (nI oc))), (g 20, .inl (cI, 4, .inl (l4 (nI l0) (nI l1) (nI dm) (nI l3)))), (g 31, .inl (cI, 120, .inl nw)), (g 38, .inl (cI, 90, .inl ws_)), (g 53, .inl (cI, 32, .inl rw_)), (g 37, .inl (cZ, 900, .inl yo)), (g 36, .inl (cZ, 900, .inl yw)), (g 43, .inl (cJ, 90, .inr (.inl be2))), (g 44, .inl (cJ, 90, .inr (.inl bf2)))]) A) ([.ref mm] : List Value).toArray s 0 0 A) (F0 m 160 ls []) := by
                          intro n_58
                          induction n_58 with
                          | zero => intro kk xn H locs ls hm; exact absurd hm (Nat.not_lt_zero _)
                          | succ n_58 ih_lp_57 =>
                            intro kk xn H locs ls hm hkk hP hD hS hl
                            refine lv_iload hx hb dX12_laysWays_160 (lv_at hl 0 rfl) ?_
                            refine lv_bipush (v := 10) hx hb dX12_laysWays_162 (by decide) ?_
                            refine lv_icmp_ge (tgt := 207) hx hb dX12_laysWays_164 (by decide) (fun c_59 => ?_) (fun c_59 => ?_)
                            · have c_59 : 10 ≤ kk := (nle 10 kk (by omega) (by omega)).mp c_59
                              refine lv_aload_n hx hb dX12_laysWays_207 rfl (lv_at hl 5 rfl) ?_
                              refine sk_get (v := .ref (g 44)) (C := RX12) (T := TX12) (N := 92) hx hb hts inlX12 hown hK hP 0 rfl rfl 44 (by decide) w_5_199 rfl dX12_laysWays_208 ?_
                              refine lv_bipush (v := 10) hx hb dX12_laysWays_211 (by decide) ?_
                              refine lv_iload_n hx hb dX12_laysWays_213 rfl (lv_at hl 3 rfl) ?_
                              refine lv_imul hx hb dX12_laysWays_214 ?_
                              refine sk_top (nI (10 * i)) (nmul 10 i) ?_
                              refine lv_iload_n hx hb dX12_laysWays_215 rfl (lv_at hl 2 rfl) ?_
                              refine lv_iadd hx hb dX12_laysWays_216 ?_
                              refine sk_top (nI (10 * i + jm)) (nI_add (10 * i) jm) ?_
                              refine lv_lload hx hb dX12_laysWays_217 (lv_at hl 1 rfl) ?_
                              refine sk_lastO (ws' := fun f_60 => [(mm, .inr (12, mo g (nI ta) (nI pa) (nI pe) pd (nI pb) pp pf pg pn rt rn (nI cd) sn (nI il) tk am at_ aa mt_ (nI bh) wd wt zyb (nI it_) (nI rm) (nI ud) (nI nu) sd (nI qn) (nI qw) qo (nI qb) (nI qp) qa (nI qi) (nI oc))), (g 20, .inl (cI, 4, .inl (l4 (nI l0) (nI l1) (nI dm) (nI l3)))), (g 31, .inl (cI, 120, .inl nw)), (g 38, .inl (cI, 90, .inl ws_)), (g 53, .inl (cI, 32, .inl rw_)), (g 37, .inl (cZ, 900, .inl yo)), (g 36, .inl (cZ, 900, .inl yw)), (g 43, .inl (cJ, 90, .inr (.inl zb))), (g 44, .inl (cJ, 90, .inr (.inl f_60)))]) hx hb hK hP hD hS 8 1 rfl rfl (vin (10 * i + jm) 90 (by omega) (by omega)) (fun _ => rfl) dX12_laysWays_219 (fun f_60 H locs hP hD hS => ?_)
                              refine lv_iload_n hx hb dX12_laysWays_220 rfl (lv_at hl 3 rfl) ?_
                              refine lv_iload_n hx hb dX12_laysWays_221 rfl (lv_at hl 4 rfl) ?_
                              refine lv_icmp_ne (tgt := 236) hx hb dX12_laysWays_222 (by decide) (fun c_61 => ?_) (fun c_61 => ?_)
                              · have c_61 : ¬ (((i : Nat) : Int) = ((dm : Nat) : Int) - 1) := fun h => c_61 ((ieq (ivn i (by omega)) (ivp dm (by omega))).mpr h)
                                refine lv_iinc (v := nI (jm + 1)) (lv' := [(3, .int (nI (jm + 1))), (6, .int (nI kk)), (4, .long xn), (2, .int (nI i)), (1, .int (nI dm - 1)), (0, .ref mm)]) hx hb dX12_laysWays_236 hl (k := 2) rfl (ninc jm 1 (by decide)) (by decide) rfl (fun ls hl => ?_)
                                refine lv_goto (tgt := 125) hx hb dX12_laysWays_239 (by decide) ?_
                                exact ih_lp_10 (jm + 1) zyb f_60 _ _ _ (by omega) (by omega) hP hD hS (lv_sub hl [0, 3, 4, 5] rfl)
                              · have c_61 : ((i : Nat) : Int) = ((dm : Nat) : Int) - 1 := (ieq (ivn i (by omega)) (ivp dm (by omega))).mp c_61
                                refine lv_aload_n hx hb dX12_laysWays_225 rfl (lv_at hl 5 rfl) ?_
                                refine lv_dup hx hb dX12_laysWays_226 rfl ?_
                                refine sk_get (v := .long zyb) (C := RX12) (T := TX12) (N := 92) hx hb hts inlX12 hown hK hP 0 rfl rfl 45 (by decide) w_5_200 rfl dX12_laysWays_227 ?_
                                refine lv_lload hx hb dX12_laysWays_230 (lv_at hl 1 rfl) ?_
                                refine lv_ladd hx hb dX12_laysWays_232 ?_
                                refine lv_topl (fun v_62 ev_62 => ?_)
                                refine sk_put (ws' := [(mm, .inr (12, mo g (nI ta) (nI pa) (nI pe) pd (nI pb) pp pf pg pn rt rn (nI cd) sn (nI il) tk am at_ aa mt_ (nI bh) wd wt v_62 (nI it_) (nI rm) (nI ud) (nI nu) sd (nI qn) (nI qw) qo (nI qb) (nI qp) qa (nI qi) (nI oc))), (g 20, .inl (cI, 4, .inl (l4 (nI l0) (nI l1) (nI dm) (nI l3)))), (g 31, .inl (cI, 120, .inl nw)), (g 38, .inl (cI, 90, .inl ws_)), (g 53, .inl (cI, 32, .inl rw_)), (g 37, .inl (cZ, 900, .inl yo)), (g 36, .inl (cZ, 900, .inl yw)), (g 43, .inl (cJ, 90, .inr (.inl zb))), (g 44, .inl (cJ, 90, .inr (.inl f_60)))]) (C := RX12) (T := TX12) (N := 92) (v := .long v_62) hx hb hts inlX12 tyX12 tyX12_ok nmX12 hown hK hP hD hS 0 rfl rfl 45 (by decide) w_5_200 rfl rfl rfl (Nat.le_of_ble_eq_true rfl) rfl dX12_laysWays_233 (fun H locs hP hD hS => ?_)
                                refine lv_iinc (v := nI (jm + 1)) (lv' := [(3, .int (nI (jm + 1))), (6, .int (nI kk)), (4, .long xn), (2, .int (nI i)), (1, .int (nI dm - 1)), (0, .ref mm)]) hx hb dX12_laysWays_236 hl (k := 2) rfl (ninc jm 1 (by decide)) (by decide) rfl (fun ls hl => ?_)
                                refine lv_goto (tgt := 125) hx hb dX12_laysWays_239 (by decide) ?_
                                exact ih_lp_10 (jm + 1) v_62 f_60 _ _ _ (by omega) (by omega) hP hD hS (lv_sub hl [0, 3, 4, 5] rfl)
                            · have c_59 : ¬ (10 ≤ kk) := fun h => c_59 ((nle 10 kk (by omega) (by omega)).mpr h)
                              refine lv_iload_n hx hb dX12_laysWays_167 rfl (lv_at hl 3 rfl) ?_
                              refine lv_if_le (tgt := 207) hx hb dX12_laysWays_168 (by decide) (fun c_63 => ?_) (fun c_63 => ?_)
                              · have c_63 : i ≤ 0 := (nle i 0 (by omega) (by omega)).mp c_63
                                refine lv_aload_n hx hb dX12_laysWays_207 rfl (lv_at hl 5 rfl) ?_
                                refine sk_get (v := .ref (g 44)) (C := RX12) (T := TX12) (N := 92) hx hb hts inlX12 hown hK hP 0 rfl rfl 44 (by decide) w_5_199 rfl dX12_laysWays_208 ?_
                                refine lv_bipush (v := 10) hx hb dX12_laysWays_211 (by decide) ?_
                                refine lv_iload_n hx hb dX12_laysWays_213 rfl (lv_at hl 3 rfl) ?_
                                refine lv_imul hx hb dX12_laysWays_214 ?_
                                refine sk_top (nI (10 * i)) (nmul 10 i) ?_
                                refine lv_iload_n hx hb dX12_laysWays_215 rfl (lv_at hl 2 rfl) ?_
                                refine lv_iadd hx hb dX12_laysWays_216 ?_
                                refine sk_top (nI (10 * i + jm)) (nI_add (10 * i) jm) ?_
                                refine lv_lload hx hb dX12_laysWays_217 (lv_at hl 1 rfl) ?_
                                refine sk_lastO (ws' := fun f_64 => [(mm, .inr (12, mo g (nI ta) (nI pa) (nI pe) pd (nI pb) pp pf pg pn rt rn (nI cd) sn (nI il) tk am at_ aa mt_ (nI bh) wd wt zyb (nI it_) (nI rm) (nI ud) (nI nu) sd (nI qn) (nI qw) qo (nI qb) (nI qp) qa (nI qi) (nI oc))), (g 20, .inl (cI, 4, .inl (l4 (nI l0) (nI l1) (nI dm) (nI l3)))), (g 31, .inl (cI, 120, .inl nw)), (g 38, .inl (cI, 90, .inl ws_)), (g 53, .inl (cI, 32, .inl rw_)), (g 37, .inl (cZ, 900, .inl yo)), (g 36, .inl (cZ, 900, .inl yw)), (g 43, .inl (cJ, 90, .inr (.inl zb))), (g 44, .inl (cJ, 90, .inr (.inl f_64)))]) hx hb hK hP hD hS 8 1 rfl rfl (vin (10 * i + jm) 90 (by omega) (by omega)) (fun _ => rfl) dX12_laysWays_219 (fun f_64 H locs hP hD hS => ?_)
                                refine lv_iload_n hx hb dX12_laysWays_220 rfl (lv_at hl 3 rfl) ?_
                                refine lv_iload_n hx hb dX12_laysWays_221 rfl (lv_at hl 4 rfl) ?_
                                refine lv_icmp_ne (tgt := 236) hx hb dX12_laysWays_222 (by decide) (fun c_65 => ?_) (fun c_65 => ?_)
                                · have c_65 : ¬ (((i : Nat) : Int) = ((dm : Nat) : Int) - 1) := fun h => c_65 ((ieq (ivn i (by omega)) (ivp dm (by omega))).mpr h)
                                  refine lv_iinc (v := nI (jm + 1)) (lv' := [(3, .int (nI (jm + 1))), (6, .int (nI kk)), (4, .long xn), (2, .int (nI i)), (1, .int (nI dm - 1)), (0, .ref mm)]) hx hb dX12_laysWays_236 hl (k := 2) rfl (ninc jm 1 (by decide)) (by decide) rfl (fun ls hl => ?_)
                                  refine lv_goto (tgt := 125) hx hb dX12_laysWays_239 (by decide) ?_
                                  exact ih_lp_10 (jm + 1) zyb f_64 _ _ _ (by omega) (by omega) hP hD hS (lv_sub hl [0, 3, 4, 5] rfl)
                                · have c_65 : ((i : Nat) : Int) = ((dm : Nat) : Int) - 1 := (ieq (ivn i (by omega)) (ivp dm (by omega))).mp c_65
                                  refine lv_aload_n hx hb dX12_laysWays_225 rfl (lv_at hl 5 rfl) ?_
                                  refine lv_dup hx hb dX12_laysWays_226 rfl ?_
                                  refine sk_get (v := .long zyb) (C := RX12) (T := TX12) (N := 92) hx hb hts inlX12 hown hK hP 0 rfl rfl 45 (by decide) w_5_200 rfl dX12_laysWays_227 ?_
                                  refine lv_lload hx hb dX12_laysWays_230 (lv_at hl 1 rfl) ?_
                                  refine lv_ladd hx hb dX12_laysWays_232 ?_
                                  refine lv_topl (fun v_66 ev_66 => ?_)
                                  refine sk_put (ws' := [(mm, .inr (12, mo g (nI ta) (nI pa) (nI pe) pd (nI pb) pp pf pg pn rt rn (nI cd) sn (nI il) tk am at_ aa mt_ (nI bh) wd wt v_66 (nI it_) (nI rm) (nI ud) (nI nu) sd (nI qn) (nI qw) qo (nI qb) (nI qp) qa (nI qi) (nI oc))), (g 20, .inl (cI, 4, .inl (l4 (nI l0) (nI l1) (nI dm) (nI l3)))), (g 31, .inl (cI, 120, .inl nw)), (g 38, .inl (cI, 90, .inl ws_)), (g 53, .inl (cI, 32, .inl rw_)), (g 37, .inl (cZ, 900, .inl yo)), (g 36, .inl (cZ, 900, .inl yw)), (g 43, .inl (cJ, 90, .inr (.inl zb))), (g 44, .inl (cJ, 90, .inr (.inl f_64)))]) (C := RX12) (T := TX12) (N := 92) (v := .long v_66) hx hb hts inlX12 tyX12 tyX12_ok nmX12 hown hK hP hD hS 0 rfl rfl 45 (by decide) w_5_200 rfl rfl rfl (Nat.le_of_ble_eq_true rfl) rfl dX12_laysWays_233 (fun H locs hP hD hS => ?_)
                                  refine lv_iinc (v := nI (jm + 1)) (lv' := [(3, .int (nI (jm + 1))), (6, .int (nI kk)), (4, .long xn), (2, .int (nI i)), (1, .int (nI dm - 1)), (0, .ref mm)]) hx hb dX12_laysWays_236 hl (k := 2) rfl (ninc jm 1 (by decide)) (by decide) rfl (fun ls hl => ?_)
                                  refine lv_goto (tgt := 125) hx hb dX12_laysWays_239 (by decide) ?_
                                  exact ih_lp_10 (jm + 1) v_66 f_64 _ _ _ (by omega) (by omega) hP hD hS (lv_sub hl [0, 3, 4, 5] rfl)
                              · have c_63 : ¬ (i ≤ 0) := fun h => c_63 ((nle i 0 (by omega) (by omega)).mpr h)
                                refine lv_aload_n hx hb dX12_laysWays_171 rfl (lv_at hl 5 rfl) ?_
                                refine lv_iload_n hx hb dX12_laysWays_172 rfl (lv_at hl 3 rfl) ?_
                                refine lv_iload hx hb dX12_laysWays_173 (lv_at hl 0 rfl) ?_
                                refine lv_iload_n hx hb dX12_laysWays_175 rfl (lv_at hl 2 rfl) ?_
                                refine sk_Vi (q0 := 0) (n := 3) (rest := []) (wr := fmR om_9_17c _) ⟨hx, hb, hml, hown, hts⟩ hl.1 (c_m_canFollowS l D cI cJ cC cZ cS mm g ta pa pe pd pb pp pf pg pn rt rn cd sn il tk am at_ aa mt_ bh wd wt zyb it_ rm ud nu sd qn qw qo qb qp qa qi oc i kk jm nw ws_ rw_ yo yw (by omega) (by omega) (by omega) (by omega) (by omega) hnw) w_7_201 w_7_203 w_0_85 w_1_14 w_7_204 hd_X12_canFollow_3 ⟨⟨(Nat.le_of_ble_eq_true rfl), (Nat.le_of_ble_eq_true rfl)⟩, (Nat.le_of_ble_eq_true rfl), (Nat.le_of_ble_eq_true rfl)⟩ hK hP hD hS hA (fmT om_9_17c 0) (fmF om_9_17c 0) (fm_C1 rfl rfl) (fm_R rfl rfl) (fm_nT om_9_17c 0) (fm_nF om_9_17c 0) (fm_di om_9_17c 0) rfl rfl rfl rfl (Nat.le_of_ble_eq_true rfl) dX12_laysWays_176 (fun r_68 u H locs hw hP hD hS => ?_)
                                refine exE hw (fun b_67 hw1 => anE hw1 (fun hb1_69 hw2 => anE hw2 (fun er_71 eu_70 => ?_)))
                                clear hw hw1 hw2
                                subst er_71
                                refine o_mgE (ws' := [(mm, .inr (12, mo g (nI ta) (nI pa) (nI pe) pd (nI pb) pp pf pg pn rt rn (nI cd) sn (nI il) tk am at_ aa mt_ (nI bh) wd wt zyb (nI it_) (nI rm) (nI ud) (nI nu) sd (nI qn) (nI qw) qo (nI qb) (nI qp) qa (nI qi) (nI oc))), (g 20, .inl (cI, 4, .inl (l4 (nI l0) (nI l1) (nI dm) (nI l3)))), (g 31, .inl (cI, 120, .inl nw)), (g 38, .inl (cI, 90, .inl ws_)), (g 53, .inl (cI, 32, .inl rw_)), (g 37, .inl (cZ, 900, .inl yo)), (g 36, .inl (cZ, 900, .inl yw)), (g 43, .inl (cJ, 90, .inr (.inl zb))), (g 44, .inl (cJ, 90, .inr (.inl zg)))]) eu_70 hP hD rfl (fun hP hD => ?_)
                                refine lv_if_eq (tgt := 201) hx hb dX12_laysWays_179 (by decide) (fun c_72 => ?_) (fun c_72 => ?_)
                                · have c_72 : b_67 = 0 := (neq b_67 0 (by omega) (by omega)).mp c_72
                                  refine lv_iinc (v := nI (kk + 1)) (lv' := [(6, .int (nI (kk + 1))), (4, .long xn), (3, .int (nI jm)), (2, .int (nI i)), (1, .int (nI dm - 1)), (0, .ref mm)]) hx hb dX12_laysWays_201 hl (k := 0) rfl (ninc kk 1 (by decide)) (by decide) rfl (fun ls hl => ?_)
                                  refine lv_goto (tgt := 160) hx hb dX12_laysWays_204 (by decide) ?_
                                  exact ih_lp_57 (kk + 1) xn _ _ _ (by omega) (by omega) hP hD hS (lv_sub hl [0, 1, 2, 3, 4, 5] rfl)
                                · have c_72 : ¬ (b_67 = 0) := fun h => c_72 ((neq b_67 0 (by omega) (by omega)).mpr h)
                                  refine lv_lload hx hb dX12_laysWays_182 (lv_at hl 1 rfl) ?_
                                  refine lv_aload_n hx hb dX12_laysWays_184 rfl (lv_at hl 5 rfl) ?_
                                  refine sk_get (v := .ref (g 44)) (C := RX12) (T := TX12) (N := 92) hx hb hts inlX12 hown hK hP 0 rfl rfl 44 (by decide) w_5_199 rfl dX12_laysWays_185 ?_
                                  refine lv_bipush (v := 10) hx hb dX12_laysWays_188 (by decide) ?_
                                  refine lv_iload_n hx hb dX12_laysWays_190 rfl (lv_at hl 3 rfl) ?_
                                  refine lv_iconst (v := 1) hx hb dX12_laysWays_191 (by decide) ?_
                                  refine lv_isub hx hb dX12_laysWays_192 ?_
                                  refine sk_top (nI (i - 1)) (nsub i 1 (by omega)) ?_
                                  refine lv_imul hx hb dX12_laysWays_193 ?_
                                  refine sk_top (nI (10 * (i - 1))) (nmul 10 (i - 1)) ?_
                                  refine lv_iload hx hb dX12_laysWays_194 (lv_at hl 0 rfl) ?_
                                  refine lv_iadd hx hb dX12_laysWays_196 ?_
                                  refine sk_top (nI (10 * (i - 1) + kk)) (nI_add (10 * (i - 1)) kk) ?_
                                  refine va_lald hx hb hK.1 hP 8 1 rfl rfl (vin (10 * (i - 1) + kk) 90 (by omega) (by omega)) dX12_laysWays_197 ?_
                                  refine lv_topl (fun v_73 ev_73 => ?_)
                                  refine lv_ladd hx hb dX12_laysWays_198 ?_
                                  refine lv_topl (fun v_74 ev_74 => ?_)
                                  refine lv_lstore (lv' := [(4, .long v_74), (6, .int (nI kk)), (3, .int (nI jm)), (2, .int (nI i)), (1, .int (nI dm - 1)), (0, .ref mm)]) hx hb dX12_laysWays_199 hl (by decide) rfl (fun ls hl => ?_)
                                  refine lv_iinc (v := nI (kk + 1)) (lv' := [(6, .int (nI (kk + 1))), (4, .long v_74), (3, .int (nI jm)), (2, .int (nI i)), (1, .int (nI dm - 1)), (0, .ref mm)]) hx hb dX12_laysWays_201 hl (k := 1) rfl (ninc kk 1 (by decide)) (by decide) rfl (fun ls hl => ?_)
                                  refine lv_goto (tgt := 160) hx hb dX12_laysWays_204 (by decide) ?_
                                  exact ih_lp_57 (kk + 1) v_74 _ _ _ (by omega) (by omega) hP hD hS (lv_sub hl [0, 1, 2, 3, 4, 5] rfl)
                        exact lp_57 (10 - 0 + 1) 0 1 _ _ _ (Nat.lt_succ_self _) (by omega) hP hD hS (lv_sub hl [0, 1, 2, 3, 4, 5] rfl)
              exact lp_10 (10 - 0 + 1) 0 zy zf _ _ _ (Nat.lt_succ_self _) (by omega) hP hD hS (lv_sub hl [0, 1, 2, 3] rfl)
        exact lp_7 (dm - 0 + 1) 0 0 bf _ _ _ (Nat.lt_succ_self _) (by omega) hP hD hS (lv_sub hl [0, 1, 2] rfl)
      · have c_6 : 1 ≤ dd := npm1 dd c_6
        rw [npred dd (by omega)] at hl
        refine lv_iconst (v := 0) hx hb dX12_laysWays_13 (by decide) ?_
        refine lv_istore_n (lv' := [(3, .int 0), (2, .int (nI (dd - 1))), (1, .int (nI dm - 1)), (0, .ref mm)]) hx hb dX12_laysWays_14 rfl hl (by decide) rfl (fun ls hl => ?_)
        have lp_75 : ∀ (n_76 : Nat) (jm : Nat) (zc : Nat → Int64) (H : Heap) (locs : List Loc) (ls : Array Slot), 10 - jm < n_76 → (jm ≤ 10) → va_P D vwCl [(mm, .inr (12, mo g (nI ta) (nI pa) (nI pe) pd (nI pb) pp pf pg pn rt rn (nI cd) sn (nI il) tk am at_ aa mt_ (nI bh) wd wt wy (nI it_) (nI rm) (nI ud) (nI nu) sd (nI qn) (nI qw) qo (nI qb) (nI qp) qa (nI qi) (nI oc))), (g 20, .inl (cI, 4, .inl (l4 (nI l0) (nI l1) (nI dm) (nI l3)))), (g 31, .inl (cI, 120, .inl nw)), (g 38, .inl (cI, 90, .inl ws_)), (g 53, .inl (cI, 32, .inl rw_)), (g 37, .inl (cZ, 900, .inl yo)), (g 36, .inl (cZ, 900, .inl yw)), (g 43, .inl (cJ, 90, .inr (.inl zc))), (g 44, .inl (cJ, 90, .inr (.inl bf)))] H → va_D A [(mm, .inr (12, mo g (nI ta) (nI pa) (nI pe) pd (nI pb) pp pf pg pn rt rn (nI cd) sn (nI il) tk am at_ aa mt_ (nI bh) wd wt wy (nI it_) (nI rm) (nI ud) (nI nu) sd (nI qn) (nI qw) qo (nI qb) (nI qp) qa (nI qi) (nI oc))), (g 20, .inl (cI, 4, .inl (l4 (nI l0) (nI l1) (nI dm) (nI l3)))), (g 31, .inl (cI, 120, .inl nw)), (g 38, .inl (cI, 90, .inl ws_)), (g 53, .inl (cI, 32, .inl rw_)), (g 37, .inl (cZ, 900, .inl yo)), (g 36, .inl (cZ, 900, .inl yw)), (g 43, .inl (cJ, 90, .inr (.inl zc))), (g 44, .inl (cJ, 90, .inr (.inl bf)))] → va_S A s.heap H locs → lv_has ls 7 [(3, .int (nI jm)), (2, .int (nI (dd - 1))), (1, .int (nI dm - 1)), (0, .ref mm)] → W p l e { frames := 3, cells := 0, slots := 0, locals := 68 } s m ([.ref mm] : List Value).toArray below meth c H locs 0 0 (MQ below (skV D (skT cI cJ cC cZ cS) (fun (u : va_W) => ∃ (wy2 : Int64), ∃ (be2 : Nat → Int64), ∃ (bf2 : Nat → Int64), u = [(mm, .inr (12, mo g (nI ta) (nI pa) (nI pe) pd (nI pb) pp pf pg pn rt rn (nI cd) sn (nI il) tk am at_ aa mt_ (nI bh) wd wt wy2 (nI it_) (nI rm) (nI ud) (nI nu) sd (nI qn) (nI qw) qo (nI qb) (nI qp) qa (nI qi) (nI oc))), (g 20, .inl (cI, 4, .inl (l4 (nI l0) (nI l1) (nI dm) (nI l3)))), (g 31, .inl (cI, 120, .inl nw)), (g 38, .inl (cI, 90, .inl ws_)), (g 53, .inl (cI, 32, .inl rw_)), (g 37, .inl (cZ, 900, .inl yo)), (g 36, .inl (cZ, 900, .inl yw)), (g 43, .inl (cJ, 90, .inr (.inl be2))), (g 44, .inl (cJ, 90, .inr (.inl bf2)))]) A) ([.ref mm] : List Value).toArray s 0 0 A) (F0 m 15 ls []) := by
          intro n_76
          induction n_76 with
          | zero => intro jm zc H locs ls hm; exact absurd hm (Nat.not_lt_zero _)
          | succ n_76 ih_lp_75 =>
            intro jm zc H locs ls hm hjm hP hD hS hl
            refine lv_iload_n hx hb dX12_laysWays_15 rfl (lv_at hl 0 rfl) ?_
            refine lv_bipush (v := 10) hx hb dX12_laysWays_16 (by decide) ?_
            refine lv_icmp_ge (tgt := 105) hx hb dX12_laysWays_18 (by decide) (fun c_77 => ?_) (fun c_77 => ?_)
            · have c_77 : 10 ≤ jm := (nle 10 jm (by omega) (by omega)).mp c_77
              refine lv_iinc (v := nI (dd - 1) - 1) (lv' := [(2, .int (nI (dd - 1) - 1)), (3, .int (nI jm)), (1, .int (nI dm - 1)), (0, .ref mm)]) hx hb dX12_laysWays_105 hl (k := 1) rfl (ndn _) (by decide) rfl (fun ls hl => ?_)
              refine lv_goto (tgt := 9) hx hb dX12_laysWays_108 (by decide) ?_
              exact ih_lp_4 (dd - 1) zc _ _ _ (by omega) (by omega) hP hD hS (lv_sub hl [0, 2, 3] rfl)
            · have c_77 : ¬ (10 ≤ jm) := fun h => c_77 ((nle 10 jm (by omega) (by omega)).mpr h)
              refine lv_iload_n hx hb dX12_laysWays_21 rfl (lv_at hl 1 rfl) ?_
              refine lv_iload_n hx hb dX12_laysWays_22 rfl (lv_at hl 2 rfl) ?_
              refine lv_icmp_ne (tgt := 30) hx hb dX12_laysWays_23 (by decide) (fun c_78 => ?_) (fun c_78 => ?_)
              · have c_78 : ¬ (((dd - 1 : Nat) : Int) = ((dm : Nat) : Int) - 1) := fun h => c_78 ((ieq (ivn (dd - 1) (by omega)) (ivp dm (by omega))).mpr h)
                refine lv_lconst (v := 0) hx hb dX12_laysWays_30 (by decide) ?_
                refine lv_lstore (lv' := [(4, .long 0), (3, .int (nI jm)), (2, .int (nI (dd - 1))), (1, .int (nI dm - 1)), (0, .ref mm)]) hx hb dX12_laysWays_31 hl (by decide) rfl (fun ls hl => ?_)
                refine lv_iconst (v := 0) hx hb dX12_laysWays_33 (by decide) ?_
                refine lv_istore (lv' := [(6, .int 0), (4, .long 0), (3, .int (nI jm)), (2, .int (nI (dd - 1))), (1, .int (nI dm - 1)), (0, .ref mm)]) hx hb dX12_laysWays_34 hl (by decide) rfl (fun ls hl => ?_)
                have lp_79 : ∀ (n_80 : Nat) (kk : Nat) (xn : Int64) (H : Heap) (locs : List Loc) (ls : Array Slot), 10 - kk < n_80 → (kk ≤ 10) → va_P D vwCl [(mm, .inr (12, mo g (nI ta) (nI pa) (nI pe) pd (nI pb) pp pf pg pn rt rn (nI cd) sn (nI il) tk am at_ aa mt_ (nI bh) wd wt wy (nI it_) (nI rm) (nI ud) (nI nu) sd (nI qn) (nI qw) qo (nI qb) (nI qp) qa (nI qi) (nI oc))), (g 20, .inl (cI, 4, .inl (l4 (nI l0) (nI l1) (nI dm) (nI l3)))), (g 31, .inl (cI, 120, .inl nw)), (g 38, .inl (cI, 90, .inl ws_)), (g 53, .inl (cI, 32, .inl rw_)), (g 37, .inl (cZ, 900, .inl yo)), (g 36, .inl (cZ, 900, .inl yw)), (g 43, .inl (cJ, 90, .inr (.inl zc))), (g 44, .inl (cJ, 90, .inr (.inl bf)))] H → va_D A [(mm, .inr (12, mo g (nI ta) (nI pa) (nI pe) pd (nI pb) pp pf pg pn rt rn (nI cd) sn (nI il) tk am at_ aa mt_ (nI bh) wd wt wy (nI it_) (nI rm) (nI ud) (nI nu) sd (nI qn) (nI qw) qo (nI qb) (nI qp) qa (nI qi) (nI oc))), (g 20, .inl (cI, 4, .inl (l4 (nI l0) (nI l1) (nI dm) (nI l3)))), (g 31, .inl (cI, 120, .inl nw)), (g 38, .inl (cI, 90, .inl ws_)), (g 53, .inl (cI, 32, .inl rw_)), (g 37, .inl (cZ, 900, .inl yo)), (g 36, .inl (cZ, 900, .inl yw)), (g 43, .inl (cJ, 90, .inr (.inl zc))), (g 44, .inl (cJ, 90, .inr (.inl bf)))] → va_S A s.heap H locs → lv_has ls 7 [(6, .int (nI kk)), (4, .long xn), (3, .int (nI jm)), (2, .int (nI (dd - 1))), (1, .int (nI dm - 1)), (0, .ref mm)] → W p l e { frames := 3, cells := 0, slots := 0, locals := 68 } s m ([.ref mm] : List Value).toArray below meth c H locs 0 0 (MQ below (skV D (skT cI cJ cC cZ cS) (fun (u : va_W) => ∃ (wy2 : Int64), ∃ (be2 : Nat → Int64), ∃ (bf2 : Nat → Int64), u = [(mm, .inr (12, mo g (nI ta) (nI pa) (nI pe) pd (nI pb) pp pf pg pn rt rn (nI cd) sn (nI il) tk am at_ aa mt_ (nI bh) wd wt wy2 (nI it_) (nI rm) (nI ud) (nI nu) sd (nI qn) (nI qw) qo (nI qb) (nI qp) qa (nI qi) (nI oc))), (g 20, .inl (cI, 4, .inl (l4 (nI l0) (nI l1) (nI dm) (nI l3)))), (g 31, .inl (cI, 120, .inl nw)), (g 38, .inl (cI, 90, .inl ws_)), (g 53, .inl (cI, 32, .inl rw_)), (g 37, .inl (cZ, 900, .inl yo)), (g 36, .inl (cZ, 900, .inl yw)), (g 43, .inl (cJ, 90, .inr (.inl be2))), (g 44, .inl (cJ, 90, .inr (.inl bf2)))]) A) ([.ref mm] : List Value).toArray s 0 0 A) (F0 m 36 ls []) := by
                  intro n_80
                  induction n_80 with
                  | zero => intro kk xn H locs ls hm; exact absurd hm (Nat.not_lt_zero _)
                  | succ n_80 ih_lp_79 =>
                    intro kk xn H locs ls hm hkk hP hD hS hl
                    refine lv_iload hx hb dX12_laysWays_36 (lv_at hl 0 rfl) ?_
                    refine lv_bipush (v := 10) hx hb dX12_laysWays_38 (by decide) ?_
                    refine lv_icmp_ge (tgt := 86) hx hb dX12_laysWays_40 (by decide) (fun c_81 => ?_) (fun c_81 => ?_)
                    · have c_81 : 10 ≤ kk := (nle 10 kk (by omega) (by omega)).mp c_81
                      refine lv_aload_n hx hb dX12_laysWays_86 rfl (lv_at hl 5 rfl) ?_
                      refine sk_get (v := .ref (g 43)) (C := RX12) (T := TX12) (N := 92) hx hb hts inlX12 hown hK hP 0 rfl rfl 43 (by decide) w_5_198 rfl dX12_laysWays_87 ?_
                      refine lv_bipush (v := 10) hx hb dX12_laysWays_90 (by decide) ?_
                      refine lv_iload_n hx hb dX12_laysWays_92 rfl (lv_at hl 3 rfl) ?_
                      refine lv_imul hx hb dX12_laysWays_93 ?_
                      refine sk_top (nI (10 * (dd - 1))) (nmul 10 (dd - 1)) ?_
                      refine lv_iload_n hx hb dX12_laysWays_94 rfl (lv_at hl 2 rfl) ?_
                      refine lv_iadd hx hb dX12_laysWays_95 ?_
                      refine sk_top (nI (10 * (dd - 1) + jm)) (nI_add (10 * (dd - 1)) jm) ?_
                      refine lv_lload hx hb dX12_laysWays_96 (lv_at hl 1 rfl) ?_
                      refine sk_lastO (ws' := fun f_82 => [(mm, .inr (12, mo g (nI ta) (nI pa) (nI pe) pd (nI pb) pp pf pg pn rt rn (nI cd) sn (nI il) tk am at_ aa mt_ (nI bh) wd wt wy (nI it_) (nI rm) (nI ud) (nI nu) sd (nI qn) (nI qw) qo (nI qb) (nI qp) qa (nI qi) (nI oc))), (g 20, .inl (cI, 4, .inl (l4 (nI l0) (nI l1) (nI dm) (nI l3)))), (g 31, .inl (cI, 120, .inl nw)), (g 38, .inl (cI, 90, .inl ws_)), (g 53, .inl (cI, 32, .inl rw_)), (g 37, .inl (cZ, 900, .inl yo)), (g 36, .inl (cZ, 900, .inl yw)), (g 43, .inl (cJ, 90, .inr (.inl f_82))), (g 44, .inl (cJ, 90, .inr (.inl bf)))]) hx hb hK hP hD hS 7 1 rfl rfl (vin (10 * (dd - 1) + jm) 90 (by omega) (by omega)) (fun _ => rfl) dX12_laysWays_98 (fun f_82 H locs hP hD hS => ?_)
                      refine lv_iinc (v := nI (jm + 1)) (lv' := [(3, .int (nI (jm + 1))), (6, .int (nI kk)), (4, .long xn), (2, .int (nI (dd - 1))), (1, .int (nI dm - 1)), (0, .ref mm)]) hx hb dX12_laysWays_99 hl (k := 2) rfl (ninc jm 1 (by decide)) (by decide) rfl (fun ls hl => ?_)
                      refine lv_goto (tgt := 15) hx hb dX12_laysWays_102 (by decide) ?_
                      exact ih_lp_75 (jm + 1) f_82 _ _ _ (by omega) (by omega) hP hD hS (lv_sub hl [0, 3, 4, 5] rfl)
                    · have c_81 : ¬ (10 ≤ kk) := fun h => c_81 ((nle 10 kk (by omega) (by omega)).mpr h)
                      refine lv_iload_n hx hb dX12_laysWays_43 rfl (lv_at hl 3 rfl) ?_
                      refine lv_iload_n hx hb dX12_laysWays_44 rfl (lv_at hl 4 rfl) ?_
                      refine lv_icmp_ge (tgt := 86) hx hb dX12_laysWays_45 (by decide) (fun c_83 => ?_) (fun c_83 => ?_)
                      · have c_83 : ((dm : Nat) : Int) - 1 ≤ ((dd - 1 : Nat) : Int) := (ile (ivp dm (by omega)) (ivn (dd - 1) (by omega))).mp c_83
                        refine lv_aload_n hx hb dX12_laysWays_86 rfl (lv_at hl 5 rfl) ?_
                        refine sk_get (v := .ref (g 43)) (C := RX12) (T := TX12) (N := 92) hx hb hts inlX12 hown hK hP 0 rfl rfl 43 (by decide) w_5_198 rfl dX12_laysWays_87 ?_
                        refine lv_bipush (v := 10) hx hb dX12_laysWays_90 (by decide) ?_
                        refine lv_iload_n hx hb dX12_laysWays_92 rfl (lv_at hl 3 rfl) ?_
                        refine lv_imul hx hb dX12_laysWays_93 ?_
                        refine sk_top (nI (10 * (dd - 1))) (nmul 10 (dd - 1)) ?_
                        refine lv_iload_n hx hb dX12_laysWays_94 rfl (lv_at hl 2 rfl) ?_
                        refine lv_iadd hx hb dX12_laysWays_95 ?_
                        refine sk_top (nI (10 * (dd - 1) + jm)) (nI_add (10 * (dd - 1)) jm) ?_
                        refine lv_lload hx hb dX12_laysWays_96 (lv_at hl 1 rfl) ?_
                        refine sk_lastO (ws' := fun f_84 => [(mm, .inr (12, mo g (nI ta) (nI pa) (nI pe) pd (nI pb) pp pf pg pn rt rn (nI cd) sn (nI il) tk am at_ aa mt_ (nI bh) wd wt wy (nI it_) (nI rm) (nI ud) (nI nu) sd (nI qn) (nI qw) qo (nI qb) (nI qp) qa (nI qi) (nI oc))), (g 20, .inl (cI, 4, .inl (l4 (nI l0) (nI l1) (nI dm) (nI l3)))), (g 31, .inl (cI, 120, .inl nw)), (g 38, .inl (cI, 90, .inl ws_)), (g 53, .inl (cI, 32, .inl rw_)), (g 37, .inl (cZ, 900, .inl yo)), (g 36, .inl (cZ, 900, .inl yw)), (g 43, .inl (cJ, 90, .inr (.inl f_84))), (g 44, .inl (cJ, 90, .inr (.inl bf)))]) hx hb hK hP hD hS 7 1 rfl rfl (vin (10 * (dd - 1) + jm) 90 (by omega) (by omega)) (fun _ => rfl) dX12_laysWays_98 (fun f_84 H locs hP hD hS => ?_)
                        refine lv_iinc (v := nI (jm + 1)) (lv' := [(3, .int (nI (jm + 1))), (6, .int (nI kk)), (4, .long xn), (2, .int (nI (dd - 1))), (1, .int (nI dm - 1)), (0, .ref mm)]) hx hb dX12_laysWays_99 hl (k := 2) rfl (ninc jm 1 (by decide)) (by decide) rfl (fun ls hl => ?_)
                        refine lv_goto (tgt := 15) hx hb dX12_laysWays_102 (by decide) ?_
                        exact ih_lp_75 (jm + 1) f_84 _ _ _ (by omega) (by omega) hP hD hS (lv_sub hl [0, 3, 4, 5] rfl)
                      · have c_83 : ¬ (((dm : Nat) : Int) - 1 ≤ ((dd - 1 : Nat) : Int)) := fun h => c_83 ((ile (ivp dm (by omega)) (ivn (dd - 1) (by omega))).mpr h)
                        refine lv_aload_n hx hb dX12_laysWays_48 rfl (lv_at hl 5 rfl) ?_
                        refine lv_iload_n hx hb dX12_laysWays_49 rfl (lv_at hl 3 rfl) ?_
                        refine lv_iconst (v := 1) hx hb dX12_laysWays_50 (by decide) ?_
                        refine lv_iadd hx hb dX12_laysWays_51 ?_
                        refine sk_top (nI (dd - 1 + 1)) (nI_add (dd - 1) 1) ?_
                        refine lv_iload_n hx hb dX12_laysWays_52 rfl (lv_at hl 2 rfl) ?_
                        refine lv_iload hx hb dX12_laysWays_53 (lv_at hl 0 rfl) ?_
                        refine sk_Vi (q0 := 0) (n := 3) (rest := []) (wr := fmR om_9_17c _) ⟨hx, hb, hml, hown, hts⟩ hl.1 (c_m_canFollowS l D cI cJ cC cZ cS mm g ta pa pe pd pb pp pf pg pn rt rn cd sn il tk am at_ aa mt_ bh wd wt wy it_ rm ud nu sd qn qw qo qb qp qa qi oc (dd - 1 + 1) jm kk nw ws_ rw_ yo yw (by omega) (by omega) (by omega) (by omega) (by omega) hnw) w_7_201 w_7_203 w_0_85 w_1_14 w_7_204 hd_X12_canFollow_3 ⟨⟨(Nat.le_of_ble_eq_true rfl), (Nat.le_of_ble_eq_true rfl)⟩, (Nat.le_of_ble_eq_true rfl), (Nat.le_of_ble_eq_true rfl)⟩ hK hP hD hS hA (fmT om_9_17c 0) (fmF om_9_17c 0) (fm_C1 rfl rfl) (fm_R rfl rfl) (fm_nT om_9_17c 0) (fm_nF om_9_17c 0) (fm_di om_9_17c 0) rfl rfl rfl rfl (Nat.le_of_ble_eq_true rfl) dX12_laysWays_55 (fun r_86 u H locs hw hP hD hS => ?_)
                        refine exE hw (fun b_85 hw1 => anE hw1 (fun hb1_87 hw2 => anE hw2 (fun er_89 eu_88 => ?_)))
                        clear hw hw1 hw2
                        subst er_89
                        refine o_mgE (ws' := [(mm, .inr (12, mo g (nI ta) (nI pa) (nI pe) pd (nI pb) pp pf pg pn rt rn (nI cd) sn (nI il) tk am at_ aa mt_ (nI bh) wd wt wy (nI it_) (nI rm) (nI ud) (nI nu) sd (nI qn) (nI qw) qo (nI qb) (nI qp) qa (nI qi) (nI oc))), (g 20, .inl (cI, 4, .inl (l4 (nI l0) (nI l1) (nI dm) (nI l3)))), (g 31, .inl (cI, 120, .inl nw)), (g 38, .inl (cI, 90, .inl ws_)), (g 53, .inl (cI, 32, .inl rw_)), (g 37, .inl (cZ, 900, .inl yo)), (g 36, .inl (cZ, 900, .inl yw)), (g 43, .inl (cJ, 90, .inr (.inl zc))), (g 44, .inl (cJ, 90, .inr (.inl bf)))]) eu_88 hP hD rfl (fun hP hD => ?_)
                        refine lv_if_eq (tgt := 80) hx hb dX12_laysWays_58 (by decide) (fun c_90 => ?_) (fun c_90 => ?_)
                        · have c_90 : b_85 = 0 := (neq b_85 0 (by omega) (by omega)).mp c_90
                          refine lv_iinc (v := nI (kk + 1)) (lv' := [(6, .int (nI (kk + 1))), (4, .long xn), (3, .int (nI jm)), (2, .int (nI (dd - 1))), (1, .int (nI dm - 1)), (0, .ref mm)]) hx hb dX12_laysWays_80 hl (k := 0) rfl (ninc kk 1 (by decide)) (by decide) rfl (fun ls hl => ?_)
                          refine lv_goto (tgt := 36) hx hb dX12_laysWays_83 (by decide) ?_
                          exact ih_lp_79 (kk + 1) xn _ _ _ (by omega) (by omega) hP hD hS (lv_sub hl [0, 1, 2, 3, 4, 5] rfl)
                        · have c_90 : ¬ (b_85 = 0) := fun h => c_90 ((neq b_85 0 (by omega) (by omega)).mpr h)
                          refine lv_lload hx hb dX12_laysWays_61 (lv_at hl 1 rfl) ?_
                          refine lv_aload_n hx hb dX12_laysWays_63 rfl (lv_at hl 5 rfl) ?_
                          refine sk_get (v := .ref (g 43)) (C := RX12) (T := TX12) (N := 92) hx hb hts inlX12 hown hK hP 0 rfl rfl 43 (by decide) w_5_198 rfl dX12_laysWays_64 ?_
                          refine lv_bipush (v := 10) hx hb dX12_laysWays_67 (by decide) ?_
                          refine lv_iload_n hx hb dX12_laysWays_69 rfl (lv_at hl 3 rfl) ?_
                          refine lv_iconst (v := 1) hx hb dX12_laysWays_70 (by decide) ?_
                          refine lv_iadd hx hb dX12_laysWays_71 ?_
                          refine sk_top (nI (dd - 1 + 1)) (nI_add (dd - 1) 1) ?_
                          refine lv_imul hx hb dX12_laysWays_72 ?_
                          refine sk_top (nI (10 * (dd - 1 + 1))) (nmul 10 (dd - 1 + 1)) ?_
                          refine lv_iload hx hb dX12_laysWays_73 (lv_at hl 0 rfl) ?_
                          refine lv_iadd hx hb dX12_laysWays_75 ?_
                          refine sk_top (nI (10 * (dd - 1 + 1) + kk)) (nI_add (10 * (dd - 1 + 1)) kk) ?_
                          refine va_lald hx hb hK.1 hP 7 1 rfl rfl (vin (10 * (dd - 1 + 1) + kk) 90 (by omega) (by omega)) dX12_laysWays_76 ?_
                          refine lv_topl (fun v_91 ev_91 => ?_)
                          refine lv_ladd hx hb dX12_laysWays_77 ?_
                          refine lv_topl (fun v_92 ev_92 => ?_)
                          refine lv_lstore (lv' := [(4, .long v_92), (6, .int (nI kk)), (3, .int (nI jm)), (2, .int (nI (dd - 1))), (1, .int (nI dm - 1)), (0, .ref mm)]) hx hb dX12_laysWays_78 hl (by decide) rfl (fun ls hl => ?_)
                          refine lv_iinc (v := nI (kk + 1)) (lv' := [(6, .int (nI (kk + 1))), (4, .long v_92), (3, .int (nI jm)), (2, .int (nI (dd - 1))), (1, .int (nI dm - 1)), (0, .ref mm)]) hx hb dX12_laysWays_80 hl (k := 1) rfl (ninc kk 1 (by decide)) (by decide) rfl (fun ls hl => ?_)
                          refine lv_goto (tgt := 36) hx hb dX12_laysWays_83 (by decide) ?_
                          exact ih_lp_79 (kk + 1) v_92 _ _ _ (by omega) (by omega) hP hD hS (lv_sub hl [0, 1, 2, 3, 4, 5] rfl)
                exact lp_79 (10 - 0 + 1) 0 0 _ _ _ (Nat.lt_succ_self _) (by omega) hP hD hS (lv_sub hl [0, 1, 2, 3, 4, 5] rfl)
              · have c_78 : ((dd - 1 : Nat) : Int) = ((dm : Nat) : Int) - 1 := (ieq (ivn (dd - 1) (by omega)) (ivp dm (by omega))).mp c_78
                refine lv_lconst (v := 1) hx hb dX12_laysWays_26 (by decide) ?_
                refine lv_goto (tgt := 31) hx hb dX12_laysWays_27 (by decide) ?_
                refine lv_lstore (lv' := [(4, .long 1), (3, .int (nI jm)), (2, .int (nI (dd - 1))), (1, .int (nI dm - 1)), (0, .ref mm)]) hx hb dX12_laysWays_31 hl (by decide) rfl (fun ls hl => ?_)
                refine lv_iconst (v := 0) hx hb dX12_laysWays_33 (by decide) ?_
                refine lv_istore (lv' := [(6, .int 0), (4, .long 1), (3, .int (nI jm)), (2, .int (nI (dd - 1))), (1, .int (nI dm - 1)), (0, .ref mm)]) hx hb dX12_laysWays_34 hl (by decide) rfl (fun ls hl => ?_)
                have lp_93 : ∀ (n_94 : Nat) (kk : Nat) (xn : Int64) (H : Heap) (locs : List Loc) (ls : Array Slot), 10 - kk < n_94 → (kk ≤ 10) → va_P D vwCl [(mm, .inr (12, mo g (nI ta) (nI pa) (nI pe) pd (nI pb) pp pf pg pn rt rn (nI cd) sn (nI il) tk am at_ aa mt_ (nI bh) wd wt wy (nI it_) (nI rm) (nI ud) (nI nu) sd (nI qn) (nI qw) qo (nI qb) (nI qp) qa (nI qi) (nI oc))), (g 20, .inl (cI, 4, .inl (l4 (nI l0) (nI l1) (nI dm) (nI l3)))), (g 31, .inl (cI, 120, .inl nw)), (g 38, .inl (cI, 90, .inl ws_)), (g 53, .inl (cI, 32, .inl rw_)), (g 37, .inl (cZ, 900, .inl yo)), (g 36, .inl (cZ, 900, .inl yw)), (g 43, .inl (cJ, 90, .inr (.inl zc))), (g 44, .inl (cJ, 90, .inr (.inl bf)))] H → va_D A [(mm, .inr (12, mo g (nI ta) (nI pa) (nI pe) pd (nI pb) pp pf pg pn rt rn (nI cd) sn (nI il) tk am at_ aa mt_ (nI bh) wd wt wy (nI it_) (nI rm) (nI ud) (nI nu) sd (nI qn) (nI qw) qo (nI qb) (nI qp) qa (nI qi) (nI oc))), (g 20, .inl (cI, 4, .inl (l4 (nI l0) (nI l1) (nI dm) (nI l3)))), (g 31, .inl (cI, 120, .inl nw)), (g 38, .inl (cI, 90, .inl ws_)), (g 53, .inl (cI, 32, .inl rw_)), (g 37, .inl (cZ, 900, .inl yo)), (g 36, .inl (cZ, 900, .inl yw)), (g 43, .inl (cJ, 90, .inr (.inl zc))), (g 44, .inl (cJ, 90, .inr (.inl bf)))] → va_S A s.heap H locs → lv_has ls 7 [(6, .int (nI kk)), (4, .long xn), (3, .int (nI jm)), (2, .int (nI (dd - 1))), (1, .int (nI dm - 1)), (0, .ref mm)] → W p l e { frames := 3, cells := 0, slots := 0, locals := 68 } s m ([.ref mm] : List Value).toArray below meth c H locs 0 0 (MQ below (skV D (skT cI cJ cC cZ cS) (fun (u : va_W) => ∃ (wy2 : Int64), ∃ (be2 : Nat → Int64), ∃ (bf2 : Nat → Int64), u = [(mm, .inr (12, mo g (nI ta) (nI pa) (nI pe) pd (nI pb) pp pf pg pn rt rn (nI cd) sn (nI il) tk am at_ aa mt_ (nI bh) wd wt wy2 (nI it_) (nI rm) (nI ud) (nI nu) sd (nI qn) (nI qw) qo (nI qb) (nI qp) qa (nI qi) (nI oc))), (g 20, .inl (cI, 4, .inl (l4 (nI l0) (nI l1) (nI dm) (nI l3)))), (g 31, .inl (cI, 120, .inl nw)), (g 38, .inl (cI, 90, .inl ws_)), (g 53, .inl (cI, 32, .inl rw_)), (g 37, .inl (cZ, 900, .inl yo)), (g 36, .inl (cZ, 900, .inl yw)), (g 43, .inl (cJ, 90, .inr (.inl be2))), (g 44, .inl (cJ, 90, .inr (.inl bf2)))]) A) ([.ref mm] : List Value).toArray s 0 0 A) (F0 m 36 ls []) := by
                  intro n_94
                  induction n_94 with
                  | zero => intro kk xn H locs ls hm; exact absurd hm (Nat.not_lt_zero _)
                  | succ n_94 ih_lp_93 =>
                    intro kk xn H locs ls hm hkk hP hD hS hl
                    refine lv_iload hx hb dX12_laysWays_36 (lv_at hl 0 rfl) ?_
                    refine lv_bipush (v := 10) hx hb dX12_laysWays_38 (by decide) ?_
                    refine lv_icmp_ge (tgt := 86) hx hb dX12_laysWays_40 (by decide) (fun c_95 => ?_) (fun c_95 => ?_)
                    · have c_95 : 10 ≤ kk := (nle 10 kk (by omega) (by omega)).mp c_95
                      refine lv_aload_n hx hb dX12_laysWays_86 rfl (lv_at hl 5 rfl) ?_
                      refine sk_get (v := .ref (g 43)) (C := RX12) (T := TX12) (N := 92) hx hb hts inlX12 hown hK hP 0 rfl rfl 43 (by decide) w_5_198 rfl dX12_laysWays_87 ?_
                      refine lv_bipush (v := 10) hx hb dX12_laysWays_90 (by decide) ?_
                      refine lv_iload_n hx hb dX12_laysWays_92 rfl (lv_at hl 3 rfl) ?_
                      refine lv_imul hx hb dX12_laysWays_93 ?_
                      refine sk_top (nI (10 * (dd - 1))) (nmul 10 (dd - 1)) ?_
                      refine lv_iload_n hx hb dX12_laysWays_94 rfl (lv_at hl 2 rfl) ?_
                      refine lv_iadd hx hb dX12_laysWays_95 ?_
                      refine sk_top (nI (10 * (dd - 1) + jm)) (nI_add (10 * (dd - 1)) jm) ?_
                      refine lv_lload hx hb dX12_laysWays_96 (lv_at hl 1 rfl) ?_
                      refine sk_lastO (ws' := fun f_96 => [(mm, .inr (12, mo g (nI ta) (nI pa) (nI pe) pd (nI pb) pp pf pg pn rt rn (nI cd) sn (nI il) tk am at_ aa mt_ (nI bh) wd wt wy (nI it_) (nI rm) (nI ud) (nI nu) sd (nI qn) (nI qw) qo (nI qb) (nI qp) qa (nI qi) (nI oc))), (g 20, .inl (cI, 4, .inl (l4 (nI l0) (nI l1) (nI dm) (nI l3)))), (g 31, .inl (cI, 120, .inl nw)), (g 38, .inl (cI, 90, .inl ws_)), (g 53, .inl (cI, 32, .inl rw_)), (g 37, .inl (cZ, 900, .inl yo)), (g 36, .inl (cZ, 900, .inl yw)), (g 43, .inl (cJ, 90, .inr (.inl f_96))), (g 44, .inl (cJ, 90, .inr (.inl bf)))]) hx hb hK hP hD hS 7 1 rfl rfl (vin (10 * (dd - 1) + jm) 90 (by omega) (by omega)) (fun _ => rfl) dX12_laysWays_98 (fun f_96 H locs hP hD hS => ?_)
                      refine lv_iinc (v := nI (jm + 1)) (lv' := [(3, .int (nI (jm + 1))), (6, .int (nI kk)), (4, .long xn), (2, .int (nI (dd - 1))), (1, .int (nI dm - 1)), (0, .ref mm)]) hx hb dX12_laysWays_99 hl (k := 2) rfl (ninc jm 1 (by decide)) (by decide) rfl (fun ls hl => ?_)
                      refine lv_goto (tgt := 15) hx hb dX12_laysWays_102 (by decide) ?_
                      exact ih_lp_75 (jm + 1) f_96 _ _ _ (by omega) (by omega) hP hD hS (lv_sub hl [0, 3, 4, 5] rfl)
                    · have c_95 : ¬ (10 ≤ kk) := fun h => c_95 ((nle 10 kk (by omega) (by omega)).mpr h)
                      refine lv_iload_n hx hb dX12_laysWays_43 rfl (lv_at hl 3 rfl) ?_
                      refine lv_iload_n hx hb dX12_laysWays_44 rfl (lv_at hl 4 rfl) ?_
                      refine lv_icmp_ge (tgt := 86) hx hb dX12_laysWays_45 (by decide) (fun c_97 => ?_) (fun c_97 => ?_)
                      · have c_97 : ((dm : Nat) : Int) - 1 ≤ ((dd - 1 : Nat) : Int) := (ile (ivp dm (by omega)) (ivn (dd - 1) (by omega))).mp c_97
                        refine lv_aload_n hx hb dX12_laysWays_86 rfl (lv_at hl 5 rfl) ?_
                        refine sk_get (v := .ref (g 43)) (C := RX12) (T := TX12) (N := 92) hx hb hts inlX12 hown hK hP 0 rfl rfl 43 (by decide) w_5_198 rfl dX12_laysWays_87 ?_
                        refine lv_bipush (v := 10) hx hb dX12_laysWays_90 (by decide) ?_
                        refine lv_iload_n hx hb dX12_laysWays_92 rfl (lv_at hl 3 rfl) ?_
                        refine lv_imul hx hb dX12_laysWays_93 ?_
                        refine sk_top (nI (10 * (dd - 1))) (nmul 10 (dd - 1)) ?_
                        refine lv_iload_n hx hb dX12_laysWays_94 rfl (lv_at hl 2 rfl) ?_
                        refine lv_iadd hx hb dX12_laysWays_95 ?_
                        refine sk_top (nI (10 * (dd - 1) + jm)) (nI_add (10 * (dd - 1)) jm) ?_
                        refine lv_lload hx hb dX12_laysWays_96 (lv_at hl 1 rfl) ?_
                        refine sk_lastO (ws' := fun f_98 => [(mm, .inr (12, mo g (nI ta) (nI pa) (nI pe) pd (nI pb) pp pf pg pn rt rn (nI cd) sn (nI il) tk am at_ aa mt_ (nI bh) wd wt wy (nI it_) (nI rm) (nI ud) (nI nu) sd (nI qn) (nI qw) qo (nI qb) (nI qp) qa (nI qi) (nI oc))), (g 20, .inl (cI, 4, .inl (l4 (nI l0) (nI l1) (nI dm) (nI l3)))), (g 31, .inl (cI, 120, .inl nw)), (g 38, .inl (cI, 90, .inl ws_)), (g 53, .inl (cI, 32, .inl rw_)), (g 37, .inl (cZ, 900, .inl yo)), (g 36, .inl (cZ, 900, .inl yw)), (g 43, .inl (cJ, 90, .inr (.inl f_98))), (g 44, .inl (cJ, 90, .inr (.inl bf)))]) hx hb hK hP hD hS 7 1 rfl rfl (vin (10 * (dd - 1) + jm) 90 (by omega) (by omega)) (fun _ => rfl) dX12_laysWays_98 (fun f_98 H locs hP hD hS => ?_)
                        refine lv_iinc (v := nI (jm + 1)) (lv' := [(3, .int (nI (jm + 1))), (6, .int (nI kk)), (4, .long xn), (2, .int (nI (dd - 1))), (1, .int (nI dm - 1)), (0, .ref mm)]) hx hb dX12_laysWays_99 hl (k := 2) rfl (ninc jm 1 (by decide)) (by decide) rfl (fun ls hl => ?_)
                        refine lv_goto (tgt := 15) hx hb dX12_laysWays_102 (by decide) ?_
                        exact ih_lp_75 (jm + 1) f_98 _ _ _ (by omega) (by omega) hP hD hS (lv_sub hl [0, 3, 4, 5] rfl)
                      · have c_97 : ¬ (((dm : Nat) : Int) - 1 ≤ ((dd - 1 : Nat) : Int)) := fun h => c_97 ((ile (ivp dm (by omega)) (ivn (dd - 1) (by omega))).mpr h)
                        refine lv_aload_n hx hb dX12_laysWays_48 rfl (lv_at hl 5 rfl) ?_
                        refine lv_iload_n hx hb dX12_laysWays_49 rfl (lv_at hl 3 rfl) ?_
                        refine lv_iconst (v := 1) hx hb dX12_laysWays_50 (by decide) ?_
                        refine lv_iadd hx hb dX12_laysWays_51 ?_
                        refine sk_top (nI (dd - 1 + 1)) (nI_add (dd - 1) 1) ?_
                        refine lv_iload_n hx hb dX12_laysWays_52 rfl (lv_at hl 2 rfl) ?_
                        refine lv_iload hx hb dX12_laysWays_53 (lv_at hl 0 rfl) ?_
                        refine sk_Vi (q0 := 0) (n := 3) (rest := []) (wr := fmR om_9_17c _) ⟨hx, hb, hml, hown, hts⟩ hl.1 (c_m_canFollowS l D cI cJ cC cZ cS mm g ta pa pe pd pb pp pf pg pn rt rn cd sn il tk am at_ aa mt_ bh wd wt wy it_ rm ud nu sd qn qw qo qb qp qa qi oc (dd - 1 + 1) jm kk nw ws_ rw_ yo yw (by omega) (by omega) (by omega) (by omega) (by omega) hnw) w_7_201 w_7_203 w_0_85 w_1_14 w_7_204 hd_X12_canFollow_3 ⟨⟨(Nat.le_of_ble_eq_true rfl), (Nat.le_of_ble_eq_true rfl)⟩, (Nat.le_of_ble_eq_true rfl), (Nat.le_of_ble_eq_true rfl)⟩ hK hP hD hS hA (fmT om_9_17c 0) (fmF om_9_17c 0) (fm_C1 rfl rfl) (fm_R rfl rfl) (fm_nT om_9_17c 0) (fm_nF om_9_17c 0) (fm_di om_9_17c 0) rfl rfl rfl rfl (Nat.le_of_ble_eq_true rfl) dX12_laysWays_55 (fun r_100 u H locs hw hP hD hS => ?_)
                        refine exE hw (fun b_99 hw1 => anE hw1 (fun hb1_101 hw2 => anE hw2 (fun er_103 eu_102 => ?_)))
                        clear hw hw1 hw2
                        subst er_103
                        refine o_mgE (ws' := [(mm, .inr (12, mo g (nI ta) (nI pa) (nI pe) pd (nI pb) pp pf pg pn rt rn (nI cd) sn (nI il) tk am at_ aa mt_ (nI bh) wd wt wy (nI it_) (nI rm) (nI ud) (nI nu) sd (nI qn) (nI qw) qo (nI qb) (nI qp) qa (nI qi) (nI oc))), (g 20, .inl (cI, 4, .inl (l4 (nI l0) (nI l1) (nI dm) (nI l3)))), (g 31, .inl (cI, 120, .inl nw)), (g 38, .inl (cI, 90, .inl ws_)), (g 53, .inl (cI, 32, .inl rw_)), (g 37, .inl (cZ, 900, .inl yo)), (g 36, .inl (cZ, 900, .inl yw)), (g 43, .inl (cJ, 90, .inr (.inl zc))), (g 44, .inl (cJ, 90, .inr (.inl bf)))]) eu_102 hP hD rfl (fun hP hD => ?_)
                        refine lv_if_eq (tgt := 80) hx hb dX12_laysWays_58 (by decide) (fun c_104 => ?_) (fun c_104 => ?_)
                        · have c_104 : b_99 = 0 := (neq b_99 0 (by omega) (by omega)).mp c_104
                          refine lv_iinc (v := nI (kk + 1)) (lv' := [(6, .int (nI (kk + 1))), (4, .long xn), (3, .int (nI jm)), (2, .int (nI (dd - 1))), (1, .int (nI dm - 1)), (0, .ref mm)]) hx hb dX12_laysWays_80 hl (k := 0) rfl (ninc kk 1 (by decide)) (by decide) rfl (fun ls hl => ?_)
                          refine lv_goto (tgt := 36) hx hb dX12_laysWays_83 (by decide) ?_
                          exact ih_lp_93 (kk + 1) xn _ _ _ (by omega) (by omega) hP hD hS (lv_sub hl [0, 1, 2, 3, 4, 5] rfl)
                        · have c_104 : ¬ (b_99 = 0) := fun h => c_104 ((neq b_99 0 (by omega) (by omega)).mpr h)
                          refine lv_lload hx hb dX12_laysWays_61 (lv_at hl 1 rfl) ?_
                          refine lv_aload_n hx hb dX12_laysWays_63 rfl (lv_at hl 5 rfl) ?_
                          refine sk_get (v := .ref (g 43)) (C := RX12) (T := TX12) (N := 92) hx hb hts inlX12 hown hK hP 0 rfl rfl 43 (by decide) w_5_198 rfl dX12_laysWays_64 ?_
                          refine lv_bipush (v := 10) hx hb dX12_laysWays_67 (by decide) ?_
                          refine lv_iload_n hx hb dX12_laysWays_69 rfl (lv_at hl 3 rfl) ?_
                          refine lv_iconst (v := 1) hx hb dX12_laysWays_70 (by decide) ?_
                          refine lv_iadd hx hb dX12_laysWays_71 ?_
                          refine sk_top (nI (dd - 1 + 1)) (nI_add (dd - 1) 1) ?_
                          refine lv_imul hx hb dX12_laysWays_72 ?_
                          refine sk_top (nI (10 * (dd - 1 + 1))) (nmul 10 (dd - 1 + 1)) ?_
                          refine lv_iload hx hb dX12_laysWays_73 (lv_at hl 0 rfl) ?_
                          refine lv_iadd hx hb dX12_laysWays_75 ?_
                          refine sk_top (nI (10 * (dd - 1 + 1) + kk)) (nI_add (10 * (dd - 1 + 1)) kk) ?_
                          refine va_lald hx hb hK.1 hP 7 1 rfl rfl (vin (10 * (dd - 1 + 1) + kk) 90 (by omega) (by omega)) dX12_laysWays_76 ?_
                          refine lv_topl (fun v_105 ev_105 => ?_)
                          refine lv_ladd hx hb dX12_laysWays_77 ?_
                          refine lv_topl (fun v_106 ev_106 => ?_)
                          refine lv_lstore (lv' := [(4, .long v_106), (6, .int (nI kk)), (3, .int (nI jm)), (2, .int (nI (dd - 1))), (1, .int (nI dm - 1)), (0, .ref mm)]) hx hb dX12_laysWays_78 hl (by decide) rfl (fun ls hl => ?_)
                          refine lv_iinc (v := nI (kk + 1)) (lv' := [(6, .int (nI (kk + 1))), (4, .long v_106), (3, .int (nI jm)), (2, .int (nI (dd - 1))), (1, .int (nI dm - 1)), (0, .ref mm)]) hx hb dX12_laysWays_80 hl (k := 1) rfl (ninc kk 1 (by decide)) (by decide) rfl (fun ls hl => ?_)
                          refine lv_goto (tgt := 36) hx hb dX12_laysWays_83 (by decide) ?_
                          exact ih_lp_93 (kk + 1) v_106 _ _ _ (by omega) (by omega) hP hD hS (lv_sub hl [0, 1, 2, 3, 4, 5] rfl)
                exact lp_93 (10 - 0 + 1) 0 1 _ _ _ (Nat.lt_succ_self _) (by omega) hP hD hS (lv_sub hl [0, 1, 2, 3, 4, 5] rfl)
        exact lp_75 (10 - 0 + 1) 0 zb _ _ _ (Nat.lt_succ_self _) (by omega) hP hD hS (lv_sub hl [0, 1, 2, 3] rfl)
  exact lp_4 (dm + 1) dm be _ _ _ (Nat.lt_succ_self _) (by omega) hP hD hS (lv_sub hl [0, 1, 2] rfl)
