def om_9_180 : List Bool := true :: true :: false :: false :: false :: false :: false :: false :: false :: []
def om_9_17c : List Bool := true :: false :: true :: true :: true :: true :: true :: false :: false :: []
set_option maxHeartbeats 4000000 in
set_option maxRecDepth 100000 in
theorem c_m_laysWaysS (l : Launch) (D : va_G) (cI cJ cC cZ cS : ClassId) (mm : Nat) (g : Nat → Nat) (ta : Nat) (pa : Nat) (pe : Nat) (pd : Int32) (pb : Nat) (pp : Int32) (pf : Int32) (pg : Int32) (pn : Int32) (rt : Int32) (rn : Int32) (cd : Nat) (sn : Int32) (il : Nat) (tk : Int32) (am : Int32) (at_ : Int32) (aa : Int32) (mt_ : Int32) (bh : Nat) (wd : Int32) (wt : Int32) (wy : Int64) (it_ : Nat) (rm : Nat) (ud : Nat) (nu : Nat) (sd : Int64) (qn : Nat) (qw : Nat) (qo : Int32) (qb : Nat) (qp : Nat) (qa : Int64) (qi : Nat) (oc : Nat) (l0 : Nat) (l1 : Nat) (dm : Nat) (l3 : Nat) (nw : Nat → Int32) (ws_ : Nat → Int32) (rw_ : Nat → Int32) (yo : Nat → Int32) (yw : Nat → Int32) (be : Nat → Int64) (bf : Nat → Int64) (hdm : dm ≤ 9) (hdm1 : 1 ≤ dm) (hrm : rm ≤ 16) (hbh : bh ≤ 1) (hnw : nowOk nw) : skM l yX12_laysWays cX12_laysWays 7 none 3 68 0 0 D (skT cI cJ cC cZ cS) [.ref mm] [ro_ mm 12 (mo g (nI ta) (nI pa) (nI pe) pd (nI pb) pp pf pg pn rt rn (nI cd) sn (nI il) tk am at_ aa mt_ (nI bh) wd wt wy (nI it_) (nI rm) (nI ud) (nI nu) sd (nI qn) (nI qw) qo (nI qb) (nI qp) qa (nI qi) (nI oc)), ra_I (g 20) cI 4 (l4 (nI l0) (nI l1) (nI dm) (nI l3)), ra_I (g 31) cI 120 nw, ra_I (g 38) cI 90 ws_, ra_I (g 53) cI 32 rw_, ra_I (g 37) cZ 900 yo, ra_I (g 36) cZ 900 yw, ra_J (g 43) cJ 90 be, ra_J (g 44) cJ 90 bf] (skV D (skT cI cJ cC cZ cS) (fun (u : va_W) => ∃ (wy2 : Int64), ∃ (be2 : Nat → Int64), ∃ (bf2 : Nat → Int64), u = [ro_ mm 12 (mo g (nI ta) (nI pa) (nI pe) pd (nI pb) pp pf pg pn rt rn (nI cd) sn (nI il) tk am at_ aa mt_ (nI bh) wd wt wy2 (nI it_) (nI rm) (nI ud) (nI nu) sd (nI qn) (nI qw) qo (nI qb) (nI qp) qa (nI qi) (nI oc)), ra_I (g 20) cI 4 (l4 (nI l0) (nI l1) (nI dm) (nI l3)), ra_I (g 31) cI 120 nw, ra_I (g 38) cI 90 ws_, ra_I (g 53) cI 32 rw_, ra_I (g 37) cZ 900 yo, ra_I (g 36) cZ 900 yw, ra_J (g 43) cJ 90 be2, ra_J (g 44) cJ 90 bf2])) := by
  refine skM_of pf_X12_laysWays (Nat.le_of_ble_eq_true rfl) ?_
  intro p e s m below meth c A ls E hP hD hl
  refine skE_el E (fun hx hb hr hml hlocks hin hown hts hK hA => ?_)
  have hown : s.vm.findClass RX12 = some m.cls := hown
  have hS : va_S A s.heap s.heap [] := va_S.rf
  have hl : lv_has ls 7 [(0, .ref mm)] := hl
  refine lv_aload_n hx hb dX12_laysWays_0 rfl (lv_at hl 0 rfl) ?_
  refine sk_Vi (q0 := 0) (n := 0) (rest := []) (wr := fmR om_9_180 _) ⟨hx, hb, hml, hown, hts⟩ hl.1 (c_m_dayMany l D cI cJ cC cZ cS mm g ta pa pe pd pb pp pf pg pn rt rn cd sn il tk am at_ aa mt_ bh wd wt wy it_ rm ud nu sd qn qw qo qb qp qa qi oc l0 l1 dm l3) w_7_98 w_7_100 w_0_69 w_1_14 w_7_101 hd_X12_dayMany_0 ⟨⟨(Nat.le_of_ble_eq_true rfl), (Nat.le_of_ble_eq_true rfl)⟩, (Nat.le_of_ble_eq_true rfl), (Nat.le_of_ble_eq_true rfl)⟩ hK hP hD hS hA (fmT om_9_180 0) (fmF om_9_180 0) (fm_C1 rfl rfl) (fm_R rfl rfl) (fm_nT om_9_180 0) (fm_nF om_9_180 0) (fm_di om_9_180 0) rfl rfl rfl rfl (Nat.le_of_ble_eq_true rfl) dX12_laysWays_1 (fun r_1 u H locs hw hP hD hS => ?_)
  refine anE hw (fun er_3 eu_2 => ?_)
  clear hw
  subst er_3
  refine o_mgE (ws' := [ro_ mm 12 (mo g (nI ta) (nI pa) (nI pe) pd (nI pb) pp pf pg pn rt rn (nI cd) sn (nI il) tk am at_ aa mt_ (nI bh) wd wt wy (nI it_) (nI rm) (nI ud) (nI nu) sd (nI qn) (nI qw) qo (nI qb) (nI qp) qa (nI qi) (nI oc)), ra_I (g 20) cI 4 (l4 (nI l0) (nI l1) (nI dm) (nI l3)), ra_I (g 31) cI 120 nw, ra_I (g 38) cI 90 ws_, ra_I (g 53) cI 32 rw_, ra_I (g 37) cZ 900 yo, ra_I (g 36) cZ 900 yw, ra_J (g 43) cJ 90 be, ra_J (g 44) cJ 90 bf]) eu_2 hP hD rfl (fun hP hD => ?_)
  refine lv_iconst (v := 1) hx hb dX12_laysWays_4 ic_1 ?_
  refine lv_isub hx hb dX12_laysWays_5 ?_
  refine lv_istore_n (lv' := [(1, .int (nI dm - 1)), (0, .ref mm)]) hx hb dX12_laysWays_6 rfl hl (by decide) rfl (fun ls hl => ?_)
  refine lv_iload_n hx hb dX12_laysWays_7 rfl (lv_at hl 0 rfl) ?_
  refine lv_istore_n (lv' := [(2, .int (nI dm - 1)), (1, .int (nI dm - 1)), (0, .ref mm)]) hx hb dX12_laysWays_8 rfl hl (by decide) rfl (fun ls hl => ?_)
  have lp_4 : ∀ (n_5 : Nat) (dd : Nat) (zb : Nat → Int64) (H : Heap) (locs : List Loc) (ls : Array Slot), dd < n_5 → (dd ≤ dm) → va_P D vwCl [ro_ mm 12 (mo g (nI ta) (nI pa) (nI pe) pd (nI pb) pp pf pg pn rt rn (nI cd) sn (nI il) tk am at_ aa mt_ (nI bh) wd wt wy (nI it_) (nI rm) (nI ud) (nI nu) sd (nI qn) (nI qw) qo (nI qb) (nI qp) qa (nI qi) (nI oc)), ra_I (g 20) cI 4 (l4 (nI l0) (nI l1) (nI dm) (nI l3)), ra_I (g 31) cI 120 nw, ra_I (g 38) cI 90 ws_, ra_I (g 53) cI 32 rw_, ra_I (g 37) cZ 900 yo, ra_I (g 36) cZ 900 yw, ra_J (g 43) cJ 90 zb, ra_J (g 44) cJ 90 bf] H → va_D A [ro_ mm 12 (mo g (nI ta) (nI pa) (nI pe) pd (nI pb) pp pf pg pn rt rn (nI cd) sn (nI il) tk am at_ aa mt_ (nI bh) wd wt wy (nI it_) (nI rm) (nI ud) (nI nu) sd (nI qn) (nI qw) qo (nI qb) (nI qp) qa (nI qi) (nI oc)), ra_I (g 20) cI 4 (l4 (nI l0) (nI l1) (nI dm) (nI l3)), ra_I (g 31) cI 120 nw, ra_I (g 38) cI 90 ws_, ra_I (g 53) cI 32 rw_, ra_I (g 37) cZ 900 yo, ra_I (g 36) cZ 900 yw, ra_J (g 43) cJ 90 zb, ra_J (g 44) cJ 90 bf] → va_S A s.heap H locs → lv_has ls 7 [(2, .int (nI dd - 1)), (1, .int (nI dm - 1)), (0, .ref mm)] → W p l e { frames := 3, cells := 0, slots := 0, locals := 68 } s m ([.ref mm] : List Value).toArray below meth c H locs 0 0 (MQ below (skV D (skT cI cJ cC cZ cS) (fun (u : va_W) => ∃ (wy2 : Int64), ∃ (be2 : Nat → Int64), ∃ (bf2 : Nat → Int64), u = [ro_ mm 12 (mo g (nI ta) (nI pa) (nI pe) pd (nI pb) pp pf pg pn rt rn (nI cd) sn (nI il) tk am at_ aa mt_ (nI bh) wd wt wy2 (nI it_) (nI rm) (nI ud) (nI nu) sd (nI qn) (nI qw) qo (nI qb) (nI qp) qa (nI qi) (nI oc)), ra_I (g 20) cI 4 (l4 (nI l0) (nI l1) (nI dm) (nI l3)), ra_I (g 31) cI 120 nw, ra_I (g 38) cI 90 ws_, ra_I (g 53) cI 32 rw_, ra_I (g 37) cZ 900 yo, ra_I (g 36) cZ 900 yw, ra_J (g 43) cJ 90 be2, ra_J (g 44) cJ 90 bf2]) A) ([.ref mm] : List Value).toArray s 0 0 A) (F0 m 9 ls []) := by
    intro n_5
    induction n_5 with
    | zero => intro dd zb H locs ls hm; exact absurd hm (Nat.not_lt_zero _)
    | succ n_5 ih_lp_4 =>
      intro dd zb H locs ls hm hdd hP hD hS hl
      refine lv_iload_n hx hb dX12_laysWays_9 rfl (lv_at hl 0 rfl) ?_
      refine lv_if_lt (tgt := 111) hx hb dX12_laysWays_10 (by decide) (fun c_6 => ?_) (fun c_6 => ?_)
      · have c_6 : dd = 0 := npm0 dd (by omega) c_6
        refine lv_aload_n hx hb dX12_laysWays_111 rfl (lv_at hl 2 rfl) ?_
        refine lv_lconst (v := 0) hx hb dX12_laysWays_112 (by decide) ?_
        refine sk_put (ws' := [ro_ mm 12 (mo g (nI ta) (nI pa) (nI pe) pd (nI pb) pp pf pg pn rt rn (nI cd) sn (nI il) tk am at_ aa mt_ (nI bh) wd wt 0 (nI it_) (nI rm) (nI ud) (nI nu) sd (nI qn) (nI qw) qo (nI qb) (nI qp) qa (nI qi) (nI oc)), ra_I (g 20) cI 4 (l4 (nI l0) (nI l1) (nI dm) (nI l3)), ra_I (g 31) cI 120 nw, ra_I (g 38) cI 90 ws_, ra_I (g 53) cI 32 rw_, ra_I (g 37) cZ 900 yo, ra_I (g 36) cZ 900 yw, ra_J (g 43) cJ 90 zb, ra_J (g 44) cJ 90 bf]) (C := RX12) (T := TX12) (N := 92) (v := .long 0) hx hb hts inlX12 tyX12 tyX12_ok nmX12 hown hK hP hD hS 0 rfl rfl 45 (Nat.le_of_ble_eq_true rfl) w_5_200 rfl rfl rfl (Nat.le_of_ble_eq_true rfl) rfl dX12_laysWays_113 (fun H locs hP hD hS => ?_)
        refine lv_iconst (v := 0) hx hb dX12_laysWays_116 ic_0 ?_
        refine lv_istore_n (lv' := [(2, .int 0), (1, .int (nI dm - 1)), (0, .ref mm)]) hx hb dX12_laysWays_117 rfl hl (by decide) rfl (fun ls hl => ?_)
        have lp_7 : ∀ (n_8 : Nat) (i : Nat) (zy : Int64) (zf : Nat → Int64) (H : Heap) (locs : List Loc) (ls : Array Slot), dm - i < n_8 → (i ≤ dm) → va_P D vwCl [ro_ mm 12 (mo g (nI ta) (nI pa) (nI pe) pd (nI pb) pp pf pg pn rt rn (nI cd) sn (nI il) tk am at_ aa mt_ (nI bh) wd wt zy (nI it_) (nI rm) (nI ud) (nI nu) sd (nI qn) (nI qw) qo (nI qb) (nI qp) qa (nI qi) (nI oc)), ra_I (g 20) cI 4 (l4 (nI l0) (nI l1) (nI dm) (nI l3)), ra_I (g 31) cI 120 nw, ra_I (g 38) cI 90 ws_, ra_I (g 53) cI 32 rw_, ra_I (g 37) cZ 900 yo, ra_I (g 36) cZ 900 yw, ra_J (g 43) cJ 90 zb, ra_J (g 44) cJ 90 zf] H → va_D A [ro_ mm 12 (mo g (nI ta) (nI pa) (nI pe) pd (nI pb) pp pf pg pn rt rn (nI cd) sn (nI il) tk am at_ aa mt_ (nI bh) wd wt zy (nI it_) (nI rm) (nI ud) (nI nu) sd (nI qn) (nI qw) qo (nI qb) (nI qp) qa (nI qi) (nI oc)), ra_I (g 20) cI 4 (l4 (nI l0) (nI l1) (nI dm) (nI l3)), ra_I (g 31) cI 120 nw, ra_I (g 38) cI 90 ws_, ra_I (g 53) cI 32 rw_, ra_I (g 37) cZ 900 yo, ra_I (g 36) cZ 900 yw, ra_J (g 43) cJ 90 zb, ra_J (g 44) cJ 90 zf] → va_S A s.heap H locs → lv_has ls 7 [(2, .int (nI i)), (1, .int (nI dm - 1)), (0, .ref mm)] → W p l e { frames := 3, cells := 0, slots := 0, locals := 68 } s m ([.ref mm] : List Value).toArray below meth c H locs 0 0 (MQ below (skV D (skT cI cJ cC cZ cS) (fun (u : va_W) => ∃ (wy2 : Int64), ∃ (be2 : Nat → Int64), ∃ (bf2 : Nat → Int64), u = [ro_ mm 12 (mo g (nI ta) (nI pa) (nI pe) pd (nI pb) pp pf pg pn rt rn (nI cd) sn (nI il) tk am at_ aa mt_ (nI bh) wd wt wy2 (nI it_) (nI rm) (nI ud) (nI nu) sd (nI qn) (nI qw) qo (nI qb) (nI qp) qa (nI qi) (nI oc)), ra_I (g 20) cI 4 (l4 (nI l0) (nI l1) (nI dm) (nI l3)), ra_I (g 31) cI 120 nw, ra_I (g 38) cI 90 ws_, ra_I (g 53) cI 32 rw_, ra_I (g 37) cZ 900 yo, ra_I (g 36) cZ 900 yw, ra_J (g 43) cJ 90 be2, ra_J (g 44) cJ 90 bf2]) A) ([.ref mm] : List Value).toArray s 0 0 A) (F0 m 118 ls []) := by
          intro n_8
          induction n_8 with
          | zero => intro i zy zf H locs ls hm; exact absurd hm (Nat.not_lt_zero _)
          | succ n_8 ih_lp_7 =>
            intro i zy zf H locs ls hm hi hP hD hS hl
            refine lv_iload_n hx hb dX12_laysWays_118 rfl (lv_at hl 0 rfl) ?_
            refine lv_iload_n hx hb dX12_laysWays_119 rfl (lv_at hl 1 rfl) ?_
            refine lv_icmp_gt (tgt := 248) hx hb dX12_laysWays_120 (by decide) (fun c_9 => ?_) (fun c_9 => ?_)
            · have c_9 : ((dm : Nat) : Int) - 1 < ((i : Nat) : Int) := (ilt (ivp dm (by omega)) (ivn i (by omega))).mp c_9
              exact sk_vret hx hb hr hlocks hK hP hD hS (⟨zy, zb, zf, rfl⟩) (Nat.le_of_ble_eq_true rfl) (Nat.le_of_ble_eq_true rfl) dX12_laysWays_248
            · have c_9 : ¬ (((dm : Nat) : Int) - 1 < ((i : Nat) : Int)) := fun h => c_9 ((ilt (ivp dm (by omega)) (ivn i (by omega))).mpr h)
              refine lv_iconst (v := 0) hx hb dX12_laysWays_123 ic_0 ?_
              refine lv_istore_n (lv' := [(3, .int 0), (2, .int (nI i)), (1, .int (nI dm - 1)), (0, .ref mm)]) hx hb dX12_laysWays_124 rfl hl (by decide) rfl (fun ls hl => ?_)
              have lp_10 : ∀ (n_11 : Nat) (jm : Nat) (zyb : Int64) (zg : Nat → Int64) (H : Heap) (locs : List Loc) (ls : Array Slot), 10 - jm < n_11 → (jm ≤ 10) → va_P D vwCl [ro_ mm 12 (mo g (nI ta) (nI pa) (nI pe) pd (nI pb) pp pf pg pn rt rn (nI cd) sn (nI il) tk am at_ aa mt_ (nI bh) wd wt zyb (nI it_) (nI rm) (nI ud) (nI nu) sd (nI qn) (nI qw) qo (nI qb) (nI qp) qa (nI qi) (nI oc)), ra_I (g 20) cI 4 (l4 (nI l0) (nI l1) (nI dm) (nI l3)), ra_I (g 31) cI 120 nw, ra_I (g 38) cI 90 ws_, ra_I (g 53) cI 32 rw_, ra_I (g 37) cZ 900 yo, ra_I (g 36) cZ 900 yw, ra_J (g 43) cJ 90 zb, ra_J (g 44) cJ 90 zg] H → va_D A [ro_ mm 12 (mo g (nI ta) (nI pa) (nI pe) pd (nI pb) pp pf pg pn rt rn (nI cd) sn (nI il) tk am at_ aa mt_ (nI bh) wd wt zyb (nI it_) (nI rm) (nI ud) (nI nu) sd (nI qn) (nI qw) qo (nI qb) (nI qp) qa (nI qi) (nI oc)), ra_I (g 20) cI 4 (l4 (nI l0) (nI l1) (nI dm) (nI l3)), ra_I (g 31) cI 120 nw, ra_I (g 38) cI 90 ws_, ra_I (g 53) cI 32 rw_, ra_I (g 37) cZ 900 yo, ra_I (g 36) cZ 900 yw, ra_J (g 43) cJ 90 zb, ra_J (g 44) cJ 90 zg] → va_S A s.heap H locs → lv_has ls 7 [(3, .int (nI jm)), (2, .int (nI i)), (1, .int (nI dm - 1)), (0, .ref mm)] → W p l e { frames := 3, cells := 0, slots := 0, locals := 68 } s m ([.ref mm] : List Value).toArray below meth c H locs 0 0 (MQ below (skV D (skT cI cJ cC cZ cS) (fun (u : va_W) => ∃ (wy2 : Int64), ∃ (be2 : Nat → Int64), ∃ (bf2 : Nat → Int64), u = [ro_ mm 12 (mo g (nI ta) (nI pa) (nI pe) pd (nI pb) pp pf pg pn rt rn (nI cd) sn (nI il) tk am at_ aa mt_ (nI bh) wd wt wy2 (nI it_) (nI rm) (nI ud) (nI nu) sd (nI qn) (nI qw) qo (nI qb) (nI qp) qa (nI qi) (nI oc)), ra_I (g 20) cI 4 (l4 (nI l0) (nI l1) (nI dm) (nI l3)), ra_I (g 31) cI 120 nw, ra_I (g 38) cI 90 ws_, ra_I (g 53) cI 32 rw_, ra_I (g 37) cZ 900 yo, ra_I (g 36) cZ 900 yw, ra_J (g 43) cJ 90 be2, ra_J (g 44) cJ 90 bf2]) A) ([.ref mm] : List Value).toArray s 0 0 A) (F0 m 125 ls []) := by
                intro n_11
                induction n_11 with
                | zero => intro jm zyb zg H locs ls hm; exact absurd hm (Nat.not_lt_zero _)
                | succ n_11 ih_lp_10 =>
                  intro jm zyb zg H locs ls hm hjm hP hD hS hl
                  refine lv_iload_n hx hb dX12_laysWays_125 rfl (lv_at hl 0 rfl) ?_
                  refine lv_bipush (v := 10) hx hb dX12_laysWays_126 (by decide) ?_
                  refine lv_icmp_ge (tgt := 242) hx hb dX12_laysWays_128 (by decide) (fun c_12 => ?_) (fun c_12 => ?_)
                  · have c_12 : 10 ≤ jm := (nle 10 jm (Nat.le_of_ble_eq_true rfl) (by omega)).mp c_12
                    refine lv_iinc (v := nI (i + 1)) (lv' := [(2, .int (nI (i + 1))), (3, .int (nI jm)), (1, .int (nI dm - 1)), (0, .ref mm)]) hx hb dX12_laysWays_242 hl (k := 1) rfl (ninc i 1 (by decide)) (by decide) rfl (fun ls hl => ?_)
                    refine lv_goto (tgt := 118) hx hb dX12_laysWays_245 (by decide) ?_
                    exact ih_lp_7 (i + 1) zyb zg _ _ _ (by omega) (by omega) hP hD hS (lv_sub hl [0, 2, 3] rfl)
                  · have c_12 : ¬ (10 ≤ jm) := fun h => c_12 ((nle 10 jm (Nat.le_of_ble_eq_true rfl) (by omega)).mpr h)
                    refine lv_iload_n hx hb dX12_laysWays_131 rfl (lv_at hl 1 rfl) ?_
                    refine lv_if_ne (tgt := 154) hx hb dX12_laysWays_132 (by decide) (fun c_13 => ?_) (fun c_13 => ?_)
                    · have c_13 : ¬ (i = 0) := fun h => c_13 ((neq i 0 (by omega) (Nat.le_of_ble_eq_true rfl)).mpr h)
                      refine lv_lconst (v := 0) hx hb dX12_laysWays_154 (by decide) ?_
                      refine lv_lstore (lv' := [(4, .long 0), (3, .int (nI jm)), (2, .int (nI i)), (1, .int (nI dm - 1)), (0, .ref mm)]) hx hb dX12_laysWays_155 hl (by decide) rfl (fun ls hl => ?_)
                      refine lv_iconst (v := 0) hx hb dX12_laysWays_157 ic_0 ?_
                      refine lv_istore (lv' := [(6, .int 0), (4, .long 0), (3, .int (nI jm)), (2, .int (nI i)), (1, .int (nI dm - 1)), (0, .ref mm)]) hx hb dX12_laysWays_158 hl (by decide) rfl (fun ls hl => ?_)
                      have lp_14 : ∀ (n_15 : Nat) (kk : Nat) (xn : Int64) (H : Heap) (locs : List Loc) (ls : Array Slot), 10 - kk < n_15 → (kk ≤ 10) → va_P D vwCl [ro_ mm 12 (mo g (nI ta) (nI pa) (nI pe) pd (nI pb) pp pf pg pn rt rn (nI cd) sn (nI il) tk am at_ aa mt_ (nI bh) wd wt zyb (nI it_) (nI rm) (nI ud) (nI nu) sd (nI qn) (nI qw) qo (nI qb) (nI qp) qa (nI qi) (nI oc)), ra_I (g 20) cI 4 (l4 (nI l0) (nI l1) (nI dm) (nI l3)), ra_I (g 31) cI 120 nw, ra_I (g 38) cI 90 ws_, ra_I (g 53) cI 32 rw_, ra_I (g 37) cZ 900 yo, ra_I (g 36) cZ 900 yw, ra_J (g 43) cJ 90 zb, ra_J (g 44) cJ 90 zg] H → va_D A [ro_ mm 12 (mo g (nI ta) (nI pa) (nI pe) pd (nI pb) pp pf pg pn rt rn (nI cd) sn (nI il) tk am at_ aa mt_ (nI bh) wd wt zyb (nI it_) (nI rm) (nI ud) (nI nu) sd (nI qn) (nI qw) qo (nI qb) (nI qp) qa (nI qi) (nI oc)), ra_I (g 20) cI 4 (l4 (nI l0) (nI l1) (nI dm) (nI l3)), ra_I (g 31) cI 120 nw, ra_I (g 38) cI 90 ws_, ra_I (g 53) cI 32 rw_, ra_I (g 37) cZ 900 yo, ra_I (g 36) cZ 900 yw, ra_J (g 43) cJ 90 zb, ra_J (g 44) cJ 90 zg] → va_S A s.heap H locs → lv_has ls 7 [(6, .int (nI kk)), (4, .long xn), (3, .int (nI jm)), (2, .int (nI i)), (1, .int (nI dm - 1)), (0, .ref mm)] → W p l e { frames := 3, cells := 0, slots := 0, locals := 68 } s m ([.ref mm] : List Value).toArray below meth c H locs 0 0 (MQ below (skV D (skT cI cJ cC cZ cS) (fun (u : va_W) => ∃ (wy2 : Int64), ∃ (be2 : Nat → Int64), ∃ (bf2 : Nat → Int64), u = [ro_ mm 12 (mo g (nI ta) (nI pa) (nI pe) pd (nI pb) pp pf pg pn rt rn (nI cd) sn (nI il) tk am at_ aa mt_ (nI bh) wd wt wy2 (nI it_) (nI rm) (nI ud) (nI nu) sd (nI qn) (nI qw) qo (nI qb) (nI qp) qa (nI qi) (nI oc)), ra_I (g 20) cI 4 (l4 (nI l0) (nI l1) (nI dm) (nI l3)), ra_I (g 31) cI 120 nw, ra_I (g 38) cI 90 ws_, ra_I (g 53) cI 32 rw_, ra_I (g 37) cZ 900 yo, ra_I (g 36) cZ 900 yw, ra_J (g 43) cJ 90 be2, ra_J (g 44) cJ 90 bf2]) A) ([.ref mm] : List Value).toArray s 0 0 A) (F0 m 160 ls []) := by
                        intro n_15
                        induction n_15 with
                        | zero => intro kk xn H locs ls hm; exact absurd hm (Nat.not_lt_zero _)
                        | succ n_15 ih_lp_14 =>
                          intro kk xn H locs ls hm hkk hP hD hS hl
                          refine lv_iload hx hb dX12_laysWays_160 (lv_at hl 0 rfl) ?_
                          refine lv_bipush (v := 10) hx hb dX12_laysWays_162 (by decide) ?_
                          refine lv_icmp_ge (tgt := 207) hx hb dX12_laysWays_164 (by decide) (fun c_16 => ?_) (fun c_16 => ?_)
                          · have c_16 : 10 ≤ kk := (nle 10 kk (Nat.le_of_ble_eq_true rfl) (by omega)).mp c_16
                            refine lv_aload_n hx hb dX12_laysWays_207 rfl (lv_at hl 5 rfl) ?_
                            refine sk_get (v := .ref (g 44)) (C := RX12) (T := TX12) (N := 92) hx hb hts inlX12 hown hK hP 0 rfl rfl 44 (Nat.le_of_ble_eq_true rfl) w_5_199 rfl dX12_laysWays_208 ?_
                            refine lv_bipush (v := 10) hx hb dX12_laysWays_211 (by decide) ?_
                            refine lv_iload_n hx hb dX12_laysWays_213 rfl (lv_at hl 3 rfl) ?_
                            refine lv_imul hx hb dX12_laysWays_214 ?_
                            refine sk_top (nI (10 * i)) (nmul 10 i) ?_
                            refine lv_iload_n hx hb dX12_laysWays_215 rfl (lv_at hl 2 rfl) ?_
                            refine lv_iadd hx hb dX12_laysWays_216 ?_
                            refine sk_top (nI (10 * i + jm)) (nI_add (10 * i) jm) ?_
                            refine lv_lload hx hb dX12_laysWays_217 (lv_at hl 1 rfl) ?_
                            refine sk_lastO (ws' := fun f_17 => [ro_ mm 12 (mo g (nI ta) (nI pa) (nI pe) pd (nI pb) pp pf pg pn rt rn (nI cd) sn (nI il) tk am at_ aa mt_ (nI bh) wd wt zyb (nI it_) (nI rm) (nI ud) (nI nu) sd (nI qn) (nI qw) qo (nI qb) (nI qp) qa (nI qi) (nI oc)), ra_I (g 20) cI 4 (l4 (nI l0) (nI l1) (nI dm) (nI l3)), ra_I (g 31) cI 120 nw, ra_I (g 38) cI 90 ws_, ra_I (g 53) cI 32 rw_, ra_I (g 37) cZ 900 yo, ra_I (g 36) cZ 900 yw, ra_J (g 43) cJ 90 zb, ra_J (g 44) cJ 90 f_17]) hx hb hK hP hD hS 8 1 rfl rfl (vin (10 * i + jm) 90 (by omega) (Nat.le_of_ble_eq_true rfl)) (fun _ => rfl) dX12_laysWays_219 (fun f_17 H locs hP hD hS => ?_)
                            refine lv_iload_n hx hb dX12_laysWays_220 rfl (lv_at hl 3 rfl) ?_
                            refine lv_iload_n hx hb dX12_laysWays_221 rfl (lv_at hl 4 rfl) ?_
                            refine lv_icmp_ne (tgt := 236) hx hb dX12_laysWays_222 (by decide) (fun c_18 => ?_) (fun c_18 => ?_)
                            · have c_18 : ¬ (((i : Nat) : Int) = ((dm : Nat) : Int) - 1) := fun h => c_18 ((ieq (ivn i (by omega)) (ivp dm (by omega))).mpr h)
                              refine lv_iinc (v := nI (jm + 1)) (lv' := [(3, .int (nI (jm + 1))), (6, .int (nI kk)), (4, .long xn), (2, .int (nI i)), (1, .int (nI dm - 1)), (0, .ref mm)]) hx hb dX12_laysWays_236 hl (k := 2) rfl (ninc jm 1 (by decide)) (by decide) rfl (fun ls hl => ?_)
                              refine lv_goto (tgt := 125) hx hb dX12_laysWays_239 (by decide) ?_
                              exact ih_lp_10 (jm + 1) zyb f_17 _ _ _ (by omega) (by omega) hP hD hS (lv_sub hl [0, 3, 4, 5] rfl)
                            · have c_18 : ((i : Nat) : Int) = ((dm : Nat) : Int) - 1 := (ieq (ivn i (by omega)) (ivp dm (by omega))).mp c_18
                              refine lv_aload_n hx hb dX12_laysWays_225 rfl (lv_at hl 5 rfl) ?_
                              refine lv_dup hx hb dX12_laysWays_226 rfl ?_
                              refine sk_get (v := .long zyb) (C := RX12) (T := TX12) (N := 92) hx hb hts inlX12 hown hK hP 0 rfl rfl 45 (Nat.le_of_ble_eq_true rfl) w_5_200 rfl dX12_laysWays_227 ?_
                              refine lv_lload hx hb dX12_laysWays_230 (lv_at hl 1 rfl) ?_
                              refine lv_ladd hx hb dX12_laysWays_232 ?_
                              refine lv_topl (fun v_19 ev_19 => ?_)
                              refine sk_put (ws' := [ro_ mm 12 (mo g (nI ta) (nI pa) (nI pe) pd (nI pb) pp pf pg pn rt rn (nI cd) sn (nI il) tk am at_ aa mt_ (nI bh) wd wt v_19 (nI it_) (nI rm) (nI ud) (nI nu) sd (nI qn) (nI qw) qo (nI qb) (nI qp) qa (nI qi) (nI oc)), ra_I (g 20) cI 4 (l4 (nI l0) (nI l1) (nI dm) (nI l3)), ra_I (g 31) cI 120 nw, ra_I (g 38) cI 90 ws_, ra_I (g 53) cI 32 rw_, ra_I (g 37) cZ 900 yo, ra_I (g 36) cZ 900 yw, ra_J (g 43) cJ 90 zb, ra_J (g 44) cJ 90 f_17]) (C := RX12) (T := TX12) (N := 92) (v := .long v_19) hx hb hts inlX12 tyX12 tyX12_ok nmX12 hown hK hP hD hS 0 rfl rfl 45 (Nat.le_of_ble_eq_true rfl) w_5_200 rfl rfl rfl (Nat.le_of_ble_eq_true rfl) rfl dX12_laysWays_233 (fun H locs hP hD hS => ?_)
                              refine lv_iinc (v := nI (jm + 1)) (lv' := [(3, .int (nI (jm + 1))), (6, .int (nI kk)), (4, .long xn), (2, .int (nI i)), (1, .int (nI dm - 1)), (0, .ref mm)]) hx hb dX12_laysWays_236 hl (k := 2) rfl (ninc jm 1 (by decide)) (by decide) rfl (fun ls hl => ?_)
                              refine lv_goto (tgt := 125) hx hb dX12_laysWays_239 (by decide) ?_
                              exact ih_lp_10 (jm + 1) v_19 f_17 _ _ _ (by omega) (by omega) hP hD hS (lv_sub hl [0, 3, 4, 5] rfl)
                          · have c_16 : ¬ (10 ≤ kk) := fun h => c_16 ((nle 10 kk (Nat.le_of_ble_eq_true rfl) (by omega)).mpr h)
                            refine lv_iload_n hx hb dX12_laysWays_167 rfl (lv_at hl 3 rfl) ?_
                            refine lv_if_le (tgt := 207) hx hb dX12_laysWays_168 (by decide) (fun c_20 => ?_) (fun c_20 => ?_)
                            · have c_20 : i ≤ 0 := (nle i 0 (by omega) (Nat.le_of_ble_eq_true rfl)).mp c_20
                              refine lv_aload_n hx hb dX12_laysWays_207 rfl (lv_at hl 5 rfl) ?_
                              refine sk_get (v := .ref (g 44)) (C := RX12) (T := TX12) (N := 92) hx hb hts inlX12 hown hK hP 0 rfl rfl 44 (Nat.le_of_ble_eq_true rfl) w_5_199 rfl dX12_laysWays_208 ?_
                              refine lv_bipush (v := 10) hx hb dX12_laysWays_211 (by decide) ?_
                              refine lv_iload_n hx hb dX12_laysWays_213 rfl (lv_at hl 3 rfl) ?_
                              refine lv_imul hx hb dX12_laysWays_214 ?_
                              refine sk_top (nI (10 * i)) (nmul 10 i) ?_
                              refine lv_iload_n hx hb dX12_laysWays_215 rfl (lv_at hl 2 rfl) ?_
                              refine lv_iadd hx hb dX12_laysWays_216 ?_
                              refine sk_top (nI (10 * i + jm)) (nI_add (10 * i) jm) ?_
                              refine lv_lload hx hb dX12_laysWays_217 (lv_at hl 1 rfl) ?_
                              refine sk_lastO (ws' := fun f_21 => [ro_ mm 12 (mo g (nI ta) (nI pa) (nI pe) pd (nI pb) pp pf pg pn rt rn (nI cd) sn (nI il) tk am at_ aa mt_ (nI bh) wd wt zyb (nI it_) (nI rm) (nI ud) (nI nu) sd (nI qn) (nI qw) qo (nI qb) (nI qp) qa (nI qi) (nI oc)), ra_I (g 20) cI 4 (l4 (nI l0) (nI l1) (nI dm) (nI l3)), ra_I (g 31) cI 120 nw, ra_I (g 38) cI 90 ws_, ra_I (g 53) cI 32 rw_, ra_I (g 37) cZ 900 yo, ra_I (g 36) cZ 900 yw, ra_J (g 43) cJ 90 zb, ra_J (g 44) cJ 90 f_21]) hx hb hK hP hD hS 8 1 rfl rfl (vin (10 * i + jm) 90 (by omega) (Nat.le_of_ble_eq_true rfl)) (fun _ => rfl) dX12_laysWays_219 (fun f_21 H locs hP hD hS => ?_)
                              refine lv_iload_n hx hb dX12_laysWays_220 rfl (lv_at hl 3 rfl) ?_
                              refine lv_iload_n hx hb dX12_laysWays_221 rfl (lv_at hl 4 rfl) ?_
                              refine lv_icmp_ne (tgt := 236) hx hb dX12_laysWays_222 (by decide) (fun c_22 => ?_) (fun c_22 => ?_)
                              · have c_22 : ¬ (((i : Nat) : Int) = ((dm : Nat) : Int) - 1) := fun h => c_22 ((ieq (ivn i (by omega)) (ivp dm (by omega))).mpr h)
                                refine lv_iinc (v := nI (jm + 1)) (lv' := [(3, .int (nI (jm + 1))), (6, .int (nI kk)), (4, .long xn), (2, .int (nI i)), (1, .int (nI dm - 1)), (0, .ref mm)]) hx hb dX12_laysWays_236 hl (k := 2) rfl (ninc jm 1 (by decide)) (by decide) rfl (fun ls hl => ?_)
                                refine lv_goto (tgt := 125) hx hb dX12_laysWays_239 (by decide) ?_
                                exact ih_lp_10 (jm + 1) zyb f_21 _ _ _ (by omega) (by omega) hP hD hS (lv_sub hl [0, 3, 4, 5] rfl)
                              · have c_22 : ((i : Nat) : Int) = ((dm : Nat) : Int) - 1 := (ieq (ivn i (by omega)) (ivp dm (by omega))).mp c_22
                                refine lv_aload_n hx hb dX12_laysWays_225 rfl (lv_at hl 5 rfl) ?_
                                refine lv_dup hx hb dX12_laysWays_226 rfl ?_
                                refine sk_get (v := .long zyb) (C := RX12) (T := TX12) (N := 92) hx hb hts inlX12 hown hK hP 0 rfl rfl 45 (Nat.le_of_ble_eq_true rfl) w_5_200 rfl dX12_laysWays_227 ?_
                                refine lv_lload hx hb dX12_laysWays_230 (lv_at hl 1 rfl) ?_
                                refine lv_ladd hx hb dX12_laysWays_232 ?_
                                refine lv_topl (fun v_23 ev_23 => ?_)
                                refine sk_put (ws' := [ro_ mm 12 (mo g (nI ta) (nI pa) (nI pe) pd (nI pb) pp pf pg pn rt rn (nI cd) sn (nI il) tk am at_ aa mt_ (nI bh) wd wt v_23 (nI it_) (nI rm) (nI ud) (nI nu) sd (nI qn) (nI qw) qo (nI qb) (nI qp) qa (nI qi) (nI oc)), ra_I (g 20) cI 4 (l4 (nI l0) (nI l1) (nI dm) (nI l3)), ra_I (g 31) cI 120 nw, ra_I (g 38) cI 90 ws_, ra_I (g 53) cI 32 rw_, ra_I (g 37) cZ 900 yo, ra_I (g 36) cZ 900 yw, ra_J (g 43) cJ 90 zb, ra_J (g 44) cJ 90 f_21]) (C := RX12) (T := TX12) (N := 92) (v := .long v_23) hx hb hts inlX12 tyX12 tyX12_ok nmX12 hown hK hP hD hS 0 rfl rfl 45 (Nat.le_of_ble_eq_true rfl) w_5_200 rfl rfl rfl (Nat.le_of_ble_eq_true rfl) rfl dX12_laysWays_233 (fun H locs hP hD hS => ?_)
                                refine lv_iinc (v := nI (jm + 1)) (lv' := [(3, .int (nI (jm + 1))), (6, .int (nI kk)), (4, .long xn), (2, .int (nI i)), (1, .int (nI dm - 1)), (0, .ref mm)]) hx hb dX12_laysWays_236 hl (k := 2) rfl (ninc jm 1 (by decide)) (by decide) rfl (fun ls hl => ?_)
                                refine lv_goto (tgt := 125) hx hb dX12_laysWays_239 (by decide) ?_
                                exact ih_lp_10 (jm + 1) v_23 f_21 _ _ _ (by omega) (by omega) hP hD hS (lv_sub hl [0, 3, 4, 5] rfl)
                            · have c_20 : ¬ (i ≤ 0) := fun h => c_20 ((nle i 0 (by omega) (Nat.le_of_ble_eq_true rfl)).mpr h)
                              refine lv_aload_n hx hb dX12_laysWays_171 rfl (lv_at hl 5 rfl) ?_
                              refine lv_iload_n hx hb dX12_laysWays_172 rfl (lv_at hl 3 rfl) ?_
                              refine lv_iload hx hb dX12_laysWays_173 (lv_at hl 0 rfl) ?_
                              refine lv_iload_n hx hb dX12_laysWays_175 rfl (lv_at hl 2 rfl) ?_
                              refine sk_Vi (q0 := 0) (n := 3) (rest := []) (wr := fmR om_9_17c _) ⟨hx, hb, hml, hown, hts⟩ hl.1 (c_m_canFollowS l D cI cJ cC cZ cS mm g ta pa pe pd pb pp pf pg pn rt rn cd sn il tk am at_ aa mt_ bh wd wt zyb it_ rm ud nu sd qn qw qo qb qp qa qi oc i kk jm nw ws_ rw_ yo yw (by omega) (by omega) (by omega) hrm hbh hnw) w_7_201 w_7_203 w_0_85 w_1_14 w_7_204 hd_X12_canFollow_3 ⟨⟨(Nat.le_of_ble_eq_true rfl), (Nat.le_of_ble_eq_true rfl)⟩, (Nat.le_of_ble_eq_true rfl), (Nat.le_of_ble_eq_true rfl)⟩ hK hP hD hS hA (fmT om_9_17c 0) (fmF om_9_17c 0) (fm_C1 rfl rfl) (fm_R rfl rfl) (fm_nT om_9_17c 0) (fm_nF om_9_17c 0) (fm_di om_9_17c 0) rfl rfl rfl rfl (Nat.le_of_ble_eq_true rfl) dX12_laysWays_176 (fun r_25 u H locs hw hP hD hS => ?_)
                              refine exE hw (fun b_24 hw1 => anE hw1 (fun hb1_26 hw2 => anE hw2 (fun er_28 eu_27 => ?_)))
                              clear hw hw1 hw2
                              subst er_28
                              refine o_mgE (ws' := [ro_ mm 12 (mo g (nI ta) (nI pa) (nI pe) pd (nI pb) pp pf pg pn rt rn (nI cd) sn (nI il) tk am at_ aa mt_ (nI bh) wd wt zyb (nI it_) (nI rm) (nI ud) (nI nu) sd (nI qn) (nI qw) qo (nI qb) (nI qp) qa (nI qi) (nI oc)), ra_I (g 20) cI 4 (l4 (nI l0) (nI l1) (nI dm) (nI l3)), ra_I (g 31) cI 120 nw, ra_I (g 38) cI 90 ws_, ra_I (g 53) cI 32 rw_, ra_I (g 37) cZ 900 yo, ra_I (g 36) cZ 900 yw, ra_J (g 43) cJ 90 zb, ra_J (g 44) cJ 90 zg]) eu_27 hP hD rfl (fun hP hD => ?_)
                              refine lv_if_eq (tgt := 201) hx hb dX12_laysWays_179 (by decide) (fun c_29 => ?_) (fun c_29 => ?_)
                              · have c_29 : b_24 = 0 := (neq b_24 0 (by omega) (Nat.le_of_ble_eq_true rfl)).mp c_29
                                refine lv_iinc (v := nI (kk + 1)) (lv' := [(6, .int (nI (kk + 1))), (4, .long xn), (3, .int (nI jm)), (2, .int (nI i)), (1, .int (nI dm - 1)), (0, .ref mm)]) hx hb dX12_laysWays_201 hl (k := 0) rfl (ninc kk 1 (by decide)) (by decide) rfl (fun ls hl => ?_)
                                refine lv_goto (tgt := 160) hx hb dX12_laysWays_204 (by decide) ?_
                                exact ih_lp_14 (kk + 1) xn _ _ _ (by omega) (by omega) hP hD hS (lv_sub hl [0, 1, 2, 3, 4, 5] rfl)
                              · have c_29 : ¬ (b_24 = 0) := fun h => c_29 ((neq b_24 0 (by omega) (Nat.le_of_ble_eq_true rfl)).mpr h)
                                refine lv_lload hx hb dX12_laysWays_182 (lv_at hl 1 rfl) ?_
                                refine lv_aload_n hx hb dX12_laysWays_184 rfl (lv_at hl 5 rfl) ?_
                                refine sk_get (v := .ref (g 44)) (C := RX12) (T := TX12) (N := 92) hx hb hts inlX12 hown hK hP 0 rfl rfl 44 (Nat.le_of_ble_eq_true rfl) w_5_199 rfl dX12_laysWays_185 ?_
                                refine lv_bipush (v := 10) hx hb dX12_laysWays_188 (by decide) ?_
                                refine lv_iload_n hx hb dX12_laysWays_190 rfl (lv_at hl 3 rfl) ?_
                                refine lv_iconst (v := 1) hx hb dX12_laysWays_191 ic_1 ?_
                                refine lv_isub hx hb dX12_laysWays_192 ?_
                                refine sk_top (nI (i - 1)) (nsub i 1 (by omega)) ?_
                                refine lv_imul hx hb dX12_laysWays_193 ?_
                                refine sk_top (nI (10 * (i - 1))) (nmul 10 (i - 1)) ?_
                                refine lv_iload hx hb dX12_laysWays_194 (lv_at hl 0 rfl) ?_
                                refine lv_iadd hx hb dX12_laysWays_196 ?_
                                refine sk_top (nI (10 * (i - 1) + kk)) (nI_add (10 * (i - 1)) kk) ?_
                                refine va_lald hx hb hK.1 hP 8 1 rfl rfl (vin (10 * (i - 1) + kk) 90 (by omega) (Nat.le_of_ble_eq_true rfl)) dX12_laysWays_197 ?_
                                refine lv_topl (fun v_30 ev_30 => ?_)
                                refine lv_ladd hx hb dX12_laysWays_198 ?_
                                refine lv_topl (fun v_31 ev_31 => ?_)
                                refine lv_lstore (lv' := [(4, .long v_31), (6, .int (nI kk)), (3, .int (nI jm)), (2, .int (nI i)), (1, .int (nI dm - 1)), (0, .ref mm)]) hx hb dX12_laysWays_199 hl (by decide) rfl (fun ls hl => ?_)
                                refine lv_iinc (v := nI (kk + 1)) (lv' := [(6, .int (nI (kk + 1))), (4, .long v_31), (3, .int (nI jm)), (2, .int (nI i)), (1, .int (nI dm - 1)), (0, .ref mm)]) hx hb dX12_laysWays_201 hl (k := 1) rfl (ninc kk 1 (by decide)) (by decide) rfl (fun ls hl => ?_)
                                refine lv_goto (tgt := 160) hx hb dX12_laysWays_204 (by decide) ?_
                                exact ih_lp_14 (kk + 1) v_31 _ _ _ (by omega) (by omega) hP hD hS (lv_sub hl [0, 1, 2, 3, 4, 5] rfl)
                      exact lp_14 (10 - 0 + 1) 0 0 _ _ _ (Nat.lt_succ_self _) (by omega) hP hD hS (lv_sub hl [0, 1, 2, 3, 4, 5] rfl)
                    · have c_13 : i = 0 := (neq i 0 (by omega) (Nat.le_of_ble_eq_true rfl)).mp c_13
                      refine lv_aload_n hx hb dX12_laysWays_135 rfl (lv_at hl 3 rfl) ?_
                      refine lv_iconst (v := 0) hx hb dX12_laysWays_136 ic_0 ?_
                      refine lv_aload_n hx hb dX12_laysWays_137 rfl (lv_at hl 3 rfl) ?_
                      refine sk_get (v := .ref (g 31)) (C := RX12) (T := TX12) (N := 92) hx hb hts inlX12 hown hK hP 0 rfl rfl 31 (Nat.le_of_ble_eq_true rfl) w_5_186 rfl dX12_laysWays_138 ?_
                      refine lv_iconst (v := 1) hx hb dX12_laysWays_141 ic_1 ?_
                      refine va_iald hx hb hK.1 hP 2 0 rfl rfl (by unfold vp_in; decide) dX12_laysWays_142 ?_
                      obtain ⟨k_32, hk_32, ek_32⟩ := nowOk_1 hnw
                      refine sk_top (nI k_32) ek_32 ?_
                      refine lv_iload_n hx hb dX12_laysWays_143 rfl (lv_at hl 0 rfl) ?_
                      refine sk_Vi (q0 := 0) (n := 3) (rest := []) (wr := fmR om_9_17c _) ⟨hx, hb, hml, hown, hts⟩ hl.1 (c_m_canFollowS l D cI cJ cC cZ cS mm g ta pa pe pd pb pp pf pg pn rt rn cd sn il tk am at_ aa mt_ bh wd wt zyb it_ rm ud nu sd qn qw qo qb qp qa qi oc 0 k_32 jm nw ws_ rw_ yo yw (by omega) (by omega) (by omega) hrm hbh hnw) w_7_201 w_7_203 w_0_85 w_1_14 w_7_204 hd_X12_canFollow_3 ⟨⟨(Nat.le_of_ble_eq_true rfl), (Nat.le_of_ble_eq_true rfl)⟩, (Nat.le_of_ble_eq_true rfl), (Nat.le_of_ble_eq_true rfl)⟩ hK hP hD hS hA (fmT om_9_17c 0) (fmF om_9_17c 0) (fm_C1 rfl rfl) (fm_R rfl rfl) (fm_nT om_9_17c 0) (fm_nF om_9_17c 0) (fm_di om_9_17c 0) rfl rfl rfl rfl (Nat.le_of_ble_eq_true rfl) dX12_laysWays_144 (fun r_34 u H locs hw hP hD hS => ?_)
                      refine exE hw (fun b_33 hw1 => anE hw1 (fun hb1_35 hw2 => anE hw2 (fun er_37 eu_36 => ?_)))
                      clear hw hw1 hw2
                      subst er_37
                      refine o_mgE (ws' := [ro_ mm 12 (mo g (nI ta) (nI pa) (nI pe) pd (nI pb) pp pf pg pn rt rn (nI cd) sn (nI il) tk am at_ aa mt_ (nI bh) wd wt zyb (nI it_) (nI rm) (nI ud) (nI nu) sd (nI qn) (nI qw) qo (nI qb) (nI qp) qa (nI qi) (nI oc)), ra_I (g 20) cI 4 (l4 (nI l0) (nI l1) (nI dm) (nI l3)), ra_I (g 31) cI 120 nw, ra_I (g 38) cI 90 ws_, ra_I (g 53) cI 32 rw_, ra_I (g 37) cZ 900 yo, ra_I (g 36) cZ 900 yw, ra_J (g 43) cJ 90 zb, ra_J (g 44) cJ 90 zg]) eu_36 hP hD rfl (fun hP hD => ?_)
                      refine lv_if_eq (tgt := 154) hx hb dX12_laysWays_147 (by decide) (fun c_38 => ?_) (fun c_38 => ?_)
                      · have c_38 : b_33 = 0 := (neq b_33 0 (by omega) (Nat.le_of_ble_eq_true rfl)).mp c_38
                        refine lv_lconst (v := 0) hx hb dX12_laysWays_154 (by decide) ?_
                        refine lv_lstore (lv' := [(4, .long 0), (3, .int (nI jm)), (2, .int (nI i)), (1, .int (nI dm - 1)), (0, .ref mm)]) hx hb dX12_laysWays_155 hl (by decide) rfl (fun ls hl => ?_)
                        refine lv_iconst (v := 0) hx hb dX12_laysWays_157 ic_0 ?_
                        refine lv_istore (lv' := [(6, .int 0), (4, .long 0), (3, .int (nI jm)), (2, .int (nI i)), (1, .int (nI dm - 1)), (0, .ref mm)]) hx hb dX12_laysWays_158 hl (by decide) rfl (fun ls hl => ?_)
                        have lp_39 : ∀ (n_40 : Nat) (kk : Nat) (xn : Int64) (H : Heap) (locs : List Loc) (ls : Array Slot), 10 - kk < n_40 → (kk ≤ 10) → va_P D vwCl [ro_ mm 12 (mo g (nI ta) (nI pa) (nI pe) pd (nI pb) pp pf pg pn rt rn (nI cd) sn (nI il) tk am at_ aa mt_ (nI bh) wd wt zyb (nI it_) (nI rm) (nI ud) (nI nu) sd (nI qn) (nI qw) qo (nI qb) (nI qp) qa (nI qi) (nI oc)), ra_I (g 20) cI 4 (l4 (nI l0) (nI l1) (nI dm) (nI l3)), ra_I (g 31) cI 120 nw, ra_I (g 38) cI 90 ws_, ra_I (g 53) cI 32 rw_, ra_I (g 37) cZ 900 yo, ra_I (g 36) cZ 900 yw, ra_J (g 43) cJ 90 zb, ra_J (g 44) cJ 90 zg] H → va_D A [ro_ mm 12 (mo g (nI ta) (nI pa) (nI pe) pd (nI pb) pp pf pg pn rt rn (nI cd) sn (nI il) tk am at_ aa mt_ (nI bh) wd wt zyb (nI it_) (nI rm) (nI ud) (nI nu) sd (nI qn) (nI qw) qo (nI qb) (nI qp) qa (nI qi) (nI oc)), ra_I (g 20) cI 4 (l4 (nI l0) (nI l1) (nI dm) (nI l3)), ra_I (g 31) cI 120 nw, ra_I (g 38) cI 90 ws_, ra_I (g 53) cI 32 rw_, ra_I (g 37) cZ 900 yo, ra_I (g 36) cZ 900 yw, ra_J (g 43) cJ 90 zb, ra_J (g 44) cJ 90 zg] → va_S A s.heap H locs → lv_has ls 7 [(6, .int (nI kk)), (4, .long xn), (3, .int (nI jm)), (2, .int (nI i)), (1, .int (nI dm - 1)), (0, .ref mm)] → W p l e { frames := 3, cells := 0, slots := 0, locals := 68 } s m ([.ref mm] : List Value).toArray below meth c H locs 0 0 (MQ below (skV D (skT cI cJ cC cZ cS) (fun (u : va_W) => ∃ (wy2 : Int64), ∃ (be2 : Nat → Int64), ∃ (bf2 : Nat → Int64), u = [ro_ mm 12 (mo g (nI ta) (nI pa) (nI pe) pd (nI pb) pp pf pg pn rt rn (nI cd) sn (nI il) tk am at_ aa mt_ (nI bh) wd wt wy2 (nI it_) (nI rm) (nI ud) (nI nu) sd (nI qn) (nI qw) qo (nI qb) (nI qp) qa (nI qi) (nI oc)), ra_I (g 20) cI 4 (l4 (nI l0) (nI l1) (nI dm) (nI l3)), ra_I (g 31) cI 120 nw, ra_I (g 38) cI 90 ws_, ra_I (g 53) cI 32 rw_, ra_I (g 37) cZ 900 yo, ra_I (g 36) cZ 900 yw, ra_J (g 43) cJ 90 be2, ra_J (g 44) cJ 90 bf2]) A) ([.ref mm] : List Value).toArray s 0 0 A) (F0 m 160 ls []) := by
                          intro n_40
                          induction n_40 with
                          | zero => intro kk xn H locs ls hm; exact absurd hm (Nat.not_lt_zero _)
                          | succ n_40 ih_lp_39 =>
                            intro kk xn H locs ls hm hkk hP hD hS hl
                            refine lv_iload hx hb dX12_laysWays_160 (lv_at hl 0 rfl) ?_
                            refine lv_bipush (v := 10) hx hb dX12_laysWays_162 (by decide) ?_
                            refine lv_icmp_ge (tgt := 207) hx hb dX12_laysWays_164 (by decide) (fun c_41 => ?_) (fun c_41 => ?_)
                            · have c_41 : 10 ≤ kk := (nle 10 kk (Nat.le_of_ble_eq_true rfl) (by omega)).mp c_41
                              refine lv_aload_n hx hb dX12_laysWays_207 rfl (lv_at hl 5 rfl) ?_
                              refine sk_get (v := .ref (g 44)) (C := RX12) (T := TX12) (N := 92) hx hb hts inlX12 hown hK hP 0 rfl rfl 44 (Nat.le_of_ble_eq_true rfl) w_5_199 rfl dX12_laysWays_208 ?_
                              refine lv_bipush (v := 10) hx hb dX12_laysWays_211 (by decide) ?_
                              refine lv_iload_n hx hb dX12_laysWays_213 rfl (lv_at hl 3 rfl) ?_
                              refine lv_imul hx hb dX12_laysWays_214 ?_
                              refine sk_top (nI (10 * i)) (nmul 10 i) ?_
                              refine lv_iload_n hx hb dX12_laysWays_215 rfl (lv_at hl 2 rfl) ?_
                              refine lv_iadd hx hb dX12_laysWays_216 ?_
                              refine sk_top (nI (10 * i + jm)) (nI_add (10 * i) jm) ?_
                              refine lv_lload hx hb dX12_laysWays_217 (lv_at hl 1 rfl) ?_
                              refine sk_lastO (ws' := fun f_42 => [ro_ mm 12 (mo g (nI ta) (nI pa) (nI pe) pd (nI pb) pp pf pg pn rt rn (nI cd) sn (nI il) tk am at_ aa mt_ (nI bh) wd wt zyb (nI it_) (nI rm) (nI ud) (nI nu) sd (nI qn) (nI qw) qo (nI qb) (nI qp) qa (nI qi) (nI oc)), ra_I (g 20) cI 4 (l4 (nI l0) (nI l1) (nI dm) (nI l3)), ra_I (g 31) cI 120 nw, ra_I (g 38) cI 90 ws_, ra_I (g 53) cI 32 rw_, ra_I (g 37) cZ 900 yo, ra_I (g 36) cZ 900 yw, ra_J (g 43) cJ 90 zb, ra_J (g 44) cJ 90 f_42]) hx hb hK hP hD hS 8 1 rfl rfl (vin (10 * i + jm) 90 (by omega) (Nat.le_of_ble_eq_true rfl)) (fun _ => rfl) dX12_laysWays_219 (fun f_42 H locs hP hD hS => ?_)
                              refine lv_iload_n hx hb dX12_laysWays_220 rfl (lv_at hl 3 rfl) ?_
                              refine lv_iload_n hx hb dX12_laysWays_221 rfl (lv_at hl 4 rfl) ?_
                              refine lv_icmp_ne (tgt := 236) hx hb dX12_laysWays_222 (by decide) (fun c_43 => ?_) (fun c_43 => ?_)
                              · have c_43 : ¬ (((i : Nat) : Int) = ((dm : Nat) : Int) - 1) := fun h => c_43 ((ieq (ivn i (by omega)) (ivp dm (by omega))).mpr h)
                                refine lv_iinc (v := nI (jm + 1)) (lv' := [(3, .int (nI (jm + 1))), (6, .int (nI kk)), (4, .long xn), (2, .int (nI i)), (1, .int (nI dm - 1)), (0, .ref mm)]) hx hb dX12_laysWays_236 hl (k := 2) rfl (ninc jm 1 (by decide)) (by decide) rfl (fun ls hl => ?_)
                                refine lv_goto (tgt := 125) hx hb dX12_laysWays_239 (by decide) ?_
                                exact ih_lp_10 (jm + 1) zyb f_42 _ _ _ (by omega) (by omega) hP hD hS (lv_sub hl [0, 3, 4, 5] rfl)
                              · have c_43 : ((i : Nat) : Int) = ((dm : Nat) : Int) - 1 := (ieq (ivn i (by omega)) (ivp dm (by omega))).mp c_43
                                refine lv_aload_n hx hb dX12_laysWays_225 rfl (lv_at hl 5 rfl) ?_
                                refine lv_dup hx hb dX12_laysWays_226 rfl ?_
                                refine sk_get (v := .long zyb) (C := RX12) (T := TX12) (N := 92) hx hb hts inlX12 hown hK hP 0 rfl rfl 45 (Nat.le_of_ble_eq_true rfl) w_5_200 rfl dX12_laysWays_227 ?_
                                refine lv_lload hx hb dX12_laysWays_230 (lv_at hl 1 rfl) ?_
                                refine lv_ladd hx hb dX12_laysWays_232 ?_
                                refine lv_topl (fun v_44 ev_44 => ?_)
                                refine sk_put (ws' := [ro_ mm 12 (mo g (nI ta) (nI pa) (nI pe) pd (nI pb) pp pf pg pn rt rn (nI cd) sn (nI il) tk am at_ aa mt_ (nI bh) wd wt v_44 (nI it_) (nI rm) (nI ud) (nI nu) sd (nI qn) (nI qw) qo (nI qb) (nI qp) qa (nI qi) (nI oc)), ra_I (g 20) cI 4 (l4 (nI l0) (nI l1) (nI dm) (nI l3)), ra_I (g 31) cI 120 nw, ra_I (g 38) cI 90 ws_, ra_I (g 53) cI 32 rw_, ra_I (g 37) cZ 900 yo, ra_I (g 36) cZ 900 yw, ra_J (g 43) cJ 90 zb, ra_J (g 44) cJ 90 f_42]) (C := RX12) (T := TX12) (N := 92) (v := .long v_44) hx hb hts inlX12 tyX12 tyX12_ok nmX12 hown hK hP hD hS 0 rfl rfl 45 (Nat.le_of_ble_eq_true rfl) w_5_200 rfl rfl rfl (Nat.le_of_ble_eq_true rfl) rfl dX12_laysWays_233 (fun H locs hP hD hS => ?_)
                                refine lv_iinc (v := nI (jm + 1)) (lv' := [(3, .int (nI (jm + 1))), (6, .int (nI kk)), (4, .long xn), (2, .int (nI i)), (1, .int (nI dm - 1)), (0, .ref mm)]) hx hb dX12_laysWays_236 hl (k := 2) rfl (ninc jm 1 (by decide)) (by decide) rfl (fun ls hl => ?_)
                                refine lv_goto (tgt := 125) hx hb dX12_laysWays_239 (by decide) ?_
                                exact ih_lp_10 (jm + 1) v_44 f_42 _ _ _ (by omega) (by omega) hP hD hS (lv_sub hl [0, 3, 4, 5] rfl)
                            · have c_41 : ¬ (10 ≤ kk) := fun h => c_41 ((nle 10 kk (Nat.le_of_ble_eq_true rfl) (by omega)).mpr h)
                              refine lv_iload_n hx hb dX12_laysWays_167 rfl (lv_at hl 3 rfl) ?_
                              refine lv_if_le (tgt := 207) hx hb dX12_laysWays_168 (by decide) (fun c_45 => ?_) (fun c_45 => ?_)
                              · have c_45 : i ≤ 0 := (nle i 0 (by omega) (Nat.le_of_ble_eq_true rfl)).mp c_45
                                refine lv_aload_n hx hb dX12_laysWays_207 rfl (lv_at hl 5 rfl) ?_
                                refine sk_get (v := .ref (g 44)) (C := RX12) (T := TX12) (N := 92) hx hb hts inlX12 hown hK hP 0 rfl rfl 44 (Nat.le_of_ble_eq_true rfl) w_5_199 rfl dX12_laysWays_208 ?_
                                refine lv_bipush (v := 10) hx hb dX12_laysWays_211 (by decide) ?_
                                refine lv_iload_n hx hb dX12_laysWays_213 rfl (lv_at hl 3 rfl) ?_
                                refine lv_imul hx hb dX12_laysWays_214 ?_
                                refine sk_top (nI (10 * i)) (nmul 10 i) ?_
                                refine lv_iload_n hx hb dX12_laysWays_215 rfl (lv_at hl 2 rfl) ?_
                                refine lv_iadd hx hb dX12_laysWays_216 ?_
                                refine sk_top (nI (10 * i + jm)) (nI_add (10 * i) jm) ?_
                                refine lv_lload hx hb dX12_laysWays_217 (lv_at hl 1 rfl) ?_
                                refine sk_lastO (ws' := fun f_46 => [ro_ mm 12 (mo g (nI ta) (nI pa) (nI pe) pd (nI pb) pp pf pg pn rt rn (nI cd) sn (nI il) tk am at_ aa mt_ (nI bh) wd wt zyb (nI it_) (nI rm) (nI ud) (nI nu) sd (nI qn) (nI qw) qo (nI qb) (nI qp) qa (nI qi) (nI oc)), ra_I (g 20) cI 4 (l4 (nI l0) (nI l1) (nI dm) (nI l3)), ra_I (g 31) cI 120 nw, ra_I (g 38) cI 90 ws_, ra_I (g 53) cI 32 rw_, ra_I (g 37) cZ 900 yo, ra_I (g 36) cZ 900 yw, ra_J (g 43) cJ 90 zb, ra_J (g 44) cJ 90 f_46]) hx hb hK hP hD hS 8 1 rfl rfl (vin (10 * i + jm) 90 (by omega) (Nat.le_of_ble_eq_true rfl)) (fun _ => rfl) dX12_laysWays_219 (fun f_46 H locs hP hD hS => ?_)
                                refine lv_iload_n hx hb dX12_laysWays_220 rfl (lv_at hl 3 rfl) ?_
                                refine lv_iload_n hx hb dX12_laysWays_221 rfl (lv_at hl 4 rfl) ?_
                                refine lv_icmp_ne (tgt := 236) hx hb dX12_laysWays_222 (by decide) (fun c_47 => ?_) (fun c_47 => ?_)
                                · have c_47 : ¬ (((i : Nat) : Int) = ((dm : Nat) : Int) - 1) := fun h => c_47 ((ieq (ivn i (by omega)) (ivp dm (by omega))).mpr h)
                                  refine lv_iinc (v := nI (jm + 1)) (lv' := [(3, .int (nI (jm + 1))), (6, .int (nI kk)), (4, .long xn), (2, .int (nI i)), (1, .int (nI dm - 1)), (0, .ref mm)]) hx hb dX12_laysWays_236 hl (k := 2) rfl (ninc jm 1 (by decide)) (by decide) rfl (fun ls hl => ?_)
                                  refine lv_goto (tgt := 125) hx hb dX12_laysWays_239 (by decide) ?_
                                  exact ih_lp_10 (jm + 1) zyb f_46 _ _ _ (by omega) (by omega) hP hD hS (lv_sub hl [0, 3, 4, 5] rfl)
                                · have c_47 : ((i : Nat) : Int) = ((dm : Nat) : Int) - 1 := (ieq (ivn i (by omega)) (ivp dm (by omega))).mp c_47
                                  refine lv_aload_n hx hb dX12_laysWays_225 rfl (lv_at hl 5 rfl) ?_
                                  refine lv_dup hx hb dX12_laysWays_226 rfl ?_
                                  refine sk_get (v := .long zyb) (C := RX12) (T := TX12) (N := 92) hx hb hts inlX12 hown hK hP 0 rfl rfl 45 (Nat.le_of_ble_eq_true rfl) w_5_200 rfl dX12_laysWays_227 ?_
                                  refine lv_lload hx hb dX12_laysWays_230 (lv_at hl 1 rfl) ?_
                                  refine lv_ladd hx hb dX12_laysWays_232 ?_
                                  refine lv_topl (fun v_48 ev_48 => ?_)
                                  refine sk_put (ws' := [ro_ mm 12 (mo g (nI ta) (nI pa) (nI pe) pd (nI pb) pp pf pg pn rt rn (nI cd) sn (nI il) tk am at_ aa mt_ (nI bh) wd wt v_48 (nI it_) (nI rm) (nI ud) (nI nu) sd (nI qn) (nI qw) qo (nI qb) (nI qp) qa (nI qi) (nI oc)), ra_I (g 20) cI 4 (l4 (nI l0) (nI l1) (nI dm) (nI l3)), ra_I (g 31) cI 120 nw, ra_I (g 38) cI 90 ws_, ra_I (g 53) cI 32 rw_, ra_I (g 37) cZ 900 yo, ra_I (g 36) cZ 900 yw, ra_J (g 43) cJ 90 zb, ra_J (g 44) cJ 90 f_46]) (C := RX12) (T := TX12) (N := 92) (v := .long v_48) hx hb hts inlX12 tyX12 tyX12_ok nmX12 hown hK hP hD hS 0 rfl rfl 45 (Nat.le_of_ble_eq_true rfl) w_5_200 rfl rfl rfl (Nat.le_of_ble_eq_true rfl) rfl dX12_laysWays_233 (fun H locs hP hD hS => ?_)
                                  refine lv_iinc (v := nI (jm + 1)) (lv' := [(3, .int (nI (jm + 1))), (6, .int (nI kk)), (4, .long xn), (2, .int (nI i)), (1, .int (nI dm - 1)), (0, .ref mm)]) hx hb dX12_laysWays_236 hl (k := 2) rfl (ninc jm 1 (by decide)) (by decide) rfl (fun ls hl => ?_)
                                  refine lv_goto (tgt := 125) hx hb dX12_laysWays_239 (by decide) ?_
                                  exact ih_lp_10 (jm + 1) v_48 f_46 _ _ _ (by omega) (by omega) hP hD hS (lv_sub hl [0, 3, 4, 5] rfl)
                              · have c_45 : ¬ (i ≤ 0) := fun h => c_45 ((nle i 0 (by omega) (Nat.le_of_ble_eq_true rfl)).mpr h)
                                refine lv_aload_n hx hb dX12_laysWays_171 rfl (lv_at hl 5 rfl) ?_
                                refine lv_iload_n hx hb dX12_laysWays_172 rfl (lv_at hl 3 rfl) ?_
                                refine lv_iload hx hb dX12_laysWays_173 (lv_at hl 0 rfl) ?_
                                refine lv_iload_n hx hb dX12_laysWays_175 rfl (lv_at hl 2 rfl) ?_
                                refine sk_Vi (q0 := 0) (n := 3) (rest := []) (wr := fmR om_9_17c _) ⟨hx, hb, hml, hown, hts⟩ hl.1 (c_m_canFollowS l D cI cJ cC cZ cS mm g ta pa pe pd pb pp pf pg pn rt rn cd sn il tk am at_ aa mt_ bh wd wt zyb it_ rm ud nu sd qn qw qo qb qp qa qi oc i kk jm nw ws_ rw_ yo yw (by omega) (by omega) (by omega) hrm hbh hnw) w_7_201 w_7_203 w_0_85 w_1_14 w_7_204 hd_X12_canFollow_3 ⟨⟨(Nat.le_of_ble_eq_true rfl), (Nat.le_of_ble_eq_true rfl)⟩, (Nat.le_of_ble_eq_true rfl), (Nat.le_of_ble_eq_true rfl)⟩ hK hP hD hS hA (fmT om_9_17c 0) (fmF om_9_17c 0) (fm_C1 rfl rfl) (fm_R rfl rfl) (fm_nT om_9_17c 0) (fm_nF om_9_17c 0) (fm_di om_9_17c 0) rfl rfl rfl rfl (Nat.le_of_ble_eq_true rfl) dX12_laysWays_176 (fun r_50 u H locs hw hP hD hS => ?_)
                                refine exE hw (fun b_49 hw1 => anE hw1 (fun hb1_51 hw2 => anE hw2 (fun er_53 eu_52 => ?_)))
                                clear hw hw1 hw2
                                subst er_53
                                refine o_mgE (ws' := [ro_ mm 12 (mo g (nI ta) (nI pa) (nI pe) pd (nI pb) pp pf pg pn rt rn (nI cd) sn (nI il) tk am at_ aa mt_ (nI bh) wd wt zyb (nI it_) (nI rm) (nI ud) (nI nu) sd (nI qn) (nI qw) qo (nI qb) (nI qp) qa (nI qi) (nI oc)), ra_I (g 20) cI 4 (l4 (nI l0) (nI l1) (nI dm) (nI l3)), ra_I (g 31) cI 120 nw, ra_I (g 38) cI 90 ws_, ra_I (g 53) cI 32 rw_, ra_I (g 37) cZ 900 yo, ra_I (g 36) cZ 900 yw, ra_J (g 43) cJ 90 zb, ra_J (g 44) cJ 90 zg]) eu_52 hP hD rfl (fun hP hD => ?_)
                                refine lv_if_eq (tgt := 201) hx hb dX12_laysWays_179 (by decide) (fun c_54 => ?_) (fun c_54 => ?_)
                                · have c_54 : b_49 = 0 := (neq b_49 0 (by omega) (Nat.le_of_ble_eq_true rfl)).mp c_54
                                  refine lv_iinc (v := nI (kk + 1)) (lv' := [(6, .int (nI (kk + 1))), (4, .long xn), (3, .int (nI jm)), (2, .int (nI i)), (1, .int (nI dm - 1)), (0, .ref mm)]) hx hb dX12_laysWays_201 hl (k := 0) rfl (ninc kk 1 (by decide)) (by decide) rfl (fun ls hl => ?_)
                                  refine lv_goto (tgt := 160) hx hb dX12_laysWays_204 (by decide) ?_
                                  exact ih_lp_39 (kk + 1) xn _ _ _ (by omega) (by omega) hP hD hS (lv_sub hl [0, 1, 2, 3, 4, 5] rfl)
                                · have c_54 : ¬ (b_49 = 0) := fun h => c_54 ((neq b_49 0 (by omega) (Nat.le_of_ble_eq_true rfl)).mpr h)
                                  refine lv_lload hx hb dX12_laysWays_182 (lv_at hl 1 rfl) ?_
                                  refine lv_aload_n hx hb dX12_laysWays_184 rfl (lv_at hl 5 rfl) ?_
                                  refine sk_get (v := .ref (g 44)) (C := RX12) (T := TX12) (N := 92) hx hb hts inlX12 hown hK hP 0 rfl rfl 44 (Nat.le_of_ble_eq_true rfl) w_5_199 rfl dX12_laysWays_185 ?_
                                  refine lv_bipush (v := 10) hx hb dX12_laysWays_188 (by decide) ?_
                                  refine lv_iload_n hx hb dX12_laysWays_190 rfl (lv_at hl 3 rfl) ?_
                                  refine lv_iconst (v := 1) hx hb dX12_laysWays_191 ic_1 ?_
                                  refine lv_isub hx hb dX12_laysWays_192 ?_
                                  refine sk_top (nI (i - 1)) (nsub i 1 (by omega)) ?_
                                  refine lv_imul hx hb dX12_laysWays_193 ?_
                                  refine sk_top (nI (10 * (i - 1))) (nmul 10 (i - 1)) ?_
                                  refine lv_iload hx hb dX12_laysWays_194 (lv_at hl 0 rfl) ?_
                                  refine lv_iadd hx hb dX12_laysWays_196 ?_
                                  refine sk_top (nI (10 * (i - 1) + kk)) (nI_add (10 * (i - 1)) kk) ?_
                                  refine va_lald hx hb hK.1 hP 8 1 rfl rfl (vin (10 * (i - 1) + kk) 90 (by omega) (Nat.le_of_ble_eq_true rfl)) dX12_laysWays_197 ?_
                                  refine lv_topl (fun v_55 ev_55 => ?_)
                                  refine lv_ladd hx hb dX12_laysWays_198 ?_
                                  refine lv_topl (fun v_56 ev_56 => ?_)
                                  refine lv_lstore (lv' := [(4, .long v_56), (6, .int (nI kk)), (3, .int (nI jm)), (2, .int (nI i)), (1, .int (nI dm - 1)), (0, .ref mm)]) hx hb dX12_laysWays_199 hl (by decide) rfl (fun ls hl => ?_)
                                  refine lv_iinc (v := nI (kk + 1)) (lv' := [(6, .int (nI (kk + 1))), (4, .long v_56), (3, .int (nI jm)), (2, .int (nI i)), (1, .int (nI dm - 1)), (0, .ref mm)]) hx hb dX12_laysWays_201 hl (k := 1) rfl (ninc kk 1 (by decide)) (by decide) rfl (fun ls hl => ?_)
                                  refine lv_goto (tgt := 160) hx hb dX12_laysWays_204 (by decide) ?_
                                  exact ih_lp_39 (kk + 1) v_56 _ _ _ (by omega) (by omega) hP hD hS (lv_sub hl [0, 1, 2, 3, 4, 5] rfl)
                        exact lp_39 (10 - 0 + 1) 0 0 _ _ _ (Nat.lt_succ_self _) (by omega) hP hD hS (lv_sub hl [0, 1, 2, 3, 4, 5] rfl)
                      · have c_38 : ¬ (b_33 = 0) := fun h => c_38 ((neq b_33 0 (by omega) (Nat.le_of_ble_eq_true rfl)).mpr h)
                        refine lv_lconst (v := 1) hx hb dX12_laysWays_150 (by decide) ?_
                        refine lv_goto (tgt := 155) hx hb dX12_laysWays_151 (by decide) ?_
                        refine lv_lstore (lv' := [(4, .long 1), (3, .int (nI jm)), (2, .int (nI i)), (1, .int (nI dm - 1)), (0, .ref mm)]) hx hb dX12_laysWays_155 hl (by decide) rfl (fun ls hl => ?_)
                        refine lv_iconst (v := 0) hx hb dX12_laysWays_157 ic_0 ?_
                        refine lv_istore (lv' := [(6, .int 0), (4, .long 1), (3, .int (nI jm)), (2, .int (nI i)), (1, .int (nI dm - 1)), (0, .ref mm)]) hx hb dX12_laysWays_158 hl (by decide) rfl (fun ls hl => ?_)
                        have lp_57 : ∀ (n_58 : Nat) (kk : Nat) (xn : Int64) (H : Heap) (locs : List Loc) (ls : Array Slot), 10 - kk < n_58 → (kk ≤ 10) → va_P D vwCl [ro_ mm 12 (mo g (nI ta) (nI pa) (nI pe) pd (nI pb) pp pf pg pn rt rn (nI cd) sn (nI il) tk am at_ aa mt_ (nI bh) wd wt zyb (nI it_) (nI rm) (nI ud) (nI nu) sd (nI qn) (nI qw) qo (nI qb) (nI qp) qa (nI qi) (nI oc)), ra_I (g 20) cI 4 (l4 (nI l0) (nI l1) (nI dm) (nI l3)), ra_I (g 31) cI 120 nw, ra_I (g 38) cI 90 ws_, ra_I (g 53) cI 32 rw_, ra_I (g 37) cZ 900 yo, ra_I (g 36) cZ 900 yw, ra_J (g 43) cJ 90 zb, ra_J (g 44) cJ 90 zg] H → va_D A [ro_ mm 12 (mo g (nI ta) (nI pa) (nI pe) pd (nI pb) pp pf pg pn rt rn (nI cd) sn (nI il) tk am at_ aa mt_ (nI bh) wd wt zyb (nI it_) (nI rm) (nI ud) (nI nu) sd (nI qn) (nI qw) qo (nI qb) (nI qp) qa (nI qi) (nI oc)), ra_I (g 20) cI 4 (l4 (nI l0) (nI l1) (nI dm) (nI l3)), ra_I (g 31) cI 120 nw, ra_I (g 38) cI 90 ws_, ra_I (g 53) cI 32 rw_, ra_I (g 37) cZ 900 yo, ra_I (g 36) cZ 900 yw, ra_J (g 43) cJ 90 zb, ra_J (g 44) cJ 90 zg] → va_S A s.heap H locs → lv_has ls 7 [(6, .int (nI kk)), (4, .long xn), (3, .int (nI jm)), (2, .int (nI i)), (1, .int (nI dm - 1)), (0, .ref mm)] → W p l e { frames := 3, cells := 0, slots := 0, locals := 68 } s m ([.ref mm] : List Value).toArray below meth c H locs 0 0 (MQ below (skV D (skT cI cJ cC cZ cS) (fun (u : va_W) => ∃ (wy2 : Int64), ∃ (be2 : Nat → Int64), ∃ (bf2 : Nat → Int64), u = [ro_ mm 12 (mo g (nI ta) (nI pa) (nI pe) pd (nI pb) pp pf pg pn rt rn (nI cd) sn (nI il) tk am at_ aa mt_ (nI bh) wd wt wy2 (nI it_) (nI rm) (nI ud) (nI nu) sd (nI qn) (nI qw) qo (nI qb) (nI qp) qa (nI qi) (nI oc)), ra_I (g 20) cI 4 (l4 (nI l0) (nI l1) (nI dm) (nI l3)), ra_I (g 31) cI 120 nw, ra_I (g 38) cI 90 ws_, ra_I (g 53) cI 32 rw_, ra_I (g 37) cZ 900 yo, ra_I (g 36) cZ 900 yw, ra_J (g 43) cJ 90 be2, ra_J (g 44) cJ 90 bf2]) A) ([.ref mm] : List Value).toArray s 0 0 A) (F0 m 160 ls []) := by
                          intro n_58
                          induction n_58 with
                          | zero => intro kk xn H locs ls hm; exact absurd hm (Nat.not_lt_zero _)
                          | succ n_58 ih_lp_57 =>
                            intro kk xn H locs ls hm hkk hP hD hS hl
                            refine lv_iload hx hb dX12_laysWays_160 (lv_at hl 0 rfl) ?_
                            refine lv_bipush (v := 10) hx hb dX12_laysWays_162 (by decide) ?_
                            refine lv_icmp_ge (tgt := 207) hx hb dX12_laysWays_164 (by decide) (fun c_59 => ?_) (fun c_59 => ?_)
                            · have c_59 : 10 ≤ kk := (nle 10 kk (Nat.le_of_ble_eq_true rfl) (by omega)).mp c_59
                              refine lv_aload_n hx hb dX12_laysWays_207 rfl (lv_at hl 5 rfl) ?_
                              refine sk_get (v := .ref (g 44)) (C := RX12) (T := TX12) (N := 92) hx hb hts inlX12 hown hK hP 0 rfl rfl 44 (Nat.le_of_ble_eq_true rfl) w_5_199 rfl dX12_laysWays_208 ?_
                              refine lv_bipush (v := 10) hx hb dX12_laysWays_211 (by decide) ?_
                              refine lv_iload_n hx hb dX12_laysWays_213 rfl (lv_at hl 3 rfl) ?_
                              refine lv_imul hx hb dX12_laysWays_214 ?_
                              refine sk_top (nI (10 * i)) (nmul 10 i) ?_
                              refine lv_iload_n hx hb dX12_laysWays_215 rfl (lv_at hl 2 rfl) ?_
                              refine lv_iadd hx hb dX12_laysWays_216 ?_
                              refine sk_top (nI (10 * i + jm)) (nI_add (10 * i) jm) ?_
                              refine lv_lload hx hb dX12_laysWays_217 (lv_at hl 1 rfl) ?_
                              refine sk_lastO (ws' := fun f_60 => [ro_ mm 12 (mo g (nI ta) (nI pa) (nI pe) pd (nI pb) pp pf pg pn rt rn (nI cd) sn (nI il) tk am at_ aa mt_ (nI bh) wd wt zyb (nI it_) (nI rm) (nI ud) (nI nu) sd (nI qn) (nI qw) qo (nI qb) (nI qp) qa (nI qi) (nI oc)), ra_I (g 20) cI 4 (l4 (nI l0) (nI l1) (nI dm) (nI l3)), ra_I (g 31) cI 120 nw, ra_I (g 38) cI 90 ws_, ra_I (g 53) cI 32 rw_, ra_I (g 37) cZ 900 yo, ra_I (g 36) cZ 900 yw, ra_J (g 43) cJ 90 zb, ra_J (g 44) cJ 90 f_60]) hx hb hK hP hD hS 8 1 rfl rfl (vin (10 * i + jm) 90 (by omega) (Nat.le_of_ble_eq_true rfl)) (fun _ => rfl) dX12_laysWays_219 (fun f_60 H locs hP hD hS => ?_)
                              refine lv_iload_n hx hb dX12_laysWays_220 rfl (lv_at hl 3 rfl) ?_
                              refine lv_iload_n hx hb dX12_laysWays_221 rfl (lv_at hl 4 rfl) ?_
                              refine lv_icmp_ne (tgt := 236) hx hb dX12_laysWays_222 (by decide) (fun c_61 => ?_) (fun c_61 => ?_)
                              · have c_61 : ¬ (((i : Nat) : Int) = ((dm : Nat) : Int) - 1) := fun h => c_61 ((ieq (ivn i (by omega)) (ivp dm (by omega))).mpr h)
                                refine lv_iinc (v := nI (jm + 1)) (lv' := [(3, .int (nI (jm + 1))), (6, .int (nI kk)), (4, .long xn), (2, .int (nI i)), (1, .int (nI dm - 1)), (0, .ref mm)]) hx hb dX12_laysWays_236 hl (k := 2) rfl (ninc jm 1 (by decide)) (by decide) rfl (fun ls hl => ?_)
                                refine lv_goto (tgt := 125) hx hb dX12_laysWays_239 (by decide) ?_
                                exact ih_lp_10 (jm + 1) zyb f_60 _ _ _ (by omega) (by omega) hP hD hS (lv_sub hl [0, 3, 4, 5] rfl)
                              · have c_61 : ((i : Nat) : Int) = ((dm : Nat) : Int) - 1 := (ieq (ivn i (by omega)) (ivp dm (by omega))).mp c_61
                                refine lv_aload_n hx hb dX12_laysWays_225 rfl (lv_at hl 5 rfl) ?_
                                refine lv_dup hx hb dX12_laysWays_226 rfl ?_
                                refine sk_get (v := .long zyb) (C := RX12) (T := TX12) (N := 92) hx hb hts inlX12 hown hK hP 0 rfl rfl 45 (Nat.le_of_ble_eq_true rfl) w_5_200 rfl dX12_laysWays_227 ?_
                                refine lv_lload hx hb dX12_laysWays_230 (lv_at hl 1 rfl) ?_
                                refine lv_ladd hx hb dX12_laysWays_232 ?_
                                refine lv_topl (fun v_62 ev_62 => ?_)
                                refine sk_put (ws' := [ro_ mm 12 (mo g (nI ta) (nI pa) (nI pe) pd (nI pb) pp pf pg pn rt rn (nI cd) sn (nI il) tk am at_ aa mt_ (nI bh) wd wt v_62 (nI it_) (nI rm) (nI ud) (nI nu) sd (nI qn) (nI qw) qo (nI qb) (nI qp) qa (nI qi) (nI oc)), ra_I (g 20) cI 4 (l4 (nI l0) (nI l1) (nI dm) (nI l3)), ra_I (g 31) cI 120 nw, ra_I (g 38) cI 90 ws_, ra_I (g 53) cI 32 rw_, ra_I (g 37) cZ 900 yo, ra_I (g 36) cZ 900 yw, ra_J (g 43) cJ 90 zb, ra_J (g 44) cJ 90 f_60]) (C := RX12) (T := TX12) (N := 92) (v := .long v_62) hx hb hts inlX12 tyX12 tyX12_ok nmX12 hown hK hP hD hS 0 rfl rfl 45 (Nat.le_of_ble_eq_true rfl) w_5_200 rfl rfl rfl (Nat.le_of_ble_eq_true rfl) rfl dX12_laysWays_233 (fun H locs hP hD hS => ?_)
                                refine lv_iinc (v := nI (jm + 1)) (lv' := [(3, .int (nI (jm + 1))), (6, .int (nI kk)), (4, .long xn), (2, .int (nI i)), (1, .int (nI dm - 1)), (0, .ref mm)]) hx hb dX12_laysWays_236 hl (k := 2) rfl (ninc jm 1 (by decide)) (by decide) rfl (fun ls hl => ?_)
                                refine lv_goto (tgt := 125) hx hb dX12_laysWays_239 (by decide) ?_
                                exact ih_lp_10 (jm + 1) v_62 f_60 _ _ _ (by omega) (by omega) hP hD hS (lv_sub hl [0, 3, 4, 5] rfl)
                            · have c_59 : ¬ (10 ≤ kk) := fun h => c_59 ((nle 10 kk (Nat.le_of_ble_eq_true rfl) (by omega)).mpr h)
                              refine lv_iload_n hx hb dX12_laysWays_167 rfl (lv_at hl 3 rfl) ?_
                              refine lv_if_le (tgt := 207) hx hb dX12_laysWays_168 (by decide) (fun c_63 => ?_) (fun c_63 => ?_)
                              · have c_63 : i ≤ 0 := (nle i 0 (by omega) (Nat.le_of_ble_eq_true rfl)).mp c_63
                                refine lv_aload_n hx hb dX12_laysWays_207 rfl (lv_at hl 5 rfl) ?_
                                refine sk_get (v := .ref (g 44)) (C := RX12) (T := TX12) (N := 92) hx hb hts inlX12 hown hK hP 0 rfl rfl 44 (Nat.le_of_ble_eq_true rfl) w_5_199 rfl dX12_laysWays_208 ?_
                                refine lv_bipush (v := 10) hx hb dX12_laysWays_211 (by decide) ?_
                                refine lv_iload_n hx hb dX12_laysWays_213 rfl (lv_at hl 3 rfl) ?_
                                refine lv_imul hx hb dX12_laysWays_214 ?_
                                refine sk_top (nI (10 * i)) (nmul 10 i) ?_
                                refine lv_iload_n hx hb dX12_laysWays_215 rfl (lv_at hl 2 rfl) ?_
                                refine lv_iadd hx hb dX12_laysWays_216 ?_
                                refine sk_top (nI (10 * i + jm)) (nI_add (10 * i) jm) ?_
                                refine lv_lload hx hb dX12_laysWays_217 (lv_at hl 1 rfl) ?_
                                refine sk_lastO (ws' := fun f_64 => [ro_ mm 12 (mo g (nI ta) (nI pa) (nI pe) pd (nI pb) pp pf pg pn rt rn (nI cd) sn (nI il) tk am at_ aa mt_ (nI bh) wd wt zyb (nI it_) (nI rm) (nI ud) (nI nu) sd (nI qn) (nI qw) qo (nI qb) (nI qp) qa (nI qi) (nI oc)), ra_I (g 20) cI 4 (l4 (nI l0) (nI l1) (nI dm) (nI l3)), ra_I (g 31) cI 120 nw, ra_I (g 38) cI 90 ws_, ra_I (g 53) cI 32 rw_, ra_I (g 37) cZ 900 yo, ra_I (g 36) cZ 900 yw, ra_J (g 43) cJ 90 zb, ra_J (g 44) cJ 90 f_64]) hx hb hK hP hD hS 8 1 rfl rfl (vin (10 * i + jm) 90 (by omega) (Nat.le_of_ble_eq_true rfl)) (fun _ => rfl) dX12_laysWays_219 (fun f_64 H locs hP hD hS => ?_)
                                refine lv_iload_n hx hb dX12_laysWays_220 rfl (lv_at hl 3 rfl) ?_
                                refine lv_iload_n hx hb dX12_laysWays_221 rfl (lv_at hl 4 rfl) ?_
                                refine lv_icmp_ne (tgt := 236) hx hb dX12_laysWays_222 (by decide) (fun c_65 => ?_) (fun c_65 => ?_)
                                · have c_65 : ¬ (((i : Nat) : Int) = ((dm : Nat) : Int) - 1) := fun h => c_65 ((ieq (ivn i (by omega)) (ivp dm (by omega))).mpr h)
                                  refine lv_iinc (v := nI (jm + 1)) (lv' := [(3, .int (nI (jm + 1))), (6, .int (nI kk)), (4, .long xn), (2, .int (nI i)), (1, .int (nI dm - 1)), (0, .ref mm)]) hx hb dX12_laysWays_236 hl (k := 2) rfl (ninc jm 1 (by decide)) (by decide) rfl (fun ls hl => ?_)
                                  refine lv_goto (tgt := 125) hx hb dX12_laysWays_239 (by decide) ?_
                                  exact ih_lp_10 (jm + 1) zyb f_64 _ _ _ (by omega) (by omega) hP hD hS (lv_sub hl [0, 3, 4, 5] rfl)
                                · have c_65 : ((i : Nat) : Int) = ((dm : Nat) : Int) - 1 := (ieq (ivn i (by omega)) (ivp dm (by omega))).mp c_65
                                  refine lv_aload_n hx hb dX12_laysWays_225 rfl (lv_at hl 5 rfl) ?_
                                  refine lv_dup hx hb dX12_laysWays_226 rfl ?_
                                  refine sk_get (v := .long zyb) (C := RX12) (T := TX12) (N := 92) hx hb hts inlX12 hown hK hP 0 rfl rfl 45 (Nat.le_of_ble_eq_true rfl) w_5_200 rfl dX12_laysWays_227 ?_
                                  refine lv_lload hx hb dX12_laysWays_230 (lv_at hl 1 rfl) ?_
                                  refine lv_ladd hx hb dX12_laysWays_232 ?_
                                  refine lv_topl (fun v_66 ev_66 => ?_)
                                  refine sk_put (ws' := [ro_ mm 12 (mo g (nI ta) (nI pa) (nI pe) pd (nI pb) pp pf pg pn rt rn (nI cd) sn (nI il) tk am at_ aa mt_ (nI bh) wd wt v_66 (nI it_) (nI rm) (nI ud) (nI nu) sd (nI qn) (nI qw) qo (nI qb) (nI qp) qa (nI qi) (nI oc)), ra_I (g 20) cI 4 (l4 (nI l0) (nI l1) (nI dm) (nI l3)), ra_I (g 31) cI 120 nw, ra_I (g 38) cI 90 ws_, ra_I (g 53) cI 32 rw_, ra_I (g 37) cZ 900 yo, ra_I (g 36) cZ 900 yw, ra_J (g 43) cJ 90 zb, ra_J (g 44) cJ 90 f_64]) (C := RX12) (T := TX12) (N := 92) (v := .long v_66) hx hb hts inlX12 tyX12 tyX12_ok nmX12 hown hK hP hD hS 0 rfl rfl 45 (Nat.le_of_ble_eq_true rfl) w_5_200 rfl rfl rfl (Nat.le_of_ble_eq_true rfl) rfl dX12_laysWays_233 (fun H locs hP hD hS => ?_)
                                  refine lv_iinc (v := nI (jm + 1)) (lv' := [(3, .int (nI (jm + 1))), (6, .int (nI kk)), (4, .long xn), (2, .int (nI i)), (1, .int (nI dm - 1)), (0, .ref mm)]) hx hb dX12_laysWays_236 hl (k := 2) rfl (ninc jm 1 (by decide)) (by decide) rfl (fun ls hl => ?_)
                                  refine lv_goto (tgt := 125) hx hb dX12_laysWays_239 (by decide) ?_
                                  exact ih_lp_10 (jm + 1) v_66 f_64 _ _ _ (by omega) (by omega) hP hD hS (lv_sub hl [0, 3, 4, 5] rfl)
                              · have c_63 : ¬ (i ≤ 0) := fun h => c_63 ((nle i 0 (by omega) (Nat.le_of_ble_eq_true rfl)).mpr h)
                                refine lv_aload_n hx hb dX12_laysWays_171 rfl (lv_at hl 5 rfl) ?_
                                refine lv_iload_n hx hb dX12_laysWays_172 rfl (lv_at hl 3 rfl) ?_
                                refine lv_iload hx hb dX12_laysWays_173 (lv_at hl 0 rfl) ?_
                                refine lv_iload_n hx hb dX12_laysWays_175 rfl (lv_at hl 2 rfl) ?_
                                refine sk_Vi (q0 := 0) (n := 3) (rest := []) (wr := fmR om_9_17c _) ⟨hx, hb, hml, hown, hts⟩ hl.1 (c_m_canFollowS l D cI cJ cC cZ cS mm g ta pa pe pd pb pp pf pg pn rt rn cd sn il tk am at_ aa mt_ bh wd wt zyb it_ rm ud nu sd qn qw qo qb qp qa qi oc i kk jm nw ws_ rw_ yo yw (by omega) (by omega) (by omega) hrm hbh hnw) w_7_201 w_7_203 w_0_85 w_1_14 w_7_204 hd_X12_canFollow_3 ⟨⟨(Nat.le_of_ble_eq_true rfl), (Nat.le_of_ble_eq_true rfl)⟩, (Nat.le_of_ble_eq_true rfl), (Nat.le_of_ble_eq_true rfl)⟩ hK hP hD hS hA (fmT om_9_17c 0) (fmF om_9_17c 0) (fm_C1 rfl rfl) (fm_R rfl rfl) (fm_nT om_9_17c 0) (fm_nF om_9_17c 0) (fm_di om_9_17c 0) rfl rfl rfl rfl (Nat.le_of_ble_eq_true rfl) dX12_laysWays_176 (fun r_68 u H locs hw hP hD hS => ?_)
                                refine exE hw (fun b_67 hw1 => anE hw1 (fun hb1_69 hw2 => anE hw2 (fun er_71 eu_70 => ?_)))
                                clear hw hw1 hw2
                                subst er_71
                                refine o_mgE (ws' := [ro_ mm 12 (mo g (nI ta) (nI pa) (nI pe) pd (nI pb) pp pf pg pn rt rn (nI cd) sn (nI il) tk am at_ aa mt_ (nI bh) wd wt zyb (nI it_) (nI rm) (nI ud) (nI nu) sd (nI qn) (nI qw) qo (nI qb) (nI qp) qa (nI qi) (nI oc)), ra_I (g 20) cI 4 (l4 (nI l0) (nI l1) (nI dm) (nI l3)), ra_I (g 31) cI 120 nw, ra_I (g 38) cI 90 ws_, ra_I (g 53) cI 32 rw_, ra_I (g 37) cZ 900 yo, ra_I (g 36) cZ 900 yw, ra_J (g 43) cJ 90 zb, ra_J (g 44) cJ 90 zg]) eu_70 hP hD rfl (fun hP hD => ?_)
                                refine lv_if_eq (tgt := 201) hx hb dX12_laysWays_179 (by decide) (fun c_72 => ?_) (fun c_72 => ?_)
                                · have c_72 : b_67 = 0 := (neq b_67 0 (by omega) (Nat.le_of_ble_eq_true rfl)).mp c_72
                                  refine lv_iinc (v := nI (kk + 1)) (lv' := [(6, .int (nI (kk + 1))), (4, .long xn), (3, .int (nI jm)), (2, .int (nI i)), (1, .int (nI dm - 1)), (0, .ref mm)]) hx hb dX12_laysWays_201 hl (k := 0) rfl (ninc kk 1 (by decide)) (by decide) rfl (fun ls hl => ?_)
                                  refine lv_goto (tgt := 160) hx hb dX12_laysWays_204 (by decide) ?_
                                  exact ih_lp_57 (kk + 1) xn _ _ _ (by omega) (by omega) hP hD hS (lv_sub hl [0, 1, 2, 3, 4, 5] rfl)
                                · have c_72 : ¬ (b_67 = 0) := fun h => c_72 ((neq b_67 0 (by omega) (Nat.le_of_ble_eq_true rfl)).mpr h)
                                  refine lv_lload hx hb dX12_laysWays_182 (lv_at hl 1 rfl) ?_
                                  refine lv_aload_n hx hb dX12_laysWays_184 rfl (lv_at hl 5 rfl) ?_
                                  refine sk_get (v := .ref (g 44)) (C := RX12) (T := TX12) (N := 92) hx hb hts inlX12 hown hK hP 0 rfl rfl 44 (Nat.le_of_ble_eq_true rfl) w_5_199 rfl dX12_laysWays_185 ?_
                                  refine lv_bipush (v := 10) hx hb dX12_laysWays_188 (by decide) ?_
                                  refine lv_iload_n hx hb dX12_laysWays_190 rfl (lv_at hl 3 rfl) ?_
                                  refine lv_iconst (v := 1) hx hb dX12_laysWays_191 ic_1 ?_
                                  refine lv_isub hx hb dX12_laysWays_192 ?_
                                  refine sk_top (nI (i - 1)) (nsub i 1 (by omega)) ?_
                                  refine lv_imul hx hb dX12_laysWays_193 ?_
                                  refine sk_top (nI (10 * (i - 1))) (nmul 10 (i - 1)) ?_
                                  refine lv_iload hx hb dX12_laysWays_194 (lv_at hl 0 rfl) ?_
                                  refine lv_iadd hx hb dX12_laysWays_196 ?_
                                  refine sk_top (nI (10 * (i - 1) + kk)) (nI_add (10 * (i - 1)) kk) ?_
                                  refine va_lald hx hb hK.1 hP 8 1 rfl rfl (vin (10 * (i - 1) + kk) 90 (by omega) (Nat.le_of_ble_eq_true rfl)) dX12_laysWays_197 ?_
                                  refine lv_topl (fun v_73 ev_73 => ?_)
                                  refine lv_ladd hx hb dX12_laysWays_198 ?_
                                  refine lv_topl (fun v_74 ev_74 => ?_)
                                  refine lv_lstore (lv' := [(4, .long v_74), (6, .int (nI kk)), (3, .int (nI jm)), (2, .int (nI i)), (1, .int (nI dm - 1)), (0, .ref mm)]) hx hb dX12_laysWays_199 hl (by decide) rfl (fun ls hl => ?_)
                                  refine lv_iinc (v := nI (kk + 1)) (lv' := [(6, .int (nI (kk + 1))), (4, .long v_74), (3, .int (nI jm)), (2, .int (nI i)), (1, .int (nI dm - 1)), (0, .ref mm)]) hx hb dX12_laysWays_201 hl (k := 1) rfl (ninc kk 1 (by decide)) (by decide) rfl (fun ls hl => ?_)
                                  refine lv_goto (tgt := 160) hx hb dX12_laysWays_204 (by decide) ?_
                                  exact ih_lp_57 (kk + 1) v_74 _ _ _ (by omega) (by omega) hP hD hS (lv_sub hl [0, 1, 2, 3, 4, 5] rfl)
                        exact lp_57 (10 - 0 + 1) 0 1 _ _ _ (Nat.lt_succ_self _) (by omega) hP hD hS (lv_sub hl [0, 1, 2, 3, 4, 5] rfl)
              exact lp_10 (10 - 0 + 1) 0 zy zf _ _ _ (Nat.lt_succ_self _) (by omega) hP hD hS (lv_sub hl [0, 1, 2, 3] rfl)
        exact lp_7 (dm - 0 + 1) 0 0 bf _ _ _ (Nat.lt_succ_self _) (by omega) hP hD hS (lv_sub hl [0, 1, 2] rfl)
      · have c_6 : 1 ≤ dd := npm1 dd c_6
        rw [npred dd (by omega)] at hl
        refine lv_iconst (v := 0) hx hb dX12_laysWays_13 ic_0 ?_
        refine lv_istore_n (lv' := [(3, .int 0), (2, .int (nI (dd - 1))), (1, .int (nI dm - 1)), (0, .ref mm)]) hx hb dX12_laysWays_14 rfl hl (by decide) rfl (fun ls hl => ?_)
        have lp_75 : ∀ (n_76 : Nat) (jm : Nat) (zc : Nat → Int64) (H : Heap) (locs : List Loc) (ls : Array Slot), 10 - jm < n_76 → (jm ≤ 10) → va_P D vwCl [ro_ mm 12 (mo g (nI ta) (nI pa) (nI pe) pd (nI pb) pp pf pg pn rt rn (nI cd) sn (nI il) tk am at_ aa mt_ (nI bh) wd wt wy (nI it_) (nI rm) (nI ud) (nI nu) sd (nI qn) (nI qw) qo (nI qb) (nI qp) qa (nI qi) (nI oc)), ra_I (g 20) cI 4 (l4 (nI l0) (nI l1) (nI dm) (nI l3)), ra_I (g 31) cI 120 nw, ra_I (g 38) cI 90 ws_, ra_I (g 53) cI 32 rw_, ra_I (g 37) cZ 900 yo, ra_I (g 36) cZ 900 yw, ra_J (g 43) cJ 90 zc, ra_J (g 44) cJ 90 bf] H → va_D A [ro_ mm 12 (mo g (nI ta) (nI pa) (nI pe) pd (nI pb) pp pf pg pn rt rn (nI cd) sn (nI il) tk am at_ aa mt_ (nI bh) wd wt wy (nI it_) (nI rm) (nI ud) (nI nu) sd (nI qn) (nI qw) qo (nI qb) (nI qp) qa (nI qi) (nI oc)), ra_I (g 20) cI 4 (l4 (nI l0) (nI l1) (nI dm) (nI l3)), ra_I (g 31) cI 120 nw, ra_I (g 38) cI 90 ws_, ra_I (g 53) cI 32 rw_, ra_I (g 37) cZ 900 yo, ra_I (g 36) cZ 900 yw, ra_J (g 43) cJ 90 zc, ra_J (g 44) cJ 90 bf] → va_S A s.heap H locs → lv_has ls 7 [(3, .int (nI jm)), (2, .int (nI (dd - 1))), (1, .int (nI dm - 1)), (0, .ref mm)] → W p l e { frames := 3, cells := 0, slots := 0, locals := 68 } s m ([.ref mm] : List Value).toArray below meth c H locs 0 0 (MQ below (skV D (skT cI cJ cC cZ cS) (fun (u : va_W) => ∃ (wy2 : Int64), ∃ (be2 : Nat → Int64), ∃ (bf2 : Nat → Int64), u = [ro_ mm 12 (mo g (nI ta) (nI pa) (nI pe) pd (nI pb) pp pf pg pn rt rn (nI cd) sn (nI il) tk am at_ aa mt_ (nI bh) wd wt wy2 (nI it_) (nI rm) (nI ud) (nI nu) sd (nI qn) (nI qw) qo (nI qb) (nI qp) qa (nI qi) (nI oc)), ra_I (g 20) cI 4 (l4 (nI l0) (nI l1) (nI dm) (nI l3)), ra_I (g 31) cI 120 nw, ra_I (g 38) cI 90 ws_, ra_I (g 53) cI 32 rw_, ra_I (g 37) cZ 900 yo, ra_I (g 36) cZ 900 yw, ra_J (g 43) cJ 90 be2, ra_J (g 44) cJ 90 bf2]) A) ([.ref mm] : List Value).toArray s 0 0 A) (F0 m 15 ls []) := by
          intro n_76
          induction n_76 with
          | zero => intro jm zc H locs ls hm; exact absurd hm (Nat.not_lt_zero _)
          | succ n_76 ih_lp_75 =>
            intro jm zc H locs ls hm hjm hP hD hS hl
            refine lv_iload_n hx hb dX12_laysWays_15 rfl (lv_at hl 0 rfl) ?_
            refine lv_bipush (v := 10) hx hb dX12_laysWays_16 (by decide) ?_
            refine lv_icmp_ge (tgt := 105) hx hb dX12_laysWays_18 (by decide) (fun c_77 => ?_) (fun c_77 => ?_)
            · have c_77 : 10 ≤ jm := (nle 10 jm (Nat.le_of_ble_eq_true rfl) (by omega)).mp c_77
              refine lv_iinc (v := nI (dd - 1) - 1) (lv' := [(2, .int (nI (dd - 1) - 1)), (3, .int (nI jm)), (1, .int (nI dm - 1)), (0, .ref mm)]) hx hb dX12_laysWays_105 hl (k := 1) rfl (ndn _) (by decide) rfl (fun ls hl => ?_)
              refine lv_goto (tgt := 9) hx hb dX12_laysWays_108 (by decide) ?_
              exact ih_lp_4 (dd - 1) zc _ _ _ (by omega) (by omega) hP hD hS (lv_sub hl [0, 2, 3] rfl)
            · have c_77 : ¬ (10 ≤ jm) := fun h => c_77 ((nle 10 jm (Nat.le_of_ble_eq_true rfl) (by omega)).mpr h)
              refine lv_iload_n hx hb dX12_laysWays_21 rfl (lv_at hl 1 rfl) ?_
              refine lv_iload_n hx hb dX12_laysWays_22 rfl (lv_at hl 2 rfl) ?_
              refine lv_icmp_ne (tgt := 30) hx hb dX12_laysWays_23 (by decide) (fun c_78 => ?_) (fun c_78 => ?_)
              · have c_78 : ¬ (((dd - 1 : Nat) : Int) = ((dm : Nat) : Int) - 1) := fun h => c_78 ((ieq (ivn (dd - 1) (by omega)) (ivp dm (by omega))).mpr h)
                refine lv_lconst (v := 0) hx hb dX12_laysWays_30 (by decide) ?_
                refine lv_lstore (lv' := [(4, .long 0), (3, .int (nI jm)), (2, .int (nI (dd - 1))), (1, .int (nI dm - 1)), (0, .ref mm)]) hx hb dX12_laysWays_31 hl (by decide) rfl (fun ls hl => ?_)
                refine lv_iconst (v := 0) hx hb dX12_laysWays_33 ic_0 ?_
                refine lv_istore (lv' := [(6, .int 0), (4, .long 0), (3, .int (nI jm)), (2, .int (nI (dd - 1))), (1, .int (nI dm - 1)), (0, .ref mm)]) hx hb dX12_laysWays_34 hl (by decide) rfl (fun ls hl => ?_)
                have lp_79 : ∀ (n_80 : Nat) (kk : Nat) (xn : Int64) (H : Heap) (locs : List Loc) (ls : Array Slot), 10 - kk < n_80 → (kk ≤ 10) → va_P D vwCl [ro_ mm 12 (mo g (nI ta) (nI pa) (nI pe) pd (nI pb) pp pf pg pn rt rn (nI cd) sn (nI il) tk am at_ aa mt_ (nI bh) wd wt wy (nI it_) (nI rm) (nI ud) (nI nu) sd (nI qn) (nI qw) qo (nI qb) (nI qp) qa (nI qi) (nI oc)), ra_I (g 20) cI 4 (l4 (nI l0) (nI l1) (nI dm) (nI l3)), ra_I (g 31) cI 120 nw, ra_I (g 38) cI 90 ws_, ra_I (g 53) cI 32 rw_, ra_I (g 37) cZ 900 yo, ra_I (g 36) cZ 900 yw, ra_J (g 43) cJ 90 zc, ra_J (g 44) cJ 90 bf] H → va_D A [ro_ mm 12 (mo g (nI ta) (nI pa) (nI pe) pd (nI pb) pp pf pg pn rt rn (nI cd) sn (nI il) tk am at_ aa mt_ (nI bh) wd wt wy (nI it_) (nI rm) (nI ud) (nI nu) sd (nI qn) (nI qw) qo (nI qb) (nI qp) qa (nI qi) (nI oc)), ra_I (g 20) cI 4 (l4 (nI l0) (nI l1) (nI dm) (nI l3)), ra_I (g 31) cI 120 nw, ra_I (g 38) cI 90 ws_, ra_I (g 53) cI 32 rw_, ra_I (g 37) cZ 900 yo, ra_I (g 36) cZ 900 yw, ra_J (g 43) cJ 90 zc, ra_J (g 44) cJ 90 bf] → va_S A s.heap H locs → lv_has ls 7 [(6, .int (nI kk)), (4, .long xn), (3, .int (nI jm)), (2, .int (nI (dd - 1))), (1, .int (nI dm - 1)), (0, .ref mm)] → W p l e { frames := 3, cells := 0, slots := 0, locals := 68 } s m ([.ref mm] : List Value).toArray below meth c H locs 0 0 (MQ below (skV D (skT cI cJ cC cZ cS) (fun (u : va_W) => ∃ (wy2 : Int64), ∃ (be2 : Nat → Int64), ∃ (bf2 : Nat → Int64), u = [ro_ mm 12 (mo g (nI ta) (nI pa) (nI pe) pd (nI pb) pp pf pg pn rt rn (nI cd) sn (nI il) tk am at_ aa mt_ (nI bh) wd wt wy2 (nI it_) (nI rm) (nI ud) (nI nu) sd (nI qn) (nI qw) qo (nI qb) (nI qp) qa (nI qi) (nI oc)), ra_I (g 20) cI 4 (l4 (nI l0) (nI l1) (nI dm) (nI l3)), ra_I (g 31) cI 120 nw, ra_I (g 38) cI 90 ws_, ra_I (g 53) cI 32 rw_, ra_I (g 37) cZ 900 yo, ra_I (g 36) cZ 900 yw, ra_J (g 43) cJ 90 be2, ra_J (g 44) cJ 90 bf2]) A) ([.ref mm] : List Value).toArray s 0 0 A) (F0 m 36 ls []) := by
                  intro n_80
                  induction n_80 with
                  | zero => intro kk xn H locs ls hm; exact absurd hm (Nat.not_lt_zero _)
                  | succ n_80 ih_lp_79 =>
                    intro kk xn H locs ls hm hkk hP hD hS hl
                    refine lv_iload hx hb dX12_laysWays_36 (lv_at hl 0 rfl) ?_
                    refine lv_bipush (v := 10) hx hb dX12_laysWays_38 (by decide) ?_
                    refine lv_icmp_ge (tgt := 86) hx hb dX12_laysWays_40 (by decide) (fun c_81 => ?_) (fun c_81 => ?_)
                    · have c_81 : 10 ≤ kk := (nle 10 kk (Nat.le_of_ble_eq_true rfl) (by omega)).mp c_81
                      refine lv_aload_n hx hb dX12_laysWays_86 rfl (lv_at hl 5 rfl) ?_
                      refine sk_get (v := .ref (g 43)) (C := RX12) (T := TX12) (N := 92) hx hb hts inlX12 hown hK hP 0 rfl rfl 43 (Nat.le_of_ble_eq_true rfl) w_5_198 rfl dX12_laysWays_87 ?_
                      refine lv_bipush (v := 10) hx hb dX12_laysWays_90 (by decide) ?_
                      refine lv_iload_n hx hb dX12_laysWays_92 rfl (lv_at hl 3 rfl) ?_
                      refine lv_imul hx hb dX12_laysWays_93 ?_
                      refine sk_top (nI (10 * (dd - 1))) (nmul 10 (dd - 1)) ?_
                      refine lv_iload_n hx hb dX12_laysWays_94 rfl (lv_at hl 2 rfl) ?_
                      refine lv_iadd hx hb dX12_laysWays_95 ?_
                      refine sk_top (nI (10 * (dd - 1) + jm)) (nI_add (10 * (dd - 1)) jm) ?_
                      refine lv_lload hx hb dX12_laysWays_96 (lv_at hl 1 rfl) ?_
                      refine sk_lastO (ws' := fun f_82 => [ro_ mm 12 (mo g (nI ta) (nI pa) (nI pe) pd (nI pb) pp pf pg pn rt rn (nI cd) sn (nI il) tk am at_ aa mt_ (nI bh) wd wt wy (nI it_) (nI rm) (nI ud) (nI nu) sd (nI qn) (nI qw) qo (nI qb) (nI qp) qa (nI qi) (nI oc)), ra_I (g 20) cI 4 (l4 (nI l0) (nI l1) (nI dm) (nI l3)), ra_I (g 31) cI 120 nw, ra_I (g 38) cI 90 ws_, ra_I (g 53) cI 32 rw_, ra_I (g 37) cZ 900 yo, ra_I (g 36) cZ 900 yw, ra_J (g 43) cJ 90 f_82, ra_J (g 44) cJ 90 bf]) hx hb hK hP hD hS 7 1 rfl rfl (vin (10 * (dd - 1) + jm) 90 (by omega) (Nat.le_of_ble_eq_true rfl)) (fun _ => rfl) dX12_laysWays_98 (fun f_82 H locs hP hD hS => ?_)
                      refine lv_iinc (v := nI (jm + 1)) (lv' := [(3, .int (nI (jm + 1))), (6, .int (nI kk)), (4, .long xn), (2, .int (nI (dd - 1))), (1, .int (nI dm - 1)), (0, .ref mm)]) hx hb dX12_laysWays_99 hl (k := 2) rfl (ninc jm 1 (by decide)) (by decide) rfl (fun ls hl => ?_)
                      refine lv_goto (tgt := 15) hx hb dX12_laysWays_102 (by decide) ?_
                      exact ih_lp_75 (jm + 1) f_82 _ _ _ (by omega) (by omega) hP hD hS (lv_sub hl [0, 3, 4, 5] rfl)
                    · have c_81 : ¬ (10 ≤ kk) := fun h => c_81 ((nle 10 kk (Nat.le_of_ble_eq_true rfl) (by omega)).mpr h)
                      refine lv_iload_n hx hb dX12_laysWays_43 rfl (lv_at hl 3 rfl) ?_
                      refine lv_iload_n hx hb dX12_laysWays_44 rfl (lv_at hl 4 rfl) ?_
                      refine lv_icmp_ge (tgt := 86) hx hb dX12_laysWays_45 (by decide) (fun c_83 => ?_) (fun c_83 => ?_)
                      · have c_83 : ((dm : Nat) : Int) - 1 ≤ ((dd - 1 : Nat) : Int) := (ile (ivp dm (by omega)) (ivn (dd - 1) (by omega))).mp c_83
                        refine lv_aload_n hx hb dX12_laysWays_86 rfl (lv_at hl 5 rfl) ?_
                        refine sk_get (v := .ref (g 43)) (C := RX12) (T := TX12) (N := 92) hx hb hts inlX12 hown hK hP 0 rfl rfl 43 (Nat.le_of_ble_eq_true rfl) w_5_198 rfl dX12_laysWays_87 ?_
                        refine lv_bipush (v := 10) hx hb dX12_laysWays_90 (by decide) ?_
                        refine lv_iload_n hx hb dX12_laysWays_92 rfl (lv_at hl 3 rfl) ?_
                        refine lv_imul hx hb dX12_laysWays_93 ?_
                        refine sk_top (nI (10 * (dd - 1))) (nmul 10 (dd - 1)) ?_
                        refine lv_iload_n hx hb dX12_laysWays_94 rfl (lv_at hl 2 rfl) ?_
                        refine lv_iadd hx hb dX12_laysWays_95 ?_
                        refine sk_top (nI (10 * (dd - 1) + jm)) (nI_add (10 * (dd - 1)) jm) ?_
                        refine lv_lload hx hb dX12_laysWays_96 (lv_at hl 1 rfl) ?_
                        refine sk_lastO (ws' := fun f_84 => [ro_ mm 12 (mo g (nI ta) (nI pa) (nI pe) pd (nI pb) pp pf pg pn rt rn (nI cd) sn (nI il) tk am at_ aa mt_ (nI bh) wd wt wy (nI it_) (nI rm) (nI ud) (nI nu) sd (nI qn) (nI qw) qo (nI qb) (nI qp) qa (nI qi) (nI oc)), ra_I (g 20) cI 4 (l4 (nI l0) (nI l1) (nI dm) (nI l3)), ra_I (g 31) cI 120 nw, ra_I (g 38) cI 90 ws_, ra_I (g 53) cI 32 rw_, ra_I (g 37) cZ 900 yo, ra_I (g 36) cZ 900 yw, ra_J (g 43) cJ 90 f_84, ra_J (g 44) cJ 90 bf]) hx hb hK hP hD hS 7 1 rfl rfl (vin (10 * (dd - 1) + jm) 90 (by omega) (Nat.le_of_ble_eq_true rfl)) (fun _ => rfl) dX12_laysWays_98 (fun f_84 H locs hP hD hS => ?_)
                        refine lv_iinc (v := nI (jm + 1)) (lv' := [(3, .int (nI (jm + 1))), (6, .int (nI kk)), (4, .long xn), (2, .int (nI (dd - 1))), (1, .int (nI dm - 1)), (0, .ref mm)]) hx hb dX12_laysWays_99 hl (k := 2) rfl (ninc jm 1 (by decide)) (by decide) rfl (fun ls hl => ?_)
                        refine lv_goto (tgt := 15) hx hb dX12_laysWays_102 (by decide) ?_
                        exact ih_lp_75 (jm + 1) f_84 _ _ _ (by omega) (by omega) hP hD hS (lv_sub hl [0, 3, 4, 5] rfl)
                      · have c_83 : ¬ (((dm : Nat) : Int) - 1 ≤ ((dd - 1 : Nat) : Int)) := fun h => c_83 ((ile (ivp dm (by omega)) (ivn (dd - 1) (by omega))).mpr h)
                        refine lv_aload_n hx hb dX12_laysWays_48 rfl (lv_at hl 5 rfl) ?_
                        refine lv_iload_n hx hb dX12_laysWays_49 rfl (lv_at hl 3 rfl) ?_
                        refine lv_iconst (v := 1) hx hb dX12_laysWays_50 ic_1 ?_
                        refine lv_iadd hx hb dX12_laysWays_51 ?_
                        refine sk_top (nI (dd - 1 + 1)) (nI_add (dd - 1) 1) ?_
                        refine lv_iload_n hx hb dX12_laysWays_52 rfl (lv_at hl 2 rfl) ?_
                        refine lv_iload hx hb dX12_laysWays_53 (lv_at hl 0 rfl) ?_
                        refine sk_Vi (q0 := 0) (n := 3) (rest := []) (wr := fmR om_9_17c _) ⟨hx, hb, hml, hown, hts⟩ hl.1 (c_m_canFollowS l D cI cJ cC cZ cS mm g ta pa pe pd pb pp pf pg pn rt rn cd sn il tk am at_ aa mt_ bh wd wt wy it_ rm ud nu sd qn qw qo qb qp qa qi oc (dd - 1 + 1) jm kk nw ws_ rw_ yo yw (by omega) (by omega) (by omega) hrm hbh hnw) w_7_201 w_7_203 w_0_85 w_1_14 w_7_204 hd_X12_canFollow_3 ⟨⟨(Nat.le_of_ble_eq_true rfl), (Nat.le_of_ble_eq_true rfl)⟩, (Nat.le_of_ble_eq_true rfl), (Nat.le_of_ble_eq_true rfl)⟩ hK hP hD hS hA (fmT om_9_17c 0) (fmF om_9_17c 0) (fm_C1 rfl rfl) (fm_R rfl rfl) (fm_nT om_9_17c 0) (fm_nF om_9_17c 0) (fm_di om_9_17c 0) rfl rfl rfl rfl (Nat.le_of_ble_eq_true rfl) dX12_laysWays_55 (fun r_86 u H locs hw hP hD hS => ?_)
                        refine exE hw (fun b_85 hw1 => anE hw1 (fun hb1_87 hw2 => anE hw2 (fun er_89 eu_88 => ?_)))
                        clear hw hw1 hw2
                        subst er_89
                        refine o_mgE (ws' := [ro_ mm 12 (mo g (nI ta) (nI pa) (nI pe) pd (nI pb) pp pf pg pn rt rn (nI cd) sn (nI il) tk am at_ aa mt_ (nI bh) wd wt wy (nI it_) (nI rm) (nI ud) (nI nu) sd (nI qn) (nI qw) qo (nI qb) (nI qp) qa (nI qi) (nI oc)), ra_I (g 20) cI 4 (l4 (nI l0) (nI l1) (nI dm) (nI l3)), ra_I (g 31) cI 120 nw, ra_I (g 38) cI 90 ws_, ra_I (g 53) cI 32 rw_, ra_I (g 37) cZ 900 yo, ra_I (g 36) cZ 900 yw, ra_J (g 43) cJ 90 zc, ra_J (g 44) cJ 90 bf]) eu_88 hP hD rfl (fun hP hD => ?_)
                        refine lv_if_eq (tgt := 80) hx hb dX12_laysWays_58 (by decide) (fun c_90 => ?_) (fun c_90 => ?_)
                        · have c_90 : b_85 = 0 := (neq b_85 0 (by omega) (Nat.le_of_ble_eq_true rfl)).mp c_90
                          refine lv_iinc (v := nI (kk + 1)) (lv' := [(6, .int (nI (kk + 1))), (4, .long xn), (3, .int (nI jm)), (2, .int (nI (dd - 1))), (1, .int (nI dm - 1)), (0, .ref mm)]) hx hb dX12_laysWays_80 hl (k := 0) rfl (ninc kk 1 (by decide)) (by decide) rfl (fun ls hl => ?_)
                          refine lv_goto (tgt := 36) hx hb dX12_laysWays_83 (by decide) ?_
                          exact ih_lp_79 (kk + 1) xn _ _ _ (by omega) (by omega) hP hD hS (lv_sub hl [0, 1, 2, 3, 4, 5] rfl)
                        · have c_90 : ¬ (b_85 = 0) := fun h => c_90 ((neq b_85 0 (by omega) (Nat.le_of_ble_eq_true rfl)).mpr h)
                          refine lv_lload hx hb dX12_laysWays_61 (lv_at hl 1 rfl) ?_
                          refine lv_aload_n hx hb dX12_laysWays_63 rfl (lv_at hl 5 rfl) ?_
                          refine sk_get (v := .ref (g 43)) (C := RX12) (T := TX12) (N := 92) hx hb hts inlX12 hown hK hP 0 rfl rfl 43 (Nat.le_of_ble_eq_true rfl) w_5_198 rfl dX12_laysWays_64 ?_
                          refine lv_bipush (v := 10) hx hb dX12_laysWays_67 (by decide) ?_
                          refine lv_iload_n hx hb dX12_laysWays_69 rfl (lv_at hl 3 rfl) ?_
                          refine lv_iconst (v := 1) hx hb dX12_laysWays_70 ic_1 ?_
                          refine lv_iadd hx hb dX12_laysWays_71 ?_
                          refine sk_top (nI (dd - 1 + 1)) (nI_add (dd - 1) 1) ?_
                          refine lv_imul hx hb dX12_laysWays_72 ?_
                          refine sk_top (nI (10 * (dd - 1 + 1))) (nmul 10 (dd - 1 + 1)) ?_
                          refine lv_iload hx hb dX12_laysWays_73 (lv_at hl 0 rfl) ?_
                          refine lv_iadd hx hb dX12_laysWays_75 ?_
                          refine sk_top (nI (10 * (dd - 1 + 1) + kk)) (nI_add (10 * (dd - 1 + 1)) kk) ?_
                          refine va_lald hx hb hK.1 hP 7 1 rfl rfl (vin (10 * (dd - 1 + 1) + kk) 90 (by omega) (Nat.le_of_ble_eq_true rfl)) dX12_laysWays_76 ?_
                          refine lv_topl (fun v_91 ev_91 => ?_)
                          refine lv_ladd hx hb dX12_laysWays_77 ?_
                          refine lv_topl (fun v_92 ev_92 => ?_)
                          refine lv_lstore (lv' := [(4, .long v_92), (6, .int (nI kk)), (3, .int (nI jm)), (2, .int (nI (dd - 1))), (1, .int (nI dm - 1)), (0, .ref mm)]) hx hb dX12_laysWays_78 hl (by decide) rfl (fun ls hl => ?_)
                          refine lv_iinc (v := nI (kk + 1)) (lv' := [(6, .int (nI (kk + 1))), (4, .long v_92), (3, .int (nI jm)), (2, .int (nI (dd - 1))), (1, .int (nI dm - 1)), (0, .ref mm)]) hx hb dX12_laysWays_80 hl (k := 1) rfl (ninc kk 1 (by decide)) (by decide) rfl (fun ls hl => ?_)
                          refine lv_goto (tgt := 36) hx hb dX12_laysWays_83 (by decide) ?_
                          exact ih_lp_79 (kk + 1) v_92 _ _ _ (by omega) (by omega) hP hD hS (lv_sub hl [0, 1, 2, 3, 4, 5] rfl)
                exact lp_79 (10 - 0 + 1) 0 0 _ _ _ (Nat.lt_succ_self _) (by omega) hP hD hS (lv_sub hl [0, 1, 2, 3, 4, 5] rfl)
              · have c_78 : ((dd - 1 : Nat) : Int) = ((dm : Nat) : Int) - 1 := (ieq (ivn (dd - 1) (by omega)) (ivp dm (by omega))).mp c_78
                refine lv_lconst (v := 1) hx hb dX12_laysWays_26 (by decide) ?_
                refine lv_goto (tgt := 31) hx hb dX12_laysWays_27 (by decide) ?_
                refine lv_lstore (lv' := [(4, .long 1), (3, .int (nI jm)), (2, .int (nI (dd - 1))), (1, .int (nI dm - 1)), (0, .ref mm)]) hx hb dX12_laysWays_31 hl (by decide) rfl (fun ls hl => ?_)
                refine lv_iconst (v := 0) hx hb dX12_laysWays_33 ic_0 ?_
                refine lv_istore (lv' := [(6, .int 0), (4, .long 1), (3, .int (nI jm)), (2, .int (nI (dd - 1))), (1, .int (nI dm - 1)), (0, .ref mm)]) hx hb dX12_laysWays_34 hl (by decide) rfl (fun ls hl => ?_)
                have lp_93 : ∀ (n_94 : Nat) (kk : Nat) (xn : Int64) (H : Heap) (locs : List Loc) (ls : Array Slot), 10 - kk < n_94 → (kk ≤ 10) → va_P D vwCl [ro_ mm 12 (mo g (nI ta) (nI pa) (nI pe) pd (nI pb) pp pf pg pn rt rn (nI cd) sn (nI il) tk am at_ aa mt_ (nI bh) wd wt wy (nI it_) (nI rm) (nI ud) (nI nu) sd (nI qn) (nI qw) qo (nI qb) (nI qp) qa (nI qi) (nI oc)), ra_I (g 20) cI 4 (l4 (nI l0) (nI l1) (nI dm) (nI l3)), ra_I (g 31) cI 120 nw, ra_I (g 38) cI 90 ws_, ra_I (g 53) cI 32 rw_, ra_I (g 37) cZ 900 yo, ra_I (g 36) cZ 900 yw, ra_J (g 43) cJ 90 zc, ra_J (g 44) cJ 90 bf] H → va_D A [ro_ mm 12 (mo g (nI ta) (nI pa) (nI pe) pd (nI pb) pp pf pg pn rt rn (nI cd) sn (nI il) tk am at_ aa mt_ (nI bh) wd wt wy (nI it_) (nI rm) (nI ud) (nI nu) sd (nI qn) (nI qw) qo (nI qb) (nI qp) qa (nI qi) (nI oc)), ra_I (g 20) cI 4 (l4 (nI l0) (nI l1) (nI dm) (nI l3)), ra_I (g 31) cI 120 nw, ra_I (g 38) cI 90 ws_, ra_I (g 53) cI 32 rw_, ra_I (g 37) cZ 900 yo, ra_I (g 36) cZ 900 yw, ra_J (g 43) cJ 90 zc, ra_J (g 44) cJ 90 bf] → va_S A s.heap H locs → lv_has ls 7 [(6, .int (nI kk)), (4, .long xn), (3, .int (nI jm)), (2, .int (nI (dd - 1))), (1, .int (nI dm - 1)), (0, .ref mm)] → W p l e { frames := 3, cells := 0, slots := 0, locals := 68 } s m ([.ref mm] : List Value).toArray below meth c H locs 0 0 (MQ below (skV D (skT cI cJ cC cZ cS) (fun (u : va_W) => ∃ (wy2 : Int64), ∃ (be2 : Nat → Int64), ∃ (bf2 : Nat → Int64), u = [ro_ mm 12 (mo g (nI ta) (nI pa) (nI pe) pd (nI pb) pp pf pg pn rt rn (nI cd) sn (nI il) tk am at_ aa mt_ (nI bh) wd wt wy2 (nI it_) (nI rm) (nI ud) (nI nu) sd (nI qn) (nI qw) qo (nI qb) (nI qp) qa (nI qi) (nI oc)), ra_I (g 20) cI 4 (l4 (nI l0) (nI l1) (nI dm) (nI l3)), ra_I (g 31) cI 120 nw, ra_I (g 38) cI 90 ws_, ra_I (g 53) cI 32 rw_, ra_I (g 37) cZ 900 yo, ra_I (g 36) cZ 900 yw, ra_J (g 43) cJ 90 be2, ra_J (g 44) cJ 90 bf2]) A) ([.ref mm] : List Value).toArray s 0 0 A) (F0 m 36 ls []) := by
                  intro n_94
                  induction n_94 with
                  | zero => intro kk xn H locs ls hm; exact absurd hm (Nat.not_lt_zero _)
                  | succ n_94 ih_lp_93 =>
                    intro kk xn H locs ls hm hkk hP hD hS hl
                    refine lv_iload hx hb dX12_laysWays_36 (lv_at hl 0 rfl) ?_
                    refine lv_bipush (v := 10) hx hb dX12_laysWays_38 (by decide) ?_
                    refine lv_icmp_ge (tgt := 86) hx hb dX12_laysWays_40 (by decide) (fun c_95 => ?_) (fun c_95 => ?_)
                    · have c_95 : 10 ≤ kk := (nle 10 kk (Nat.le_of_ble_eq_true rfl) (by omega)).mp c_95
                      refine lv_aload_n hx hb dX12_laysWays_86 rfl (lv_at hl 5 rfl) ?_
                      refine sk_get (v := .ref (g 43)) (C := RX12) (T := TX12) (N := 92) hx hb hts inlX12 hown hK hP 0 rfl rfl 43 (Nat.le_of_ble_eq_true rfl) w_5_198 rfl dX12_laysWays_87 ?_
                      refine lv_bipush (v := 10) hx hb dX12_laysWays_90 (by decide) ?_
                      refine lv_iload_n hx hb dX12_laysWays_92 rfl (lv_at hl 3 rfl) ?_
                      refine lv_imul hx hb dX12_laysWays_93 ?_
                      refine sk_top (nI (10 * (dd - 1))) (nmul 10 (dd - 1)) ?_
                      refine lv_iload_n hx hb dX12_laysWays_94 rfl (lv_at hl 2 rfl) ?_
                      refine lv_iadd hx hb dX12_laysWays_95 ?_
                      refine sk_top (nI (10 * (dd - 1) + jm)) (nI_add (10 * (dd - 1)) jm) ?_
                      refine lv_lload hx hb dX12_laysWays_96 (lv_at hl 1 rfl) ?_
                      refine sk_lastO (ws' := fun f_96 => [ro_ mm 12 (mo g (nI ta) (nI pa) (nI pe) pd (nI pb) pp pf pg pn rt rn (nI cd) sn (nI il) tk am at_ aa mt_ (nI bh) wd wt wy (nI it_) (nI rm) (nI ud) (nI nu) sd (nI qn) (nI qw) qo (nI qb) (nI qp) qa (nI qi) (nI oc)), ra_I (g 20) cI 4 (l4 (nI l0) (nI l1) (nI dm) (nI l3)), ra_I (g 31) cI 120 nw, ra_I (g 38) cI 90 ws_, ra_I (g 53) cI 32 rw_, ra_I (g 37) cZ 900 yo, ra_I (g 36) cZ 900 yw, ra_J (g 43) cJ 90 f_96, ra_J (g 44) cJ 90 bf]) hx hb hK hP hD hS 7 1 rfl rfl (vin (10 * (dd - 1) + jm) 90 (by omega) (Nat.le_of_ble_eq_true rfl)) (fun _ => rfl) dX12_laysWays_98 (fun f_96 H locs hP hD hS => ?_)
                      refine lv_iinc (v := nI (jm + 1)) (lv' := [(3, .int (nI (jm + 1))), (6, .int (nI kk)), (4, .long xn), (2, .int (nI (dd - 1))), (1, .int (nI dm - 1)), (0, .ref mm)]) hx hb dX12_laysWays_99 hl (k := 2) rfl (ninc jm 1 (by decide)) (by decide) rfl (fun ls hl => ?_)
                      refine lv_goto (tgt := 15) hx hb dX12_laysWays_102 (by decide) ?_
                      exact ih_lp_75 (jm + 1) f_96 _ _ _ (by omega) (by omega) hP hD hS (lv_sub hl [0, 3, 4, 5] rfl)
                    · have c_95 : ¬ (10 ≤ kk) := fun h => c_95 ((nle 10 kk (Nat.le_of_ble_eq_true rfl) (by omega)).mpr h)
                      refine lv_iload_n hx hb dX12_laysWays_43 rfl (lv_at hl 3 rfl) ?_
                      refine lv_iload_n hx hb dX12_laysWays_44 rfl (lv_at hl 4 rfl) ?_
                      refine lv_icmp_ge (tgt := 86) hx hb dX12_laysWays_45 (by decide) (fun c_97 => ?_) (fun c_97 => ?_)
                      · have c_97 : ((dm : Nat) : Int) - 1 ≤ ((dd - 1 : Nat) : Int) := (ile (ivp dm (by omega)) (ivn (dd - 1) (by omega))).mp c_97
                        refine lv_aload_n hx hb dX12_laysWays_86 rfl (lv_at hl 5 rfl) ?_
                        refine sk_get (v := .ref (g 43)) (C := RX12) (T := TX12) (N := 92) hx hb hts inlX12 hown hK hP 0 rfl rfl 43 (Nat.le_of_ble_eq_true rfl) w_5_198 rfl dX12_laysWays_87 ?_
                        refine lv_bipush (v := 10) hx hb dX12_laysWays_90 (by decide) ?_
                        refine lv_iload_n hx hb dX12_laysWays_92 rfl (lv_at hl 3 rfl) ?_
                        refine lv_imul hx hb dX12_laysWays_93 ?_
                        refine sk_top (nI (10 * (dd - 1))) (nmul 10 (dd - 1)) ?_
                        refine lv_iload_n hx hb dX12_laysWays_94 rfl (lv_at hl 2 rfl) ?_
                        refine lv_iadd hx hb dX12_laysWays_95 ?_
                        refine sk_top (nI (10 * (dd - 1) + jm)) (nI_add (10 * (dd - 1)) jm) ?_
                        refine lv_lload hx hb dX12_laysWays_96 (lv_at hl 1 rfl) ?_
                        refine sk_lastO (ws' := fun f_98 => [ro_ mm 12 (mo g (nI ta) (nI pa) (nI pe) pd (nI pb) pp pf pg pn rt rn (nI cd) sn (nI il) tk am at_ aa mt_ (nI bh) wd wt wy (nI it_) (nI rm) (nI ud) (nI nu) sd (nI qn) (nI qw) qo (nI qb) (nI qp) qa (nI qi) (nI oc)), ra_I (g 20) cI 4 (l4 (nI l0) (nI l1) (nI dm) (nI l3)), ra_I (g 31) cI 120 nw, ra_I (g 38) cI 90 ws_, ra_I (g 53) cI 32 rw_, ra_I (g 37) cZ 900 yo, ra_I (g 36) cZ 900 yw, ra_J (g 43) cJ 90 f_98, ra_J (g 44) cJ 90 bf]) hx hb hK hP hD hS 7 1 rfl rfl (vin (10 * (dd - 1) + jm) 90 (by omega) (Nat.le_of_ble_eq_true rfl)) (fun _ => rfl) dX12_laysWays_98 (fun f_98 H locs hP hD hS => ?_)
                        refine lv_iinc (v := nI (jm + 1)) (lv' := [(3, .int (nI (jm + 1))), (6, .int (nI kk)), (4, .long xn), (2, .int (nI (dd - 1))), (1, .int (nI dm - 1)), (0, .ref mm)]) hx hb dX12_laysWays_99 hl (k := 2) rfl (ninc jm 1 (by decide)) (by decide) rfl (fun ls hl => ?_)
                        refine lv_goto (tgt := 15) hx hb dX12_laysWays_102 (by decide) ?_
                        exact ih_lp_75 (jm + 1) f_98 _ _ _ (by omega) (by omega) hP hD hS (lv_sub hl [0, 3, 4, 5] rfl)
                      · have c_97 : ¬ (((dm : Nat) : Int) - 1 ≤ ((dd - 1 : Nat) : Int)) := fun h => c_97 ((ile (ivp dm (by omega)) (ivn (dd - 1) (by omega))).mpr h)
                        refine lv_aload_n hx hb dX12_laysWays_48 rfl (lv_at hl 5 rfl) ?_
                        refine lv_iload_n hx hb dX12_laysWays_49 rfl (lv_at hl 3 rfl) ?_
                        refine lv_iconst (v := 1) hx hb dX12_laysWays_50 ic_1 ?_
                        refine lv_iadd hx hb dX12_laysWays_51 ?_
                        refine sk_top (nI (dd - 1 + 1)) (nI_add (dd - 1) 1) ?_
                        refine lv_iload_n hx hb dX12_laysWays_52 rfl (lv_at hl 2 rfl) ?_
                        refine lv_iload hx hb dX12_laysWays_53 (lv_at hl 0 rfl) ?_
                        refine sk_Vi (q0 := 0) (n := 3) (rest := []) (wr := fmR om_9_17c _) ⟨hx, hb, hml, hown, hts⟩ hl.1 (c_m_canFollowS l D cI cJ cC cZ cS mm g ta pa pe pd pb pp pf pg pn rt rn cd sn il tk am at_ aa mt_ bh wd wt wy it_ rm ud nu sd qn qw qo qb qp qa qi oc (dd - 1 + 1) jm kk nw ws_ rw_ yo yw (by omega) (by omega) (by omega) hrm hbh hnw) w_7_201 w_7_203 w_0_85 w_1_14 w_7_204 hd_X12_canFollow_3 ⟨⟨(Nat.le_of_ble_eq_true rfl), (Nat.le_of_ble_eq_true rfl)⟩, (Nat.le_of_ble_eq_true rfl), (Nat.le_of_ble_eq_true rfl)⟩ hK hP hD hS hA (fmT om_9_17c 0) (fmF om_9_17c 0) (fm_C1 rfl rfl) (fm_R rfl rfl) (fm_nT om_9_17c 0) (fm_nF om_9_17c 0) (fm_di om_9_17c 0) rfl rfl rfl rfl (Nat.le_of_ble_eq_true rfl) dX12_laysWays_55 (fun r_100 u H locs hw hP hD hS => ?_)
                        refine exE hw (fun b_99 hw1 => anE hw1 (fun hb1_101 hw2 => anE hw2 (fun er_103 eu_102 => ?_)))
                        clear hw hw1 hw2
                        subst er_103
                        refine o_mgE (ws' := [ro_ mm 12 (mo g (nI ta) (nI pa) (nI pe) pd (nI pb) pp pf pg pn rt rn (nI cd) sn (nI il) tk am at_ aa mt_ (nI bh) wd wt wy (nI it_) (nI rm) (nI ud) (nI nu) sd (nI qn) (nI qw) qo (nI qb) (nI qp) qa (nI qi) (nI oc)), ra_I (g 20) cI 4 (l4 (nI l0) (nI l1) (nI dm) (nI l3)), ra_I (g 31) cI 120 nw, ra_I (g 38) cI 90 ws_, ra_I (g 53) cI 32 rw_, ra_I (g 37) cZ 900 yo, ra_I (g 36) cZ 900 yw, ra_J (g 43) cJ 90 zc, ra_J (g 44) cJ 90 bf]) eu_102 hP hD rfl (fun hP hD => ?_)
                        refine lv_if_eq (tgt := 80) hx hb dX12_laysWays_58 (by decide) (fun c_104 => ?_) (fun c_104 => ?_)
                        · have c_104 : b_99 = 0 := (neq b_99 0 (by omega) (Nat.le_of_ble_eq_true rfl)).mp c_104
                          refine lv_iinc (v := nI (kk + 1)) (lv' := [(6, .int (nI (kk + 1))), (4, .long xn), (3, .int (nI jm)), (2, .int (nI (dd - 1))), (1, .int (nI dm - 1)), (0, .ref mm)]) hx hb dX12_laysWays_80 hl (k := 0) rfl (ninc kk 1 (by decide)) (by decide) rfl (fun ls hl => ?_)
                          refine lv_goto (tgt := 36) hx hb dX12_laysWays_83 (by decide) ?_
                          exact ih_lp_93 (kk + 1) xn _ _ _ (by omega) (by omega) hP hD hS (lv_sub hl [0, 1, 2, 3, 4, 5] rfl)
                        · have c_104 : ¬ (b_99 = 0) := fun h => c_104 ((neq b_99 0 (by omega) (Nat.le_of_ble_eq_true rfl)).mpr h)
                          refine lv_lload hx hb dX12_laysWays_61 (lv_at hl 1 rfl) ?_
                          refine lv_aload_n hx hb dX12_laysWays_63 rfl (lv_at hl 5 rfl) ?_
                          refine sk_get (v := .ref (g 43)) (C := RX12) (T := TX12) (N := 92) hx hb hts inlX12 hown hK hP 0 rfl rfl 43 (Nat.le_of_ble_eq_true rfl) w_5_198 rfl dX12_laysWays_64 ?_
                          refine lv_bipush (v := 10) hx hb dX12_laysWays_67 (by decide) ?_
                          refine lv_iload_n hx hb dX12_laysWays_69 rfl (lv_at hl 3 rfl) ?_
                          refine lv_iconst (v := 1) hx hb dX12_laysWays_70 ic_1 ?_
                          refine lv_iadd hx hb dX12_laysWays_71 ?_
                          refine sk_top (nI (dd - 1 + 1)) (nI_add (dd - 1) 1) ?_
                          refine lv_imul hx hb dX12_laysWays_72 ?_
                          refine sk_top (nI (10 * (dd - 1 + 1))) (nmul 10 (dd - 1 + 1)) ?_
                          refine lv_iload hx hb dX12_laysWays_73 (lv_at hl 0 rfl) ?_
                          refine lv_iadd hx hb dX12_laysWays_75 ?_
                          refine sk_top (nI (10 * (dd - 1 + 1) + kk)) (nI_add (10 * (dd - 1 + 1)) kk) ?_
                          refine va_lald hx hb hK.1 hP 7 1 rfl rfl (vin (10 * (dd - 1 + 1) + kk) 90 (by omega) (Nat.le_of_ble_eq_true rfl)) dX12_laysWays_76 ?_
                          refine lv_topl (fun v_105 ev_105 => ?_)
                          refine lv_ladd hx hb dX12_laysWays_77 ?_
                          refine lv_topl (fun v_106 ev_106 => ?_)
                          refine lv_lstore (lv' := [(4, .long v_106), (6, .int (nI kk)), (3, .int (nI jm)), (2, .int (nI (dd - 1))), (1, .int (nI dm - 1)), (0, .ref mm)]) hx hb dX12_laysWays_78 hl (by decide) rfl (fun ls hl => ?_)
                          refine lv_iinc (v := nI (kk + 1)) (lv' := [(6, .int (nI (kk + 1))), (4, .long v_106), (3, .int (nI jm)), (2, .int (nI (dd - 1))), (1, .int (nI dm - 1)), (0, .ref mm)]) hx hb dX12_laysWays_80 hl (k := 1) rfl (ninc kk 1 (by decide)) (by decide) rfl (fun ls hl => ?_)
                          refine lv_goto (tgt := 36) hx hb dX12_laysWays_83 (by decide) ?_
                          exact ih_lp_93 (kk + 1) v_106 _ _ _ (by omega) (by omega) hP hD hS (lv_sub hl [0, 1, 2, 3, 4, 5] rfl)
                exact lp_93 (10 - 0 + 1) 0 1 _ _ _ (Nat.lt_succ_self _) (by omega) hP hD hS (lv_sub hl [0, 1, 2, 3, 4, 5] rfl)
        exact lp_75 (10 - 0 + 1) 0 zb _ _ _ (Nat.lt_succ_self _) (by omega) hP hD hS (lv_sub hl [0, 1, 2, 3] rfl)
  exact lp_4 (dm + 1) dm be _ _ _ (Nat.lt_succ_self _) (by omega) hP hD hS (lv_sub hl [0, 1, 2] rfl)
theorem dg_X12_laysByWord_0_0 : bqL cX12_laysByWord 0 [(0, [42]), (1, [3]), (2, [182, 1, 129]), (5, [42]), (6, [27]), (7, [181, 0, 79]), (10, [42]), (11, [28]), (12, [181, 1, 109]), (15, [42]), (16, [182, 1, 132]), (19, [42]), (20, [2]), (21, [181, 0, 79]), (24, [177])] = true := by decide +kernel
theorem dX12_laysByWord_0 : decode cX12_laysByWord 0 = .ok (.aload_n 0, 1) := q_aload_n0 (bat_get dg_X12_laysByWord_0_0 0 rfl rfl)
theorem dX12_laysByWord_1 : decode cX12_laysByWord 1 = .ok (.iconst 0, 1) := q_iconst0 (bat_get dg_X12_laysByWord_0_0 1 rfl rfl)
theorem dX12_laysByWord_2 : decode cX12_laysByWord 2 = .ok (.invokevirtual 385, 3) := q_invokevirtual (bat_get dg_X12_laysByWord_0_0 2 rfl rfl) rfl
theorem dX12_laysByWord_5 : decode cX12_laysByWord 5 = .ok (.aload_n 0, 1) := q_aload_n0 (bat_get dg_X12_laysByWord_0_0 3 rfl rfl)
theorem dX12_laysByWord_6 : decode cX12_laysByWord 6 = .ok (.iload_n 1, 1) := q_iload_n1 (bat_get dg_X12_laysByWord_0_0 4 rfl rfl)
theorem dX12_laysByWord_7 : decode cX12_laysByWord 7 = .ok (.putfield 79, 3) := q_putfield (bat_get dg_X12_laysByWord_0_0 5 rfl rfl) rfl
theorem dX12_laysByWord_10 : decode cX12_laysByWord 10 = .ok (.aload_n 0, 1) := q_aload_n0 (bat_get dg_X12_laysByWord_0_0 6 rfl rfl)
theorem dX12_laysByWord_11 : decode cX12_laysByWord 11 = .ok (.iload_n 2, 1) := q_iload_n2 (bat_get dg_X12_laysByWord_0_0 7 rfl rfl)
theorem dX12_laysByWord_12 : decode cX12_laysByWord 12 = .ok (.putfield 365, 3) := q_putfield (bat_get dg_X12_laysByWord_0_0 8 rfl rfl) rfl
theorem dX12_laysByWord_15 : decode cX12_laysByWord 15 = .ok (.aload_n 0, 1) := q_aload_n0 (bat_get dg_X12_laysByWord_0_0 9 rfl rfl)
theorem dX12_laysByWord_16 : decode cX12_laysByWord 16 = .ok (.invokevirtual 388, 3) := q_invokevirtual (bat_get dg_X12_laysByWord_0_0 10 rfl rfl) rfl
theorem dX12_laysByWord_19 : decode cX12_laysByWord 19 = .ok (.aload_n 0, 1) := q_aload_n0 (bat_get dg_X12_laysByWord_0_0 11 rfl rfl)
theorem dX12_laysByWord_20 : decode cX12_laysByWord 20 = .ok (.iconst (-1), 1) := q_iconstm1 (bat_get dg_X12_laysByWord_0_0 12 rfl rfl)
theorem dX12_laysByWord_21 : decode cX12_laysByWord 21 = .ok (.putfield 79, 3) := q_putfield (bat_get dg_X12_laysByWord_0_0 13 rfl rfl) rfl
theorem dX12_laysByWord_24 : decode cX12_laysByWord 24 = .ok (.return_, 1) := q_return_ (bat_get dg_X12_laysByWord_0_0 14 rfl rfl)
theorem w_8_84 : (Cond.code yX12_laysByWord cX12_laysByWord 3 none) ∈ wsL_law := sk_mem (ck_8 _ (List.mem_of_getElem? (i := 84) rfl)) rfl
def om_14_3ff8 : List Bool := true :: true :: true :: true :: true :: true :: true :: true :: true :: true :: true :: false :: false :: false :: []
def om_14_227f : List Bool := true :: false :: false :: false :: true :: false :: false :: true :: true :: true :: true :: true :: true :: true :: []
set_option maxHeartbeats 4000000 in
set_option maxRecDepth 100000 in
theorem c_m_laysByWord (l : Launch) (D : va_G) (cI cJ cC cZ cS : ClassId) (mm : Nat) (g : Nat → Nat) (ta : Nat) (pa : Nat) (pe : Nat) (pd : Int32) (pb : Nat) (pp : Int32) (pf : Int32) (pg : Int32) (pn : Int32) (rt : Int32) (rn : Int32) (cd : Nat) (sn : Int32) (il : Nat) (tk : Int32) (am : Int32) (at_ : Int32) (aa : Int32) (wt : Int32) (wy : Int64) (rm : Nat) (ud : Nat) (nu : Nat) (sd : Int64) (qn : Nat) (qw : Nat) (qo : Int32) (qb : Nat) (qp : Nat) (qa : Int64) (qi : Nat) (oc : Nat) (d : Int32) (w : Int32) (u0 : Int32) (u1 : Int32) (u2 : Int32) (u3 : Int32) (u4 : Int32) (u5 : Int32) (v0 : Int32) (v1 : Int32) (v2 : Int32) (v3 : Int32) (v4 : Int32) (v5 : Int32) (cs : Nat → Nat) (nw : Nat → Int32) (pt : Nat → Nat) (ql : Nat → Int64) (l0 : Nat) (l1 : Nat) (dm : Nat) (l3 : Nat) (ws_ : Nat → Int32) (yw : Nat → Int32) (yo : Nat → Int32) (be : Nat → Int64) (bf : Nat → Int64) (rw_ : Nat → Int32) (hdm : dm ≤ 9) (hdm1 : 1 ≤ dm) (hp0 : progOk cs u3 v3) (hp1 : progOk cs u4 v4) (hp2 : progOk cs u5 v5) (hrm : rm ≤ 16) (hcs : ∀ j, cs j ≤ 20000) (hnw : nowOk nw) (hpt : ∀ j, pt j ≤ 9) : skM l yX12_laysByWord cX12_laysByWord 3 none 5 122 0 0 D (skT cI cJ cC cZ cS) [.ref mm, .int d, .int w] [ro_ mm 12 (mo g (nI ta) (nI pa) (nI pe) pd (nI pb) pp pf pg pn rt rn (nI cd) sn (nI il) tk am at_ aa 0 0 (-1) wt wy 0 (nI rm) (nI ud) (nI nu) sd (nI qn) (nI qw) qo (nI qb) (nI qp) qa (nI qi) (nI oc)), ra_I (g 24) cI 6 (l6 u0 u1 u2 u3 u4 u5), ra_I (g 25) cI 6 (l6 v0 v1 v2 v3 v4 v5), ra_N (g 26) cI 3200 cs, ra_I (g 31) cI 120 nw, ra_N (g 46) cI 9 pt, ra_J (g 86) cJ 1700 ql, ra_I (g 20) cI 4 (l4 (nI l0) (nI l1) (nI dm) (nI l3)), ra_I (g 38) cI 90 ws_, ra_I (g 36) cZ 900 yw, ra_I (g 37) cZ 900 yo, ra_J (g 43) cJ 90 be, ra_J (g 44) cJ 90 bf, ra_I (g 53) cI 32 rw_] (skV D (skT cI cJ cC cZ cS) (fun (u : va_W) => ∃ (tk2 : Int32), ∃ (qp2 : Nat), ∃ (am2 : Int32), ∃ (at_2 : Int32), ∃ (aa2 : Int32), ∃ (wy2 : Int64), ∃ (wt2 : Int32), ∃ (ql2 : Nat → Int64), ∃ (ws_2 : Nat → Int32), ∃ (yw2 : Nat → Int32), ∃ (yo2 : Nat → Int32), ∃ (be2 : Nat → Int64), ∃ (bf2 : Nat → Int64), u = [ro_ mm 12 (mo g (nI ta) (nI pa) (nI pe) pd (nI pb) pp pf pg pn rt rn (nI cd) sn (nI il) tk2 am2 at_2 aa2 0 0 (-1) wt2 wy2 0 (nI rm) (nI ud) (nI nu) sd (nI qn) (nI qw) qo (nI qb) (nI qp2) qa (nI qi) (nI oc)), ra_I (g 24) cI 6 (l6 u0 u1 u2 u3 u4 u5), ra_I (g 25) cI 6 (l6 v0 v1 v2 v3 v4 v5), ra_N (g 26) cI 3200 cs, ra_I (g 31) cI 120 nw, ra_N (g 46) cI 9 pt, ra_J (g 86) cJ 1700 ql2, ra_I (g 20) cI 4 (l4 (nI l0) (nI l1) (nI dm) (nI l3)), ra_I (g 38) cI 90 ws_2, ra_I (g 36) cZ 900 yw2, ra_I (g 37) cZ 900 yo2, ra_J (g 43) cJ 90 be2, ra_J (g 44) cJ 90 bf2, ra_I (g 53) cI 32 rw_])) := by
  refine skM_of pf_X12_laysByWord (Nat.le_of_ble_eq_true rfl) ?_
  intro p e s m below meth c A ls E hP hD hl
  refine skE_el E (fun hx hb hr hml hlocks hin hown hts hK hA => ?_)
  have hown : s.vm.findClass RX12 = some m.cls := hown
  have hS : va_S A s.heap s.heap [] := va_S.rf
  have hl : lv_has ls 3 [(0, .ref mm), (1, .int d), (2, .int w)] := hl
  refine lv_aload_n hx hb dX12_laysByWord_0 rfl (lv_at hl 0 rfl) ?_
  refine lv_iconst (v := 0) hx hb dX12_laysByWord_1 ic_0 ?_
  refine sk_Vv (q0 := 0) (n := 1) (rest := []) (wr := fmR om_14_3ff8 _) ⟨hx, hb, hml, hown, hts⟩ hl.1 (c_m_laysDays l D cI cJ cC cZ cS mm g ta pa pe pd pb pp pf pg pn rt rn cd sn il tk am at_ aa 0 0 (-1) wt wy 0 rm ud nu sd qn qw qo qb qp qa qi oc 0 u0 u1 u2 u3 u4 u5 v0 v1 v2 v3 v4 v5 cs nw pt ql l0 l1 dm l3 ws_ yw yo hdm hp0 hp1 hp2 hcs hnw hpt) w_7_193 w_7_195 w_0_83 w_1_14 w_7_196 hd_X12_laysDays_1 ⟨⟨(Nat.le_of_ble_eq_true rfl), (Nat.le_of_ble_eq_true rfl)⟩, (Nat.le_of_ble_eq_true rfl), (Nat.le_of_ble_eq_true rfl)⟩ hK hP hD hS hA (fmT om_14_3ff8 0) (fmF om_14_3ff8 0) (fm_C1 rfl rfl) (fm_R rfl rfl) (fm_nT om_14_3ff8 0) (fm_nF om_14_3ff8 0) (fm_di om_14_3ff8 0) rfl rfl rfl rfl (Nat.le_of_ble_eq_true rfl) dX12_laysByWord_2 (fun u H locs hw hP hD hS => ?_)
  refine exE hw (fun tk2_1 hw1 => exE hw1 (fun qp2_2 hw2 => exE hw2 (fun am2_3 hw3 => exE hw3 (fun at_2_4 hw4 => exE hw4 (fun aa2_5 hw5 => exE hw5 (fun ql2_6 hw6 => exE hw6 (fun ws_2_7 hw7 => exE hw7 (fun yw2_8 hw8 => exE hw8 (fun yo2_9 eu_10 => ?_)))))))))
  clear hw hw1 hw2 hw3 hw4 hw5 hw6 hw7 hw8
  refine o_mgE (ws' := [ro_ mm 12 (mo g (nI ta) (nI pa) (nI pe) pd (nI pb) pp pf pg pn rt rn (nI cd) sn (nI il) tk2_1 am2_3 at_2_4 aa2_5 0 0 (-1) wt wy 0 (nI rm) (nI ud) (nI nu) sd (nI qn) (nI qw) qo (nI qb) (nI qp2_2) qa (nI qi) (nI oc)), ra_I (g 24) cI 6 (l6 u0 u1 u2 u3 u4 u5), ra_I (g 25) cI 6 (l6 v0 v1 v2 v3 v4 v5), ra_N (g 26) cI 3200 cs, ra_I (g 31) cI 120 nw, ra_N (g 46) cI 9 pt, ra_J (g 86) cJ 1700 ql2_6, ra_I (g 20) cI 4 (l4 (nI l0) (nI l1) (nI dm) (nI l3)), ra_I (g 38) cI 90 ws_2_7, ra_I (g 36) cZ 900 yw2_8, ra_I (g 37) cZ 900 yo2_9, ra_J (g 43) cJ 90 be, ra_J (g 44) cJ 90 bf, ra_I (g 53) cI 32 rw_]) eu_10 hP hD rfl (fun hP hD => ?_)
  refine lv_aload_n hx hb dX12_laysByWord_5 rfl (lv_at hl 0 rfl) ?_
  refine lv_iload_n hx hb dX12_laysByWord_6 rfl (lv_at hl 1 rfl) ?_
  refine sk_put (ws' := [ro_ mm 12 (mo g (nI ta) (nI pa) (nI pe) pd (nI pb) pp pf pg pn rt rn (nI cd) sn (nI il) tk2_1 am2_3 at_2_4 aa2_5 0 0 d wt wy 0 (nI rm) (nI ud) (nI nu) sd (nI qn) (nI qw) qo (nI qb) (nI qp2_2) qa (nI qi) (nI oc)), ra_I (g 24) cI 6 (l6 u0 u1 u2 u3 u4 u5), ra_I (g 25) cI 6 (l6 v0 v1 v2 v3 v4 v5), ra_N (g 26) cI 3200 cs, ra_I (g 31) cI 120 nw, ra_N (g 46) cI 9 pt, ra_J (g 86) cJ 1700 ql2_6, ra_I (g 20) cI 4 (l4 (nI l0) (nI l1) (nI dm) (nI l3)), ra_I (g 38) cI 90 ws_2_7, ra_I (g 36) cZ 900 yw2_8, ra_I (g 37) cZ 900 yo2_9, ra_J (g 43) cJ 90 be, ra_J (g 44) cJ 90 bf, ra_I (g 53) cI 32 rw_]) (C := RX12) (T := TX12) (N := 92) (v := .int d) hx hb hts inlX12 tyX12 tyX12_ok nmX12 hown hK hP hD hS 0 rfl rfl 41 (Nat.le_of_ble_eq_true rfl) w_5_196 rfl rfl rfl (Nat.le_of_ble_eq_true rfl) rfl dX12_laysByWord_7 (fun H locs hP hD hS => ?_)
  refine lv_aload_n hx hb dX12_laysByWord_10 rfl (lv_at hl 0 rfl) ?_
  refine lv_iload_n hx hb dX12_laysByWord_11 rfl (lv_at hl 2 rfl) ?_
  refine sk_put (ws' := [ro_ mm 12 (mo g (nI ta) (nI pa) (nI pe) pd (nI pb) pp pf pg pn rt rn (nI cd) sn (nI il) tk2_1 am2_3 at_2_4 aa2_5 0 0 d w wy 0 (nI rm) (nI ud) (nI nu) sd (nI qn) (nI qw) qo (nI qb) (nI qp2_2) qa (nI qi) (nI oc)), ra_I (g 24) cI 6 (l6 u0 u1 u2 u3 u4 u5), ra_I (g 25) cI 6 (l6 v0 v1 v2 v3 v4 v5), ra_N (g 26) cI 3200 cs, ra_I (g 31) cI 120 nw, ra_N (g 46) cI 9 pt, ra_J (g 86) cJ 1700 ql2_6, ra_I (g 20) cI 4 (l4 (nI l0) (nI l1) (nI dm) (nI l3)), ra_I (g 38) cI 90 ws_2_7, ra_I (g 36) cZ 900 yw2_8, ra_I (g 37) cZ 900 yo2_9, ra_J (g 43) cJ 90 be, ra_J (g 44) cJ 90 bf, ra_I (g 53) cI 32 rw_]) (C := RX12) (T := TX12) (N := 92) (v := .int w) hx hb hts inlX12 tyX12 tyX12_ok nmX12 hown hK hP hD hS 0 rfl rfl 42 (Nat.le_of_ble_eq_true rfl) w_5_197 rfl rfl rfl (Nat.le_of_ble_eq_true rfl) rfl dX12_laysByWord_12 (fun H locs hP hD hS => ?_)
  refine lv_aload_n hx hb dX12_laysByWord_15 rfl (lv_at hl 0 rfl) ?_
  refine sk_Vv (q0 := 0) (n := 0) (rest := []) (wr := fmR om_14_227f _) ⟨hx, hb, hml, hown, hts⟩ hl.1 (c_m_laysWaysS l D cI cJ cC cZ cS mm g ta pa pe pd pb pp pf pg pn rt rn cd sn il tk2_1 am2_3 at_2_4 aa2_5 0 0 d w wy 0 rm ud nu sd qn qw qo qb qp2_2 qa qi oc l0 l1 dm l3 nw ws_2_7 rw_ yo2_9 yw2_8 be bf hdm hdm1 hrm (by omega) hnw) w_7_197 w_7_199 w_0_84 w_1_14 w_7_200 hd_X12_laysWays_0 ⟨⟨(Nat.le_of_ble_eq_true rfl), (Nat.le_of_ble_eq_true rfl)⟩, (Nat.le_of_ble_eq_true rfl), (Nat.le_of_ble_eq_true rfl)⟩ hK hP hD hS hA [0, 7, 4, 8, 13, 10, 9, 11, 12] (fmF om_14_227f 0) rfl (fm_R rfl rfl) (by decide +kernel) (fm_nF om_14_227f 0) (by decide +kernel) rfl rfl rfl rfl (Nat.le_of_ble_eq_true rfl) dX12_laysByWord_16 (fun u H locs hw hP hD hS => ?_)
  refine exE hw (fun wy2_11 hw1 => exE hw1 (fun be2_12 hw2 => exE hw2 (fun bf2_13 eu_14 => ?_)))
  clear hw hw1 hw2
  refine o_mgqE (ux := [ro_ mm 12 (mo g (nI ta) (nI pa) (nI pe) pd (nI pb) pp pf pg pn rt rn (nI cd) sn (nI il) tk2_1 am2_3 at_2_4 aa2_5 0 0 d w wy2_11 0 (nI rm) (nI ud) (nI nu) sd (nI qn) (nI qw) qo (nI qb) (nI qp2_2) qa (nI qi) (nI oc)), ra_I (g 31) cI 120 nw, ra_I (g 20) cI 4 (l4 (nI l0) (nI l1) (nI dm) (nI l3)), ra_I (g 38) cI 90 ws_2_7, ra_I (g 36) cZ 900 yw2_8, ra_I (g 37) cZ 900 yo2_9, ra_J (g 43) cJ 90 be2_12, ra_J (g 44) cJ 90 bf2_13, ra_I (g 53) cI 32 rw_]) (ws' := [ro_ mm 12 (mo g (nI ta) (nI pa) (nI pe) pd (nI pb) pp pf pg pn rt rn (nI cd) sn (nI il) tk2_1 am2_3 at_2_4 aa2_5 0 0 d w wy2_11 0 (nI rm) (nI ud) (nI nu) sd (nI qn) (nI qw) qo (nI qb) (nI qp2_2) qa (nI qi) (nI oc)), ra_I (g 24) cI 6 (l6 u0 u1 u2 u3 u4 u5), ra_I (g 25) cI 6 (l6 v0 v1 v2 v3 v4 v5), ra_N (g 26) cI 3200 cs, ra_I (g 31) cI 120 nw, ra_N (g 46) cI 9 pt, ra_J (g 86) cJ 1700 ql2_6, ra_I (g 20) cI 4 (l4 (nI l0) (nI l1) (nI dm) (nI l3)), ra_I (g 38) cI 90 ws_2_7, ra_I (g 36) cZ 900 yw2_8, ra_I (g 37) cZ 900 yo2_9, ra_J (g 43) cJ 90 be2_12, ra_J (g 44) cJ 90 bf2_13, ra_I (g 53) cI 32 rw_]) eu_14 [0, 2, 1, 3, 6, 5, 7, 8, 4] (by decide +kernel) rfl hP hD rfl (fun hP hD => ?_)
  refine lv_aload_n hx hb dX12_laysByWord_19 rfl (lv_at hl 0 rfl) ?_
  refine lv_iconst (v := (-1)) hx hb dX12_laysByWord_20 (by decide) ?_
  refine sk_put (ws' := [ro_ mm 12 (mo g (nI ta) (nI pa) (nI pe) pd (nI pb) pp pf pg pn rt rn (nI cd) sn (nI il) tk2_1 am2_3 at_2_4 aa2_5 0 0 (-1) w wy2_11 0 (nI rm) (nI ud) (nI nu) sd (nI qn) (nI qw) qo (nI qb) (nI qp2_2) qa (nI qi) (nI oc)), ra_I (g 24) cI 6 (l6 u0 u1 u2 u3 u4 u5), ra_I (g 25) cI 6 (l6 v0 v1 v2 v3 v4 v5), ra_N (g 26) cI 3200 cs, ra_I (g 31) cI 120 nw, ra_N (g 46) cI 9 pt, ra_J (g 86) cJ 1700 ql2_6, ra_I (g 20) cI 4 (l4 (nI l0) (nI l1) (nI dm) (nI l3)), ra_I (g 38) cI 90 ws_2_7, ra_I (g 36) cZ 900 yw2_8, ra_I (g 37) cZ 900 yo2_9, ra_J (g 43) cJ 90 be2_12, ra_J (g 44) cJ 90 bf2_13, ra_I (g 53) cI 32 rw_]) (C := RX12) (T := TX12) (N := 92) (v := .int (-1)) hx hb hts inlX12 tyX12 tyX12_ok nmX12 hown hK hP hD hS 0 rfl rfl 41 (Nat.le_of_ble_eq_true rfl) w_5_196 rfl rfl rfl (Nat.le_of_ble_eq_true rfl) rfl dX12_laysByWord_21 (fun H locs hP hD hS => ?_)
  exact sk_vret hx hb hr hlocks hK hP hD hS (⟨tk2_1, qp2_2, am2_3, at_2_4, aa2_5, wy2_11, w, ql2_6, ws_2_7, yw2_8, yo2_9, be2_12, bf2_13, rfl⟩) (Nat.le_of_ble_eq_true rfl) (Nat.le_of_ble_eq_true rfl) dX12_laysByWord_24
theorem dg_X12_laysHeard_0_0 : bqL cX12_laysHeard 0 [(0, [42]), (1, [3]), (2, [182, 1, 129]), (5, [42]), (6, [4]), (7, [181, 1, 112]), (10, [42]), (11, [182, 1, 132]), (14, [42]), (15, [3]), (16, [181, 1, 112]), (19, [177])] = true := by decide +kernel
theorem dX12_laysHeard_0 : decode cX12_laysHeard 0 = .ok (.aload_n 0, 1) := q_aload_n0 (bat_get dg_X12_laysHeard_0_0 0 rfl rfl)
theorem dX12_laysHeard_1 : decode cX12_laysHeard 1 = .ok (.iconst 0, 1) := q_iconst0 (bat_get dg_X12_laysHeard_0_0 1 rfl rfl)
theorem dX12_laysHeard_2 : decode cX12_laysHeard 2 = .ok (.invokevirtual 385, 3) := q_invokevirtual (bat_get dg_X12_laysHeard_0_0 2 rfl rfl) rfl
theorem dX12_laysHeard_5 : decode cX12_laysHeard 5 = .ok (.aload_n 0, 1) := q_aload_n0 (bat_get dg_X12_laysHeard_0_0 3 rfl rfl)
theorem dX12_laysHeard_6 : decode cX12_laysHeard 6 = .ok (.iconst 1, 1) := q_iconst1 (bat_get dg_X12_laysHeard_0_0 4 rfl rfl)
theorem dX12_laysHeard_7 : decode cX12_laysHeard 7 = .ok (.putfield 368, 3) := q_putfield (bat_get dg_X12_laysHeard_0_0 5 rfl rfl) rfl
theorem dX12_laysHeard_10 : decode cX12_laysHeard 10 = .ok (.aload_n 0, 1) := q_aload_n0 (bat_get dg_X12_laysHeard_0_0 6 rfl rfl)
theorem dX12_laysHeard_11 : decode cX12_laysHeard 11 = .ok (.invokevirtual 388, 3) := q_invokevirtual (bat_get dg_X12_laysHeard_0_0 7 rfl rfl) rfl
theorem dX12_laysHeard_14 : decode cX12_laysHeard 14 = .ok (.aload_n 0, 1) := q_aload_n0 (bat_get dg_X12_laysHeard_0_0 8 rfl rfl)
theorem dX12_laysHeard_15 : decode cX12_laysHeard 15 = .ok (.iconst 0, 1) := q_iconst0 (bat_get dg_X12_laysHeard_0_0 9 rfl rfl)
theorem dX12_laysHeard_16 : decode cX12_laysHeard 16 = .ok (.putfield 368, 3) := q_putfield (bat_get dg_X12_laysHeard_0_0 10 rfl rfl) rfl
theorem dX12_laysHeard_19 : decode cX12_laysHeard 19 = .ok (.return_, 1) := q_return_ (bat_get dg_X12_laysHeard_0_0 11 rfl rfl)
theorem w_8_108 : (Cond.code yX12_laysHeard cX12_laysHeard 1 none) ∈ wsL_law := sk_mem (ck_8 _ (List.mem_of_getElem? (i := 108) rfl)) rfl
set_option maxHeartbeats 4000000 in
set_option maxRecDepth 100000 in
theorem c_m_laysHeard (l : Launch) (D : va_G) (cI cJ cC cZ cS : ClassId) (mm : Nat) (g : Nat → Nat) (ta : Nat) (pa : Nat) (pe : Nat) (pd : Int32) (pb : Nat) (pp : Int32) (pf : Int32) (pg : Int32) (pn : Int32) (rt : Int32) (rn : Int32) (cd : Nat) (sn : Int32) (il : Nat) (tk : Int32) (am : Int32) (at_ : Int32) (aa : Int32) (wt : Int32) (wy : Int64) (rm : Nat) (ud : Nat) (nu : Nat) (sd : Int64) (qn : Nat) (qw : Nat) (qo : Int32) (qb : Nat) (qp : Nat) (qa : Int64) (qi : Nat) (oc : Nat) (u0 : Int32) (u1 : Int32) (u2 : Int32) (u3 : Int32) (u4 : Int32) (u5 : Int32) (v0 : Int32) (v1 : Int32) (v2 : Int32) (v3 : Int32) (v4 : Int32) (v5 : Int32) (cs : Nat → Nat) (nw : Nat → Int32) (pt : Nat → Nat) (ql : Nat → Int64) (l0 : Nat) (l1 : Nat) (dm : Nat) (l3 : Nat) (ws_ : Nat → Int32) (yw : Nat → Int32) (yo : Nat → Int32) (be : Nat → Int64) (bf : Nat → Int64) (rw_ : Nat → Int32) (hdm : dm ≤ 9) (hdm1 : 1 ≤ dm) (hp0 : progOk cs u3 v3) (hp1 : progOk cs u4 v4) (hp2 : progOk cs u5 v5) (hrm : rm ≤ 16) (hcs : ∀ j, cs j ≤ 20000) (hnw : nowOk nw) (hpt : ∀ j, pt j ≤ 9) : skM l yX12_laysHeard cX12_laysHeard 1 none 5 122 0 0 D (skT cI cJ cC cZ cS) [.ref mm] [ro_ mm 12 (mo g (nI ta) (nI pa) (nI pe) pd (nI pb) pp pf pg pn rt rn (nI cd) sn (nI il) tk am at_ aa 0 0 (-1) wt wy 0 (nI rm) (nI ud) (nI nu) sd (nI qn) (nI qw) qo (nI qb) (nI qp) qa (nI qi) (nI oc)), ra_I (g 24) cI 6 (l6 u0 u1 u2 u3 u4 u5), ra_I (g 25) cI 6 (l6 v0 v1 v2 v3 v4 v5), ra_N (g 26) cI 3200 cs, ra_I (g 31) cI 120 nw, ra_N (g 46) cI 9 pt, ra_J (g 86) cJ 1700 ql, ra_I (g 20) cI 4 (l4 (nI l0) (nI l1) (nI dm) (nI l3)), ra_I (g 38) cI 90 ws_, ra_I (g 36) cZ 900 yw, ra_I (g 37) cZ 900 yo, ra_J (g 43) cJ 90 be, ra_J (g 44) cJ 90 bf, ra_I (g 53) cI 32 rw_] (skV D (skT cI cJ cC cZ cS) (fun (u : va_W) => ∃ (tk2 : Int32), ∃ (qp2 : Nat), ∃ (am2 : Int32), ∃ (at_2 : Int32), ∃ (aa2 : Int32), ∃ (wy2 : Int64), ∃ (ql2 : Nat → Int64), ∃ (ws_2 : Nat → Int32), ∃ (yw2 : Nat → Int32), ∃ (yo2 : Nat → Int32), ∃ (be2 : Nat → Int64), ∃ (bf2 : Nat → Int64), u = [ro_ mm 12 (mo g (nI ta) (nI pa) (nI pe) pd (nI pb) pp pf pg pn rt rn (nI cd) sn (nI il) tk2 am2 at_2 aa2 0 0 (-1) wt wy2 0 (nI rm) (nI ud) (nI nu) sd (nI qn) (nI qw) qo (nI qb) (nI qp2) qa (nI qi) (nI oc)), ra_I (g 24) cI 6 (l6 u0 u1 u2 u3 u4 u5), ra_I (g 25) cI 6 (l6 v0 v1 v2 v3 v4 v5), ra_N (g 26) cI 3200 cs, ra_I (g 31) cI 120 nw, ra_N (g 46) cI 9 pt, ra_J (g 86) cJ 1700 ql2, ra_I (g 20) cI 4 (l4 (nI l0) (nI l1) (nI dm) (nI l3)), ra_I (g 38) cI 90 ws_2, ra_I (g 36) cZ 900 yw2, ra_I (g 37) cZ 900 yo2, ra_J (g 43) cJ 90 be2, ra_J (g 44) cJ 90 bf2, ra_I (g 53) cI 32 rw_])) := by
  refine skM_of pf_X12_laysHeard (Nat.le_of_ble_eq_true rfl) ?_
  intro p e s m below meth c A ls E hP hD hl
  refine skE_el E (fun hx hb hr hml hlocks hin hown hts hK hA => ?_)
  have hown : s.vm.findClass RX12 = some m.cls := hown
  have hS : va_S A s.heap s.heap [] := va_S.rf
  have hl : lv_has ls 1 [(0, .ref mm)] := hl
  refine lv_aload_n hx hb dX12_laysHeard_0 rfl (lv_at hl 0 rfl) ?_
  refine lv_iconst (v := 0) hx hb dX12_laysHeard_1 ic_0 ?_
  refine sk_Vv (q0 := 0) (n := 1) (rest := []) (wr := fmR om_14_3ff8 _) ⟨hx, hb, hml, hown, hts⟩ hl.1 (c_m_laysDays l D cI cJ cC cZ cS mm g ta pa pe pd pb pp pf pg pn rt rn cd sn il tk am at_ aa 0 0 (-1) wt wy 0 rm ud nu sd qn qw qo qb qp qa qi oc 0 u0 u1 u2 u3 u4 u5 v0 v1 v2 v3 v4 v5 cs nw pt ql l0 l1 dm l3 ws_ yw yo hdm hp0 hp1 hp2 hcs hnw hpt) w_7_193 w_7_195 w_0_83 w_1_14 w_7_196 hd_X12_laysDays_1 ⟨⟨(Nat.le_of_ble_eq_true rfl), (Nat.le_of_ble_eq_true rfl)⟩, (Nat.le_of_ble_eq_true rfl), (Nat.le_of_ble_eq_true rfl)⟩ hK hP hD hS hA (fmT om_14_3ff8 0) (fmF om_14_3ff8 0) (fm_C1 rfl rfl) (fm_R rfl rfl) (fm_nT om_14_3ff8 0) (fm_nF om_14_3ff8 0) (fm_di om_14_3ff8 0) rfl rfl rfl rfl (Nat.le_of_ble_eq_true rfl) dX12_laysHeard_2 (fun u H locs hw hP hD hS => ?_)
  refine exE hw (fun tk2_1 hw1 => exE hw1 (fun qp2_2 hw2 => exE hw2 (fun am2_3 hw3 => exE hw3 (fun at_2_4 hw4 => exE hw4 (fun aa2_5 hw5 => exE hw5 (fun ql2_6 hw6 => exE hw6 (fun ws_2_7 hw7 => exE hw7 (fun yw2_8 hw8 => exE hw8 (fun yo2_9 eu_10 => ?_)))))))))
  clear hw hw1 hw2 hw3 hw4 hw5 hw6 hw7 hw8
  refine o_mgE (ws' := [ro_ mm 12 (mo g (nI ta) (nI pa) (nI pe) pd (nI pb) pp pf pg pn rt rn (nI cd) sn (nI il) tk2_1 am2_3 at_2_4 aa2_5 0 0 (-1) wt wy 0 (nI rm) (nI ud) (nI nu) sd (nI qn) (nI qw) qo (nI qb) (nI qp2_2) qa (nI qi) (nI oc)), ra_I (g 24) cI 6 (l6 u0 u1 u2 u3 u4 u5), ra_I (g 25) cI 6 (l6 v0 v1 v2 v3 v4 v5), ra_N (g 26) cI 3200 cs, ra_I (g 31) cI 120 nw, ra_N (g 46) cI 9 pt, ra_J (g 86) cJ 1700 ql2_6, ra_I (g 20) cI 4 (l4 (nI l0) (nI l1) (nI dm) (nI l3)), ra_I (g 38) cI 90 ws_2_7, ra_I (g 36) cZ 900 yw2_8, ra_I (g 37) cZ 900 yo2_9, ra_J (g 43) cJ 90 be, ra_J (g 44) cJ 90 bf, ra_I (g 53) cI 32 rw_]) eu_10 hP hD rfl (fun hP hD => ?_)
  refine lv_aload_n hx hb dX12_laysHeard_5 rfl (lv_at hl 0 rfl) ?_
  refine lv_iconst (v := 1) hx hb dX12_laysHeard_6 ic_1 ?_
  refine sk_put (ws' := [ro_ mm 12 (mo g (nI ta) (nI pa) (nI pe) pd (nI pb) pp pf pg pn rt rn (nI cd) sn (nI il) tk2_1 am2_3 at_2_4 aa2_5 0 1 (-1) wt wy 0 (nI rm) (nI ud) (nI nu) sd (nI qn) (nI qw) qo (nI qb) (nI qp2_2) qa (nI qi) (nI oc)), ra_I (g 24) cI 6 (l6 u0 u1 u2 u3 u4 u5), ra_I (g 25) cI 6 (l6 v0 v1 v2 v3 v4 v5), ra_N (g 26) cI 3200 cs, ra_I (g 31) cI 120 nw, ra_N (g 46) cI 9 pt, ra_J (g 86) cJ 1700 ql2_6, ra_I (g 20) cI 4 (l4 (nI l0) (nI l1) (nI dm) (nI l3)), ra_I (g 38) cI 90 ws_2_7, ra_I (g 36) cZ 900 yw2_8, ra_I (g 37) cZ 900 yo2_9, ra_J (g 43) cJ 90 be, ra_J (g 44) cJ 90 bf, ra_I (g 53) cI 32 rw_]) (C := RX12) (T := TX12) (N := 92) (v := .int 1) hx hb hts inlX12 tyX12 tyX12_ok nmX12 hown hK hP hD hS 0 rfl rfl 40 (Nat.le_of_ble_eq_true rfl) w_5_195 rfl rfl rfl (Nat.le_of_ble_eq_true rfl) rfl dX12_laysHeard_7 (fun H locs hP hD hS => ?_)
  refine lv_aload_n hx hb dX12_laysHeard_10 rfl (lv_at hl 0 rfl) ?_
  refine sk_Vv (q0 := 0) (n := 0) (rest := []) (wr := fmR om_14_227f _) ⟨hx, hb, hml, hown, hts⟩ hl.1 (c_m_laysWaysS l D cI cJ cC cZ cS mm g ta pa pe pd pb pp pf pg pn rt rn cd sn il tk2_1 am2_3 at_2_4 aa2_5 0 1 (-1) wt wy 0 rm ud nu sd qn qw qo qb qp2_2 qa qi oc l0 l1 dm l3 nw ws_2_7 rw_ yo2_9 yw2_8 be bf hdm hdm1 hrm (by omega) hnw) w_7_197 w_7_199 w_0_84 w_1_14 w_7_200 hd_X12_laysWays_0 ⟨⟨(Nat.le_of_ble_eq_true rfl), (Nat.le_of_ble_eq_true rfl)⟩, (Nat.le_of_ble_eq_true rfl), (Nat.le_of_ble_eq_true rfl)⟩ hK hP hD hS hA [0, 7, 4, 8, 13, 10, 9, 11, 12] (fmF om_14_227f 0) rfl (fm_R rfl rfl) (by decide +kernel) (fm_nF om_14_227f 0) (by decide +kernel) rfl rfl rfl rfl (Nat.le_of_ble_eq_true rfl) dX12_laysHeard_11 (fun u H locs hw hP hD hS => ?_)
  refine exE hw (fun wy2_11 hw1 => exE hw1 (fun be2_12 hw2 => exE hw2 (fun bf2_13 eu_14 => ?_)))
  clear hw hw1 hw2
  refine o_mgqE (ux := [ro_ mm 12 (mo g (nI ta) (nI pa) (nI pe) pd (nI pb) pp pf pg pn rt rn (nI cd) sn (nI il) tk2_1 am2_3 at_2_4 aa2_5 0 1 (-1) wt wy2_11 0 (nI rm) (nI ud) (nI nu) sd (nI qn) (nI qw) qo (nI qb) (nI qp2_2) qa (nI qi) (nI oc)), ra_I (g 31) cI 120 nw, ra_I (g 20) cI 4 (l4 (nI l0) (nI l1) (nI dm) (nI l3)), ra_I (g 38) cI 90 ws_2_7, ra_I (g 36) cZ 900 yw2_8, ra_I (g 37) cZ 900 yo2_9, ra_J (g 43) cJ 90 be2_12, ra_J (g 44) cJ 90 bf2_13, ra_I (g 53) cI 32 rw_]) (ws' := [ro_ mm 12 (mo g (nI ta) (nI pa) (nI pe) pd (nI pb) pp pf pg pn rt rn (nI cd) sn (nI il) tk2_1 am2_3 at_2_4 aa2_5 0 1 (-1) wt wy2_11 0 (nI rm) (nI ud) (nI nu) sd (nI qn) (nI qw) qo (nI qb) (nI qp2_2) qa (nI qi) (nI oc)), ra_I (g 24) cI 6 (l6 u0 u1 u2 u3 u4 u5), ra_I (g 25) cI 6 (l6 v0 v1 v2 v3 v4 v5), ra_N (g 26) cI 3200 cs, ra_I (g 31) cI 120 nw, ra_N (g 46) cI 9 pt, ra_J (g 86) cJ 1700 ql2_6, ra_I (g 20) cI 4 (l4 (nI l0) (nI l1) (nI dm) (nI l3)), ra_I (g 38) cI 90 ws_2_7, ra_I (g 36) cZ 900 yw2_8, ra_I (g 37) cZ 900 yo2_9, ra_J (g 43) cJ 90 be2_12, ra_J (g 44) cJ 90 bf2_13, ra_I (g 53) cI 32 rw_]) eu_14 [0, 2, 1, 3, 6, 5, 7, 8, 4] (by decide +kernel) rfl hP hD rfl (fun hP hD => ?_)
  refine lv_aload_n hx hb dX12_laysHeard_14 rfl (lv_at hl 0 rfl) ?_
  refine lv_iconst (v := 0) hx hb dX12_laysHeard_15 ic_0 ?_
  refine sk_put (ws' := [ro_ mm 12 (mo g (nI ta) (nI pa) (nI pe) pd (nI pb) pp pf pg pn rt rn (nI cd) sn (nI il) tk2_1 am2_3 at_2_4 aa2_5 0 0 (-1) wt wy2_11 0 (nI rm) (nI ud) (nI nu) sd (nI qn) (nI qw) qo (nI qb) (nI qp2_2) qa (nI qi) (nI oc)), ra_I (g 24) cI 6 (l6 u0 u1 u2 u3 u4 u5), ra_I (g 25) cI 6 (l6 v0 v1 v2 v3 v4 v5), ra_N (g 26) cI 3200 cs, ra_I (g 31) cI 120 nw, ra_N (g 46) cI 9 pt, ra_J (g 86) cJ 1700 ql2_6, ra_I (g 20) cI 4 (l4 (nI l0) (nI l1) (nI dm) (nI l3)), ra_I (g 38) cI 90 ws_2_7, ra_I (g 36) cZ 900 yw2_8, ra_I (g 37) cZ 900 yo2_9, ra_J (g 43) cJ 90 be2_12, ra_J (g 44) cJ 90 bf2_13, ra_I (g 53) cI 32 rw_]) (C := RX12) (T := TX12) (N := 92) (v := .int 0) hx hb hts inlX12 tyX12 tyX12_ok nmX12 hown hK hP hD hS 0 rfl rfl 40 (Nat.le_of_ble_eq_true rfl) w_5_195 rfl rfl rfl (Nat.le_of_ble_eq_true rfl) rfl dX12_laysHeard_16 (fun H locs hP hD hS => ?_)
  exact sk_vret hx hb hr hlocks hK hP hD hS (⟨tk2_1, qp2_2, am2_3, at_2_4, aa2_5, wy2_11, ql2_6, ws_2_7, yw2_8, yo2_9, be2_12, bf2_13, rfl⟩) (Nat.le_of_ble_eq_true rfl) (Nat.le_of_ble_eq_true rfl) dX12_laysHeard_19
theorem dg_X12_moodsOf_0_0 : bqL cX12_moodsOf 0 [(0, [3]), (1, [61]), (2, [3]), (3, [62]), (4, [29]), (5, [16, 10]), (7, [162, 0, 47]), (54, [28]), (55, [172]), (10, [42]), (11, [180, 0, 86]), (14, [16, 10]), (16, [27]), (17, [104]), (18, [29]), (19, [96]), (20, [47]), (21, [9]), (22, [148]), (23, [158, 0, 25]), (48, [132, 3, 1]), (51, [167, 255, 209]), (26, [42]), (27, [180, 0, 82]), (30, [16, 10]), (32, [27]), (33, [104]), (34, [29]), (35, [96]), (36, [47]), (37, [9]), (38, [148]), (39, [158, 0, 9]), (42, [28]), (43, [4]), (44, [29]), (45, [120]), (46, [128]), (47, [61])] = true := by decide +kernel
theorem dX12_moodsOf_0 : decode cX12_moodsOf 0 = .ok (.iconst 0, 1) := q_iconst0 (bat_get dg_X12_moodsOf_0_0 0 rfl rfl)
theorem dX12_moodsOf_1 : decode cX12_moodsOf 1 = .ok (.istore_n 2, 1) := q_istore_n2 (bat_get dg_X12_moodsOf_0_0 1 rfl rfl)
theorem dX12_moodsOf_2 : decode cX12_moodsOf 2 = .ok (.iconst 0, 1) := q_iconst0 (bat_get dg_X12_moodsOf_0_0 2 rfl rfl)
theorem dX12_moodsOf_3 : decode cX12_moodsOf 3 = .ok (.istore_n 3, 1) := q_istore_n3 (bat_get dg_X12_moodsOf_0_0 3 rfl rfl)
theorem dX12_moodsOf_4 : decode cX12_moodsOf 4 = .ok (.iload_n 3, 1) := q_iload_n3 (bat_get dg_X12_moodsOf_0_0 4 rfl rfl)
theorem dX12_moodsOf_5 : decode cX12_moodsOf 5 = .ok (.bipush 10, 2) := q_bipush (bat_get dg_X12_moodsOf_0_0 5 rfl rfl) rfl
theorem dX12_moodsOf_7 : decode cX12_moodsOf 7 = .ok (.if_icmp .ge 47, 3) := q_if_icmp_ge (bat_get dg_X12_moodsOf_0_0 6 rfl rfl) rfl
theorem dX12_moodsOf_54 : decode cX12_moodsOf 54 = .ok (.iload_n 2, 1) := q_iload_n2 (bat_get dg_X12_moodsOf_0_0 7 rfl rfl)
theorem dX12_moodsOf_55 : decode cX12_moodsOf 55 = .ok (.ireturn, 1) := q_ireturn (bat_get dg_X12_moodsOf_0_0 8 rfl rfl)
theorem dX12_moodsOf_10 : decode cX12_moodsOf 10 = .ok (.aload_n 0, 1) := q_aload_n0 (bat_get dg_X12_moodsOf_0_0 9 rfl rfl)
theorem dX12_moodsOf_11 : decode cX12_moodsOf 11 = .ok (.getfield 86, 3) := q_getfield (bat_get dg_X12_moodsOf_0_0 10 rfl rfl) rfl
theorem dX12_moodsOf_14 : decode cX12_moodsOf 14 = .ok (.bipush 10, 2) := q_bipush (bat_get dg_X12_moodsOf_0_0 11 rfl rfl) rfl
theorem dX12_moodsOf_16 : decode cX12_moodsOf 16 = .ok (.iload_n 1, 1) := q_iload_n1 (bat_get dg_X12_moodsOf_0_0 12 rfl rfl)
theorem dX12_moodsOf_17 : decode cX12_moodsOf 17 = .ok (.imul, 1) := q_imul (bat_get dg_X12_moodsOf_0_0 13 rfl rfl)
theorem dX12_moodsOf_18 : decode cX12_moodsOf 18 = .ok (.iload_n 3, 1) := q_iload_n3 (bat_get dg_X12_moodsOf_0_0 14 rfl rfl)
theorem dX12_moodsOf_19 : decode cX12_moodsOf 19 = .ok (.iadd, 1) := q_iadd (bat_get dg_X12_moodsOf_0_0 15 rfl rfl)
theorem dX12_moodsOf_20 : decode cX12_moodsOf 20 = .ok (.laload, 1) := q_laload (bat_get dg_X12_moodsOf_0_0 16 rfl rfl)
theorem dX12_moodsOf_21 : decode cX12_moodsOf 21 = .ok (.lconst 0, 1) := q_lconst0 (bat_get dg_X12_moodsOf_0_0 17 rfl rfl)
theorem dX12_moodsOf_22 : decode cX12_moodsOf 22 = .ok (.lcmp, 1) := q_lcmp (bat_get dg_X12_moodsOf_0_0 18 rfl rfl)
theorem dX12_moodsOf_23 : decode cX12_moodsOf 23 = .ok (.ifCond .le 25, 3) := q_ifCond_le (bat_get dg_X12_moodsOf_0_0 19 rfl rfl) rfl
theorem dX12_moodsOf_48 : decode cX12_moodsOf 48 = .ok (.iinc 3 1, 3) := q_iinc (bat_get dg_X12_moodsOf_0_0 20 rfl rfl) rfl
theorem dX12_moodsOf_51 : decode cX12_moodsOf 51 = .ok (.goto (-47), 3) := q_goto (bat_get dg_X12_moodsOf_0_0 21 rfl rfl) rfl
theorem dX12_moodsOf_26 : decode cX12_moodsOf 26 = .ok (.aload_n 0, 1) := q_aload_n0 (bat_get dg_X12_moodsOf_0_0 22 rfl rfl)
theorem dX12_moodsOf_27 : decode cX12_moodsOf 27 = .ok (.getfield 82, 3) := q_getfield (bat_get dg_X12_moodsOf_0_0 23 rfl rfl) rfl
theorem dX12_moodsOf_30 : decode cX12_moodsOf 30 = .ok (.bipush 10, 2) := q_bipush (bat_get dg_X12_moodsOf_0_0 24 rfl rfl) rfl
theorem dX12_moodsOf_32 : decode cX12_moodsOf 32 = .ok (.iload_n 1, 1) := q_iload_n1 (bat_get dg_X12_moodsOf_0_0 25 rfl rfl)
theorem dX12_moodsOf_33 : decode cX12_moodsOf 33 = .ok (.imul, 1) := q_imul (bat_get dg_X12_moodsOf_0_0 26 rfl rfl)
theorem dX12_moodsOf_34 : decode cX12_moodsOf 34 = .ok (.iload_n 3, 1) := q_iload_n3 (bat_get dg_X12_moodsOf_0_0 27 rfl rfl)
theorem dX12_moodsOf_35 : decode cX12_moodsOf 35 = .ok (.iadd, 1) := q_iadd (bat_get dg_X12_moodsOf_0_0 28 rfl rfl)
theorem dX12_moodsOf_36 : decode cX12_moodsOf 36 = .ok (.laload, 1) := q_laload (bat_get dg_X12_moodsOf_0_0 29 rfl rfl)
theorem dX12_moodsOf_37 : decode cX12_moodsOf 37 = .ok (.lconst 0, 1) := q_lconst0 (bat_get dg_X12_moodsOf_0_0 30 rfl rfl)
theorem dX12_moodsOf_38 : decode cX12_moodsOf 38 = .ok (.lcmp, 1) := q_lcmp (bat_get dg_X12_moodsOf_0_0 31 rfl rfl)
theorem dX12_moodsOf_39 : decode cX12_moodsOf 39 = .ok (.ifCond .le 9, 3) := q_ifCond_le (bat_get dg_X12_moodsOf_0_0 32 rfl rfl) rfl
theorem dX12_moodsOf_42 : decode cX12_moodsOf 42 = .ok (.iload_n 2, 1) := q_iload_n2 (bat_get dg_X12_moodsOf_0_0 33 rfl rfl)
theorem dX12_moodsOf_43 : decode cX12_moodsOf 43 = .ok (.iconst 1, 1) := q_iconst1 (bat_get dg_X12_moodsOf_0_0 34 rfl rfl)
theorem dX12_moodsOf_44 : decode cX12_moodsOf 44 = .ok (.iload_n 3, 1) := q_iload_n3 (bat_get dg_X12_moodsOf_0_0 35 rfl rfl)
theorem dX12_moodsOf_45 : decode cX12_moodsOf 45 = .ok (.ishl, 1) := q_ishl (bat_get dg_X12_moodsOf_0_0 36 rfl rfl)
theorem dX12_moodsOf_46 : decode cX12_moodsOf 46 = .ok (.ior, 1) := q_ior (bat_get dg_X12_moodsOf_0_0 37 rfl rfl)
theorem dX12_moodsOf_47 : decode cX12_moodsOf 47 = .ok (.istore_n 2, 1) := q_istore_n2 (bat_get dg_X12_moodsOf_0_0 38 rfl rfl)
theorem w_8_88 : (Cond.code yX12_moodsOf cX12_moodsOf 4 (some .int)) ∈ wsL_law := sk_mem (ck_8 _ (List.mem_of_getElem? (i := 88) rfl)) rfl
set_option maxHeartbeats 4000000 in
set_option maxRecDepth 100000 in
theorem c_m_moodsOf (l : Launch) (D : va_G) (cI cJ cC cZ cS : ClassId) (mm : Nat) (g : Nat → Nat) (ta : Nat) (pa : Nat) (pe : Nat) (pd : Int32) (pb : Nat) (pp : Int32) (pf : Int32) (pg : Int32) (pn : Int32) (rt : Int32) (rn : Int32) (cd : Nat) (sn : Int32) (il : Nat) (tk : Int32) (am : Int32) (at_ : Int32) (aa : Int32) (wt : Int32) (wy : Int64) (rm : Nat) (ud : Nat) (nu : Nat) (sd : Int64) (qn : Nat) (qw : Nat) (qo : Int32) (qb : Nat) (qp : Nat) (qa : Int64) (qi : Nat) (oc : Nat) (d : Nat) (be : Nat → Int64) (bf : Nat → Int64) (hd : d < 9) : skM l yX12_moodsOf cX12_moodsOf 4 (some .int) 0 0 0 0 D (skT cI cJ cC cZ cS) [.ref mm, .int (nI d)] [ro_ mm 12 (mo g (nI ta) (nI pa) (nI pe) pd (nI pb) pp pf pg pn rt rn (nI cd) sn (nI il) tk am at_ aa 0 0 (-1) wt wy 0 (nI rm) (nI ud) (nI nu) sd (nI qn) (nI qw) qo (nI qb) (nI qp) qa (nI qi) (nI oc)), ra_J (g 43) cJ 90 be, ra_J (g 44) cJ 90 bf] (skI D (skT cI cJ cC cZ cS) (fun (r : Int32) (u : va_W) => u = [ro_ mm 12 (mo g (nI ta) (nI pa) (nI pe) pd (nI pb) pp pf pg pn rt rn (nI cd) sn (nI il) tk am at_ aa 0 0 (-1) wt wy 0 (nI rm) (nI ud) (nI nu) sd (nI qn) (nI qw) qo (nI qb) (nI qp) qa (nI qi) (nI oc)), ra_J (g 43) cJ 90 be, ra_J (g 44) cJ 90 bf])) := by
  refine skM_of pf_X12_moodsOf (Nat.le_of_ble_eq_true rfl) ?_
  intro p e s m below meth c A ls E hP hD hl
  refine skE_el E (fun hx hb hr hml hlocks hin hown hts hK hA => ?_)
  have hown : s.vm.findClass RX12 = some m.cls := hown
  have hS : va_S A s.heap s.heap [] := va_S.rf
  have hl : lv_has ls 4 [(0, .ref mm), (1, .int (nI d))] := hl
  refine lv_iconst (v := 0) hx hb dX12_moodsOf_0 ic_0 ?_
  refine lv_istore_n (lv' := [(2, .int 0), (0, .ref mm), (1, .int (nI d))]) hx hb dX12_moodsOf_1 rfl hl (by decide) rfl (fun ls hl => ?_)
  refine lv_iconst (v := 0) hx hb dX12_moodsOf_2 ic_0 ?_
  refine lv_istore_n (lv' := [(3, .int 0), (2, .int 0), (0, .ref mm), (1, .int (nI d))]) hx hb dX12_moodsOf_3 rfl hl (by decide) rfl (fun ls hl => ?_)
  have lp_1 : ∀ (n_2 : Nat) (i : Nat) (ms : Int32) (H : Heap) (locs : List Loc) (ls : Array Slot), 10 - i < n_2 → (i ≤ 10) → va_P D vwCl [ro_ mm 12 (mo g (nI ta) (nI pa) (nI pe) pd (nI pb) pp pf pg pn rt rn (nI cd) sn (nI il) tk am at_ aa 0 0 (-1) wt wy 0 (nI rm) (nI ud) (nI nu) sd (nI qn) (nI qw) qo (nI qb) (nI qp) qa (nI qi) (nI oc)), ra_J (g 43) cJ 90 be, ra_J (g 44) cJ 90 bf] H → va_D A [ro_ mm 12 (mo g (nI ta) (nI pa) (nI pe) pd (nI pb) pp pf pg pn rt rn (nI cd) sn (nI il) tk am at_ aa 0 0 (-1) wt wy 0 (nI rm) (nI ud) (nI nu) sd (nI qn) (nI qw) qo (nI qb) (nI qp) qa (nI qi) (nI oc)), ra_J (g 43) cJ 90 be, ra_J (g 44) cJ 90 bf] → va_S A s.heap H locs → lv_has ls 4 [(3, .int (nI i)), (2, .int ms), (0, .ref mm), (1, .int (nI d))] → W p l e { frames := 0, cells := 0, slots := 0, locals := 0 } s m ([.ref mm, .int (nI d)] : List Value).toArray below meth c H locs 0 0 (MQ below (skI D (skT cI cJ cC cZ cS) (fun (r : Int32) (u : va_W) => u = [ro_ mm 12 (mo g (nI ta) (nI pa) (nI pe) pd (nI pb) pp pf pg pn rt rn (nI cd) sn (nI il) tk am at_ aa 0 0 (-1) wt wy 0 (nI rm) (nI ud) (nI nu) sd (nI qn) (nI qw) qo (nI qb) (nI qp) qa (nI qi) (nI oc)), ra_J (g 43) cJ 90 be, ra_J (g 44) cJ 90 bf]) A) ([.ref mm, .int (nI d)] : List Value).toArray s 0 0 A) (F0 m 4 ls []) := by
    intro n_2
    induction n_2 with
    | zero => intro i ms H locs ls hm; exact absurd hm (Nat.not_lt_zero _)
    | succ n_2 ih_lp_1 =>
      intro i ms H locs ls hm hi hP hD hS hl
      refine lv_iload_n hx hb dX12_moodsOf_4 rfl (lv_at hl 0 rfl) ?_
      refine lv_bipush (v := 10) hx hb dX12_moodsOf_5 (by decide) ?_
      refine lv_icmp_ge (tgt := 54) hx hb dX12_moodsOf_7 (by decide) (fun c_3 => ?_) (fun c_3 => ?_)
      · have c_3 : 10 ≤ i := (nle 10 i (Nat.le_of_ble_eq_true rfl) (by omega)).mp c_3
        refine lv_iload_n hx hb dX12_moodsOf_54 rfl (lv_at hl 1 rfl) ?_
        exact sk_iret hx hb hr rfl hlocks hK hP hD hS rfl (Nat.le_of_ble_eq_true rfl) (Nat.le_of_ble_eq_true rfl) dX12_moodsOf_55
      · have c_3 : ¬ (10 ≤ i) := fun h => c_3 ((nle 10 i (Nat.le_of_ble_eq_true rfl) (by omega)).mpr h)
        refine lv_aload_n hx hb dX12_moodsOf_10 rfl (lv_at hl 2 rfl) ?_
        refine sk_get (v := .ref (g 44)) (C := RX12) (T := TX12) (N := 92) hx hb hts inlX12 hown hK hP 0 rfl rfl 44 (Nat.le_of_ble_eq_true rfl) w_5_199 rfl dX12_moodsOf_11 ?_
        refine lv_bipush (v := 10) hx hb dX12_moodsOf_14 (by decide) ?_
        refine lv_iload_n hx hb dX12_moodsOf_16 rfl (lv_at hl 3 rfl) ?_
        refine lv_imul hx hb dX12_moodsOf_17 ?_
        refine sk_top (nI (10 * d)) (nmul 10 d) ?_
        refine lv_iload_n hx hb dX12_moodsOf_18 rfl (lv_at hl 0 rfl) ?_
        refine lv_iadd hx hb dX12_moodsOf_19 ?_
        refine sk_top (nI (10 * d + i)) (nI_add (10 * d) i) ?_
        refine va_lald hx hb hK.1 hP 2 1 rfl rfl (vin (10 * d + i) 90 (by omega) (Nat.le_of_ble_eq_true rfl)) dX12_moodsOf_20 ?_
        refine lv_topl (fun v_4 ev_4 => ?_)
        refine lv_lconst (v := 0) hx hb dX12_moodsOf_21 (by decide) ?_
        refine W.lcmp hx hb dX12_moodsOf_22 ?_
        refine lv_if_le (tgt := 48) hx hb dX12_moodsOf_23 (by decide) (fun c_5 => ?_) (fun c_5 => ?_)
        · skip
          refine lv_iinc (v := nI (i + 1)) (lv' := [(3, .int (nI (i + 1))), (2, .int ms), (0, .ref mm), (1, .int (nI d))]) hx hb dX12_moodsOf_48 hl (k := 0) rfl (ninc i 1 (by decide)) (by decide) rfl (fun ls hl => ?_)
          refine lv_goto (tgt := 4) hx hb dX12_moodsOf_51 (by decide) ?_
          exact ih_lp_1 (i + 1) ms _ _ _ (by omega) (by omega) hP hD hS (lv_sub hl [0, 1, 2, 3] rfl)
        · skip
          refine lv_aload_n hx hb dX12_moodsOf_26 rfl (lv_at hl 2 rfl) ?_
          refine sk_get (v := .ref (g 43)) (C := RX12) (T := TX12) (N := 92) hx hb hts inlX12 hown hK hP 0 rfl rfl 43 (Nat.le_of_ble_eq_true rfl) w_5_198 rfl dX12_moodsOf_27 ?_
          refine lv_bipush (v := 10) hx hb dX12_moodsOf_30 (by decide) ?_
          refine lv_iload_n hx hb dX12_moodsOf_32 rfl (lv_at hl 3 rfl) ?_
          refine lv_imul hx hb dX12_moodsOf_33 ?_
          refine sk_top (nI (10 * d)) (nmul 10 d) ?_
          refine lv_iload_n hx hb dX12_moodsOf_34 rfl (lv_at hl 0 rfl) ?_
          refine lv_iadd hx hb dX12_moodsOf_35 ?_
          refine sk_top (nI (10 * d + i)) (nI_add (10 * d) i) ?_
          refine va_lald hx hb hK.1 hP 1 1 rfl rfl (vin (10 * d + i) 90 (by omega) (Nat.le_of_ble_eq_true rfl)) dX12_moodsOf_36 ?_
          refine lv_topl (fun v_6 ev_6 => ?_)
          refine lv_lconst (v := 0) hx hb dX12_moodsOf_37 (by decide) ?_
          refine W.lcmp hx hb dX12_moodsOf_38 ?_
          refine lv_if_le (tgt := 48) hx hb dX12_moodsOf_39 (by decide) (fun c_7 => ?_) (fun c_7 => ?_)
          · skip
            refine lv_iinc (v := nI (i + 1)) (lv' := [(3, .int (nI (i + 1))), (2, .int ms), (0, .ref mm), (1, .int (nI d))]) hx hb dX12_moodsOf_48 hl (k := 0) rfl (ninc i 1 (by decide)) (by decide) rfl (fun ls hl => ?_)
            refine lv_goto (tgt := 4) hx hb dX12_moodsOf_51 (by decide) ?_
            exact ih_lp_1 (i + 1) ms _ _ _ (by omega) (by omega) hP hD hS (lv_sub hl [0, 1, 2, 3] rfl)
          · skip
            refine lv_iload_n hx hb dX12_moodsOf_42 rfl (lv_at hl 1 rfl) ?_
            refine lv_iconst (v := 1) hx hb dX12_moodsOf_43 ic_1 ?_
            refine lv_iload_n hx hb dX12_moodsOf_44 rfl (lv_at hl 0 rfl) ?_
            refine lv_ishl hx hb dX12_moodsOf_45 ?_
            refine lv_topi (fun v_8 ev_8 => ?_)
            refine lv_ior hx hb dX12_moodsOf_46 ?_
            refine lv_topi (fun v_9 ev_9 => ?_)
            refine lv_istore_n (lv' := [(2, .int v_9), (3, .int (nI i)), (0, .ref mm), (1, .int (nI d))]) hx hb dX12_moodsOf_47 rfl hl (by decide) rfl (fun ls hl => ?_)
            refine lv_iinc (v := nI (i + 1)) (lv' := [(3, .int (nI (i + 1))), (2, .int v_9), (0, .ref mm), (1, .int (nI d))]) hx hb dX12_moodsOf_48 hl (k := 1) rfl (ninc i 1 (by decide)) (by decide) rfl (fun ls hl => ?_)
            refine lv_goto (tgt := 4) hx hb dX12_moodsOf_51 (by decide) ?_
            exact ih_lp_1 (i + 1) v_9 _ _ _ (by omega) (by omega) hP hD hS (lv_sub hl [0, 1, 2, 3] rfl)
  exact lp_1 (10 - 0 + 1) 0 0 _ _ _ (Nat.lt_succ_self _) (by omega) hP hD hS (lv_sub hl [0, 1, 2, 3] rfl)
theorem dg_X12_canBeTold_0_0 : bqL cX12_canBeTold 0 [(0, [42]), (1, [27]), (2, [182, 1, 157]), (5, [153, 0, 23]), (28, [3]), (29, [172]), (8, [42]), (9, [27]), (10, [182, 1, 103]), (13, [154, 0, 15]), (16, [42]), (17, [28]), (18, [182, 1, 162]), (21, [153, 0, 7]), (24, [4]), (25, [167, 0, 4])] = true := by decide +kernel
theorem dX12_canBeTold_0 : decode cX12_canBeTold 0 = .ok (.aload_n 0, 1) := q_aload_n0 (bat_get dg_X12_canBeTold_0_0 0 rfl rfl)
theorem dX12_canBeTold_1 : decode cX12_canBeTold 1 = .ok (.iload_n 1, 1) := q_iload_n1 (bat_get dg_X12_canBeTold_0_0 1 rfl rfl)
theorem dX12_canBeTold_2 : decode cX12_canBeTold 2 = .ok (.invokevirtual 413, 3) := q_invokevirtual (bat_get dg_X12_canBeTold_0_0 2 rfl rfl) rfl
theorem dX12_canBeTold_5 : decode cX12_canBeTold 5 = .ok (.ifCond .eq 23, 3) := q_ifCond_eq (bat_get dg_X12_canBeTold_0_0 3 rfl rfl) rfl
theorem dX12_canBeTold_28 : decode cX12_canBeTold 28 = .ok (.iconst 0, 1) := q_iconst0 (bat_get dg_X12_canBeTold_0_0 4 rfl rfl)
theorem dX12_canBeTold_29 : decode cX12_canBeTold 29 = .ok (.ireturn, 1) := q_ireturn (bat_get dg_X12_canBeTold_0_0 5 rfl rfl)
theorem dX12_canBeTold_8 : decode cX12_canBeTold 8 = .ok (.aload_n 0, 1) := q_aload_n0 (bat_get dg_X12_canBeTold_0_0 6 rfl rfl)
theorem dX12_canBeTold_9 : decode cX12_canBeTold 9 = .ok (.iload_n 1, 1) := q_iload_n1 (bat_get dg_X12_canBeTold_0_0 7 rfl rfl)
theorem dX12_canBeTold_10 : decode cX12_canBeTold 10 = .ok (.invokevirtual 359, 3) := q_invokevirtual (bat_get dg_X12_canBeTold_0_0 8 rfl rfl) rfl
theorem dX12_canBeTold_13 : decode cX12_canBeTold 13 = .ok (.ifCond .ne 15, 3) := q_ifCond_ne (bat_get dg_X12_canBeTold_0_0 9 rfl rfl) rfl
theorem dX12_canBeTold_16 : decode cX12_canBeTold 16 = .ok (.aload_n 0, 1) := q_aload_n0 (bat_get dg_X12_canBeTold_0_0 10 rfl rfl)
theorem dX12_canBeTold_17 : decode cX12_canBeTold 17 = .ok (.iload_n 2, 1) := q_iload_n2 (bat_get dg_X12_canBeTold_0_0 11 rfl rfl)
theorem dX12_canBeTold_18 : decode cX12_canBeTold 18 = .ok (.invokevirtual 418, 3) := q_invokevirtual (bat_get dg_X12_canBeTold_0_0 12 rfl rfl) rfl
theorem dX12_canBeTold_21 : decode cX12_canBeTold 21 = .ok (.ifCond .eq 7, 3) := q_ifCond_eq (bat_get dg_X12_canBeTold_0_0 13 rfl rfl) rfl
theorem dX12_canBeTold_24 : decode cX12_canBeTold 24 = .ok (.iconst 1, 1) := q_iconst1 (bat_get dg_X12_canBeTold_0_0 14 rfl rfl)
theorem dX12_canBeTold_25 : decode cX12_canBeTold 25 = .ok (.goto 4, 3) := q_goto (bat_get dg_X12_canBeTold_0_0 15 rfl rfl) rfl
theorem w_8_80 : (Cond.code yX12_canBeTold cX12_canBeTold 3 (some .boolean)) ∈ wsL_law := sk_mem (ck_8 _ (List.mem_of_getElem? (i := 80) rfl)) rfl
def om_3_5 : List Bool := true :: false :: true :: []
set_option maxHeartbeats 4000000 in
set_option maxRecDepth 100000 in
theorem c_m_canBeTold (l : Launch) (D : va_G) (cI cJ cC cZ cS : ClassId) (mm : Nat) (g : Nat → Nat) (ta : Nat) (pa : Nat) (pe : Nat) (pd : Int32) (pb : Nat) (pp : Int32) (pf : Int32) (pg : Int32) (pn : Int32) (rt : Int32) (rn : Int32) (cd : Nat) (sn : Int32) (il : Nat) (tk : Int32) (am : Int32) (at_ : Int32) (aa : Int32) (wt : Int32) (wy : Int64) (rm : Nat) (ud : Nat) (nu : Nat) (sd : Int64) (qn : Nat) (qw : Nat) (qo : Int32) (qb : Nat) (qp : Nat) (qa : Int64) (qi : Nat) (oc : Nat) (d : Int32) (w : Int32) (l0 : Nat) (l1 : Nat) (dm : Nat) (l3 : Nat) (nw : Nat → Int32) (hdm : dm ≤ 9) (hnw : nowOk nw) : skM l yX12_canBeTold cX12_canBeTold 3 (some .boolean) 2 46 0 0 D (skT cI cJ cC cZ cS) [.ref mm, .int d, .int w] [ro_ mm 12 (mo g (nI ta) (nI pa) (nI pe) pd (nI pb) pp pf pg pn rt rn (nI cd) sn (nI il) tk am at_ aa 0 0 (-1) wt wy 0 (nI rm) (nI ud) (nI nu) sd (nI qn) (nI qw) qo (nI qb) (nI qp) qa (nI qi) (nI oc)), ra_I (g 20) cI 4 (l4 (nI l0) (nI l1) (nI dm) (nI l3)), ra_I (g 31) cI 120 nw] (skI D (skT cI cJ cC cZ cS) (fun (r : Int32) (u : va_W) => ∃ (b : Nat), (b = 0 ∨ (b = 1 ∧ ∃ kq : Nat, kq < dm ∧ d = nI kq)) ∧ r = nI b ∧ u = [ro_ mm 12 (mo g (nI ta) (nI pa) (nI pe) pd (nI pb) pp pf pg pn rt rn (nI cd) sn (nI il) tk am at_ aa 0 0 (-1) wt wy 0 (nI rm) (nI ud) (nI nu) sd (nI qn) (nI qw) qo (nI qb) (nI qp) qa (nI qi) (nI oc)), ra_I (g 20) cI 4 (l4 (nI l0) (nI l1) (nI dm) (nI l3)), ra_I (g 31) cI 120 nw])) := by
  refine skM_of pf_X12_canBeTold (Nat.le_of_ble_eq_true rfl) ?_
  intro p e s m below meth c A ls E hP hD hl
  refine skE_el E (fun hx hb hr hml hlocks hin hown hts hK hA => ?_)
  have hown : s.vm.findClass RX12 = some m.cls := hown
  have hS : va_S A s.heap s.heap [] := va_S.rf
  have hl : lv_has ls 3 [(0, .ref mm), (1, .int d), (2, .int w)] := hl
  refine lv_aload_n hx hb dX12_canBeTold_0 rfl (lv_at hl 0 rfl) ?_
  refine lv_iload_n hx hb dX12_canBeTold_1 rfl (lv_at hl 1 rfl) ?_
  refine sk_Vi (q0 := 0) (n := 1) (rest := []) (wr := fmR om_3_6 _) ⟨hx, hb, hml, hown, hts⟩ hl.1 (c_m_isDay l D cI cJ cC cZ cS mm g ta pa pe pd pb pp pf pg pn rt rn cd sn il tk am at_ aa 0 0 (-1) wt wy 0 rm ud nu sd qn qw qo qb qp qa qi oc d l0 l1 dm l3 hdm) w_7_117 w_7_119 w_0_72 w_1_14 w_7_120 hd_X12_isDay_1 ⟨⟨(Nat.le_of_ble_eq_true rfl), (Nat.le_of_ble_eq_true rfl)⟩, (Nat.le_of_ble_eq_true rfl), (Nat.le_of_ble_eq_true rfl)⟩ hK hP hD hS hA (fmT om_3_6 0) (fmF om_3_6 0) (fm_C1 rfl rfl) (fm_R rfl rfl) (fm_nT om_3_6 0) (fm_nF om_3_6 0) (fm_di om_3_6 0) rfl rfl rfl rfl (Nat.le_of_ble_eq_true rfl) dX12_canBeTold_2 (fun r_2 u H locs hw hP hD hS => ?_)
  refine exE hw (fun b_1 hw1 => anE hw1 (fun hb1_3 hw2 => anE hw2 (fun er_5 eu_4 => ?_)))
  clear hw hw1 hw2
  subst er_5
  refine o_mgE (ws' := [ro_ mm 12 (mo g (nI ta) (nI pa) (nI pe) pd (nI pb) pp pf pg pn rt rn (nI cd) sn (nI il) tk am at_ aa 0 0 (-1) wt wy 0 (nI rm) (nI ud) (nI nu) sd (nI qn) (nI qw) qo (nI qb) (nI qp) qa (nI qi) (nI oc)), ra_I (g 20) cI 4 (l4 (nI l0) (nI l1) (nI dm) (nI l3)), ra_I (g 31) cI 120 nw]) eu_4 hP hD rfl (fun hP hD => ?_)
  refine lv_if_eq (tgt := 28) hx hb dX12_canBeTold_5 (by decide) (fun c_6 => ?_) (fun c_6 => ?_)
  · have c_6 : b_1 = 0 := (neq b_1 0 (by omega) (Nat.le_of_ble_eq_true rfl)).mp c_6
    refine lv_iconst (v := 0) hx hb dX12_canBeTold_28 ic_0 ?_
    exact sk_iret hx hb hr rfl hlocks hK hP hD hS (⟨0, Or.inl rfl, rfl, rfl⟩) (Nat.le_of_ble_eq_true rfl) (Nat.le_of_ble_eq_true rfl) dX12_canBeTold_29
  · have c_6 : ¬ (b_1 = 0) := fun h => c_6 ((neq b_1 0 (by omega) (Nat.le_of_ble_eq_true rfl)).mpr h)
    obtain ⟨kd_7, hkd_7, rfl⟩ := (hb1_3.resolve_left (by omega)).2
    refine lv_aload_n hx hb dX12_canBeTold_8 rfl (lv_at hl 0 rfl) ?_
    refine lv_iload_n hx hb dX12_canBeTold_9 rfl (lv_at hl 1 rfl) ?_
    refine sk_Vi (q0 := 0) (n := 1) (rest := []) (wr := fmR om_3_5 _) ⟨hx, hb, hml, hown, hts⟩ hl.1 (c_m_isMute l D cI cJ cC cZ cS mm g ta pa pe pd pb pp pf pg pn rt rn cd sn il tk am at_ aa 0 0 (-1) wt wy 0 rm ud nu sd qn qw qo qb qp qa qi oc kd_7 nw (by omega) hnw) w_7_106 w_7_108 w_0_71 w_1_14 w_7_109 hd_X12_isMute_1 ⟨⟨(Nat.le_of_ble_eq_true rfl), (Nat.le_of_ble_eq_true rfl)⟩, (Nat.le_of_ble_eq_true rfl), (Nat.le_of_ble_eq_true rfl)⟩ hK hP hD hS hA (fmT om_3_5 0) (fmF om_3_5 0) (fm_C1 rfl rfl) (fm_R rfl rfl) (fm_nT om_3_5 0) (fm_nF om_3_5 0) (fm_di om_3_5 0) rfl rfl rfl rfl (Nat.le_of_ble_eq_true rfl) dX12_canBeTold_10 (fun r_9 u H locs hw hP hD hS => ?_)
    refine exE hw (fun b_8 hw1 => anE hw1 (fun hb1_10 hw2 => anE hw2 (fun hb2_11 hw3 => anE hw3 (fun er_13 eu_12 => ?_))))
    clear hw hw1 hw2 hw3
    subst er_13
    refine o_mgE (ws' := [ro_ mm 12 (mo g (nI ta) (nI pa) (nI pe) pd (nI pb) pp pf pg pn rt rn (nI cd) sn (nI il) tk am at_ aa 0 0 (-1) wt wy 0 (nI rm) (nI ud) (nI nu) sd (nI qn) (nI qw) qo (nI qb) (nI qp) qa (nI qi) (nI oc)), ra_I (g 20) cI 4 (l4 (nI l0) (nI l1) (nI dm) (nI l3)), ra_I (g 31) cI 120 nw]) eu_12 hP hD rfl (fun hP hD => ?_)
    refine lv_if_ne (tgt := 28) hx hb dX12_canBeTold_13 (by decide) (fun c_14 => ?_) (fun c_14 => ?_)
    · have c_14 : ¬ (b_8 = 0) := fun h => c_14 ((neq b_8 0 (by omega) (Nat.le_of_ble_eq_true rfl)).mpr h)
      refine lv_iconst (v := 0) hx hb dX12_canBeTold_28 ic_0 ?_
      exact sk_iret hx hb hr rfl hlocks hK hP hD hS (⟨0, Or.inl rfl, rfl, rfl⟩) (Nat.le_of_ble_eq_true rfl) (Nat.le_of_ble_eq_true rfl) dX12_canBeTold_29
    · have c_14 : b_8 = 0 := (neq b_8 0 (by omega) (Nat.le_of_ble_eq_true rfl)).mp c_14
      refine lv_aload_n hx hb dX12_canBeTold_16 rfl (lv_at hl 0 rfl) ?_
      refine lv_iload_n hx hb dX12_canBeTold_17 rfl (lv_at hl 2 rfl) ?_
      refine sk_Vi (q0 := 0) (n := 1) (rest := []) (wr := fmR om_3_4 _) ⟨hx, hb, hml, hown, hts⟩ hl.1 (c_m_isMood l D cI cJ cC cZ cS mm g ta pa pe pd pb pp pf pg pn rt rn cd sn il tk am at_ aa 0 0 (-1) wt wy 0 rm ud nu sd qn qw qo qb qp qa qi oc w) w_7_126 w_7_128 w_0_73 w_1_14 w_7_129 hd_X12_isMood_1 ⟨⟨(Nat.le_of_ble_eq_true rfl), (Nat.le_of_ble_eq_true rfl)⟩, (Nat.le_of_ble_eq_true rfl), (Nat.le_of_ble_eq_true rfl)⟩ hK hP hD hS hA (fmT om_3_4 0) (fmF om_3_4 0) (fm_C1 rfl rfl) (fm_R rfl rfl) (fm_nT om_3_4 0) (fm_nF om_3_4 0) (fm_di om_3_4 0) rfl rfl rfl rfl (Nat.le_of_ble_eq_true rfl) dX12_canBeTold_18 (fun r_16 u H locs hw hP hD hS => ?_)
      refine exE hw (fun b_15 hw1 => anE hw1 (fun hb1_17 hw2 => anE hw2 (fun er_19 eu_18 => ?_)))
      clear hw hw1 hw2
      subst er_19
      refine o_mgE (ws' := [ro_ mm 12 (mo g (nI ta) (nI pa) (nI pe) pd (nI pb) pp pf pg pn rt rn (nI cd) sn (nI il) tk am at_ aa 0 0 (-1) wt wy 0 (nI rm) (nI ud) (nI nu) sd (nI qn) (nI qw) qo (nI qb) (nI qp) qa (nI qi) (nI oc)), ra_I (g 20) cI 4 (l4 (nI l0) (nI l1) (nI dm) (nI l3)), ra_I (g 31) cI 120 nw]) eu_18 hP hD rfl (fun hP hD => ?_)
      refine lv_if_eq (tgt := 28) hx hb dX12_canBeTold_21 (by decide) (fun c_20 => ?_) (fun c_20 => ?_)
      · have c_20 : b_15 = 0 := (neq b_15 0 (by omega) (Nat.le_of_ble_eq_true rfl)).mp c_20
        refine lv_iconst (v := 0) hx hb dX12_canBeTold_28 ic_0 ?_
        exact sk_iret hx hb hr rfl hlocks hK hP hD hS (⟨0, Or.inl rfl, rfl, rfl⟩) (Nat.le_of_ble_eq_true rfl) (Nat.le_of_ble_eq_true rfl) dX12_canBeTold_29
      · have c_20 : ¬ (b_15 = 0) := fun h => c_20 ((neq b_15 0 (by omega) (Nat.le_of_ble_eq_true rfl)).mpr h)
        obtain ⟨kd_21, hkd_21, rfl⟩ := (hb1_17.resolve_left (by omega)).2
        refine lv_iconst (v := 1) hx hb dX12_canBeTold_24 ic_1 ?_
        refine lv_goto (tgt := 29) hx hb dX12_canBeTold_25 (by decide) ?_
        exact sk_iret hx hb hr rfl hlocks hK hP hD hS (⟨1, Or.inr ⟨rfl, kd_7, by omega, rfl⟩, rfl, rfl⟩) (Nat.le_of_ble_eq_true rfl) (Nat.le_of_ble_eq_true rfl) dX12_canBeTold_29
theorem dg_X12_known_0_0 : bqL cX12_known 0 [(0, [42]), (1, [27]), (2, [28]), (3, [182, 1, 198]), (6, [153, 0, 11]), (17, [2]), (18, [172]), (9, [42]), (10, [29]), (11, [182, 1, 157]), (14, [154, 0, 5]), (19, [42]), (20, [27]), (21, [28]), (22, [182, 1, 201]), (25, [42]), (26, [29]), (27, [182, 1, 204]), (30, [172])] = true := by decide +kernel
theorem dX12_known_0 : decode cX12_known 0 = .ok (.aload_n 0, 1) := q_aload_n0 (bat_get dg_X12_known_0_0 0 rfl rfl)
theorem dX12_known_1 : decode cX12_known 1 = .ok (.iload_n 1, 1) := q_iload_n1 (bat_get dg_X12_known_0_0 1 rfl rfl)
theorem dX12_known_2 : decode cX12_known 2 = .ok (.iload_n 2, 1) := q_iload_n2 (bat_get dg_X12_known_0_0 2 rfl rfl)
theorem dX12_known_3 : decode cX12_known 3 = .ok (.invokevirtual 454, 3) := q_invokevirtual (bat_get dg_X12_known_0_0 3 rfl rfl) rfl
theorem dX12_known_6 : decode cX12_known 6 = .ok (.ifCond .eq 11, 3) := q_ifCond_eq (bat_get dg_X12_known_0_0 4 rfl rfl) rfl
theorem dX12_known_17 : decode cX12_known 17 = .ok (.iconst (-1), 1) := q_iconstm1 (bat_get dg_X12_known_0_0 5 rfl rfl)
theorem dX12_known_18 : decode cX12_known 18 = .ok (.ireturn, 1) := q_ireturn (bat_get dg_X12_known_0_0 6 rfl rfl)
theorem dX12_known_9 : decode cX12_known 9 = .ok (.aload_n 0, 1) := q_aload_n0 (bat_get dg_X12_known_0_0 7 rfl rfl)
theorem dX12_known_10 : decode cX12_known 10 = .ok (.iload_n 3, 1) := q_iload_n3 (bat_get dg_X12_known_0_0 8 rfl rfl)
theorem dX12_known_11 : decode cX12_known 11 = .ok (.invokevirtual 413, 3) := q_invokevirtual (bat_get dg_X12_known_0_0 9 rfl rfl) rfl
theorem dX12_known_14 : decode cX12_known 14 = .ok (.ifCond .ne 5, 3) := q_ifCond_ne (bat_get dg_X12_known_0_0 10 rfl rfl) rfl
theorem dX12_known_19 : decode cX12_known 19 = .ok (.aload_n 0, 1) := q_aload_n0 (bat_get dg_X12_known_0_0 11 rfl rfl)
theorem dX12_known_20 : decode cX12_known 20 = .ok (.iload_n 1, 1) := q_iload_n1 (bat_get dg_X12_known_0_0 12 rfl rfl)
theorem dX12_known_21 : decode cX12_known 21 = .ok (.iload_n 2, 1) := q_iload_n2 (bat_get dg_X12_known_0_0 13 rfl rfl)
theorem dX12_known_22 : decode cX12_known 22 = .ok (.invokevirtual 457, 3) := q_invokevirtual (bat_get dg_X12_known_0_0 14 rfl rfl) rfl
theorem dX12_known_25 : decode cX12_known 25 = .ok (.aload_n 0, 1) := q_aload_n0 (bat_get dg_X12_known_0_0 15 rfl rfl)
theorem dX12_known_26 : decode cX12_known 26 = .ok (.iload_n 3, 1) := q_iload_n3 (bat_get dg_X12_known_0_0 16 rfl rfl)
theorem dX12_known_27 : decode cX12_known 27 = .ok (.invokevirtual 460, 3) := q_invokevirtual (bat_get dg_X12_known_0_0 17 rfl rfl) rfl
theorem dX12_known_30 : decode cX12_known 30 = .ok (.ireturn, 1) := q_ireturn (bat_get dg_X12_known_0_0 18 rfl rfl)
theorem w_8_77 : (Cond.methodLink RX12 454 yX12_canBeTold) ∈ wsL_law := sk_mem (ck_8 _ (List.mem_of_getElem? (i := 77) rfl)) rfl
theorem w_8_79 : (Cond.instanceMethod yX12_canBeTold) ∈ wsL_law := sk_mem (ck_8 _ (List.mem_of_getElem? (i := 79) rfl)) rfl
theorem w_0_101 : (Cond.selects RX12 yX12_canBeTold yX12_canBeTold) ∈ wsL_law := sk_mem (ck_0 _ (List.mem_of_getElem? (i := 101) rfl)) rfl
theorem w_8_81 : (Cond.methodLink RX12 457 yX12_laysByWord) ∈ wsL_law := sk_mem (ck_8 _ (List.mem_of_getElem? (i := 81) rfl)) rfl
theorem w_8_83 : (Cond.instanceMethod yX12_laysByWord) ∈ wsL_law := sk_mem (ck_8 _ (List.mem_of_getElem? (i := 83) rfl)) rfl
theorem w_0_102 : (Cond.selects RX12 yX12_laysByWord yX12_laysByWord) ∈ wsL_law := sk_mem (ck_0 _ (List.mem_of_getElem? (i := 102) rfl)) rfl
theorem w_8_85 : (Cond.methodLink RX12 460 yX12_moodsOf) ∈ wsL_law := sk_mem (ck_8 _ (List.mem_of_getElem? (i := 85) rfl)) rfl
theorem w_8_87 : (Cond.instanceMethod yX12_moodsOf) ∈ wsL_law := sk_mem (ck_8 _ (List.mem_of_getElem? (i := 87) rfl)) rfl
theorem w_0_103 : (Cond.selects RX12 yX12_moodsOf yX12_moodsOf) ∈ wsL_law := sk_mem (ck_0 _ (List.mem_of_getElem? (i := 103) rfl)) rfl
theorem w_8_76 : (Cond.code yX12_known cX12_known 4 (some .int)) ∈ wsL_law := sk_mem (ck_8 _ (List.mem_of_getElem? (i := 76) rfl)) rfl
def om_14_2240 : List Bool := true :: false :: false :: false :: true :: false :: false :: true :: false :: false :: false :: false :: false :: false :: []
def om_14_2006 : List Bool := true :: false :: false :: false :: false :: false :: false :: false :: false :: false :: false :: true :: true :: false :: []
theorem hd_X12_canBeTold_2 : skD yX12_canBeTold 2 := by decide +kernel
theorem hd_X12_laysByWord_2 : skD yX12_laysByWord 2 := by decide +kernel
theorem hd_X12_moodsOf_1 : skD yX12_moodsOf 1 := by decide +kernel
set_option maxHeartbeats 4000000 in
set_option maxRecDepth 100000 in
theorem c_m_known (l : Launch) (D : va_G) (cI cJ cC cZ cS : ClassId) (mm : Nat) (g : Nat → Nat) (ta : Nat) (pa : Nat) (pe : Nat) (pd : Int32) (pb : Nat) (pp : Int32) (pf : Int32) (pg : Int32) (pn : Int32) (rt : Int32) (rn : Int32) (cd : Nat) (sn : Int32) (il : Nat) (tk : Int32) (am : Int32) (at_ : Int32) (aa : Int32) (wt : Int32) (wy : Int64) (rm : Nat) (ud : Nat) (nu : Nat) (sd : Int64) (qn : Nat) (qw : Nat) (qo : Int32) (qb : Nat) (qp : Nat) (qa : Int64) (qi : Nat) (oc : Nat) (d : Int32) (w : Int32) (o : Int32) (u0 : Int32) (u1 : Int32) (u2 : Int32) (u3 : Int32) (u4 : Int32) (u5 : Int32) (v0 : Int32) (v1 : Int32) (v2 : Int32) (v3 : Int32) (v4 : Int32) (v5 : Int32) (cs : Nat → Nat) (nw : Nat → Int32) (pt : Nat → Nat) (ql : Nat → Int64) (l0 : Nat) (l1 : Nat) (dm : Nat) (l3 : Nat) (ws_ : Nat → Int32) (yw : Nat → Int32) (yo : Nat → Int32) (be : Nat → Int64) (bf : Nat → Int64) (rw_ : Nat → Int32) (hil : il ≤ 1) (hild : il = 1 → 1 ≤ dm) (hdm : dm ≤ 9) (hp0 : progOk cs u3 v3) (hp1 : progOk cs u4 v4) (hp2 : progOk cs u5 v5) (hrm : rm ≤ 16) (hcs : ∀ j, cs j ≤ 20000) (hnw : nowOk nw) (hpt : ∀ j, pt j ≤ 9) : skM l yX12_known cX12_known 4 (some .int) 6 144 0 0 D (skT cI cJ cC cZ cS) [.ref mm, .int d, .int w, .int o] [ro_ mm 12 (mo g (nI ta) (nI pa) (nI pe) pd (nI pb) pp pf pg pn rt rn (nI cd) sn (nI il) tk am at_ aa 0 0 (-1) wt wy 0 (nI rm) (nI ud) (nI nu) sd (nI qn) (nI qw) qo (nI qb) (nI qp) qa (nI qi) (nI oc)), ra_I (g 24) cI 6 (l6 u0 u1 u2 u3 u4 u5), ra_I (g 25) cI 6 (l6 v0 v1 v2 v3 v4 v5), ra_N (g 26) cI 3200 cs, ra_I (g 31) cI 120 nw, ra_N (g 46) cI 9 pt, ra_J (g 86) cJ 1700 ql, ra_I (g 20) cI 4 (l4 (nI l0) (nI l1) (nI dm) (nI l3)), ra_I (g 38) cI 90 ws_, ra_I (g 36) cZ 900 yw, ra_I (g 37) cZ 900 yo, ra_J (g 43) cJ 90 be, ra_J (g 44) cJ 90 bf, ra_I (g 53) cI 32 rw_] (skI D (skT cI cJ cC cZ cS) (fun (r : Int32) (u : va_W) => ∃ (tk2 : Int32), ∃ (qp2 : Nat), ∃ (am2 : Int32), ∃ (at_2 : Int32), ∃ (aa2 : Int32), ∃ (wy2 : Int64), ∃ (wt2 : Int32), ∃ (ql2 : Nat → Int64), ∃ (ws_2 : Nat → Int32), ∃ (yw2 : Nat → Int32), ∃ (yo2 : Nat → Int32), ∃ (be2 : Nat → Int64), ∃ (bf2 : Nat → Int64), u = [ro_ mm 12 (mo g (nI ta) (nI pa) (nI pe) pd (nI pb) pp pf pg pn rt rn (nI cd) sn (nI il) tk2 am2 at_2 aa2 0 0 (-1) wt2 wy2 0 (nI rm) (nI ud) (nI nu) sd (nI qn) (nI qw) qo (nI qb) (nI qp2) qa (nI qi) (nI oc)), ra_I (g 24) cI 6 (l6 u0 u1 u2 u3 u4 u5), ra_I (g 25) cI 6 (l6 v0 v1 v2 v3 v4 v5), ra_N (g 26) cI 3200 cs, ra_I (g 31) cI 120 nw, ra_N (g 46) cI 9 pt, ra_J (g 86) cJ 1700 ql2, ra_I (g 20) cI 4 (l4 (nI l0) (nI l1) (nI dm) (nI l3)), ra_I (g 38) cI 90 ws_2, ra_I (g 36) cZ 900 yw2, ra_I (g 37) cZ 900 yo2, ra_J (g 43) cJ 90 be2, ra_J (g 44) cJ 90 bf2, ra_I (g 53) cI 32 rw_])) := by
  refine skM_of pf_X12_known (Nat.le_of_ble_eq_true rfl) ?_
  intro p e s m below meth c A ls E hP hD hl
  refine skE_el E (fun hx hb hr hml hlocks hin hown hts hK hA => ?_)
  have hown : s.vm.findClass RX12 = some m.cls := hown
  have hS : va_S A s.heap s.heap [] := va_S.rf
  have hl : lv_has ls 4 [(0, .ref mm), (1, .int d), (2, .int w), (3, .int o)] := hl
  refine lv_aload_n hx hb dX12_known_0 rfl (lv_at hl 0 rfl) ?_
  refine lv_iload_n hx hb dX12_known_1 rfl (lv_at hl 1 rfl) ?_
  refine lv_iload_n hx hb dX12_known_2 rfl (lv_at hl 2 rfl) ?_
  refine sk_Vi (q0 := 0) (n := 2) (rest := []) (wr := fmR om_14_2240 _) ⟨hx, hb, hml, hown, hts⟩ hl.1 (c_m_canBeTold l D cI cJ cC cZ cS mm g ta pa pe pd pb pp pf pg pn rt rn cd sn il tk am at_ aa wt wy rm ud nu sd qn qw qo qb qp qa qi oc d w l0 l1 dm l3 nw hdm hnw) w_8_77 w_8_79 w_0_101 w_1_14 w_8_80 hd_X12_canBeTold_2 ⟨⟨(Nat.le_of_ble_eq_true rfl), (Nat.le_of_ble_eq_true rfl)⟩, (Nat.le_of_ble_eq_true rfl), (Nat.le_of_ble_eq_true rfl)⟩ hK hP hD hS hA [0, 7, 4] (fmF om_14_2240 0) rfl (fm_R rfl rfl) (by decide +kernel) (fm_nF om_14_2240 0) (by decide +kernel) rfl rfl rfl rfl (Nat.le_of_ble_eq_true rfl) dX12_known_3 (fun r_2 u H locs hw hP hD hS => ?_)
  refine exE hw (fun b_1 hw1 => anE hw1 (fun hb1_3 hw2 => anE hw2 (fun er_5 eu_4 => ?_)))
  clear hw hw1 hw2
  subst er_5
  refine o_mgqE (ux := [ro_ mm 12 (mo g (nI ta) (nI pa) (nI pe) pd (nI pb) pp pf pg pn rt rn (nI cd) sn (nI il) tk am at_ aa 0 0 (-1) wt wy 0 (nI rm) (nI ud) (nI nu) sd (nI qn) (nI qw) qo (nI qb) (nI qp) qa (nI qi) (nI oc)), ra_I (g 31) cI 120 nw, ra_I (g 20) cI 4 (l4 (nI l0) (nI l1) (nI dm) (nI l3))]) (ws' := [ro_ mm 12 (mo g (nI ta) (nI pa) (nI pe) pd (nI pb) pp pf pg pn rt rn (nI cd) sn (nI il) tk am at_ aa 0 0 (-1) wt wy 0 (nI rm) (nI ud) (nI nu) sd (nI qn) (nI qw) qo (nI qb) (nI qp) qa (nI qi) (nI oc)), ra_I (g 24) cI 6 (l6 u0 u1 u2 u3 u4 u5), ra_I (g 25) cI 6 (l6 v0 v1 v2 v3 v4 v5), ra_N (g 26) cI 3200 cs, ra_I (g 31) cI 120 nw, ra_N (g 46) cI 9 pt, ra_J (g 86) cJ 1700 ql, ra_I (g 20) cI 4 (l4 (nI l0) (nI l1) (nI dm) (nI l3)), ra_I (g 38) cI 90 ws_, ra_I (g 36) cZ 900 yw, ra_I (g 37) cZ 900 yo, ra_J (g 43) cJ 90 be, ra_J (g 44) cJ 90 bf, ra_I (g 53) cI 32 rw_]) eu_4 [0, 2, 1] (by decide +kernel) rfl hP hD rfl (fun hP hD => ?_)
  refine lv_if_eq (tgt := 17) hx hb dX12_known_6 (by decide) (fun c_6 => ?_) (fun c_6 => ?_)
  · have c_6 : b_1 = 0 := (neq b_1 0 (by omega) (Nat.le_of_ble_eq_true rfl)).mp c_6
    refine lv_iconst (v := (-1)) hx hb dX12_known_17 (by decide) ?_
    exact sk_iret hx hb hr rfl hlocks hK hP hD hS (⟨tk, qp, am, at_, aa, wy, wt, ql, ws_, yw, yo, be, bf, rfl⟩) (Nat.le_of_ble_eq_true rfl) (Nat.le_of_ble_eq_true rfl) dX12_known_18
  · have c_6 : ¬ (b_1 = 0) := fun h => c_6 ((neq b_1 0 (by omega) (Nat.le_of_ble_eq_true rfl)).mpr h)
    obtain ⟨kd_7, hkd_7, rfl⟩ := (hb1_3.resolve_left (by omega)).2
    refine lv_aload_n hx hb dX12_known_9 rfl (lv_at hl 0 rfl) ?_
    refine lv_iload_n hx hb dX12_known_10 rfl (lv_at hl 3 rfl) ?_
    refine sk_Vi (q0 := 0) (n := 1) (rest := []) (wr := fmR om_14_2040 _) ⟨hx, hb, hml, hown, hts⟩ hl.1 (c_m_isDay l D cI cJ cC cZ cS mm g ta pa pe pd pb pp pf pg pn rt rn cd sn il tk am at_ aa 0 0 (-1) wt wy 0 rm ud nu sd qn qw qo qb qp qa qi oc o l0 l1 dm l3 hdm) w_7_117 w_7_119 w_0_72 w_1_14 w_7_120 hd_X12_isDay_1 ⟨⟨(Nat.le_of_ble_eq_true rfl), (Nat.le_of_ble_eq_true rfl)⟩, (Nat.le_of_ble_eq_true rfl), (Nat.le_of_ble_eq_true rfl)⟩ hK hP hD hS hA (fmT om_14_2040 0) (fmF om_14_2040 0) (fm_C1 rfl rfl) (fm_R rfl rfl) (fm_nT om_14_2040 0) (fm_nF om_14_2040 0) (fm_di om_14_2040 0) rfl rfl rfl rfl (Nat.le_of_ble_eq_true rfl) dX12_known_11 (fun r_9 u H locs hw hP hD hS => ?_)
    refine exE hw (fun b_8 hw1 => anE hw1 (fun hb1_10 hw2 => anE hw2 (fun er_12 eu_11 => ?_)))
    clear hw hw1 hw2
    subst er_12
    refine o_mgE (ws' := [ro_ mm 12 (mo g (nI ta) (nI pa) (nI pe) pd (nI pb) pp pf pg pn rt rn (nI cd) sn (nI il) tk am at_ aa 0 0 (-1) wt wy 0 (nI rm) (nI ud) (nI nu) sd (nI qn) (nI qw) qo (nI qb) (nI qp) qa (nI qi) (nI oc)), ra_I (g 24) cI 6 (l6 u0 u1 u2 u3 u4 u5), ra_I (g 25) cI 6 (l6 v0 v1 v2 v3 v4 v5), ra_N (g 26) cI 3200 cs, ra_I (g 31) cI 120 nw, ra_N (g 46) cI 9 pt, ra_J (g 86) cJ 1700 ql, ra_I (g 20) cI 4 (l4 (nI l0) (nI l1) (nI dm) (nI l3)), ra_I (g 38) cI 90 ws_, ra_I (g 36) cZ 900 yw, ra_I (g 37) cZ 900 yo, ra_J (g 43) cJ 90 be, ra_J (g 44) cJ 90 bf, ra_I (g 53) cI 32 rw_]) eu_11 hP hD rfl (fun hP hD => ?_)
    refine lv_if_ne (tgt := 19) hx hb dX12_known_14 (by decide) (fun c_13 => ?_) (fun c_13 => ?_)
    · have c_13 : ¬ (b_8 = 0) := fun h => c_13 ((neq b_8 0 (by omega) (Nat.le_of_ble_eq_true rfl)).mpr h)
      obtain ⟨kd_14, hkd_14, rfl⟩ := (hb1_10.resolve_left (by omega)).2
      refine lv_aload_n hx hb dX12_known_19 rfl (lv_at hl 0 rfl) ?_
      refine lv_iload_n hx hb dX12_known_20 rfl (lv_at hl 1 rfl) ?_
      refine lv_iload_n hx hb dX12_known_21 rfl (lv_at hl 2 rfl) ?_
      refine sk_Vv (q0 := 0) (n := 2) (rest := []) (wr := fmR om_14_3fff _) ⟨hx, hb, hml, hown, hts⟩ hl.1 (c_m_laysByWord l D cI cJ cC cZ cS mm g ta pa pe pd pb pp pf pg pn rt rn cd sn il tk am at_ aa wt wy rm ud nu sd qn qw qo qb qp qa qi oc (nI kd_7) w u0 u1 u2 u3 u4 u5 v0 v1 v2 v3 v4 v5 cs nw pt ql l0 l1 dm l3 ws_ yw yo be bf rw_ hdm (by omega) hp0 hp1 hp2 hrm hcs hnw hpt) w_8_81 w_8_83 w_0_102 w_1_14 w_8_84 hd_X12_laysByWord_2 ⟨⟨(Nat.le_of_ble_eq_true rfl), (Nat.le_of_ble_eq_true rfl)⟩, (Nat.le_of_ble_eq_true rfl), (Nat.le_of_ble_eq_true rfl)⟩ hK hP hD hS hA (fmT om_14_3fff 0) (fmF om_14_3fff 0) (fm_C1 rfl rfl) (fm_R rfl rfl) (fm_nT om_14_3fff 0) (fm_nF om_14_3fff 0) (fm_di om_14_3fff 0) rfl rfl rfl rfl (Nat.le_of_ble_eq_true rfl) dX12_known_22 (fun u H locs hw hP hD hS => ?_)
      refine exE hw (fun tk2_15 hw1 => exE hw1 (fun qp2_16 hw2 => exE hw2 (fun am2_17 hw3 => exE hw3 (fun at_2_18 hw4 => exE hw4 (fun aa2_19 hw5 => exE hw5 (fun wy2_20 hw6 => exE hw6 (fun wt2_21 hw7 => exE hw7 (fun ql2_22 hw8 => exE hw8 (fun ws_2_23 hw9 => exE hw9 (fun yw2_24 hw10 => exE hw10 (fun yo2_25 hw11 => exE hw11 (fun be2_26 hw12 => exE hw12 (fun bf2_27 eu_28 => ?_)))))))))))))
      clear hw hw1 hw2 hw3 hw4 hw5 hw6 hw7 hw8 hw9 hw10 hw11 hw12
      refine o_mgE (ws' := [ro_ mm 12 (mo g (nI ta) (nI pa) (nI pe) pd (nI pb) pp pf pg pn rt rn (nI cd) sn (nI il) tk2_15 am2_17 at_2_18 aa2_19 0 0 (-1) wt2_21 wy2_20 0 (nI rm) (nI ud) (nI nu) sd (nI qn) (nI qw) qo (nI qb) (nI qp2_16) qa (nI qi) (nI oc)), ra_I (g 24) cI 6 (l6 u0 u1 u2 u3 u4 u5), ra_I (g 25) cI 6 (l6 v0 v1 v2 v3 v4 v5), ra_N (g 26) cI 3200 cs, ra_I (g 31) cI 120 nw, ra_N (g 46) cI 9 pt, ra_J (g 86) cJ 1700 ql2_22, ra_I (g 20) cI 4 (l4 (nI l0) (nI l1) (nI dm) (nI l3)), ra_I (g 38) cI 90 ws_2_23, ra_I (g 36) cZ 900 yw2_24, ra_I (g 37) cZ 900 yo2_25, ra_J (g 43) cJ 90 be2_26, ra_J (g 44) cJ 90 bf2_27, ra_I (g 53) cI 32 rw_]) eu_28 hP hD rfl (fun hP hD => ?_)
      refine lv_aload_n hx hb dX12_known_25 rfl (lv_at hl 0 rfl) ?_
      refine lv_iload_n hx hb dX12_known_26 rfl (lv_at hl 3 rfl) ?_
      refine sk_Vi (q0 := 0) (n := 1) (rest := []) (wr := fmR om_14_2006 _) ⟨hx, hb, hml, hown, hts⟩ hl.1 (c_m_moodsOf l D cI cJ cC cZ cS mm g ta pa pe pd pb pp pf pg pn rt rn cd sn il tk2_15 am2_17 at_2_18 aa2_19 wt2_21 wy2_20 rm ud nu sd qn qw qo qb qp2_16 qa qi oc kd_14 be2_26 bf2_27 (by omega)) w_8_85 w_8_87 w_0_103 w_1_14 w_8_88 hd_X12_moodsOf_1 ⟨⟨(Nat.le_of_ble_eq_true rfl), (Nat.le_of_ble_eq_true rfl)⟩, (Nat.le_of_ble_eq_true rfl), (Nat.le_of_ble_eq_true rfl)⟩ hK hP hD hS hA (fmT om_14_2006 0) (fmF om_14_2006 0) (fm_C1 rfl rfl) (fm_R rfl rfl) (fm_nT om_14_2006 0) (fm_nF om_14_2006 0) (fm_di om_14_2006 0) rfl rfl rfl rfl (Nat.le_of_ble_eq_true rfl) dX12_known_27 (fun r_29 u H locs hw hP hD hS => ?_)
      refine o_mgE (ws' := [ro_ mm 12 (mo g (nI ta) (nI pa) (nI pe) pd (nI pb) pp pf pg pn rt rn (nI cd) sn (nI il) tk2_15 am2_17 at_2_18 aa2_19 0 0 (-1) wt2_21 wy2_20 0 (nI rm) (nI ud) (nI nu) sd (nI qn) (nI qw) qo (nI qb) (nI qp2_16) qa (nI qi) (nI oc)), ra_I (g 24) cI 6 (l6 u0 u1 u2 u3 u4 u5), ra_I (g 25) cI 6 (l6 v0 v1 v2 v3 v4 v5), ra_N (g 26) cI 3200 cs, ra_I (g 31) cI 120 nw, ra_N (g 46) cI 9 pt, ra_J (g 86) cJ 1700 ql2_22, ra_I (g 20) cI 4 (l4 (nI l0) (nI l1) (nI dm) (nI l3)), ra_I (g 38) cI 90 ws_2_23, ra_I (g 36) cZ 900 yw2_24, ra_I (g 37) cZ 900 yo2_25, ra_J (g 43) cJ 90 be2_26, ra_J (g 44) cJ 90 bf2_27, ra_I (g 53) cI 32 rw_]) hw hP hD rfl (fun hP hD => ?_)
      exact sk_iret hx hb hr rfl hlocks hK hP hD hS (⟨tk2_15, qp2_16, am2_17, at_2_18, aa2_19, wy2_20, wt2_21, ql2_22, ws_2_23, yw2_24, yo2_25, be2_26, bf2_27, rfl⟩) (Nat.le_of_ble_eq_true rfl) (Nat.le_of_ble_eq_true rfl) dX12_known_30
    · have c_13 : b_8 = 0 := (neq b_8 0 (by omega) (Nat.le_of_ble_eq_true rfl)).mp c_13
      refine lv_iconst (v := (-1)) hx hb dX12_known_17 (by decide) ?_
      exact sk_iret hx hb hr rfl hlocks hK hP hD hS (⟨tk, qp, am, at_, aa, wy, wt, ql, ws_, yw, yo, be, bf, rfl⟩) (Nat.le_of_ble_eq_true rfl) (Nat.le_of_ble_eq_true rfl) dX12_known_18
theorem dg_X12_sure_0_0 : bqL cX12_sure 0 [(0, [42]), (1, [27]), (2, [28]), (3, [182, 1, 198]), (6, [154, 0, 5]), (11, [42]), (12, [27]), (13, [28]), (14, [182, 1, 201]), (17, [42]), (18, [180, 1, 126]), (21, [9]), (22, [148]), (23, [154, 0, 5]), (28, [3]), (29, [62]), (30, [27]), (31, [54, 4]), (33, [21, 4]), (35, [42]), (36, [182, 1, 59]), (39, [162, 0, 25]), (64, [29]), (65, [172]), (42, [42]), (43, [21, 4]), (45, [182, 1, 204]), (48, [184, 1, 153]), (51, [4]), (52, [160, 0, 12]), (55, [132, 3, 1]), (58, [132, 4, 1]), (61, [167, 255, 228]), (26, [2]), (27, [172]), (9, [2]), (10, [172])] = true := by decide +kernel
theorem dX12_sure_0 : decode cX12_sure 0 = .ok (.aload_n 0, 1) := q_aload_n0 (bat_get dg_X12_sure_0_0 0 rfl rfl)
theorem dX12_sure_1 : decode cX12_sure 1 = .ok (.iload_n 1, 1) := q_iload_n1 (bat_get dg_X12_sure_0_0 1 rfl rfl)
theorem dX12_sure_2 : decode cX12_sure 2 = .ok (.iload_n 2, 1) := q_iload_n2 (bat_get dg_X12_sure_0_0 2 rfl rfl)
theorem dX12_sure_3 : decode cX12_sure 3 = .ok (.invokevirtual 454, 3) := q_invokevirtual (bat_get dg_X12_sure_0_0 3 rfl rfl) rfl
theorem dX12_sure_6 : decode cX12_sure 6 = .ok (.ifCond .ne 5, 3) := q_ifCond_ne (bat_get dg_X12_sure_0_0 4 rfl rfl) rfl
theorem dX12_sure_11 : decode cX12_sure 11 = .ok (.aload_n 0, 1) := q_aload_n0 (bat_get dg_X12_sure_0_0 5 rfl rfl)
theorem dX12_sure_12 : decode cX12_sure 12 = .ok (.iload_n 1, 1) := q_iload_n1 (bat_get dg_X12_sure_0_0 6 rfl rfl)
theorem dX12_sure_13 : decode cX12_sure 13 = .ok (.iload_n 2, 1) := q_iload_n2 (bat_get dg_X12_sure_0_0 7 rfl rfl)
theorem dX12_sure_14 : decode cX12_sure 14 = .ok (.invokevirtual 457, 3) := q_invokevirtual (bat_get dg_X12_sure_0_0 8 rfl rfl) rfl
theorem dX12_sure_17 : decode cX12_sure 17 = .ok (.aload_n 0, 1) := q_aload_n0 (bat_get dg_X12_sure_0_0 9 rfl rfl)
theorem dX12_sure_18 : decode cX12_sure 18 = .ok (.getfield 382, 3) := q_getfield (bat_get dg_X12_sure_0_0 10 rfl rfl) rfl
theorem dX12_sure_21 : decode cX12_sure 21 = .ok (.lconst 0, 1) := q_lconst0 (bat_get dg_X12_sure_0_0 11 rfl rfl)
theorem dX12_sure_22 : decode cX12_sure 22 = .ok (.lcmp, 1) := q_lcmp (bat_get dg_X12_sure_0_0 12 rfl rfl)
theorem dX12_sure_23 : decode cX12_sure 23 = .ok (.ifCond .ne 5, 3) := q_ifCond_ne (bat_get dg_X12_sure_0_0 13 rfl rfl) rfl
theorem dX12_sure_28 : decode cX12_sure 28 = .ok (.iconst 0, 1) := q_iconst0 (bat_get dg_X12_sure_0_0 14 rfl rfl)
theorem dX12_sure_29 : decode cX12_sure 29 = .ok (.istore_n 3, 1) := q_istore_n3 (bat_get dg_X12_sure_0_0 15 rfl rfl)
theorem dX12_sure_30 : decode cX12_sure 30 = .ok (.iload_n 1, 1) := q_iload_n1 (bat_get dg_X12_sure_0_0 16 rfl rfl)
theorem dX12_sure_31 : decode cX12_sure 31 = .ok (.istore 4, 2) := q_istore (bat_get dg_X12_sure_0_0 17 rfl rfl)
theorem dX12_sure_33 : decode cX12_sure 33 = .ok (.iload 4, 2) := q_iload (bat_get dg_X12_sure_0_0 18 rfl rfl)
theorem dX12_sure_35 : decode cX12_sure 35 = .ok (.aload_n 0, 1) := q_aload_n0 (bat_get dg_X12_sure_0_0 19 rfl rfl)
theorem dX12_sure_36 : decode cX12_sure 36 = .ok (.invokevirtual 315, 3) := q_invokevirtual (bat_get dg_X12_sure_0_0 20 rfl rfl) rfl
theorem dX12_sure_39 : decode cX12_sure 39 = .ok (.if_icmp .ge 25, 3) := q_if_icmp_ge (bat_get dg_X12_sure_0_0 21 rfl rfl) rfl
theorem dX12_sure_64 : decode cX12_sure 64 = .ok (.iload_n 3, 1) := q_iload_n3 (bat_get dg_X12_sure_0_0 22 rfl rfl)
theorem dX12_sure_65 : decode cX12_sure 65 = .ok (.ireturn, 1) := q_ireturn (bat_get dg_X12_sure_0_0 23 rfl rfl)
theorem dX12_sure_42 : decode cX12_sure 42 = .ok (.aload_n 0, 1) := q_aload_n0 (bat_get dg_X12_sure_0_0 24 rfl rfl)
theorem dX12_sure_43 : decode cX12_sure 43 = .ok (.iload 4, 2) := q_iload (bat_get dg_X12_sure_0_0 25 rfl rfl)
theorem dX12_sure_45 : decode cX12_sure 45 = .ok (.invokevirtual 460, 3) := q_invokevirtual (bat_get dg_X12_sure_0_0 26 rfl rfl) rfl
theorem dX12_sure_48 : decode cX12_sure 48 = .ok (.invokestatic 409, 3) := q_invokestatic (bat_get dg_X12_sure_0_0 27 rfl rfl) rfl
theorem dX12_sure_51 : decode cX12_sure 51 = .ok (.iconst 1, 1) := q_iconst1 (bat_get dg_X12_sure_0_0 28 rfl rfl)
theorem dX12_sure_52 : decode cX12_sure 52 = .ok (.if_icmp .ne 12, 3) := q_if_icmp_ne (bat_get dg_X12_sure_0_0 29 rfl rfl) rfl
theorem dX12_sure_55 : decode cX12_sure 55 = .ok (.iinc 3 1, 3) := q_iinc (bat_get dg_X12_sure_0_0 30 rfl rfl) rfl
theorem dX12_sure_58 : decode cX12_sure 58 = .ok (.iinc 4 1, 3) := q_iinc (bat_get dg_X12_sure_0_0 31 rfl rfl) rfl
theorem dX12_sure_61 : decode cX12_sure 61 = .ok (.goto (-28), 3) := q_goto (bat_get dg_X12_sure_0_0 32 rfl rfl) rfl
theorem dX12_sure_26 : decode cX12_sure 26 = .ok (.iconst (-1), 1) := q_iconstm1 (bat_get dg_X12_sure_0_0 33 rfl rfl)
theorem dX12_sure_27 : decode cX12_sure 27 = .ok (.ireturn, 1) := q_ireturn (bat_get dg_X12_sure_0_0 34 rfl rfl)
theorem dX12_sure_9 : decode cX12_sure 9 = .ok (.iconst (-1), 1) := q_iconstm1 (bat_get dg_X12_sure_0_0 35 rfl rfl)
theorem dX12_sure_10 : decode cX12_sure 10 = .ok (.ireturn, 1) := q_ireturn (bat_get dg_X12_sure_0_0 36 rfl rfl)
theorem w_8_92 : (Cond.code yX12_sure cX12_sure 5 (some .int)) ∈ wsL_law := sk_mem (ck_8 _ (List.mem_of_getElem? (i := 92) rfl)) rfl
set_option maxHeartbeats 4000000 in
set_option maxRecDepth 100000 in
theorem c_m_sure (l : Launch) (D : va_G) (cI cJ cC cZ cS : ClassId) (mm : Nat) (g : Nat → Nat) (ta : Nat) (pa : Nat) (pe : Nat) (pd : Int32) (pb : Nat) (pp : Int32) (pf : Int32) (pg : Int32) (pn : Int32) (rt : Int32) (rn : Int32) (cd : Nat) (sn : Int32) (il : Nat) (tk : Int32) (am : Int32) (at_ : Int32) (aa : Int32) (wt : Int32) (wy : Int64) (rm : Nat) (ud : Nat) (nu : Nat) (sd : Int64) (qn : Nat) (qw : Nat) (qo : Int32) (qb : Nat) (qp : Nat) (qa : Int64) (qi : Nat) (oc : Nat) (d : Int32) (w : Int32) (u0 : Int32) (u1 : Int32) (u2 : Int32) (u3 : Int32) (u4 : Int32) (u5 : Int32) (v0 : Int32) (v1 : Int32) (v2 : Int32) (v3 : Int32) (v4 : Int32) (v5 : Int32) (cs : Nat → Nat) (nw : Nat → Int32) (pt : Nat → Nat) (ql : Nat → Int64) (l0 : Nat) (l1 : Nat) (dm : Nat) (l3 : Nat) (ws_ : Nat → Int32) (yw : Nat → Int32) (yo : Nat → Int32) (be : Nat → Int64) (bf : Nat → Int64) (rw_ : Nat → Int32) (hil : il ≤ 1) (hild : il = 1 → 1 ≤ dm) (hdm : dm ≤ 9) (hp0 : progOk cs u3 v3) (hp1 : progOk cs u4 v4) (hp2 : progOk cs u5 v5) (hrm : rm ≤ 16) (hcs : ∀ j, cs j ≤ 20000) (hnw : nowOk nw) (hpt : ∀ j, pt j ≤ 9) : skM l yX12_sure cX12_sure 5 (some .int) 6 144 0 0 D (skT cI cJ cC cZ cS) [.ref mm, .int d, .int w] [ro_ mm 12 (mo g (nI ta) (nI pa) (nI pe) pd (nI pb) pp pf pg pn rt rn (nI cd) sn (nI il) tk am at_ aa 0 0 (-1) wt wy 0 (nI rm) (nI ud) (nI nu) sd (nI qn) (nI qw) qo (nI qb) (nI qp) qa (nI qi) (nI oc)), ra_I (g 24) cI 6 (l6 u0 u1 u2 u3 u4 u5), ra_I (g 25) cI 6 (l6 v0 v1 v2 v3 v4 v5), ra_N (g 26) cI 3200 cs, ra_I (g 31) cI 120 nw, ra_N (g 46) cI 9 pt, ra_J (g 86) cJ 1700 ql, ra_I (g 20) cI 4 (l4 (nI l0) (nI l1) (nI dm) (nI l3)), ra_I (g 38) cI 90 ws_, ra_I (g 36) cZ 900 yw, ra_I (g 37) cZ 900 yo, ra_J (g 43) cJ 90 be, ra_J (g 44) cJ 90 bf, ra_I (g 53) cI 32 rw_] (skI D (skT cI cJ cC cZ cS) (fun (r : Int32) (u : va_W) => ∃ (tk2 : Int32), ∃ (qp2 : Nat), ∃ (am2 : Int32), ∃ (at_2 : Int32), ∃ (aa2 : Int32), ∃ (wy2 : Int64), ∃ (wt2 : Int32), ∃ (ql2 : Nat → Int64), ∃ (ws_2 : Nat → Int32), ∃ (yw2 : Nat → Int32), ∃ (yo2 : Nat → Int32), ∃ (be2 : Nat → Int64), ∃ (bf2 : Nat → Int64), u = [ro_ mm 12 (mo g (nI ta) (nI pa) (nI pe) pd (nI pb) pp pf pg pn rt rn (nI cd) sn (nI il) tk2 am2 at_2 aa2 0 0 (-1) wt2 wy2 0 (nI rm) (nI ud) (nI nu) sd (nI qn) (nI qw) qo (nI qb) (nI qp2) qa (nI qi) (nI oc)), ra_I (g 24) cI 6 (l6 u0 u1 u2 u3 u4 u5), ra_I (g 25) cI 6 (l6 v0 v1 v2 v3 v4 v5), ra_N (g 26) cI 3200 cs, ra_I (g 31) cI 120 nw, ra_N (g 46) cI 9 pt, ra_J (g 86) cJ 1700 ql2, ra_I (g 20) cI 4 (l4 (nI l0) (nI l1) (nI dm) (nI l3)), ra_I (g 38) cI 90 ws_2, ra_I (g 36) cZ 900 yw2, ra_I (g 37) cZ 900 yo2, ra_J (g 43) cJ 90 be2, ra_J (g 44) cJ 90 bf2, ra_I (g 53) cI 32 rw_])) := by
  refine skM_of pf_X12_sure (Nat.le_of_ble_eq_true rfl) ?_
  intro p e s m below meth c A ls E hP hD hl
  refine skE_el E (fun hx hb hr hml hlocks hin hown hts hK hA => ?_)
  have hown : s.vm.findClass RX12 = some m.cls := hown
  have hS : va_S A s.heap s.heap [] := va_S.rf
  have hl : lv_has ls 5 [(0, .ref mm), (1, .int d), (2, .int w)] := hl
  refine lv_aload_n hx hb dX12_sure_0 rfl (lv_at hl 0 rfl) ?_
  refine lv_iload_n hx hb dX12_sure_1 rfl (lv_at hl 1 rfl) ?_
  refine lv_iload_n hx hb dX12_sure_2 rfl (lv_at hl 2 rfl) ?_
  refine sk_Vi (q0 := 0) (n := 2) (rest := []) (wr := fmR om_14_2240 _) ⟨hx, hb, hml, hown, hts⟩ hl.1 (c_m_canBeTold l D cI cJ cC cZ cS mm g ta pa pe pd pb pp pf pg pn rt rn cd sn il tk am at_ aa wt wy rm ud nu sd qn qw qo qb qp qa qi oc d w l0 l1 dm l3 nw hdm hnw) w_8_77 w_8_79 w_0_101 w_1_14 w_8_80 hd_X12_canBeTold_2 ⟨⟨(Nat.le_of_ble_eq_true rfl), (Nat.le_of_ble_eq_true rfl)⟩, (Nat.le_of_ble_eq_true rfl), (Nat.le_of_ble_eq_true rfl)⟩ hK hP hD hS hA [0, 7, 4] (fmF om_14_2240 0) rfl (fm_R rfl rfl) (by decide +kernel) (fm_nF om_14_2240 0) (by decide +kernel) rfl rfl rfl rfl (Nat.le_of_ble_eq_true rfl) dX12_sure_3 (fun r_2 u H locs hw hP hD hS => ?_)
  refine exE hw (fun b_1 hw1 => anE hw1 (fun hb1_3 hw2 => anE hw2 (fun er_5 eu_4 => ?_)))
  clear hw hw1 hw2
  subst er_5
  refine o_mgqE (ux := [ro_ mm 12 (mo g (nI ta) (nI pa) (nI pe) pd (nI pb) pp pf pg pn rt rn (nI cd) sn (nI il) tk am at_ aa 0 0 (-1) wt wy 0 (nI rm) (nI ud) (nI nu) sd (nI qn) (nI qw) qo (nI qb) (nI qp) qa (nI qi) (nI oc)), ra_I (g 31) cI 120 nw, ra_I (g 20) cI 4 (l4 (nI l0) (nI l1) (nI dm) (nI l3))]) (ws' := [ro_ mm 12 (mo g (nI ta) (nI pa) (nI pe) pd (nI pb) pp pf pg pn rt rn (nI cd) sn (nI il) tk am at_ aa 0 0 (-1) wt wy 0 (nI rm) (nI ud) (nI nu) sd (nI qn) (nI qw) qo (nI qb) (nI qp) qa (nI qi) (nI oc)), ra_I (g 24) cI 6 (l6 u0 u1 u2 u3 u4 u5), ra_I (g 25) cI 6 (l6 v0 v1 v2 v3 v4 v5), ra_N (g 26) cI 3200 cs, ra_I (g 31) cI 120 nw, ra_N (g 46) cI 9 pt, ra_J (g 86) cJ 1700 ql, ra_I (g 20) cI 4 (l4 (nI l0) (nI l1) (nI dm) (nI l3)), ra_I (g 38) cI 90 ws_, ra_I (g 36) cZ 900 yw, ra_I (g 37) cZ 900 yo, ra_J (g 43) cJ 90 be, ra_J (g 44) cJ 90 bf, ra_I (g 53) cI 32 rw_]) eu_4 [0, 2, 1] (by decide +kernel) rfl hP hD rfl (fun hP hD => ?_)
  refine lv_if_ne (tgt := 11) hx hb dX12_sure_6 (by decide) (fun c_6 => ?_) (fun c_6 => ?_)
  · have c_6 : ¬ (b_1 = 0) := fun h => c_6 ((neq b_1 0 (by omega) (Nat.le_of_ble_eq_true rfl)).mpr h)
    obtain ⟨kd_7, hkd_7, rfl⟩ := (hb1_3.resolve_left (by omega)).2
    refine lv_aload_n hx hb dX12_sure_11 rfl (lv_at hl 0 rfl) ?_
    refine lv_iload_n hx hb dX12_sure_12 rfl (lv_at hl 1 rfl) ?_
    refine lv_iload_n hx hb dX12_sure_13 rfl (lv_at hl 2 rfl) ?_
    refine sk_Vv (q0 := 0) (n := 2) (rest := []) (wr := fmR om_14_3fff _) ⟨hx, hb, hml, hown, hts⟩ hl.1 (c_m_laysByWord l D cI cJ cC cZ cS mm g ta pa pe pd pb pp pf pg pn rt rn cd sn il tk am at_ aa wt wy rm ud nu sd qn qw qo qb qp qa qi oc (nI kd_7) w u0 u1 u2 u3 u4 u5 v0 v1 v2 v3 v4 v5 cs nw pt ql l0 l1 dm l3 ws_ yw yo be bf rw_ hdm (by omega) hp0 hp1 hp2 hrm hcs hnw hpt) w_8_81 w_8_83 w_0_102 w_1_14 w_8_84 hd_X12_laysByWord_2 ⟨⟨(Nat.le_of_ble_eq_true rfl), (Nat.le_of_ble_eq_true rfl)⟩, (Nat.le_of_ble_eq_true rfl), (Nat.le_of_ble_eq_true rfl)⟩ hK hP hD hS hA (fmT om_14_3fff 0) (fmF om_14_3fff 0) (fm_C1 rfl rfl) (fm_R rfl rfl) (fm_nT om_14_3fff 0) (fm_nF om_14_3fff 0) (fm_di om_14_3fff 0) rfl rfl rfl rfl (Nat.le_of_ble_eq_true rfl) dX12_sure_14 (fun u H locs hw hP hD hS => ?_)
    refine exE hw (fun tk2_8 hw1 => exE hw1 (fun qp2_9 hw2 => exE hw2 (fun am2_10 hw3 => exE hw3 (fun at_2_11 hw4 => exE hw4 (fun aa2_12 hw5 => exE hw5 (fun wy2_13 hw6 => exE hw6 (fun wt2_14 hw7 => exE hw7 (fun ql2_15 hw8 => exE hw8 (fun ws_2_16 hw9 => exE hw9 (fun yw2_17 hw10 => exE hw10 (fun yo2_18 hw11 => exE hw11 (fun be2_19 hw12 => exE hw12 (fun bf2_20 eu_21 => ?_)))))))))))))
    clear hw hw1 hw2 hw3 hw4 hw5 hw6 hw7 hw8 hw9 hw10 hw11 hw12
    refine o_mgE (ws' := [ro_ mm 12 (mo g (nI ta) (nI pa) (nI pe) pd (nI pb) pp pf pg pn rt rn (nI cd) sn (nI il) tk2_8 am2_10 at_2_11 aa2_12 0 0 (-1) wt2_14 wy2_13 0 (nI rm) (nI ud) (nI nu) sd (nI qn) (nI qw) qo (nI qb) (nI qp2_9) qa (nI qi) (nI oc)), ra_I (g 24) cI 6 (l6 u0 u1 u2 u3 u4 u5), ra_I (g 25) cI 6 (l6 v0 v1 v2 v3 v4 v5), ra_N (g 26) cI 3200 cs, ra_I (g 31) cI 120 nw, ra_N (g 46) cI 9 pt, ra_J (g 86) cJ 1700 ql2_15, ra_I (g 20) cI 4 (l4 (nI l0) (nI l1) (nI dm) (nI l3)), ra_I (g 38) cI 90 ws_2_16, ra_I (g 36) cZ 900 yw2_17, ra_I (g 37) cZ 900 yo2_18, ra_J (g 43) cJ 90 be2_19, ra_J (g 44) cJ 90 bf2_20, ra_I (g 53) cI 32 rw_]) eu_21 hP hD rfl (fun hP hD => ?_)
    refine lv_aload_n hx hb dX12_sure_17 rfl (lv_at hl 0 rfl) ?_
    refine sk_get (v := .long wy2_13) (C := RX12) (T := TX12) (N := 92) hx hb hts inlX12 hown hK hP 0 rfl rfl 45 (Nat.le_of_ble_eq_true rfl) w_5_200 rfl dX12_sure_18 ?_
    refine lv_lconst (v := 0) hx hb dX12_sure_21 (by decide) ?_
    refine W.lcmp hx hb dX12_sure_22 ?_
    refine lv_if_ne (tgt := 28) hx hb dX12_sure_23 (by decide) (fun c_22 => ?_) (fun c_22 => ?_)
    · skip
      refine lv_iconst (v := 0) hx hb dX12_sure_28 ic_0 ?_
      refine lv_istore_n (lv' := [(3, .int 0), (0, .ref mm), (1, .int (nI kd_7)), (2, .int w)]) hx hb dX12_sure_29 rfl hl (by decide) rfl (fun ls hl => ?_)
      refine lv_iload_n hx hb dX12_sure_30 rfl (lv_at hl 2 rfl) ?_
      refine lv_istore (lv' := [(4, .int (nI kd_7)), (3, .int 0), (0, .ref mm), (1, .int (nI kd_7)), (2, .int w)]) hx hb dX12_sure_31 hl (by decide) rfl (fun ls hl => ?_)
      have lp_23 : ∀ (n_24 : Nat) (i : Nat) (nn : Int32) (H : Heap) (locs : List Loc) (ls : Array Slot), 10 - i < n_24 → (i ≤ dm) → va_P D vwCl [ro_ mm 12 (mo g (nI ta) (nI pa) (nI pe) pd (nI pb) pp pf pg pn rt rn (nI cd) sn (nI il) tk2_8 am2_10 at_2_11 aa2_12 0 0 (-1) wt2_14 wy2_13 0 (nI rm) (nI ud) (nI nu) sd (nI qn) (nI qw) qo (nI qb) (nI qp2_9) qa (nI qi) (nI oc)), ra_I (g 24) cI 6 (l6 u0 u1 u2 u3 u4 u5), ra_I (g 25) cI 6 (l6 v0 v1 v2 v3 v4 v5), ra_N (g 26) cI 3200 cs, ra_I (g 31) cI 120 nw, ra_N (g 46) cI 9 pt, ra_J (g 86) cJ 1700 ql2_15, ra_I (g 20) cI 4 (l4 (nI l0) (nI l1) (nI dm) (nI l3)), ra_I (g 38) cI 90 ws_2_16, ra_I (g 36) cZ 900 yw2_17, ra_I (g 37) cZ 900 yo2_18, ra_J (g 43) cJ 90 be2_19, ra_J (g 44) cJ 90 bf2_20, ra_I (g 53) cI 32 rw_] H → va_D A [ro_ mm 12 (mo g (nI ta) (nI pa) (nI pe) pd (nI pb) pp pf pg pn rt rn (nI cd) sn (nI il) tk2_8 am2_10 at_2_11 aa2_12 0 0 (-1) wt2_14 wy2_13 0 (nI rm) (nI ud) (nI nu) sd (nI qn) (nI qw) qo (nI qb) (nI qp2_9) qa (nI qi) (nI oc)), ra_I (g 24) cI 6 (l6 u0 u1 u2 u3 u4 u5), ra_I (g 25) cI 6 (l6 v0 v1 v2 v3 v4 v5), ra_N (g 26) cI 3200 cs, ra_I (g 31) cI 120 nw, ra_N (g 46) cI 9 pt, ra_J (g 86) cJ 1700 ql2_15, ra_I (g 20) cI 4 (l4 (nI l0) (nI l1) (nI dm) (nI l3)), ra_I (g 38) cI 90 ws_2_16, ra_I (g 36) cZ 900 yw2_17, ra_I (g 37) cZ 900 yo2_18, ra_J (g 43) cJ 90 be2_19, ra_J (g 44) cJ 90 bf2_20, ra_I (g 53) cI 32 rw_] → va_S A s.heap H locs → lv_has ls 5 [(4, .int (nI i)), (3, .int nn), (0, .ref mm), (1, .int (nI kd_7)), (2, .int w)] → W p l e { frames := 6, cells := 0, slots := 0, locals := 144 } s m ([.ref mm, .int (nI kd_7), .int w] : List Value).toArray below meth c H locs 0 0 (MQ below (skI D (skT cI cJ cC cZ cS) (fun (r : Int32) (u : va_W) => ∃ (tk2 : Int32), ∃ (qp2 : Nat), ∃ (am2 : Int32), ∃ (at_2 : Int32), ∃ (aa2 : Int32), ∃ (wy2 : Int64), ∃ (wt2 : Int32), ∃ (ql2 : Nat → Int64), ∃ (ws_2 : Nat → Int32), ∃ (yw2 : Nat → Int32), ∃ (yo2 : Nat → Int32), ∃ (be2 : Nat → Int64), ∃ (bf2 : Nat → Int64), u = [ro_ mm 12 (mo g (nI ta) (nI pa) (nI pe) pd (nI pb) pp pf pg pn rt rn (nI cd) sn (nI il) tk2 am2 at_2 aa2 0 0 (-1) wt2 wy2 0 (nI rm) (nI ud) (nI nu) sd (nI qn) (nI qw) qo (nI qb) (nI qp2) qa (nI qi) (nI oc)), ra_I (g 24) cI 6 (l6 u0 u1 u2 u3 u4 u5), ra_I (g 25) cI 6 (l6 v0 v1 v2 v3 v4 v5), ra_N (g 26) cI 3200 cs, ra_I (g 31) cI 120 nw, ra_N (g 46) cI 9 pt, ra_J (g 86) cJ 1700 ql2, ra_I (g 20) cI 4 (l4 (nI l0) (nI l1) (nI dm) (nI l3)), ra_I (g 38) cI 90 ws_2, ra_I (g 36) cZ 900 yw2, ra_I (g 37) cZ 900 yo2, ra_J (g 43) cJ 90 be2, ra_J (g 44) cJ 90 bf2, ra_I (g 53) cI 32 rw_]) A) ([.ref mm, .int (nI kd_7), .int w] : List Value).toArray s 0 0 A) (F0 m 33 ls []) := by
        intro n_24
        induction n_24 with
        | zero => intro i nn H locs ls hm; exact absurd hm (Nat.not_lt_zero _)
        | succ n_24 ih_lp_23 =>
          intro i nn H locs ls hm hi hP hD hS hl
          refine lv_iload hx hb dX12_sure_33 (lv_at hl 0 rfl) ?_
          refine lv_aload_n hx hb dX12_sure_35 rfl (lv_at hl 2 rfl) ?_
          refine sk_Vi (q0 := 0) (n := 0) (rest := [.int (nI i)]) (wr := fmR om_14_2040 _) ⟨hx, hb, hml, hown, hts⟩ hl.1 (c_m_dayMany l D cI cJ cC cZ cS mm g ta pa pe pd pb pp pf pg pn rt rn cd sn il tk2_8 am2_10 at_2_11 aa2_12 0 0 (-1) wt2_14 wy2_13 0 rm ud nu sd qn qw qo qb qp2_9 qa qi oc l0 l1 dm l3) w_7_98 w_7_100 w_0_69 w_1_14 w_7_101 hd_X12_dayMany_0 ⟨⟨(Nat.le_of_ble_eq_true rfl), (Nat.le_of_ble_eq_true rfl)⟩, (Nat.le_of_ble_eq_true rfl), (Nat.le_of_ble_eq_true rfl)⟩ hK hP hD hS hA (fmT om_14_2040 0) (fmF om_14_2040 0) (fm_C1 rfl rfl) (fm_R rfl rfl) (fm_nT om_14_2040 0) (fm_nF om_14_2040 0) (fm_di om_14_2040 0) rfl rfl rfl rfl (Nat.le_of_ble_eq_true rfl) dX12_sure_36 (fun r_25 u H locs hw hP hD hS => ?_)
          refine anE hw (fun er_27 eu_26 => ?_)
          clear hw
          subst er_27
          refine o_mgE (ws' := [ro_ mm 12 (mo g (nI ta) (nI pa) (nI pe) pd (nI pb) pp pf pg pn rt rn (nI cd) sn (nI il) tk2_8 am2_10 at_2_11 aa2_12 0 0 (-1) wt2_14 wy2_13 0 (nI rm) (nI ud) (nI nu) sd (nI qn) (nI qw) qo (nI qb) (nI qp2_9) qa (nI qi) (nI oc)), ra_I (g 24) cI 6 (l6 u0 u1 u2 u3 u4 u5), ra_I (g 25) cI 6 (l6 v0 v1 v2 v3 v4 v5), ra_N (g 26) cI 3200 cs, ra_I (g 31) cI 120 nw, ra_N (g 46) cI 9 pt, ra_J (g 86) cJ 1700 ql2_15, ra_I (g 20) cI 4 (l4 (nI l0) (nI l1) (nI dm) (nI l3)), ra_I (g 38) cI 90 ws_2_16, ra_I (g 36) cZ 900 yw2_17, ra_I (g 37) cZ 900 yo2_18, ra_J (g 43) cJ 90 be2_19, ra_J (g 44) cJ 90 bf2_20, ra_I (g 53) cI 32 rw_]) eu_26 hP hD rfl (fun hP hD => ?_)
          refine lv_icmp_ge (tgt := 64) hx hb dX12_sure_39 (by decide) (fun c_28 => ?_) (fun c_28 => ?_)
          · have c_28 : dm ≤ i := (nle dm i (by omega) (by omega)).mp c_28
            refine lv_iload_n hx hb dX12_sure_64 rfl (lv_at hl 1 rfl) ?_
            exact sk_iret hx hb hr rfl hlocks hK hP hD hS (⟨tk2_8, qp2_9, am2_10, at_2_11, aa2_12, wy2_13, wt2_14, ql2_15, ws_2_16, yw2_17, yo2_18, be2_19, bf2_20, rfl⟩) (Nat.le_of_ble_eq_true rfl) (Nat.le_of_ble_eq_true rfl) dX12_sure_65
          · have c_28 : ¬ (dm ≤ i) := fun h => c_28 ((nle dm i (by omega) (by omega)).mpr h)
            refine lv_aload_n hx hb dX12_sure_42 rfl (lv_at hl 2 rfl) ?_
            refine lv_iload hx hb dX12_sure_43 (lv_at hl 0 rfl) ?_
            refine sk_Vi (q0 := 0) (n := 1) (rest := []) (wr := fmR om_14_2006 _) ⟨hx, hb, hml, hown, hts⟩ hl.1 (c_m_moodsOf l D cI cJ cC cZ cS mm g ta pa pe pd pb pp pf pg pn rt rn cd sn il tk2_8 am2_10 at_2_11 aa2_12 wt2_14 wy2_13 rm ud nu sd qn qw qo qb qp2_9 qa qi oc i be2_19 bf2_20 (by omega)) w_8_85 w_8_87 w_0_103 w_1_14 w_8_88 hd_X12_moodsOf_1 ⟨⟨(Nat.le_of_ble_eq_true rfl), (Nat.le_of_ble_eq_true rfl)⟩, (Nat.le_of_ble_eq_true rfl), (Nat.le_of_ble_eq_true rfl)⟩ hK hP hD hS hA (fmT om_14_2006 0) (fmF om_14_2006 0) (fm_C1 rfl rfl) (fm_R rfl rfl) (fm_nT om_14_2006 0) (fm_nF om_14_2006 0) (fm_di om_14_2006 0) rfl rfl rfl rfl (Nat.le_of_ble_eq_true rfl) dX12_sure_45 (fun r_29 u H locs hw hP hD hS => ?_)
            refine o_mgE (ws' := [ro_ mm 12 (mo g (nI ta) (nI pa) (nI pe) pd (nI pb) pp pf pg pn rt rn (nI cd) sn (nI il) tk2_8 am2_10 at_2_11 aa2_12 0 0 (-1) wt2_14 wy2_13 0 (nI rm) (nI ud) (nI nu) sd (nI qn) (nI qw) qo (nI qb) (nI qp2_9) qa (nI qi) (nI oc)), ra_I (g 24) cI 6 (l6 u0 u1 u2 u3 u4 u5), ra_I (g 25) cI 6 (l6 v0 v1 v2 v3 v4 v5), ra_N (g 26) cI 3200 cs, ra_I (g 31) cI 120 nw, ra_N (g 46) cI 9 pt, ra_J (g 86) cJ 1700 ql2_15, ra_I (g 20) cI 4 (l4 (nI l0) (nI l1) (nI dm) (nI l3)), ra_I (g 38) cI 90 ws_2_16, ra_I (g 36) cZ 900 yw2_17, ra_I (g 37) cZ 900 yo2_18, ra_J (g 43) cJ 90 be2_19, ra_J (g 44) cJ 90 bf2_20, ra_I (g 53) cI 32 rw_]) hw hP hD rfl (fun hP hD => ?_)
            refine sk_Si (n := 1) (rest := []) (wr := [ro_ mm 12 (mo g (nI ta) (nI pa) (nI pe) pd (nI pb) pp pf pg pn rt rn (nI cd) sn (nI il) tk2_8 am2_10 at_2_11 aa2_12 0 0 (-1) wt2_14 wy2_13 0 (nI rm) (nI ud) (nI nu) sd (nI qn) (nI qw) qo (nI qb) (nI qp2_9) qa (nI qi) (nI oc)), ra_I (g 24) cI 6 (l6 u0 u1 u2 u3 u4 u5), ra_I (g 25) cI 6 (l6 v0 v1 v2 v3 v4 v5), ra_N (g 26) cI 3200 cs, ra_I (g 31) cI 120 nw, ra_N (g 46) cI 9 pt, ra_J (g 86) cJ 1700 ql2_15, ra_I (g 20) cI 4 (l4 (nI l0) (nI l1) (nI dm) (nI l3)), ra_I (g 38) cI 90 ws_2_16, ra_I (g 36) cZ 900 yw2_17, ra_I (g 37) cZ 900 yo2_18, ra_J (g 43) cJ 90 be2_19, ra_J (g 44) cJ 90 bf2_20, ra_I (g 53) cI 32 rw_]) ⟨hx, hb, hml, hown, hts⟩ hl.1 (c_m_bits l D cI cJ cC cZ cS r_29) w_7_110 w_7_111 w_1_14 w_7_112 hd_X12_bits_1 ⟨⟨(Nat.le_of_ble_eq_true rfl), (Nat.le_of_ble_eq_true rfl)⟩, (Nat.le_of_ble_eq_true rfl), (Nat.le_of_ble_eq_true rfl)⟩ hK hP hD hS hA [] [0, 1, 2, 3, 4, 5, 6, 7, 8, 9, 10, 11, 12, 13] rfl rfl (by decide +kernel) (by decide +kernel) (by decide +kernel) rfl rfl (Nat.le_of_ble_eq_true rfl) dX12_sure_48 (fun r_30 u H locs hw hP hD hS => ?_)
            obtain rfl := hw
            refine o_re (ws' := [ro_ mm 12 (mo g (nI ta) (nI pa) (nI pe) pd (nI pb) pp pf pg pn rt rn (nI cd) sn (nI il) tk2_8 am2_10 at_2_11 aa2_12 0 0 (-1) wt2_14 wy2_13 0 (nI rm) (nI ud) (nI nu) sd (nI qn) (nI qw) qo (nI qb) (nI qp2_9) qa (nI qi) (nI oc)), ra_I (g 24) cI 6 (l6 u0 u1 u2 u3 u4 u5), ra_I (g 25) cI 6 (l6 v0 v1 v2 v3 v4 v5), ra_N (g 26) cI 3200 cs, ra_I (g 31) cI 120 nw, ra_N (g 46) cI 9 pt, ra_J (g 86) cJ 1700 ql2_15, ra_I (g 20) cI 4 (l4 (nI l0) (nI l1) (nI dm) (nI l3)), ra_I (g 38) cI 90 ws_2_16, ra_I (g 36) cZ 900 yw2_17, ra_I (g 37) cZ 900 yo2_18, ra_J (g 43) cJ 90 be2_19, ra_J (g 44) cJ 90 bf2_20, ra_I (g 53) cI 32 rw_]) hP hD rfl (fun hP hD => ?_)
            refine lv_iconst (v := 1) hx hb dX12_sure_51 ic_1 ?_
            refine lv_icmp_ne (tgt := 64) hx hb dX12_sure_52 (by decide) (fun c_31 => ?_) (fun c_31 => ?_)
            · skip
              refine lv_iload_n hx hb dX12_sure_64 rfl (lv_at hl 1 rfl) ?_
              exact sk_iret hx hb hr rfl hlocks hK hP hD hS (⟨tk2_8, qp2_9, am2_10, at_2_11, aa2_12, wy2_13, wt2_14, ql2_15, ws_2_16, yw2_17, yo2_18, be2_19, bf2_20, rfl⟩) (Nat.le_of_ble_eq_true rfl) (Nat.le_of_ble_eq_true rfl) dX12_sure_65
            · skip
              refine lv_iinc (v := nn + 1) (lv' := [(3, .int (nn + 1)), (4, .int (nI i)), (0, .ref mm), (1, .int (nI kd_7)), (2, .int w)]) hx hb dX12_sure_55 hl (k := 1) rfl rfl (by decide) rfl (fun ls hl => ?_)
              refine lv_iinc (v := nI (i + 1)) (lv' := [(4, .int (nI (i + 1))), (3, .int (nn + 1)), (0, .ref mm), (1, .int (nI kd_7)), (2, .int w)]) hx hb dX12_sure_58 hl (k := 1) rfl (ninc i 1 (by decide)) (by decide) rfl (fun ls hl => ?_)
              refine lv_goto (tgt := 33) hx hb dX12_sure_61 (by decide) ?_
              exact ih_lp_23 (i + 1) (nn + 1) _ _ _ (by omega) (by omega) hP hD hS (lv_sub hl [0, 1, 2, 3, 4] rfl)
      exact lp_23 (10 - kd_7 + 1) kd_7 0 _ _ _ (Nat.lt_succ_self _) (by omega) hP hD hS (lv_sub hl [0, 1, 2, 3, 4] rfl)
    · skip
      refine lv_iconst (v := (-1)) hx hb dX12_sure_26 (by decide) ?_
      exact sk_iret hx hb hr rfl hlocks hK hP hD hS (⟨tk2_8, qp2_9, am2_10, at_2_11, aa2_12, wy2_13, wt2_14, ql2_15, ws_2_16, yw2_17, yo2_18, be2_19, bf2_20, rfl⟩) (Nat.le_of_ble_eq_true rfl) (Nat.le_of_ble_eq_true rfl) dX12_sure_27
  · have c_6 : b_1 = 0 := (neq b_1 0 (by omega) (Nat.le_of_ble_eq_true rfl)).mp c_6
    refine lv_iconst (v := (-1)) hx hb dX12_sure_9 (by decide) ?_
    exact sk_iret hx hb hr rfl hlocks hK hP hD hS (⟨tk, qp, am, at_, aa, wy, wt, ql, ws_, yw, yo, be, bf, rfl⟩) (Nat.le_of_ble_eq_true rfl) (Nat.le_of_ble_eq_true rfl) dX12_sure_10
theorem dg_X12_refuses_0_0 : bqL cX12_refuses 0 [(0, [42]), (1, [180, 0, 17]), (4, [27]), (5, [92]), (6, [46]), (7, [4]), (8, [96]), (9, [79]), (10, [2]), (11, [172])] = true := by decide +kernel
theorem dX12_refuses_0 : decode cX12_refuses 0 = .ok (.aload_n 0, 1) := q_aload_n0 (bat_get dg_X12_refuses_0_0 0 rfl rfl)
theorem dX12_refuses_1 : decode cX12_refuses 1 = .ok (.getfield 17, 3) := q_getfield (bat_get dg_X12_refuses_0_0 1 rfl rfl) rfl
theorem dX12_refuses_4 : decode cX12_refuses 4 = .ok (.iload_n 1, 1) := q_iload_n1 (bat_get dg_X12_refuses_0_0 2 rfl rfl)
theorem dX12_refuses_5 : decode cX12_refuses 5 = .ok (.dup2, 1) := q_dup2 (bat_get dg_X12_refuses_0_0 3 rfl rfl)
theorem dX12_refuses_6 : decode cX12_refuses 6 = .ok (.iaload, 1) := q_iaload (bat_get dg_X12_refuses_0_0 4 rfl rfl)
theorem dX12_refuses_7 : decode cX12_refuses 7 = .ok (.iconst 1, 1) := q_iconst1 (bat_get dg_X12_refuses_0_0 5 rfl rfl)
theorem dX12_refuses_8 : decode cX12_refuses 8 = .ok (.iadd, 1) := q_iadd (bat_get dg_X12_refuses_0_0 6 rfl rfl)
theorem dX12_refuses_9 : decode cX12_refuses 9 = .ok (.iastore, 1) := q_iastore (bat_get dg_X12_refuses_0_0 7 rfl rfl)
theorem dX12_refuses_10 : decode cX12_refuses 10 = .ok (.iconst (-1), 1) := q_iconstm1 (bat_get dg_X12_refuses_0_0 8 rfl rfl)
theorem dX12_refuses_11 : decode cX12_refuses 11 = .ok (.ireturn, 1) := q_ireturn (bat_get dg_X12_refuses_0_0 9 rfl rfl)
theorem w_5_164 : (Cond.fieldLink RX12 17 "SameKeeperModel" "refused" "[I") ∈ wsL_law := sk_mem (ck_5 _ (List.mem_of_getElem? (i := 164) rfl)) rfl
theorem w_8_100 : (Cond.code yX12_refuses cX12_refuses 2 (some .int)) ∈ wsL_law := sk_mem (ck_8 _ (List.mem_of_getElem? (i := 100) rfl)) rfl
theorem dg_X12_heard_0_0 : bqL cX12_heard 0 [(0, [42]), (1, [180, 1, 46]), (4, [154, 0, 7]), (11, [42]), (12, [182, 1, 210]), (15, [42]), (16, [180, 1, 126]), (19, [173]), (7, [20, 1, 165]), (10, [173])] = true := by decide +kernel
theorem dX12_heard_0 : decode cX12_heard 0 = .ok (.aload_n 0, 1) := q_aload_n0 (bat_get dg_X12_heard_0_0 0 rfl rfl)
theorem dX12_heard_1 : decode cX12_heard 1 = .ok (.getfield 302, 3) := q_getfield (bat_get dg_X12_heard_0_0 1 rfl rfl) rfl
theorem dX12_heard_4 : decode cX12_heard 4 = .ok (.ifCond .ne 7, 3) := q_ifCond_ne (bat_get dg_X12_heard_0_0 2 rfl rfl) rfl
theorem dX12_heard_11 : decode cX12_heard 11 = .ok (.aload_n 0, 1) := q_aload_n0 (bat_get dg_X12_heard_0_0 3 rfl rfl)
theorem dX12_heard_12 : decode cX12_heard 12 = .ok (.invokevirtual 466, 3) := q_invokevirtual (bat_get dg_X12_heard_0_0 4 rfl rfl) rfl
theorem dX12_heard_15 : decode cX12_heard 15 = .ok (.aload_n 0, 1) := q_aload_n0 (bat_get dg_X12_heard_0_0 5 rfl rfl)
theorem dX12_heard_16 : decode cX12_heard 16 = .ok (.getfield 382, 3) := q_getfield (bat_get dg_X12_heard_0_0 6 rfl rfl) rfl
theorem dX12_heard_19 : decode cX12_heard 19 = .ok (.lreturn, 1) := q_lreturn (bat_get dg_X12_heard_0_0 7 rfl rfl)
theorem dX12_heard_7 : decode cX12_heard 7 = .ok (.ldc2_w 421, 3) := q_ldc2_w (bat_get dg_X12_heard_0_0 8 rfl rfl) rfl
theorem dX12_heard_10 : decode cX12_heard 10 = .ok (.lreturn, 1) := q_lreturn (bat_get dg_X12_heard_0_0 9 rfl rfl)
theorem w_8_105 : (Cond.methodLink RX12 466 yX12_laysHeard) ∈ wsL_law := sk_mem (ck_8 _ (List.mem_of_getElem? (i := 105) rfl)) rfl
theorem w_8_107 : (Cond.instanceMethod yX12_laysHeard) ∈ wsL_law := sk_mem (ck_8 _ (List.mem_of_getElem? (i := 107) rfl)) rfl
theorem w_0_105 : (Cond.selects RX12 yX12_laysHeard yX12_laysHeard) ∈ wsL_law := sk_mem (ck_0 _ (List.mem_of_getElem? (i := 105) rfl)) rfl
theorem w_8_104 : (Cond.code yX12_heard cX12_heard 1 (some .long)) ∈ wsL_law := sk_mem (ck_8 _ (List.mem_of_getElem? (i := 104) rfl)) rfl
theorem hd_X12_laysHeard_0 : skD yX12_laysHeard 0 := by decide +kernel
set_option maxHeartbeats 4000000 in
set_option maxRecDepth 100000 in
theorem c_m_heard (l : Launch) (D : va_G) (cI cJ cC cZ cS : ClassId) (mm : Nat) (g : Nat → Nat) (ta : Nat) (pa : Nat) (pe : Nat) (pd : Int32) (pb : Nat) (pp : Int32) (pf : Int32) (pg : Int32) (pn : Int32) (rt : Int32) (rn : Int32) (cd : Nat) (sn : Int32) (il : Nat) (tk : Int32) (am : Int32) (at_ : Int32) (aa : Int32) (wt : Int32) (wy : Int64) (rm : Nat) (ud : Nat) (nu : Nat) (sd : Int64) (qn : Nat) (qw : Nat) (qo : Int32) (qb : Nat) (qp : Nat) (qa : Int64) (qi : Nat) (oc : Nat) (u0 : Int32) (u1 : Int32) (u2 : Int32) (u3 : Int32) (u4 : Int32) (u5 : Int32) (v0 : Int32) (v1 : Int32) (v2 : Int32) (v3 : Int32) (v4 : Int32) (v5 : Int32) (cs : Nat → Nat) (nw : Nat → Int32) (pt : Nat → Nat) (ql : Nat → Int64) (l0 : Nat) (l1 : Nat) (dm : Nat) (l3 : Nat) (ws_ : Nat → Int32) (yw : Nat → Int32) (yo : Nat → Int32) (be : Nat → Int64) (bf : Nat → Int64) (rw_ : Nat → Int32) (hil : il ≤ 1) (hild : il = 1 → 1 ≤ dm) (hdm : dm ≤ 9) (hp0 : progOk cs u3 v3) (hp1 : progOk cs u4 v4) (hp2 : progOk cs u5 v5) (hrm : rm ≤ 16) (hcs : ∀ j, cs j ≤ 20000) (hnw : nowOk nw) (hpt : ∀ j, pt j ≤ 9) : skM l yX12_heard cX12_heard 1 (some .long) 6 142 0 0 D (skT cI cJ cC cZ cS) [.ref mm] [ro_ mm 12 (mo g (nI ta) (nI pa) (nI pe) pd (nI pb) pp pf pg pn rt rn (nI cd) sn (nI il) tk am at_ aa 0 0 (-1) wt wy 0 (nI rm) (nI ud) (nI nu) sd (nI qn) (nI qw) qo (nI qb) (nI qp) qa (nI qi) (nI oc)), ra_I (g 24) cI 6 (l6 u0 u1 u2 u3 u4 u5), ra_I (g 25) cI 6 (l6 v0 v1 v2 v3 v4 v5), ra_N (g 26) cI 3200 cs, ra_I (g 31) cI 120 nw, ra_N (g 46) cI 9 pt, ra_J (g 86) cJ 1700 ql, ra_I (g 20) cI 4 (l4 (nI l0) (nI l1) (nI dm) (nI l3)), ra_I (g 38) cI 90 ws_, ra_I (g 36) cZ 900 yw, ra_I (g 37) cZ 900 yo, ra_J (g 43) cJ 90 be, ra_J (g 44) cJ 90 bf, ra_I (g 53) cI 32 rw_] (skL D (skT cI cJ cC cZ cS) (fun (r : Int64) (u : va_W) => ∃ (tk2 : Int32), ∃ (qp2 : Nat), ∃ (am2 : Int32), ∃ (at_2 : Int32), ∃ (aa2 : Int32), ∃ (wy2 : Int64), ∃ (ql2 : Nat → Int64), ∃ (ws_2 : Nat → Int32), ∃ (yw2 : Nat → Int32), ∃ (yo2 : Nat → Int32), ∃ (be2 : Nat → Int64), ∃ (bf2 : Nat → Int64), u = [ro_ mm 12 (mo g (nI ta) (nI pa) (nI pe) pd (nI pb) pp pf pg pn rt rn (nI cd) sn (nI il) tk2 am2 at_2 aa2 0 0 (-1) wt wy2 0 (nI rm) (nI ud) (nI nu) sd (nI qn) (nI qw) qo (nI qb) (nI qp2) qa (nI qi) (nI oc)), ra_I (g 24) cI 6 (l6 u0 u1 u2 u3 u4 u5), ra_I (g 25) cI 6 (l6 v0 v1 v2 v3 v4 v5), ra_N (g 26) cI 3200 cs, ra_I (g 31) cI 120 nw, ra_N (g 46) cI 9 pt, ra_J (g 86) cJ 1700 ql2, ra_I (g 20) cI 4 (l4 (nI l0) (nI l1) (nI dm) (nI l3)), ra_I (g 38) cI 90 ws_2, ra_I (g 36) cZ 900 yw2, ra_I (g 37) cZ 900 yo2, ra_J (g 43) cJ 90 be2, ra_J (g 44) cJ 90 bf2, ra_I (g 53) cI 32 rw_])) := by
  refine skM_of pf_X12_heard (Nat.le_of_ble_eq_true rfl) ?_
  intro p e s m below meth c A ls E hP hD hl
  refine skE_el E (fun hx hb hr hml hlocks hin hown hts hK hA => ?_)
  have hown : s.vm.findClass RX12 = some m.cls := hown
  have hS : va_S A s.heap s.heap [] := va_S.rf
  have hl : lv_has ls 1 [(0, .ref mm)] := hl
  refine lv_aload_n hx hb dX12_heard_0 rfl (lv_at hl 0 rfl) ?_
  refine sk_get (v := .int (nI il)) (C := RX12) (T := TX12) (N := 92) hx hb hts inlX12 hown hK hP 0 rfl rfl 29 (Nat.le_of_ble_eq_true rfl) w_5_184 rfl dX12_heard_1 ?_
  refine lv_if_ne (tgt := 11) hx hb dX12_heard_4 (by decide) (fun c_1 => ?_) (fun c_1 => ?_)
  · have c_1 : ¬ (il = 0) := fun h => c_1 ((neq il 0 (by omega) (Nat.le_of_ble_eq_true rfl)).mpr h)
    refine lv_aload_n hx hb dX12_heard_11 rfl (lv_at hl 0 rfl) ?_
    refine sk_Vv (q0 := 0) (n := 0) (rest := []) (wr := fmR om_14_3fff _) ⟨hx, hb, hml, hown, hts⟩ hl.1 (c_m_laysHeard l D cI cJ cC cZ cS mm g ta pa pe pd pb pp pf pg pn rt rn cd sn il tk am at_ aa wt wy rm ud nu sd qn qw qo qb qp qa qi oc u0 u1 u2 u3 u4 u5 v0 v1 v2 v3 v4 v5 cs nw pt ql l0 l1 dm l3 ws_ yw yo be bf rw_ hdm (by omega) hp0 hp1 hp2 hrm hcs hnw hpt) w_8_105 w_8_107 w_0_105 w_1_14 w_8_108 hd_X12_laysHeard_0 ⟨⟨(Nat.le_of_ble_eq_true rfl), (Nat.le_of_ble_eq_true rfl)⟩, (Nat.le_of_ble_eq_true rfl), (Nat.le_of_ble_eq_true rfl)⟩ hK hP hD hS hA (fmT om_14_3fff 0) (fmF om_14_3fff 0) (fm_C1 rfl rfl) (fm_R rfl rfl) (fm_nT om_14_3fff 0) (fm_nF om_14_3fff 0) (fm_di om_14_3fff 0) rfl rfl rfl rfl (Nat.le_of_ble_eq_true rfl) dX12_heard_12 (fun u H locs hw hP hD hS => ?_)
    refine exE hw (fun tk2_2 hw1 => exE hw1 (fun qp2_3 hw2 => exE hw2 (fun am2_4 hw3 => exE hw3 (fun at_2_5 hw4 => exE hw4 (fun aa2_6 hw5 => exE hw5 (fun wy2_7 hw6 => exE hw6 (fun ql2_8 hw7 => exE hw7 (fun ws_2_9 hw8 => exE hw8 (fun yw2_10 hw9 => exE hw9 (fun yo2_11 hw10 => exE hw10 (fun be2_12 hw11 => exE hw11 (fun bf2_13 eu_14 => ?_))))))))))))
    clear hw hw1 hw2 hw3 hw4 hw5 hw6 hw7 hw8 hw9 hw10 hw11
    refine o_mgE (ws' := [ro_ mm 12 (mo g (nI ta) (nI pa) (nI pe) pd (nI pb) pp pf pg pn rt rn (nI cd) sn (nI il) tk2_2 am2_4 at_2_5 aa2_6 0 0 (-1) wt wy2_7 0 (nI rm) (nI ud) (nI nu) sd (nI qn) (nI qw) qo (nI qb) (nI qp2_3) qa (nI qi) (nI oc)), ra_I (g 24) cI 6 (l6 u0 u1 u2 u3 u4 u5), ra_I (g 25) cI 6 (l6 v0 v1 v2 v3 v4 v5), ra_N (g 26) cI 3200 cs, ra_I (g 31) cI 120 nw, ra_N (g 46) cI 9 pt, ra_J (g 86) cJ 1700 ql2_8, ra_I (g 20) cI 4 (l4 (nI l0) (nI l1) (nI dm) (nI l3)), ra_I (g 38) cI 90 ws_2_9, ra_I (g 36) cZ 900 yw2_10, ra_I (g 37) cZ 900 yo2_11, ra_J (g 43) cJ 90 be2_12, ra_J (g 44) cJ 90 bf2_13, ra_I (g 53) cI 32 rw_]) eu_14 hP hD rfl (fun hP hD => ?_)
    refine lv_aload_n hx hb dX12_heard_15 rfl (lv_at hl 0 rfl) ?_
    refine sk_get (v := .long wy2_7) (C := RX12) (T := TX12) (N := 92) hx hb hts inlX12 hown hK hP 0 rfl rfl 45 (Nat.le_of_ble_eq_true rfl) w_5_200 rfl dX12_heard_16 ?_
    exact sk_lret hx hb hr hlocks hK hP hD hS (⟨tk2_2, qp2_3, am2_4, at_2_5, aa2_6, wy2_7, ql2_8, ws_2_9, yw2_10, yo2_11, be2_12, bf2_13, rfl⟩) (Nat.le_of_ble_eq_true rfl) (Nat.le_of_ble_eq_true rfl) dX12_heard_19
  · have c_1 : il = 0 := (neq il 0 (by omega) (Nat.le_of_ble_eq_true rfl)).mp c_1
    refine lv_ldc2 (v := (-1000000000000000)) hx hb hown (hts _ w_7_184) dX12_heard_7 ?_
    exact sk_lret hx hb hr hlocks hK hP hD hS (⟨tk, qp, am, at_, aa, wy, ql, ws_, yw, yo, be, bf, rfl⟩) (Nat.le_of_ble_eq_true rfl) (Nat.le_of_ble_eq_true rfl) dX12_heard_10
theorem dg_X12_tells_0_0 : bqL cX12_tells 0 [(0, [42]), (1, [180, 1, 46]), (4, [153, 0, 13]), (17, [20, 1, 165]), (20, [173]), (7, [27]), (8, [133]), (9, [9]), (10, [10]), (11, [184, 0, 238]), (14, [154, 0, 7]), (21, [42]), (22, [182, 1, 210]), (25, [2]), (26, [61]), (27, [9]), (28, [66]), (29, [3]), (30, [54, 5]), (32, [21, 5]), (34, [42]), (35, [182, 1, 59]), (38, [162, 0, 99]), (137, [28]), (138, [2]), (139, [160, 0, 9]), (148, [27]), (149, [154, 0, 8]), (157, [33]), (158, [173]), (152, [28]), (153, [133]), (154, [167, 0, 4]), (142, [20, 1, 165]), (145, [167, 0, 13]), (41, [42]), (42, [180, 1, 126]), (45, [9]), (46, [148]), (47, [158, 0, 90])] = true := by decide +kernel
theorem dX12_tells_0 : decode cX12_tells 0 = .ok (.aload_n 0, 1) := q_aload_n0 (bat_get dg_X12_tells_0_0 0 rfl rfl)
theorem dX12_tells_1 : decode cX12_tells 1 = .ok (.getfield 302, 3) := q_getfield (bat_get dg_X12_tells_0_0 1 rfl rfl) rfl
theorem dX12_tells_4 : decode cX12_tells 4 = .ok (.ifCond .eq 13, 3) := q_ifCond_eq (bat_get dg_X12_tells_0_0 2 rfl rfl) rfl
theorem dX12_tells_17 : decode cX12_tells 17 = .ok (.ldc2_w 421, 3) := q_ldc2_w (bat_get dg_X12_tells_0_0 3 rfl rfl) rfl
theorem dX12_tells_20 : decode cX12_tells 20 = .ok (.lreturn, 1) := q_lreturn (bat_get dg_X12_tells_0_0 4 rfl rfl)
theorem dX12_tells_7 : decode cX12_tells 7 = .ok (.iload_n 1, 1) := q_iload_n1 (bat_get dg_X12_tells_0_0 5 rfl rfl)
theorem dX12_tells_8 : decode cX12_tells 8 = .ok (.i2l, 1) := q_i2l (bat_get dg_X12_tells_0_0 6 rfl rfl)
theorem dX12_tells_9 : decode cX12_tells 9 = .ok (.lconst 0, 1) := q_lconst0 (bat_get dg_X12_tells_0_0 7 rfl rfl)
theorem dX12_tells_10 : decode cX12_tells 10 = .ok (.lconst 1, 1) := q_lconst1 (bat_get dg_X12_tells_0_0 8 rfl rfl)
theorem dX12_tells_11 : decode cX12_tells 11 = .ok (.invokestatic 238, 3) := q_invokestatic (bat_get dg_X12_tells_0_0 9 rfl rfl) rfl
theorem dX12_tells_14 : decode cX12_tells 14 = .ok (.ifCond .ne 7, 3) := q_ifCond_ne (bat_get dg_X12_tells_0_0 10 rfl rfl) rfl
theorem dX12_tells_21 : decode cX12_tells 21 = .ok (.aload_n 0, 1) := q_aload_n0 (bat_get dg_X12_tells_0_0 11 rfl rfl)
theorem dX12_tells_22 : decode cX12_tells 22 = .ok (.invokevirtual 466, 3) := q_invokevirtual (bat_get dg_X12_tells_0_0 12 rfl rfl) rfl
theorem dX12_tells_25 : decode cX12_tells 25 = .ok (.iconst (-1), 1) := q_iconstm1 (bat_get dg_X12_tells_0_0 13 rfl rfl)
theorem dX12_tells_26 : decode cX12_tells 26 = .ok (.istore_n 2, 1) := q_istore_n2 (bat_get dg_X12_tells_0_0 14 rfl rfl)
theorem dX12_tells_27 : decode cX12_tells 27 = .ok (.lconst 0, 1) := q_lconst0 (bat_get dg_X12_tells_0_0 15 rfl rfl)
theorem dX12_tells_28 : decode cX12_tells 28 = .ok (.lstore_n 3, 1) := q_lstore_n3 (bat_get dg_X12_tells_0_0 16 rfl rfl)
theorem dX12_tells_29 : decode cX12_tells 29 = .ok (.iconst 0, 1) := q_iconst0 (bat_get dg_X12_tells_0_0 17 rfl rfl)
theorem dX12_tells_30 : decode cX12_tells 30 = .ok (.istore 5, 2) := q_istore (bat_get dg_X12_tells_0_0 18 rfl rfl)
theorem dX12_tells_32 : decode cX12_tells 32 = .ok (.iload 5, 2) := q_iload (bat_get dg_X12_tells_0_0 19 rfl rfl)
theorem dX12_tells_34 : decode cX12_tells 34 = .ok (.aload_n 0, 1) := q_aload_n0 (bat_get dg_X12_tells_0_0 20 rfl rfl)
theorem dX12_tells_35 : decode cX12_tells 35 = .ok (.invokevirtual 315, 3) := q_invokevirtual (bat_get dg_X12_tells_0_0 21 rfl rfl) rfl
theorem dX12_tells_38 : decode cX12_tells 38 = .ok (.if_icmp .ge 99, 3) := q_if_icmp_ge (bat_get dg_X12_tells_0_0 22 rfl rfl) rfl
theorem dX12_tells_137 : decode cX12_tells 137 = .ok (.iload_n 2, 1) := q_iload_n2 (bat_get dg_X12_tells_0_0 23 rfl rfl)
theorem dX12_tells_138 : decode cX12_tells 138 = .ok (.iconst (-1), 1) := q_iconstm1 (bat_get dg_X12_tells_0_0 24 rfl rfl)
theorem dX12_tells_139 : decode cX12_tells 139 = .ok (.if_icmp .ne 9, 3) := q_if_icmp_ne (bat_get dg_X12_tells_0_0 25 rfl rfl) rfl
theorem dX12_tells_148 : decode cX12_tells 148 = .ok (.iload_n 1, 1) := q_iload_n1 (bat_get dg_X12_tells_0_0 26 rfl rfl)
theorem dX12_tells_149 : decode cX12_tells 149 = .ok (.ifCond .ne 8, 3) := q_ifCond_ne (bat_get dg_X12_tells_0_0 27 rfl rfl) rfl
theorem dX12_tells_157 : decode cX12_tells 157 = .ok (.lload_n 3, 1) := q_lload_n3 (bat_get dg_X12_tells_0_0 28 rfl rfl)
theorem dX12_tells_158 : decode cX12_tells 158 = .ok (.lreturn, 1) := q_lreturn (bat_get dg_X12_tells_0_0 29 rfl rfl)
theorem dX12_tells_152 : decode cX12_tells 152 = .ok (.iload_n 2, 1) := q_iload_n2 (bat_get dg_X12_tells_0_0 30 rfl rfl)
theorem dX12_tells_153 : decode cX12_tells 153 = .ok (.i2l, 1) := q_i2l (bat_get dg_X12_tells_0_0 31 rfl rfl)
theorem dX12_tells_154 : decode cX12_tells 154 = .ok (.goto 4, 3) := q_goto (bat_get dg_X12_tells_0_0 32 rfl rfl) rfl
theorem dX12_tells_142 : decode cX12_tells 142 = .ok (.ldc2_w 421, 3) := q_ldc2_w (bat_get dg_X12_tells_0_0 33 rfl rfl) rfl
theorem dX12_tells_145 : decode cX12_tells 145 = .ok (.goto 13, 3) := q_goto (bat_get dg_X12_tells_0_0 34 rfl rfl) rfl
theorem dX12_tells_41 : decode cX12_tells 41 = .ok (.aload_n 0, 1) := q_aload_n0 (bat_get dg_X12_tells_0_0 35 rfl rfl)
theorem dX12_tells_42 : decode cX12_tells 42 = .ok (.getfield 382, 3) := q_getfield (bat_get dg_X12_tells_0_0 36 rfl rfl) rfl
theorem dX12_tells_45 : decode cX12_tells 45 = .ok (.lconst 0, 1) := q_lconst0 (bat_get dg_X12_tells_0_0 37 rfl rfl)
theorem dX12_tells_46 : decode cX12_tells 46 = .ok (.lcmp, 1) := q_lcmp (bat_get dg_X12_tells_0_0 38 rfl rfl)
theorem dX12_tells_47 : decode cX12_tells 47 = .ok (.ifCond .le 90, 3) := q_ifCond_le (bat_get dg_X12_tells_0_0 39 rfl rfl) rfl
theorem dg_X12_tells_50_50 : bqL cX12_tells 50 [(0, [9]), (1, [55, 6]), (3, [3]), (4, [54, 8]), (6, [21, 8]), (8, [16, 10]), (10, [162, 0, 50]), (60, [28]), (61, [2]), (62, [159, 0, 13]), (75, [21, 5]), (77, [61]), (78, [22, 6]), (80, [66]), (81, [132, 5, 1]), (84, [167, 255, 154]), (65, [22, 6]), (67, [33]), (68, [148]), (69, [155, 0, 6]), (72, [167, 0, 9]), (13, [42]), (14, [180, 0, 86]), (17, [16, 10]), (19, [21, 5]), (21, [104]), (22, [21, 8]), (24, [96]), (25, [47]), (26, [42]), (27, [180, 0, 82]), (30, [16, 10]), (32, [21, 5]), (34, [104]), (35, [21, 8]), (37, [96]), (38, [47]), (39, [105]), (40, [55, 9]), (42, [22, 9])] = true := by decide +kernel
theorem dX12_tells_50 : decode cX12_tells 50 = .ok (.lconst 0, 1) := q_lconst0 (bat_get dg_X12_tells_50_50 0 rfl rfl)
theorem dX12_tells_51 : decode cX12_tells 51 = .ok (.lstore 6, 2) := q_lstore (bat_get dg_X12_tells_50_50 1 rfl rfl)
theorem dX12_tells_53 : decode cX12_tells 53 = .ok (.iconst 0, 1) := q_iconst0 (bat_get dg_X12_tells_50_50 2 rfl rfl)
theorem dX12_tells_54 : decode cX12_tells 54 = .ok (.istore 8, 2) := q_istore (bat_get dg_X12_tells_50_50 3 rfl rfl)
theorem dX12_tells_56 : decode cX12_tells 56 = .ok (.iload 8, 2) := q_iload (bat_get dg_X12_tells_50_50 4 rfl rfl)
theorem dX12_tells_58 : decode cX12_tells 58 = .ok (.bipush 10, 2) := q_bipush (bat_get dg_X12_tells_50_50 5 rfl rfl) rfl
theorem dX12_tells_60 : decode cX12_tells 60 = .ok (.if_icmp .ge 50, 3) := q_if_icmp_ge (bat_get dg_X12_tells_50_50 6 rfl rfl) rfl
theorem dX12_tells_110 : decode cX12_tells 110 = .ok (.iload_n 2, 1) := q_iload_n2 (bat_get dg_X12_tells_50_50 7 rfl rfl)
theorem dX12_tells_111 : decode cX12_tells 111 = .ok (.iconst (-1), 1) := q_iconstm1 (bat_get dg_X12_tells_50_50 8 rfl rfl)
theorem dX12_tells_112 : decode cX12_tells 112 = .ok (.if_icmp .eq 13, 3) := q_if_icmp_eq (bat_get dg_X12_tells_50_50 9 rfl rfl) rfl
theorem dX12_tells_125 : decode cX12_tells 125 = .ok (.iload 5, 2) := q_iload (bat_get dg_X12_tells_50_50 10 rfl rfl)
theorem dX12_tells_127 : decode cX12_tells 127 = .ok (.istore_n 2, 1) := q_istore_n2 (bat_get dg_X12_tells_50_50 11 rfl rfl)
theorem dX12_tells_128 : decode cX12_tells 128 = .ok (.lload 6, 2) := q_lload (bat_get dg_X12_tells_50_50 12 rfl rfl)
theorem dX12_tells_130 : decode cX12_tells 130 = .ok (.lstore_n 3, 1) := q_lstore_n3 (bat_get dg_X12_tells_50_50 13 rfl rfl)
theorem dX12_tells_131 : decode cX12_tells 131 = .ok (.iinc 5 1, 3) := q_iinc (bat_get dg_X12_tells_50_50 14 rfl rfl) rfl
theorem dX12_tells_134 : decode cX12_tells 134 = .ok (.goto (-102), 3) := q_goto (bat_get dg_X12_tells_50_50 15 rfl rfl) rfl
theorem dX12_tells_115 : decode cX12_tells 115 = .ok (.lload 6, 2) := q_lload (bat_get dg_X12_tells_50_50 16 rfl rfl)
theorem dX12_tells_117 : decode cX12_tells 117 = .ok (.lload_n 3, 1) := q_lload_n3 (bat_get dg_X12_tells_50_50 17 rfl rfl)
theorem dX12_tells_118 : decode cX12_tells 118 = .ok (.lcmp, 1) := q_lcmp (bat_get dg_X12_tells_50_50 18 rfl rfl)
theorem dX12_tells_119 : decode cX12_tells 119 = .ok (.ifCond .lt 6, 3) := q_ifCond_lt (bat_get dg_X12_tells_50_50 19 rfl rfl) rfl
theorem dX12_tells_122 : decode cX12_tells 122 = .ok (.goto 9, 3) := q_goto (bat_get dg_X12_tells_50_50 20 rfl rfl) rfl
theorem dX12_tells_63 : decode cX12_tells 63 = .ok (.aload_n 0, 1) := q_aload_n0 (bat_get dg_X12_tells_50_50 21 rfl rfl)
theorem dX12_tells_64 : decode cX12_tells 64 = .ok (.getfield 86, 3) := q_getfield (bat_get dg_X12_tells_50_50 22 rfl rfl) rfl
theorem dX12_tells_67 : decode cX12_tells 67 = .ok (.bipush 10, 2) := q_bipush (bat_get dg_X12_tells_50_50 23 rfl rfl) rfl
theorem dX12_tells_69 : decode cX12_tells 69 = .ok (.iload 5, 2) := q_iload (bat_get dg_X12_tells_50_50 24 rfl rfl)
theorem dX12_tells_71 : decode cX12_tells 71 = .ok (.imul, 1) := q_imul (bat_get dg_X12_tells_50_50 25 rfl rfl)
theorem dX12_tells_72 : decode cX12_tells 72 = .ok (.iload 8, 2) := q_iload (bat_get dg_X12_tells_50_50 26 rfl rfl)
theorem dX12_tells_74 : decode cX12_tells 74 = .ok (.iadd, 1) := q_iadd (bat_get dg_X12_tells_50_50 27 rfl rfl)
theorem dX12_tells_75 : decode cX12_tells 75 = .ok (.laload, 1) := q_laload (bat_get dg_X12_tells_50_50 28 rfl rfl)
theorem dX12_tells_76 : decode cX12_tells 76 = .ok (.aload_n 0, 1) := q_aload_n0 (bat_get dg_X12_tells_50_50 29 rfl rfl)
theorem dX12_tells_77 : decode cX12_tells 77 = .ok (.getfield 82, 3) := q_getfield (bat_get dg_X12_tells_50_50 30 rfl rfl) rfl
theorem dX12_tells_80 : decode cX12_tells 80 = .ok (.bipush 10, 2) := q_bipush (bat_get dg_X12_tells_50_50 31 rfl rfl) rfl
theorem dX12_tells_82 : decode cX12_tells 82 = .ok (.iload 5, 2) := q_iload (bat_get dg_X12_tells_50_50 32 rfl rfl)
theorem dX12_tells_84 : decode cX12_tells 84 = .ok (.imul, 1) := q_imul (bat_get dg_X12_tells_50_50 33 rfl rfl)
theorem dX12_tells_85 : decode cX12_tells 85 = .ok (.iload 8, 2) := q_iload (bat_get dg_X12_tells_50_50 34 rfl rfl)
theorem dX12_tells_87 : decode cX12_tells 87 = .ok (.iadd, 1) := q_iadd (bat_get dg_X12_tells_50_50 35 rfl rfl)
theorem dX12_tells_88 : decode cX12_tells 88 = .ok (.laload, 1) := q_laload (bat_get dg_X12_tells_50_50 36 rfl rfl)
theorem dX12_tells_89 : decode cX12_tells 89 = .ok (.lmul, 1) := q_lmul (bat_get dg_X12_tells_50_50 37 rfl rfl)
theorem dX12_tells_90 : decode cX12_tells 90 = .ok (.lstore 9, 2) := q_lstore (bat_get dg_X12_tells_50_50 38 rfl rfl)
theorem dX12_tells_92 : decode cX12_tells 92 = .ok (.lload 9, 2) := q_lload (bat_get dg_X12_tells_50_50 39 rfl rfl)
theorem dg_X12_tells_94_94 : bqL cX12_tells 94 [(0, [22, 6]), (2, [148]), (3, [158, 0, 7]), (10, [132, 8, 1]), (13, [167, 255, 205]), (6, [22, 9]), (8, [55, 6])] = true := by decide +kernel
theorem dX12_tells_94 : decode cX12_tells 94 = .ok (.lload 6, 2) := q_lload (bat_get dg_X12_tells_94_94 0 rfl rfl)
theorem dX12_tells_96 : decode cX12_tells 96 = .ok (.lcmp, 1) := q_lcmp (bat_get dg_X12_tells_94_94 1 rfl rfl)
theorem dX12_tells_97 : decode cX12_tells 97 = .ok (.ifCond .le 7, 3) := q_ifCond_le (bat_get dg_X12_tells_94_94 2 rfl rfl) rfl
theorem dX12_tells_104 : decode cX12_tells 104 = .ok (.iinc 8 1, 3) := q_iinc (bat_get dg_X12_tells_94_94 3 rfl rfl) rfl
theorem dX12_tells_107 : decode cX12_tells 107 = .ok (.goto (-51), 3) := q_goto (bat_get dg_X12_tells_94_94 4 rfl rfl) rfl
theorem dX12_tells_100 : decode cX12_tells 100 = .ok (.lload 9, 2) := q_lload (bat_get dg_X12_tells_94_94 5 rfl rfl)
theorem dX12_tells_102 : decode cX12_tells 102 = .ok (.lstore 6, 2) := q_lstore (bat_get dg_X12_tells_94_94 6 rfl rfl)
theorem w_8_112 : (Cond.code yX12_tells cX12_tells 11 (some .long)) ∈ wsL_law := sk_mem (ck_8 _ (List.mem_of_getElem? (i := 112) rfl)) rfl
set_option maxHeartbeats 4000000 in
set_option maxRecDepth 100000 in
theorem c_m_tells (l : Launch) (D : va_G) (cI cJ cC cZ cS : ClassId) (mm : Nat) (g : Nat → Nat) (ta : Nat) (pa : Nat) (pe : Nat) (pd : Int32) (pb : Nat) (pp : Int32) (pf : Int32) (pg : Int32) (pn : Int32) (rt : Int32) (rn : Int32) (cd : Nat) (sn : Int32) (il : Nat) (tk : Int32) (am : Int32) (at_ : Int32) (aa : Int32) (wt : Int32) (wy : Int64) (rm : Nat) (ud : Nat) (nu : Nat) (sd : Int64) (qn : Nat) (qw : Nat) (qo : Int32) (qb : Nat) (qp : Nat) (qa : Int64) (qi : Nat) (oc : Nat) (w : Int32) (u0 : Int32) (u1 : Int32) (u2 : Int32) (u3 : Int32) (u4 : Int32) (u5 : Int32) (v0 : Int32) (v1 : Int32) (v2 : Int32) (v3 : Int32) (v4 : Int32) (v5 : Int32) (cs : Nat → Nat) (nw : Nat → Int32) (pt : Nat → Nat) (ql : Nat → Int64) (l0 : Nat) (l1 : Nat) (dm : Nat) (l3 : Nat) (ws_ : Nat → Int32) (yw : Nat → Int32) (yo : Nat → Int32) (be : Nat → Int64) (bf : Nat → Int64) (rw_ : Nat → Int32) (hil : il ≤ 1) (hild : il = 1 → 1 ≤ dm) (hdm : dm ≤ 9) (hp0 : progOk cs u3 v3) (hp1 : progOk cs u4 v4) (hp2 : progOk cs u5 v5) (hrm : rm ≤ 16) (hcs : ∀ j, cs j ≤ 20000) (hnw : nowOk nw) (hpt : ∀ j, pt j ≤ 9) : skM l yX12_tells cX12_tells 11 (some .long) 6 142 0 0 D (skT cI cJ cC cZ cS) [.ref mm, .int w] [ro_ mm 12 (mo g (nI ta) (nI pa) (nI pe) pd (nI pb) pp pf pg pn rt rn (nI cd) sn (nI il) tk am at_ aa 0 0 (-1) wt wy 0 (nI rm) (nI ud) (nI nu) sd (nI qn) (nI qw) qo (nI qb) (nI qp) qa (nI qi) (nI oc)), ra_I (g 24) cI 6 (l6 u0 u1 u2 u3 u4 u5), ra_I (g 25) cI 6 (l6 v0 v1 v2 v3 v4 v5), ra_N (g 26) cI 3200 cs, ra_I (g 31) cI 120 nw, ra_N (g 46) cI 9 pt, ra_J (g 86) cJ 1700 ql, ra_I (g 20) cI 4 (l4 (nI l0) (nI l1) (nI dm) (nI l3)), ra_I (g 38) cI 90 ws_, ra_I (g 36) cZ 900 yw, ra_I (g 37) cZ 900 yo, ra_J (g 43) cJ 90 be, ra_J (g 44) cJ 90 bf, ra_I (g 53) cI 32 rw_] (skL D (skT cI cJ cC cZ cS) (fun (r : Int64) (u : va_W) => ∃ (tk2 : Int32), ∃ (qp2 : Nat), ∃ (am2 : Int32), ∃ (at_2 : Int32), ∃ (aa2 : Int32), ∃ (wy2 : Int64), ∃ (ql2 : Nat → Int64), ∃ (ws_2 : Nat → Int32), ∃ (yw2 : Nat → Int32), ∃ (yo2 : Nat → Int32), ∃ (be2 : Nat → Int64), ∃ (bf2 : Nat → Int64), u = [ro_ mm 12 (mo g (nI ta) (nI pa) (nI pe) pd (nI pb) pp pf pg pn rt rn (nI cd) sn (nI il) tk2 am2 at_2 aa2 0 0 (-1) wt wy2 0 (nI rm) (nI ud) (nI nu) sd (nI qn) (nI qw) qo (nI qb) (nI qp2) qa (nI qi) (nI oc)), ra_I (g 24) cI 6 (l6 u0 u1 u2 u3 u4 u5), ra_I (g 25) cI 6 (l6 v0 v1 v2 v3 v4 v5), ra_N (g 26) cI 3200 cs, ra_I (g 31) cI 120 nw, ra_N (g 46) cI 9 pt, ra_J (g 86) cJ 1700 ql2, ra_I (g 20) cI 4 (l4 (nI l0) (nI l1) (nI dm) (nI l3)), ra_I (g 38) cI 90 ws_2, ra_I (g 36) cZ 900 yw2, ra_I (g 37) cZ 900 yo2, ra_J (g 43) cJ 90 be2, ra_J (g 44) cJ 90 bf2, ra_I (g 53) cI 32 rw_])) := by
  refine skM_of pf_X12_tells (Nat.le_of_ble_eq_true rfl) ?_
  intro p e s m below meth c A ls E hP hD hl
  refine skE_el E (fun hx hb hr hml hlocks hin hown hts hK hA => ?_)
  have hown : s.vm.findClass RX12 = some m.cls := hown
  have hS : va_S A s.heap s.heap [] := va_S.rf
  have hl : lv_has ls 11 [(0, .ref mm), (1, .int w)] := hl
  refine lv_aload_n hx hb dX12_tells_0 rfl (lv_at hl 0 rfl) ?_
  refine sk_get (v := .int (nI il)) (C := RX12) (T := TX12) (N := 92) hx hb hts inlX12 hown hK hP 0 rfl rfl 29 (Nat.le_of_ble_eq_true rfl) w_5_184 rfl dX12_tells_1 ?_
  refine lv_if_eq (tgt := 17) hx hb dX12_tells_4 (by decide) (fun c_1 => ?_) (fun c_1 => ?_)
  · have c_1 : il = 0 := (neq il 0 (by omega) (Nat.le_of_ble_eq_true rfl)).mp c_1
    refine lv_ldc2 (v := (-1000000000000000)) hx hb hown (hts _ w_7_184) dX12_tells_17 ?_
    exact sk_lret hx hb hr hlocks hK hP hD hS (⟨tk, qp, am, at_, aa, wy, ql, ws_, yw, yo, be, bf, rfl⟩) (Nat.le_of_ble_eq_true rfl) (Nat.le_of_ble_eq_true rfl) dX12_tells_20
  · have c_1 : ¬ (il = 0) := fun h => c_1 ((neq il 0 (by omega) (Nat.le_of_ble_eq_true rfl)).mpr h)
    refine lv_iload_n hx hb dX12_tells_7 rfl (lv_at hl 1 rfl) ?_
    refine lv_i2l hx hb dX12_tells_8 rfl ?_
    refine lv_lconst (v := 0) hx hb dX12_tells_9 (by decide) ?_
    refine lv_lconst (v := 1) hx hb dX12_tells_10 (by decide) ?_
    refine sk_Si (n := 3) (rest := []) (wr := [ro_ mm 12 (mo g (nI ta) (nI pa) (nI pe) pd (nI pb) pp pf pg pn rt rn (nI cd) sn (nI il) tk am at_ aa 0 0 (-1) wt wy 0 (nI rm) (nI ud) (nI nu) sd (nI qn) (nI qw) qo (nI qb) (nI qp) qa (nI qi) (nI oc)), ra_I (g 24) cI 6 (l6 u0 u1 u2 u3 u4 u5), ra_I (g 25) cI 6 (l6 v0 v1 v2 v3 v4 v5), ra_N (g 26) cI 3200 cs, ra_I (g 31) cI 120 nw, ra_N (g 46) cI 9 pt, ra_J (g 86) cJ 1700 ql, ra_I (g 20) cI 4 (l4 (nI l0) (nI l1) (nI dm) (nI l3)), ra_I (g 38) cI 90 ws_, ra_I (g 36) cZ 900 yw, ra_I (g 37) cZ 900 yo, ra_J (g 43) cJ 90 be, ra_J (g 44) cJ 90 bf, ra_I (g 53) cI 32 rw_]) ⟨hx, hb, hml, hown, hts⟩ hl.1 (c_m_isIn l D cI cJ cC cZ cS (Int32.toInt64 w) 0 1) w_7_0 w_7_1 w_1_14 w_7_2 hd_X12_isIn_3 ⟨⟨(Nat.le_of_ble_eq_true rfl), (Nat.le_of_ble_eq_true rfl)⟩, (Nat.le_of_ble_eq_true rfl), (Nat.le_of_ble_eq_true rfl)⟩ hK hP hD hS hA [] [0, 1, 2, 3, 4, 5, 6, 7, 8, 9, 10, 11, 12, 13] rfl rfl (by decide +kernel) (by decide +kernel) (by decide +kernel) rfl rfl (Nat.le_of_ble_eq_true rfl) dX12_tells_11 (fun r_3 u H locs hw hP hD hS => ?_)
    obtain ⟨b_2, hb1_4, rfl, rfl⟩ := hw
    refine o_re (ws' := [ro_ mm 12 (mo g (nI ta) (nI pa) (nI pe) pd (nI pb) pp pf pg pn rt rn (nI cd) sn (nI il) tk am at_ aa 0 0 (-1) wt wy 0 (nI rm) (nI ud) (nI nu) sd (nI qn) (nI qw) qo (nI qb) (nI qp) qa (nI qi) (nI oc)), ra_I (g 24) cI 6 (l6 u0 u1 u2 u3 u4 u5), ra_I (g 25) cI 6 (l6 v0 v1 v2 v3 v4 v5), ra_N (g 26) cI 3200 cs, ra_I (g 31) cI 120 nw, ra_N (g 46) cI 9 pt, ra_J (g 86) cJ 1700 ql, ra_I (g 20) cI 4 (l4 (nI l0) (nI l1) (nI dm) (nI l3)), ra_I (g 38) cI 90 ws_, ra_I (g 36) cZ 900 yw, ra_I (g 37) cZ 900 yo, ra_J (g 43) cJ 90 be, ra_J (g 44) cJ 90 bf, ra_I (g 53) cI 32 rw_]) hP hD rfl (fun hP hD => ?_)
    refine lv_if_ne (tgt := 21) hx hb dX12_tells_14 (by decide) (fun c_5 => ?_) (fun c_5 => ?_)
    · have c_5 : ¬ (b_2 = 0) := fun h => c_5 ((neq b_2 0 (by omega) (Nat.le_of_ble_eq_true rfl)).mpr h)
      obtain ⟨kd_6, hkd_6, rfl⟩ := inK 2 (hb1_4.resolve_left (by omega)).2.1 (hb1_4.resolve_left (by omega)).2.2 (by decide)
      refine lv_aload_n hx hb dX12_tells_21 rfl (lv_at hl 0 rfl) ?_
      refine sk_Vv (q0 := 0) (n := 0) (rest := []) (wr := fmR om_14_3fff _) ⟨hx, hb, hml, hown, hts⟩ hl.1 (c_m_laysHeard l D cI cJ cC cZ cS mm g ta pa pe pd pb pp pf pg pn rt rn cd sn il tk am at_ aa wt wy rm ud nu sd qn qw qo qb qp qa qi oc u0 u1 u2 u3 u4 u5 v0 v1 v2 v3 v4 v5 cs nw pt ql l0 l1 dm l3 ws_ yw yo be bf rw_ hdm (by omega) hp0 hp1 hp2 hrm hcs hnw hpt) w_8_105 w_8_107 w_0_105 w_1_14 w_8_108 hd_X12_laysHeard_0 ⟨⟨(Nat.le_of_ble_eq_true rfl), (Nat.le_of_ble_eq_true rfl)⟩, (Nat.le_of_ble_eq_true rfl), (Nat.le_of_ble_eq_true rfl)⟩ hK hP hD hS hA (fmT om_14_3fff 0) (fmF om_14_3fff 0) (fm_C1 rfl rfl) (fm_R rfl rfl) (fm_nT om_14_3fff 0) (fm_nF om_14_3fff 0) (fm_di om_14_3fff 0) rfl rfl rfl rfl (Nat.le_of_ble_eq_true rfl) dX12_tells_22 (fun u H locs hw hP hD hS => ?_)
      refine exE hw (fun tk2_7 hw1 => exE hw1 (fun qp2_8 hw2 => exE hw2 (fun am2_9 hw3 => exE hw3 (fun at_2_10 hw4 => exE hw4 (fun aa2_11 hw5 => exE hw5 (fun wy2_12 hw6 => exE hw6 (fun ql2_13 hw7 => exE hw7 (fun ws_2_14 hw8 => exE hw8 (fun yw2_15 hw9 => exE hw9 (fun yo2_16 hw10 => exE hw10 (fun be2_17 hw11 => exE hw11 (fun bf2_18 eu_19 => ?_))))))))))))
      clear hw hw1 hw2 hw3 hw4 hw5 hw6 hw7 hw8 hw9 hw10 hw11
      refine o_mgE (ws' := [ro_ mm 12 (mo g (nI ta) (nI pa) (nI pe) pd (nI pb) pp pf pg pn rt rn (nI cd) sn (nI il) tk2_7 am2_9 at_2_10 aa2_11 0 0 (-1) wt wy2_12 0 (nI rm) (nI ud) (nI nu) sd (nI qn) (nI qw) qo (nI qb) (nI qp2_8) qa (nI qi) (nI oc)), ra_I (g 24) cI 6 (l6 u0 u1 u2 u3 u4 u5), ra_I (g 25) cI 6 (l6 v0 v1 v2 v3 v4 v5), ra_N (g 26) cI 3200 cs, ra_I (g 31) cI 120 nw, ra_N (g 46) cI 9 pt, ra_J (g 86) cJ 1700 ql2_13, ra_I (g 20) cI 4 (l4 (nI l0) (nI l1) (nI dm) (nI l3)), ra_I (g 38) cI 90 ws_2_14, ra_I (g 36) cZ 900 yw2_15, ra_I (g 37) cZ 900 yo2_16, ra_J (g 43) cJ 90 be2_17, ra_J (g 44) cJ 90 bf2_18, ra_I (g 53) cI 32 rw_]) eu_19 hP hD rfl (fun hP hD => ?_)
      refine lv_iconst (v := (-1)) hx hb dX12_tells_25 (by decide) ?_
      refine lv_istore_n (lv' := [(2, .int (-1)), (0, .ref mm), (1, .int (nI kd_6))]) hx hb dX12_tells_26 rfl hl (by decide) rfl (fun ls hl => ?_)
      refine lv_lconst (v := 0) hx hb dX12_tells_27 (by decide) ?_
      refine lv_lstore_n (lv' := [(3, .long 0), (2, .int (-1)), (0, .ref mm), (1, .int (nI kd_6))]) hx hb dX12_tells_28 rfl hl (by decide) rfl (fun ls hl => ?_)
      refine lv_iconst (v := 0) hx hb dX12_tells_29 ic_0 ?_
      refine lv_istore (lv' := [(5, .int 0), (3, .long 0), (2, .int (-1)), (0, .ref mm), (1, .int (nI kd_6))]) hx hb dX12_tells_30 hl (by decide) rfl (fun ls hl => ?_)
      have lp_20 : ∀ (n_21 : Nat) (i : Nat) (fe : Int64) (be_ : Int32) (H : Heap) (locs : List Loc) (ls : Array Slot), dm - i < n_21 → (i ≤ dm) → va_P D vwCl [ro_ mm 12 (mo g (nI ta) (nI pa) (nI pe) pd (nI pb) pp pf pg pn rt rn (nI cd) sn (nI il) tk2_7 am2_9 at_2_10 aa2_11 0 0 (-1) wt wy2_12 0 (nI rm) (nI ud) (nI nu) sd (nI qn) (nI qw) qo (nI qb) (nI qp2_8) qa (nI qi) (nI oc)), ra_I (g 24) cI 6 (l6 u0 u1 u2 u3 u4 u5), ra_I (g 25) cI 6 (l6 v0 v1 v2 v3 v4 v5), ra_N (g 26) cI 3200 cs, ra_I (g 31) cI 120 nw, ra_N (g 46) cI 9 pt, ra_J (g 86) cJ 1700 ql2_13, ra_I (g 20) cI 4 (l4 (nI l0) (nI l1) (nI dm) (nI l3)), ra_I (g 38) cI 90 ws_2_14, ra_I (g 36) cZ 900 yw2_15, ra_I (g 37) cZ 900 yo2_16, ra_J (g 43) cJ 90 be2_17, ra_J (g 44) cJ 90 bf2_18, ra_I (g 53) cI 32 rw_] H → va_D A [ro_ mm 12 (mo g (nI ta) (nI pa) (nI pe) pd (nI pb) pp pf pg pn rt rn (nI cd) sn (nI il) tk2_7 am2_9 at_2_10 aa2_11 0 0 (-1) wt wy2_12 0 (nI rm) (nI ud) (nI nu) sd (nI qn) (nI qw) qo (nI qb) (nI qp2_8) qa (nI qi) (nI oc)), ra_I (g 24) cI 6 (l6 u0 u1 u2 u3 u4 u5), ra_I (g 25) cI 6 (l6 v0 v1 v2 v3 v4 v5), ra_N (g 26) cI 3200 cs, ra_I (g 31) cI 120 nw, ra_N (g 46) cI 9 pt, ra_J (g 86) cJ 1700 ql2_13, ra_I (g 20) cI 4 (l4 (nI l0) (nI l1) (nI dm) (nI l3)), ra_I (g 38) cI 90 ws_2_14, ra_I (g 36) cZ 900 yw2_15, ra_I (g 37) cZ 900 yo2_16, ra_J (g 43) cJ 90 be2_17, ra_J (g 44) cJ 90 bf2_18, ra_I (g 53) cI 32 rw_] → va_S A s.heap H locs → lv_has ls 11 [(5, .int (nI i)), (3, .long fe), (2, .int be_), (0, .ref mm), (1, .int (nI kd_6))] → W p l e { frames := 6, cells := 0, slots := 0, locals := 142 } s m ([.ref mm, .int (nI kd_6)] : List Value).toArray below meth c H locs 0 0 (MQ below (skL D (skT cI cJ cC cZ cS) (fun (r : Int64) (u : va_W) => ∃ (tk2 : Int32), ∃ (qp2 : Nat), ∃ (am2 : Int32), ∃ (at_2 : Int32), ∃ (aa2 : Int32), ∃ (wy2 : Int64), ∃ (ql2 : Nat → Int64), ∃ (ws_2 : Nat → Int32), ∃ (yw2 : Nat → Int32), ∃ (yo2 : Nat → Int32), ∃ (be2 : Nat → Int64), ∃ (bf2 : Nat → Int64), u = [ro_ mm 12 (mo g (nI ta) (nI pa) (nI pe) pd (nI pb) pp pf pg pn rt rn (nI cd) sn (nI il) tk2 am2 at_2 aa2 0 0 (-1) wt wy2 0 (nI rm) (nI ud) (nI nu) sd (nI qn) (nI qw) qo (nI qb) (nI qp2) qa (nI qi) (nI oc)), ra_I (g 24) cI 6 (l6 u0 u1 u2 u3 u4 u5), ra_I (g 25) cI 6 (l6 v0 v1 v2 v3 v4 v5), ra_N (g 26) cI 3200 cs, ra_I (g 31) cI 120 nw, ra_N (g 46) cI 9 pt, ra_J (g 86) cJ 1700 ql2, ra_I (g 20) cI 4 (l4 (nI l0) (nI l1) (nI dm) (nI l3)), ra_I (g 38) cI 90 ws_2, ra_I (g 36) cZ 900 yw2, ra_I (g 37) cZ 900 yo2, ra_J (g 43) cJ 90 be2, ra_J (g 44) cJ 90 bf2, ra_I (g 53) cI 32 rw_]) A) ([.ref mm, .int (nI kd_6)] : List Value).toArray s 0 0 A) (F0 m 32 ls []) := by
        intro n_21
        induction n_21 with
        | zero => intro i fe be_ H locs ls hm; exact absurd hm (Nat.not_lt_zero _)
        | succ n_21 ih_lp_20 =>
          intro i fe be_ H locs ls hm hi hP hD hS hl
          refine lv_iload hx hb dX12_tells_32 (lv_at hl 0 rfl) ?_
          refine lv_aload_n hx hb dX12_tells_34 rfl (lv_at hl 3 rfl) ?_
          refine sk_Vi (q0 := 0) (n := 0) (rest := [.int (nI i)]) (wr := fmR om_14_2040 _) ⟨hx, hb, hml, hown, hts⟩ hl.1 (c_m_dayMany l D cI cJ cC cZ cS mm g ta pa pe pd pb pp pf pg pn rt rn cd sn il tk2_7 am2_9 at_2_10 aa2_11 0 0 (-1) wt wy2_12 0 rm ud nu sd qn qw qo qb qp2_8 qa qi oc l0 l1 dm l3) w_7_98 w_7_100 w_0_69 w_1_14 w_7_101 hd_X12_dayMany_0 ⟨⟨(Nat.le_of_ble_eq_true rfl), (Nat.le_of_ble_eq_true rfl)⟩, (Nat.le_of_ble_eq_true rfl), (Nat.le_of_ble_eq_true rfl)⟩ hK hP hD hS hA (fmT om_14_2040 0) (fmF om_14_2040 0) (fm_C1 rfl rfl) (fm_R rfl rfl) (fm_nT om_14_2040 0) (fm_nF om_14_2040 0) (fm_di om_14_2040 0) rfl rfl rfl rfl (Nat.le_of_ble_eq_true rfl) dX12_tells_35 (fun r_22 u H locs hw hP hD hS => ?_)
          refine anE hw (fun er_24 eu_23 => ?_)
          clear hw
          subst er_24
          refine o_mgE (ws' := [ro_ mm 12 (mo g (nI ta) (nI pa) (nI pe) pd (nI pb) pp pf pg pn rt rn (nI cd) sn (nI il) tk2_7 am2_9 at_2_10 aa2_11 0 0 (-1) wt wy2_12 0 (nI rm) (nI ud) (nI nu) sd (nI qn) (nI qw) qo (nI qb) (nI qp2_8) qa (nI qi) (nI oc)), ra_I (g 24) cI 6 (l6 u0 u1 u2 u3 u4 u5), ra_I (g 25) cI 6 (l6 v0 v1 v2 v3 v4 v5), ra_N (g 26) cI 3200 cs, ra_I (g 31) cI 120 nw, ra_N (g 46) cI 9 pt, ra_J (g 86) cJ 1700 ql2_13, ra_I (g 20) cI 4 (l4 (nI l0) (nI l1) (nI dm) (nI l3)), ra_I (g 38) cI 90 ws_2_14, ra_I (g 36) cZ 900 yw2_15, ra_I (g 37) cZ 900 yo2_16, ra_J (g 43) cJ 90 be2_17, ra_J (g 44) cJ 90 bf2_18, ra_I (g 53) cI 32 rw_]) eu_23 hP hD rfl (fun hP hD => ?_)
          refine lv_icmp_ge (tgt := 137) hx hb dX12_tells_38 (by decide) (fun c_25 => ?_) (fun c_25 => ?_)
          · have c_25 : dm ≤ i := (nle dm i (by omega) (by omega)).mp c_25
            refine lv_iload_n hx hb dX12_tells_137 rfl (lv_at hl 2 rfl) ?_
            refine lv_iconst (v := (-1)) hx hb dX12_tells_138 (by decide) ?_
            refine lv_icmp_ne (tgt := 148) hx hb dX12_tells_139 (by decide) (fun c_26 => ?_) (fun c_26 => ?_)
            · skip
              refine lv_iload_n hx hb dX12_tells_148 rfl (lv_at hl 4 rfl) ?_
              refine lv_if_ne (tgt := 157) hx hb dX12_tells_149 (by decide) (fun c_27 => ?_) (fun c_27 => ?_)
              · have c_27 : ¬ (kd_6 = 0) := fun h => c_27 ((neq kd_6 0 (by omega) (Nat.le_of_ble_eq_true rfl)).mpr h)
                refine lv_lload_n hx hb dX12_tells_157 rfl (lv_at hl 1 rfl) ?_
                exact sk_lret hx hb hr hlocks hK hP hD hS (⟨tk2_7, qp2_8, am2_9, at_2_10, aa2_11, wy2_12, ql2_13, ws_2_14, yw2_15, yo2_16, be2_17, bf2_18, rfl⟩) (Nat.le_of_ble_eq_true rfl) (Nat.le_of_ble_eq_true rfl) dX12_tells_158
              · have c_27 : kd_6 = 0 := (neq kd_6 0 (by omega) (Nat.le_of_ble_eq_true rfl)).mp c_27
                refine lv_iload_n hx hb dX12_tells_152 rfl (lv_at hl 2 rfl) ?_
                refine lv_i2l hx hb dX12_tells_153 rfl ?_
                refine lv_goto (tgt := 158) hx hb dX12_tells_154 (by decide) ?_
                exact sk_lret hx hb hr hlocks hK hP hD hS (⟨tk2_7, qp2_8, am2_9, at_2_10, aa2_11, wy2_12, ql2_13, ws_2_14, yw2_15, yo2_16, be2_17, bf2_18, rfl⟩) (Nat.le_of_ble_eq_true rfl) (Nat.le_of_ble_eq_true rfl) dX12_tells_158
            · skip
              refine lv_ldc2 (v := (-1000000000000000)) hx hb hown (hts _ w_7_184) dX12_tells_142 ?_
              refine lv_goto (tgt := 158) hx hb dX12_tells_145 (by decide) ?_
              exact sk_lret hx hb hr hlocks hK hP hD hS (⟨tk2_7, qp2_8, am2_9, at_2_10, aa2_11, wy2_12, ql2_13, ws_2_14, yw2_15, yo2_16, be2_17, bf2_18, rfl⟩) (Nat.le_of_ble_eq_true rfl) (Nat.le_of_ble_eq_true rfl) dX12_tells_158
          · have c_25 : ¬ (dm ≤ i) := fun h => c_25 ((nle dm i (by omega) (by omega)).mpr h)
            refine lv_aload_n hx hb dX12_tells_41 rfl (lv_at hl 3 rfl) ?_
            refine sk_get (v := .long wy2_12) (C := RX12) (T := TX12) (N := 92) hx hb hts inlX12 hown hK hP 0 rfl rfl 45 (Nat.le_of_ble_eq_true rfl) w_5_200 rfl dX12_tells_42 ?_
            refine lv_lconst (v := 0) hx hb dX12_tells_45 (by decide) ?_
            refine W.lcmp hx hb dX12_tells_46 ?_
            refine lv_if_le (tgt := 137) hx hb dX12_tells_47 (by decide) (fun c_28 => ?_) (fun c_28 => ?_)
            · skip
              refine lv_iload_n hx hb dX12_tells_137 rfl (lv_at hl 2 rfl) ?_
              refine lv_iconst (v := (-1)) hx hb dX12_tells_138 (by decide) ?_
              refine lv_icmp_ne (tgt := 148) hx hb dX12_tells_139 (by decide) (fun c_29 => ?_) (fun c_29 => ?_)
              · skip
                refine lv_iload_n hx hb dX12_tells_148 rfl (lv_at hl 4 rfl) ?_
                refine lv_if_ne (tgt := 157) hx hb dX12_tells_149 (by decide) (fun c_30 => ?_) (fun c_30 => ?_)
                · have c_30 : ¬ (kd_6 = 0) := fun h => c_30 ((neq kd_6 0 (by omega) (Nat.le_of_ble_eq_true rfl)).mpr h)
                  refine lv_lload_n hx hb dX12_tells_157 rfl (lv_at hl 1 rfl) ?_
                  exact sk_lret hx hb hr hlocks hK hP hD hS (⟨tk2_7, qp2_8, am2_9, at_2_10, aa2_11, wy2_12, ql2_13, ws_2_14, yw2_15, yo2_16, be2_17, bf2_18, rfl⟩) (Nat.le_of_ble_eq_true rfl) (Nat.le_of_ble_eq_true rfl) dX12_tells_158
                · have c_30 : kd_6 = 0 := (neq kd_6 0 (by omega) (Nat.le_of_ble_eq_true rfl)).mp c_30
                  refine lv_iload_n hx hb dX12_tells_152 rfl (lv_at hl 2 rfl) ?_
                  refine lv_i2l hx hb dX12_tells_153 rfl ?_
                  refine lv_goto (tgt := 158) hx hb dX12_tells_154 (by decide) ?_
                  exact sk_lret hx hb hr hlocks hK hP hD hS (⟨tk2_7, qp2_8, am2_9, at_2_10, aa2_11, wy2_12, ql2_13, ws_2_14, yw2_15, yo2_16, be2_17, bf2_18, rfl⟩) (Nat.le_of_ble_eq_true rfl) (Nat.le_of_ble_eq_true rfl) dX12_tells_158
              · skip
                refine lv_ldc2 (v := (-1000000000000000)) hx hb hown (hts _ w_7_184) dX12_tells_142 ?_
                refine lv_goto (tgt := 158) hx hb dX12_tells_145 (by decide) ?_
                exact sk_lret hx hb hr hlocks hK hP hD hS (⟨tk2_7, qp2_8, am2_9, at_2_10, aa2_11, wy2_12, ql2_13, ws_2_14, yw2_15, yo2_16, be2_17, bf2_18, rfl⟩) (Nat.le_of_ble_eq_true rfl) (Nat.le_of_ble_eq_true rfl) dX12_tells_158
            · skip
              refine lv_lconst (v := 0) hx hb dX12_tells_50 (by decide) ?_
              refine lv_lstore (lv' := [(6, .long 0), (5, .int (nI i)), (3, .long fe), (2, .int be_), (0, .ref mm), (1, .int (nI kd_6))]) hx hb dX12_tells_51 hl (by decide) rfl (fun ls hl => ?_)
              refine lv_iconst (v := 0) hx hb dX12_tells_53 ic_0 ?_
              refine lv_istore (lv' := [(8, .int 0), (6, .long 0), (5, .int (nI i)), (3, .long fe), (2, .int be_), (0, .ref mm), (1, .int (nI kd_6))]) hx hb dX12_tells_54 hl (by decide) rfl (fun ls hl => ?_)
              have lp_31 : ∀ (n_32 : Nat) (jm : Nat) (mo_ : Int64) (H : Heap) (locs : List Loc) (ls : Array Slot), 10 - jm < n_32 → (jm ≤ 10) → va_P D vwCl [ro_ mm 12 (mo g (nI ta) (nI pa) (nI pe) pd (nI pb) pp pf pg pn rt rn (nI cd) sn (nI il) tk2_7 am2_9 at_2_10 aa2_11 0 0 (-1) wt wy2_12 0 (nI rm) (nI ud) (nI nu) sd (nI qn) (nI qw) qo (nI qb) (nI qp2_8) qa (nI qi) (nI oc)), ra_I (g 24) cI 6 (l6 u0 u1 u2 u3 u4 u5), ra_I (g 25) cI 6 (l6 v0 v1 v2 v3 v4 v5), ra_N (g 26) cI 3200 cs, ra_I (g 31) cI 120 nw, ra_N (g 46) cI 9 pt, ra_J (g 86) cJ 1700 ql2_13, ra_I (g 20) cI 4 (l4 (nI l0) (nI l1) (nI dm) (nI l3)), ra_I (g 38) cI 90 ws_2_14, ra_I (g 36) cZ 900 yw2_15, ra_I (g 37) cZ 900 yo2_16, ra_J (g 43) cJ 90 be2_17, ra_J (g 44) cJ 90 bf2_18, ra_I (g 53) cI 32 rw_] H → va_D A [ro_ mm 12 (mo g (nI ta) (nI pa) (nI pe) pd (nI pb) pp pf pg pn rt rn (nI cd) sn (nI il) tk2_7 am2_9 at_2_10 aa2_11 0 0 (-1) wt wy2_12 0 (nI rm) (nI ud) (nI nu) sd (nI qn) (nI qw) qo (nI qb) (nI qp2_8) qa (nI qi) (nI oc)), ra_I (g 24) cI 6 (l6 u0 u1 u2 u3 u4 u5), ra_I (g 25) cI 6 (l6 v0 v1 v2 v3 v4 v5), ra_N (g 26) cI 3200 cs, ra_I (g 31) cI 120 nw, ra_N (g 46) cI 9 pt, ra_J (g 86) cJ 1700 ql2_13, ra_I (g 20) cI 4 (l4 (nI l0) (nI l1) (nI dm) (nI l3)), ra_I (g 38) cI 90 ws_2_14, ra_I (g 36) cZ 900 yw2_15, ra_I (g 37) cZ 900 yo2_16, ra_J (g 43) cJ 90 be2_17, ra_J (g 44) cJ 90 bf2_18, ra_I (g 53) cI 32 rw_] → va_S A s.heap H locs → lv_has ls 11 [(8, .int (nI jm)), (6, .long mo_), (5, .int (nI i)), (3, .long fe), (2, .int be_), (0, .ref mm), (1, .int (nI kd_6))] → W p l e { frames := 6, cells := 0, slots := 0, locals := 142 } s m ([.ref mm, .int (nI kd_6)] : List Value).toArray below meth c H locs 0 0 (MQ below (skL D (skT cI cJ cC cZ cS) (fun (r : Int64) (u : va_W) => ∃ (tk2 : Int32), ∃ (qp2 : Nat), ∃ (am2 : Int32), ∃ (at_2 : Int32), ∃ (aa2 : Int32), ∃ (wy2 : Int64), ∃ (ql2 : Nat → Int64), ∃ (ws_2 : Nat → Int32), ∃ (yw2 : Nat → Int32), ∃ (yo2 : Nat → Int32), ∃ (be2 : Nat → Int64), ∃ (bf2 : Nat → Int64), u = [ro_ mm 12 (mo g (nI ta) (nI pa) (nI pe) pd (nI pb) pp pf pg pn rt rn (nI cd) sn (nI il) tk2 am2 at_2 aa2 0 0 (-1) wt wy2 0 (nI rm) (nI ud) (nI nu) sd (nI qn) (nI qw) qo (nI qb) (nI qp2) qa (nI qi) (nI oc)), ra_I (g 24) cI 6 (l6 u0 u1 u2 u3 u4 u5), ra_I (g 25) cI 6 (l6 v0 v1 v2 v3 v4 v5), ra_N (g 26) cI 3200 cs, ra_I (g 31) cI 120 nw, ra_N (g 46) cI 9 pt, ra_J (g 86) cJ 1700 ql2, ra_I (g 20) cI 4 (l4 (nI l0) (nI l1) (nI dm) (nI l3)), ra_I (g 38) cI 90 ws_2, ra_I (g 36) cZ 900 yw2, ra_I (g 37) cZ 900 yo2, ra_J (g 43) cJ 90 be2, ra_J (g 44) cJ 90 bf2, ra_I (g 53) cI 32 rw_]) A) ([.ref mm, .int (nI kd_6)] : List Value).toArray s 0 0 A) (F0 m 56 ls []) := by
                intro n_32
                induction n_32 with
                | zero => intro jm mo_ H locs ls hm; exact absurd hm (Nat.not_lt_zero _)
                | succ n_32 ih_lp_31 =>
                  intro jm mo_ H locs ls hm hjm hP hD hS hl
                  refine lv_iload hx hb dX12_tells_56 (lv_at hl 0 rfl) ?_
                  refine lv_bipush (v := 10) hx hb dX12_tells_58 (by decide) ?_
                  refine lv_icmp_ge (tgt := 110) hx hb dX12_tells_60 (by decide) (fun c_33 => ?_) (fun c_33 => ?_)
                  · have c_33 : 10 ≤ jm := (nle 10 jm (Nat.le_of_ble_eq_true rfl) (by omega)).mp c_33
                    refine lv_iload_n hx hb dX12_tells_110 rfl (lv_at hl 4 rfl) ?_
                    refine lv_iconst (v := (-1)) hx hb dX12_tells_111 (by decide) ?_
                    refine lv_icmp_eq (tgt := 125) hx hb dX12_tells_112 (by decide) (fun c_34 => ?_) (fun c_34 => ?_)
                    · skip
                      refine lv_iload hx hb dX12_tells_125 (lv_at hl 2 rfl) ?_
                      refine lv_istore_n (lv' := [(2, .int (nI i)), (8, .int (nI jm)), (6, .long mo_), (5, .int (nI i)), (3, .long fe), (0, .ref mm), (1, .int (nI kd_6))]) hx hb dX12_tells_127 rfl hl (by decide) rfl (fun ls hl => ?_)
                      refine lv_lload hx hb dX12_tells_128 (lv_at hl 2 rfl) ?_
                      refine lv_lstore_n (lv' := [(3, .long mo_), (2, .int (nI i)), (8, .int (nI jm)), (6, .long mo_), (5, .int (nI i)), (0, .ref mm), (1, .int (nI kd_6))]) hx hb dX12_tells_130 rfl hl (by decide) rfl (fun ls hl => ?_)
                      refine lv_iinc (v := nI (i + 1)) (lv' := [(5, .int (nI (i + 1))), (3, .long mo_), (2, .int (nI i)), (8, .int (nI jm)), (6, .long mo_), (0, .ref mm), (1, .int (nI kd_6))]) hx hb dX12_tells_131 hl (k := 4) rfl (ninc i 1 (by decide)) (by decide) rfl (fun ls hl => ?_)
                      refine lv_goto (tgt := 32) hx hb dX12_tells_134 (by decide) ?_
                      exact ih_lp_20 (i + 1) mo_ (nI i) _ _ _ (by omega) (by omega) hP hD hS (lv_sub hl [0, 1, 2, 5, 6] rfl)
                    · skip
                      refine lv_lload hx hb dX12_tells_115 (lv_at hl 1 rfl) ?_
                      refine lv_lload_n hx hb dX12_tells_117 rfl (lv_at hl 3 rfl) ?_
                      refine W.lcmp hx hb dX12_tells_118 ?_
                      refine lv_if_lt (tgt := 125) hx hb dX12_tells_119 (by decide) (fun c_35 => ?_) (fun c_35 => ?_)
                      · skip
                        refine lv_iload hx hb dX12_tells_125 (lv_at hl 2 rfl) ?_
                        refine lv_istore_n (lv' := [(2, .int (nI i)), (8, .int (nI jm)), (6, .long mo_), (5, .int (nI i)), (3, .long fe), (0, .ref mm), (1, .int (nI kd_6))]) hx hb dX12_tells_127 rfl hl (by decide) rfl (fun ls hl => ?_)
                        refine lv_lload hx hb dX12_tells_128 (lv_at hl 2 rfl) ?_
                        refine lv_lstore_n (lv' := [(3, .long mo_), (2, .int (nI i)), (8, .int (nI jm)), (6, .long mo_), (5, .int (nI i)), (0, .ref mm), (1, .int (nI kd_6))]) hx hb dX12_tells_130 rfl hl (by decide) rfl (fun ls hl => ?_)
                        refine lv_iinc (v := nI (i + 1)) (lv' := [(5, .int (nI (i + 1))), (3, .long mo_), (2, .int (nI i)), (8, .int (nI jm)), (6, .long mo_), (0, .ref mm), (1, .int (nI kd_6))]) hx hb dX12_tells_131 hl (k := 4) rfl (ninc i 1 (by decide)) (by decide) rfl (fun ls hl => ?_)
                        refine lv_goto (tgt := 32) hx hb dX12_tells_134 (by decide) ?_
                        exact ih_lp_20 (i + 1) mo_ (nI i) _ _ _ (by omega) (by omega) hP hD hS (lv_sub hl [0, 1, 2, 5, 6] rfl)
                      · skip
                        refine lv_goto (tgt := 131) hx hb dX12_tells_122 (by decide) ?_
                        refine lv_iinc (v := nI (i + 1)) (lv' := [(5, .int (nI (i + 1))), (8, .int (nI jm)), (6, .long mo_), (3, .long fe), (2, .int be_), (0, .ref mm), (1, .int (nI kd_6))]) hx hb dX12_tells_131 hl (k := 2) rfl (ninc i 1 (by decide)) (by decide) rfl (fun ls hl => ?_)
                        refine lv_goto (tgt := 32) hx hb dX12_tells_134 (by decide) ?_
                        exact ih_lp_20 (i + 1) fe be_ _ _ _ (by omega) (by omega) hP hD hS (lv_sub hl [0, 3, 4, 5, 6] rfl)
                  · have c_33 : ¬ (10 ≤ jm) := fun h => c_33 ((nle 10 jm (Nat.le_of_ble_eq_true rfl) (by omega)).mpr h)
                    refine lv_aload_n hx hb dX12_tells_63 rfl (lv_at hl 5 rfl) ?_
                    refine sk_get (v := .ref (g 44)) (C := RX12) (T := TX12) (N := 92) hx hb hts inlX12 hown hK hP 0 rfl rfl 44 (Nat.le_of_ble_eq_true rfl) w_5_199 rfl dX12_tells_64 ?_
                    refine lv_bipush (v := 10) hx hb dX12_tells_67 (by decide) ?_
                    refine lv_iload hx hb dX12_tells_69 (lv_at hl 2 rfl) ?_
                    refine lv_imul hx hb dX12_tells_71 ?_
                    refine sk_top (nI (10 * i)) (nmul 10 i) ?_
                    refine lv_iload hx hb dX12_tells_72 (lv_at hl 0 rfl) ?_
                    refine lv_iadd hx hb dX12_tells_74 ?_
                    refine sk_top (nI (10 * i + jm)) (nI_add (10 * i) jm) ?_
                    refine va_lald hx hb hK.1 hP 12 1 rfl rfl (vin (10 * i + jm) 90 (by omega) (Nat.le_of_ble_eq_true rfl)) dX12_tells_75 ?_
                    refine lv_topl (fun v_36 ev_36 => ?_)
                    refine lv_aload_n hx hb dX12_tells_76 rfl (lv_at hl 5 rfl) ?_
                    refine sk_get (v := .ref (g 43)) (C := RX12) (T := TX12) (N := 92) hx hb hts inlX12 hown hK hP 0 rfl rfl 43 (Nat.le_of_ble_eq_true rfl) w_5_198 rfl dX12_tells_77 ?_
                    refine lv_bipush (v := 10) hx hb dX12_tells_80 (by decide) ?_
                    refine lv_iload hx hb dX12_tells_82 (lv_at hl 2 rfl) ?_
                    refine lv_imul hx hb dX12_tells_84 ?_
                    refine sk_top (nI (10 * i)) (nmul 10 i) ?_
                    refine lv_iload hx hb dX12_tells_85 (lv_at hl 0 rfl) ?_
                    refine lv_iadd hx hb dX12_tells_87 ?_
                    refine sk_top (nI (10 * i + jm)) (nI_add (10 * i) jm) ?_
                    refine va_lald hx hb hK.1 hP 11 1 rfl rfl (vin (10 * i + jm) 90 (by omega) (Nat.le_of_ble_eq_true rfl)) dX12_tells_88 ?_
                    refine lv_topl (fun v_37 ev_37 => ?_)
                    refine lv_lmul hx hb dX12_tells_89 ?_
                    refine lv_topl (fun v_38 ev_38 => ?_)
                    refine lv_lstore (lv' := [(9, .long v_38), (8, .int (nI jm)), (6, .long mo_), (5, .int (nI i)), (3, .long fe), (2, .int be_), (0, .ref mm), (1, .int (nI kd_6))]) hx hb dX12_tells_90 hl (by decide) rfl (fun ls hl => ?_)
                    refine lv_lload hx hb dX12_tells_92 (lv_at hl 0 rfl) ?_
                    refine lv_lload hx hb dX12_tells_94 (lv_at hl 2 rfl) ?_
                    refine W.lcmp hx hb dX12_tells_96 ?_
                    refine lv_if_le (tgt := 104) hx hb dX12_tells_97 (by decide) (fun c_39 => ?_) (fun c_39 => ?_)
                    · skip
                      refine lv_iinc (v := nI (jm + 1)) (lv' := [(8, .int (nI (jm + 1))), (9, .long v_38), (6, .long mo_), (5, .int (nI i)), (3, .long fe), (2, .int be_), (0, .ref mm), (1, .int (nI kd_6))]) hx hb dX12_tells_104 hl (k := 1) rfl (ninc jm 1 (by decide)) (by decide) rfl (fun ls hl => ?_)
                      refine lv_goto (tgt := 56) hx hb dX12_tells_107 (by decide) ?_
                      exact ih_lp_31 (jm + 1) mo_ _ _ _ (by omega) (by omega) hP hD hS (lv_sub hl [0, 2, 3, 4, 5, 6, 7] rfl)
                    · skip
                      refine lv_lload hx hb dX12_tells_100 (lv_at hl 0 rfl) ?_
                      refine lv_lstore (lv' := [(6, .long v_38), (9, .long v_38), (8, .int (nI jm)), (5, .int (nI i)), (3, .long fe), (2, .int be_), (0, .ref mm), (1, .int (nI kd_6))]) hx hb dX12_tells_102 hl (by decide) rfl (fun ls hl => ?_)
                      refine lv_iinc (v := nI (jm + 1)) (lv' := [(8, .int (nI (jm + 1))), (6, .long v_38), (9, .long v_38), (5, .int (nI i)), (3, .long fe), (2, .int be_), (0, .ref mm), (1, .int (nI kd_6))]) hx hb dX12_tells_104 hl (k := 2) rfl (ninc jm 1 (by decide)) (by decide) rfl (fun ls hl => ?_)
                      refine lv_goto (tgt := 56) hx hb dX12_tells_107 (by decide) ?_
                      exact ih_lp_31 (jm + 1) v_38 _ _ _ (by omega) (by omega) hP hD hS (lv_sub hl [0, 1, 3, 4, 5, 6, 7] rfl)
              exact lp_31 (10 - 0 + 1) 0 0 _ _ _ (Nat.lt_succ_self _) (by omega) hP hD hS (lv_sub hl [0, 1, 2, 3, 4, 5, 6] rfl)
      exact lp_20 (dm - 0 + 1) 0 0 (-1) _ _ _ (Nat.lt_succ_self _) (by omega) hP hD hS (lv_sub hl [0, 1, 2, 3, 4] rfl)
    · have c_5 : b_2 = 0 := (neq b_2 0 (by omega) (Nat.le_of_ble_eq_true rfl)).mp c_5
      refine lv_ldc2 (v := (-1000000000000000)) hx hb hown (hts _ w_7_184) dX12_tells_17 ?_
      exact sk_lret hx hb hr hlocks hK hP hD hS (⟨tk, qp, am, at_, aa, wy, ql, ws_, yw, yo, be, bf, rfl⟩) (Nat.le_of_ble_eq_true rfl) (Nat.le_of_ble_eq_true rfl) dX12_tells_20
set_option maxHeartbeats 4000000 in
set_option maxRecDepth 100000 in
theorem c_m_isInX (l : Launch) (D : va_G) (cI cJ cC cZ cS : ClassId) (v : Int64) (y : Int64) (z : Int64)  : skM l yX12_isIn cX12_isIn 6 (some .boolean) 0 0 0 0 D (skT cI cJ cC cZ cS) [.long v, .long y, .long z] [] (skI D (skT cI cJ cC cZ cS) (fun (r : Int32) (u : va_W) => ∃ (b : Nat), ((b = 0 ∧ ¬ (y ≤ v ∧ v ≤ z)) ∨ (b = 1 ∧ y ≤ v ∧ v ≤ z)) ∧ r = nI b ∧ u = [])) := by
  refine skM_of pf_X12_isIn (Nat.le_of_ble_eq_true rfl) ?_
  intro p e s m below meth c A ls E hP hD hl
  refine skE_el E (fun hx hb hr hml hlocks hin hown hts hK hA => ?_)
  have hown : s.vm.findClass RX12 = some m.cls := hown
  have hS : va_S A s.heap s.heap [] := va_S.rf
  have hl : lv_has ls 6 [(0, .long v), (2, .long y), (4, .long z)] := hl
  refine lv_lload_n hx hb dX12_isIn_0 rfl (lv_at hl 0 rfl) ?_
  refine lv_lload_n hx hb dX12_isIn_1 rfl (lv_at hl 1 rfl) ?_
  refine W.lcmp hx hb dX12_isIn_2 ?_
  refine lv_if_lt (tgt := 17) hx hb dX12_isIn_3 (by decide) (fun c_1 => ?_) (fun c_1 => ?_)
  · skip
    refine lv_iconst (v := 0) hx hb dX12_isIn_17 ic_0 ?_
    exact sk_iret hx hb hr rfl hlocks hK hP hD hS (⟨0, Or.inl ⟨rfl, fun q => absurd q.1 (Int64.not_le.mpr ((lg_cmp_lt _ _).mp c_1))⟩, rfl, rfl⟩) (Nat.le_of_ble_eq_true rfl) (Nat.le_of_ble_eq_true rfl) dX12_isIn_18
  · skip
    refine lv_lload_n hx hb dX12_isIn_6 rfl (lv_at hl 0 rfl) ?_
    refine lv_lload hx hb dX12_isIn_7 (lv_at hl 2 rfl) ?_
    refine W.lcmp hx hb dX12_isIn_9 ?_
    refine lv_if_gt (tgt := 17) hx hb dX12_isIn_10 (by decide) (fun c_2 => ?_) (fun c_2 => ?_)
    · skip
      refine lv_iconst (v := 0) hx hb dX12_isIn_17 ic_0 ?_
      exact sk_iret hx hb hr rfl hlocks hK hP hD hS (⟨0, Or.inl ⟨rfl, fun q => absurd q.2 (Int64.not_le.mpr ((lg_cmp_gt _ _).mp c_2))⟩, rfl, rfl⟩) (Nat.le_of_ble_eq_true rfl) (Nat.le_of_ble_eq_true rfl) dX12_isIn_18
    · skip
      refine lv_iconst (v := 1) hx hb dX12_isIn_13 ic_1 ?_
      refine lv_goto (tgt := 18) hx hb dX12_isIn_14 (by decide) ?_
      exact sk_iret hx hb hr rfl hlocks hK hP hD hS (⟨1, Or.inr ⟨rfl, lg_ge c_1, lg_le c_2⟩, rfl, rfl⟩) (Nat.le_of_ble_eq_true rfl) (Nat.le_of_ble_eq_true rfl) dX12_isIn_18
theorem sd_of {p e n : Nat} (h : (p + 1440 * e - e * n) % 1440 = 0) : sd p e n := h
theorem dg_X12_same_0_0 : bqL cX12_same 0 [(0, [27]), (1, [133]), (2, [9]), (3, [20, 1, 213]), (6, [184, 0, 238]), (9, [153, 0, 15]), (24, [2]), (25, [172]), (12, [28]), (13, [133]), (14, [9]), (15, [20, 1, 213]), (18, [184, 0, 238]), (21, [154, 0, 5]), (26, [27]), (27, [62]), (28, [3]), (29, [54, 4]), (31, [21, 4]), (33, [17, 5, 160]), (36, [162, 0, 28]), (64, [2]), (65, [172]), (39, [29]), (40, [154, 0, 6]), (46, [29]), (47, [17, 5, 160]), (50, [96]), (51, [28]), (52, [100]), (53, [17, 5, 160]), (56, [112]), (57, [62]), (58, [132, 4, 1]), (61, [167, 255, 226]), (43, [21, 4]), (45, [172])] = true := by decide +kernel
theorem dX12_same_0 : decode cX12_same 0 = .ok (.iload_n 1, 1) := q_iload_n1 (bat_get dg_X12_same_0_0 0 rfl rfl)
theorem dX12_same_1 : decode cX12_same 1 = .ok (.i2l, 1) := q_i2l (bat_get dg_X12_same_0_0 1 rfl rfl)
theorem dX12_same_2 : decode cX12_same 2 = .ok (.lconst 0, 1) := q_lconst0 (bat_get dg_X12_same_0_0 2 rfl rfl)
theorem dX12_same_3 : decode cX12_same 3 = .ok (.ldc2_w 469, 3) := q_ldc2_w (bat_get dg_X12_same_0_0 3 rfl rfl) rfl
theorem dX12_same_6 : decode cX12_same 6 = .ok (.invokestatic 238, 3) := q_invokestatic (bat_get dg_X12_same_0_0 4 rfl rfl) rfl
theorem dX12_same_9 : decode cX12_same 9 = .ok (.ifCond .eq 15, 3) := q_ifCond_eq (bat_get dg_X12_same_0_0 5 rfl rfl) rfl
theorem dX12_same_24 : decode cX12_same 24 = .ok (.iconst (-1), 1) := q_iconstm1 (bat_get dg_X12_same_0_0 6 rfl rfl)
theorem dX12_same_25 : decode cX12_same 25 = .ok (.ireturn, 1) := q_ireturn (bat_get dg_X12_same_0_0 7 rfl rfl)
theorem dX12_same_12 : decode cX12_same 12 = .ok (.iload_n 2, 1) := q_iload_n2 (bat_get dg_X12_same_0_0 8 rfl rfl)
theorem dX12_same_13 : decode cX12_same 13 = .ok (.i2l, 1) := q_i2l (bat_get dg_X12_same_0_0 9 rfl rfl)
theorem dX12_same_14 : decode cX12_same 14 = .ok (.lconst 0, 1) := q_lconst0 (bat_get dg_X12_same_0_0 10 rfl rfl)
theorem dX12_same_15 : decode cX12_same 15 = .ok (.ldc2_w 469, 3) := q_ldc2_w (bat_get dg_X12_same_0_0 11 rfl rfl) rfl
theorem dX12_same_18 : decode cX12_same 18 = .ok (.invokestatic 238, 3) := q_invokestatic (bat_get dg_X12_same_0_0 12 rfl rfl) rfl
theorem dX12_same_21 : decode cX12_same 21 = .ok (.ifCond .ne 5, 3) := q_ifCond_ne (bat_get dg_X12_same_0_0 13 rfl rfl) rfl
theorem dX12_same_26 : decode cX12_same 26 = .ok (.iload_n 1, 1) := q_iload_n1 (bat_get dg_X12_same_0_0 14 rfl rfl)
theorem dX12_same_27 : decode cX12_same 27 = .ok (.istore_n 3, 1) := q_istore_n3 (bat_get dg_X12_same_0_0 15 rfl rfl)
theorem dX12_same_28 : decode cX12_same 28 = .ok (.iconst 0, 1) := q_iconst0 (bat_get dg_X12_same_0_0 16 rfl rfl)
theorem dX12_same_29 : decode cX12_same 29 = .ok (.istore 4, 2) := q_istore (bat_get dg_X12_same_0_0 17 rfl rfl)
theorem dX12_same_31 : decode cX12_same 31 = .ok (.iload 4, 2) := q_iload (bat_get dg_X12_same_0_0 18 rfl rfl)
theorem dX12_same_33 : decode cX12_same 33 = .ok (.sipush 1440, 3) := q_sipush (bat_get dg_X12_same_0_0 19 rfl rfl) rfl
theorem dX12_same_36 : decode cX12_same 36 = .ok (.if_icmp .ge 28, 3) := q_if_icmp_ge (bat_get dg_X12_same_0_0 20 rfl rfl) rfl
theorem dX12_same_64 : decode cX12_same 64 = .ok (.iconst (-1), 1) := q_iconstm1 (bat_get dg_X12_same_0_0 21 rfl rfl)
theorem dX12_same_65 : decode cX12_same 65 = .ok (.ireturn, 1) := q_ireturn (bat_get dg_X12_same_0_0 22 rfl rfl)
theorem dX12_same_39 : decode cX12_same 39 = .ok (.iload_n 3, 1) := q_iload_n3 (bat_get dg_X12_same_0_0 23 rfl rfl)
theorem dX12_same_40 : decode cX12_same 40 = .ok (.ifCond .ne 6, 3) := q_ifCond_ne (bat_get dg_X12_same_0_0 24 rfl rfl) rfl
theorem dX12_same_46 : decode cX12_same 46 = .ok (.iload_n 3, 1) := q_iload_n3 (bat_get dg_X12_same_0_0 25 rfl rfl)
theorem dX12_same_47 : decode cX12_same 47 = .ok (.sipush 1440, 3) := q_sipush (bat_get dg_X12_same_0_0 26 rfl rfl) rfl
theorem dX12_same_50 : decode cX12_same 50 = .ok (.iadd, 1) := q_iadd (bat_get dg_X12_same_0_0 27 rfl rfl)
theorem dX12_same_51 : decode cX12_same 51 = .ok (.iload_n 2, 1) := q_iload_n2 (bat_get dg_X12_same_0_0 28 rfl rfl)
theorem dX12_same_52 : decode cX12_same 52 = .ok (.isub, 1) := q_isub (bat_get dg_X12_same_0_0 29 rfl rfl)
theorem dX12_same_53 : decode cX12_same 53 = .ok (.sipush 1440, 3) := q_sipush (bat_get dg_X12_same_0_0 30 rfl rfl) rfl
theorem dX12_same_56 : decode cX12_same 56 = .ok (.irem, 1) := q_irem (bat_get dg_X12_same_0_0 31 rfl rfl)
theorem dX12_same_57 : decode cX12_same 57 = .ok (.istore_n 3, 1) := q_istore_n3 (bat_get dg_X12_same_0_0 32 rfl rfl)
theorem dX12_same_58 : decode cX12_same 58 = .ok (.iinc 4 1, 3) := q_iinc (bat_get dg_X12_same_0_0 33 rfl rfl) rfl
theorem dX12_same_61 : decode cX12_same 61 = .ok (.goto (-30), 3) := q_goto (bat_get dg_X12_same_0_0 34 rfl rfl) rfl
theorem dX12_same_43 : decode cX12_same 43 = .ok (.iload 4, 2) := q_iload (bat_get dg_X12_same_0_0 35 rfl rfl)
theorem dX12_same_45 : decode cX12_same 45 = .ok (.ireturn, 1) := q_ireturn (bat_get dg_X12_same_0_0 36 rfl rfl)
theorem w_8_117 : (Cond.constantLong RX12 469 (1439)) ∈ wsL_law := sk_mem (ck_8 _ (List.mem_of_getElem? (i := 117) rfl)) rfl
theorem w_8_116 : (Cond.code yX12_same cX12_same 5 (some .int)) ∈ wsL_law := sk_mem (ck_8 _ (List.mem_of_getElem? (i := 116) rfl)) rfl
set_option maxHeartbeats 4000000 in
set_option maxRecDepth 100000 in
theorem c_m_same (l : Launch) (D : va_G) (cI cJ cC cZ cS : ClassId) (mm : Nat) (g : Nat → Nat) (ta : Nat) (pa : Nat) (pe : Nat) (pd : Int32) (pb : Nat) (pp : Int32) (pf : Int32) (pg : Int32) (pn : Int32) (rt : Int32) (rn : Int32) (cd : Nat) (sn : Int32) (il : Nat) (tk : Int32) (am : Int32) (at_ : Int32) (aa : Int32) (wt : Int32) (wy : Int64) (rm : Nat) (ud : Nat) (nu : Nat) (sd : Int64) (qn : Nat) (qw : Nat) (qo : Int32) (qb : Nat) (qp : Nat) (qa : Int64) (qi : Nat) (oc : Nat) (o : Int32) (w : Int32)  : skM l yX12_same cX12_same 5 (some .int) 1 25 0 0 D (skT cI cJ cC cZ cS) [.ref mm, .int o, .int w] [ro_ mm 12 (mo g (nI ta) (nI pa) (nI pe) pd (nI pb) pp pf pg pn rt rn (nI cd) sn (nI il) tk am at_ aa 0 0 (-1) wt wy 0 (nI rm) (nI ud) (nI nu) sd (nI qn) (nI qw) qo (nI qb) (nI qp) qa (nI qi) (nI oc))] (skI D (skT cI cJ cC cZ cS) (fun (r : Int32) (u : va_W) => smR o w r ∧ u = [ro_ mm 12 (mo g (nI ta) (nI pa) (nI pe) pd (nI pb) pp pf pg pn rt rn (nI cd) sn (nI il) tk am at_ aa 0 0 (-1) wt wy 0 (nI rm) (nI ud) (nI nu) sd (nI qn) (nI qw) qo (nI qb) (nI qp) qa (nI qi) (nI oc))])) := by
  refine skM_of pf_X12_same (Nat.le_of_ble_eq_true rfl) ?_
  intro p e s m below meth c A ls E hP hD hl
  refine skE_el E (fun hx hb hr hml hlocks hin hown hts hK hA => ?_)
  have hown : s.vm.findClass RX12 = some m.cls := hown
  have hS : va_S A s.heap s.heap [] := va_S.rf
  have hl : lv_has ls 5 [(0, .ref mm), (1, .int o), (2, .int w)] := hl
  refine lv_iload_n hx hb dX12_same_0 rfl (lv_at hl 1 rfl) ?_
  refine lv_i2l hx hb dX12_same_1 rfl ?_
  refine lv_lconst (v := 0) hx hb dX12_same_2 (by decide) ?_
  refine lv_ldc2 (v := 1439) hx hb hown (hts _ w_8_117) dX12_same_3 ?_
  refine sk_Si (n := 3) (rest := []) (wr := [ro_ mm 12 (mo g (nI ta) (nI pa) (nI pe) pd (nI pb) pp pf pg pn rt rn (nI cd) sn (nI il) tk am at_ aa 0 0 (-1) wt wy 0 (nI rm) (nI ud) (nI nu) sd (nI qn) (nI qw) qo (nI qb) (nI qp) qa (nI qi) (nI oc))]) ⟨hx, hb, hml, hown, hts⟩ hl.1 (c_m_isInX l D cI cJ cC cZ cS (Int32.toInt64 o) 0 1439) w_7_0 w_7_1 w_1_14 w_7_2 hd_X12_isIn_3 ⟨⟨(Nat.le_of_ble_eq_true rfl), (Nat.le_of_ble_eq_true rfl)⟩, (Nat.le_of_ble_eq_true rfl), (Nat.le_of_ble_eq_true rfl)⟩ hK hP hD hS hA [] [0] rfl rfl (by decide +kernel) (by decide +kernel) (by decide +kernel) rfl rfl (Nat.le_of_ble_eq_true rfl) dX12_same_6 (fun r_2 u H locs hw hP hD hS => ?_)
  obtain ⟨b_1, hb1_3, rfl, rfl⟩ := hw
  refine o_re (ws' := [ro_ mm 12 (mo g (nI ta) (nI pa) (nI pe) pd (nI pb) pp pf pg pn rt rn (nI cd) sn (nI il) tk am at_ aa 0 0 (-1) wt wy 0 (nI rm) (nI ud) (nI nu) sd (nI qn) (nI qw) qo (nI qb) (nI qp) qa (nI qi) (nI oc))]) hP hD rfl (fun hP hD => ?_)
  refine lv_if_eq (tgt := 24) hx hb dX12_same_9 (by decide) (fun c_4 => ?_) (fun c_4 => ?_)
  · have c_4 : b_1 = 0 := (neq b_1 0 (by omega) (Nat.le_of_ble_eq_true rfl)).mp c_4
    refine lv_iconst (v := (-1)) hx hb dX12_same_24 (by decide) ?_
    exact sk_iret hx hb hr rfl hlocks hK hP hD hS (⟨(Or.inr ⟨outA (hb1_3.resolve_right (by omega)).2, rfl⟩), rfl⟩) (Nat.le_of_ble_eq_true rfl) (Nat.le_of_ble_eq_true rfl) dX12_same_25
  · have c_4 : ¬ (b_1 = 0) := fun h => c_4 ((neq b_1 0 (by omega) (Nat.le_of_ble_eq_true rfl)).mpr h)
    obtain ⟨kd_5, hkd_5, rfl⟩ := inK 1440 (hb1_3.resolve_left (by omega)).2.1 (hb1_3.resolve_left (by omega)).2.2 (by decide)
    refine lv_iload_n hx hb dX12_same_12 rfl (lv_at hl 2 rfl) ?_
    refine lv_i2l hx hb dX12_same_13 rfl ?_
    refine lv_lconst (v := 0) hx hb dX12_same_14 (by decide) ?_
    refine lv_ldc2 (v := 1439) hx hb hown (hts _ w_8_117) dX12_same_15 ?_
    refine sk_Si (n := 3) (rest := []) (wr := [ro_ mm 12 (mo g (nI ta) (nI pa) (nI pe) pd (nI pb) pp pf pg pn rt rn (nI cd) sn (nI il) tk am at_ aa 0 0 (-1) wt wy 0 (nI rm) (nI ud) (nI nu) sd (nI qn) (nI qw) qo (nI qb) (nI qp) qa (nI qi) (nI oc))]) ⟨hx, hb, hml, hown, hts⟩ hl.1 (c_m_isInX l D cI cJ cC cZ cS (Int32.toInt64 w) 0 1439) w_7_0 w_7_1 w_1_14 w_7_2 hd_X12_isIn_3 ⟨⟨(Nat.le_of_ble_eq_true rfl), (Nat.le_of_ble_eq_true rfl)⟩, (Nat.le_of_ble_eq_true rfl), (Nat.le_of_ble_eq_true rfl)⟩ hK hP hD hS hA [] [0] rfl rfl (by decide +kernel) (by decide +kernel) (by decide +kernel) rfl rfl (Nat.le_of_ble_eq_true rfl) dX12_same_18 (fun r_7 u H locs hw hP hD hS => ?_)
    obtain ⟨b_6, hb1_8, rfl, rfl⟩ := hw
    refine o_re (ws' := [ro_ mm 12 (mo g (nI ta) (nI pa) (nI pe) pd (nI pb) pp pf pg pn rt rn (nI cd) sn (nI il) tk am at_ aa 0 0 (-1) wt wy 0 (nI rm) (nI ud) (nI nu) sd (nI qn) (nI qw) qo (nI qb) (nI qp) qa (nI qi) (nI oc))]) hP hD rfl (fun hP hD => ?_)
    refine lv_if_ne (tgt := 26) hx hb dX12_same_21 (by decide) (fun c_9 => ?_) (fun c_9 => ?_)
    · have c_9 : ¬ (b_6 = 0) := fun h => c_9 ((neq b_6 0 (by omega) (Nat.le_of_ble_eq_true rfl)).mpr h)
      obtain ⟨kd_10, hkd_10, rfl⟩ := inK 1440 (hb1_8.resolve_left (by omega)).2.1 (hb1_8.resolve_left (by omega)).2.2 (by decide)
      refine lv_iload_n hx hb dX12_same_26 rfl (lv_at hl 1 rfl) ?_
      refine lv_istore_n (lv' := [(3, .int (nI kd_5)), (0, .ref mm), (1, .int (nI kd_5)), (2, .int (nI kd_10))]) hx hb dX12_same_27 rfl hl (by decide) rfl (fun ls hl => ?_)
      refine lv_iconst (v := 0) hx hb dX12_same_28 ic_0 ?_
      refine lv_istore (lv' := [(4, .int 0), (3, .int (nI kd_5)), (0, .ref mm), (1, .int (nI kd_5)), (2, .int (nI kd_10))]) hx hb dX12_same_29 hl (by decide) rfl (fun ls hl => ?_)
      have lp_11 : ∀ (n_12 : Nat) (i : Nat) (vv : Nat) (H : Heap) (locs : List Loc) (ls : Array Slot), 1440 - i < n_12 → (i ≤ 1440) → (vv < 1440) → (vv = (kd_5 + 1440 * kd_10 - kd_10 * i) % 1440) → (sno kd_5 kd_10 i) → va_P D vwCl [ro_ mm 12 (mo g (nI ta) (nI pa) (nI pe) pd (nI pb) pp pf pg pn rt rn (nI cd) sn (nI il) tk am at_ aa 0 0 (-1) wt wy 0 (nI rm) (nI ud) (nI nu) sd (nI qn) (nI qw) qo (nI qb) (nI qp) qa (nI qi) (nI oc))] H → va_D A [ro_ mm 12 (mo g (nI ta) (nI pa) (nI pe) pd (nI pb) pp pf pg pn rt rn (nI cd) sn (nI il) tk am at_ aa 0 0 (-1) wt wy 0 (nI rm) (nI ud) (nI nu) sd (nI qn) (nI qw) qo (nI qb) (nI qp) qa (nI qi) (nI oc))] → va_S A s.heap H locs → lv_has ls 5 [(4, .int (nI i)), (3, .int (nI vv)), (0, .ref mm), (1, .int (nI kd_5)), (2, .int (nI kd_10))] → W p l e { frames := 1, cells := 0, slots := 0, locals := 25 } s m ([.ref mm, .int (nI kd_5), .int (nI kd_10)] : List Value).toArray below meth c H locs 0 0 (MQ below (skI D (skT cI cJ cC cZ cS) (fun (r : Int32) (u : va_W) => smR (nI kd_5) (nI kd_10) r ∧ u = [ro_ mm 12 (mo g (nI ta) (nI pa) (nI pe) pd (nI pb) pp pf pg pn rt rn (nI cd) sn (nI il) tk am at_ aa 0 0 (-1) wt wy 0 (nI rm) (nI ud) (nI nu) sd (nI qn) (nI qw) qo (nI qb) (nI qp) qa (nI qi) (nI oc))]) A) ([.ref mm, .int (nI kd_5), .int (nI kd_10)] : List Value).toArray s 0 0 A) (F0 m 31 ls []) := by
        intro n_12
        induction n_12 with
        | zero => intro i vv H locs ls hm; exact absurd hm (Nat.not_lt_zero _)
        | succ n_12 ih_lp_11 =>
          intro i vv H locs ls hm hi hv9 hvv hno hP hD hS hl
          refine lv_iload hx hb dX12_same_31 (lv_at hl 0 rfl) ?_
          refine lv_sipush (v := 1440) hx hb dX12_same_33 (by decide) ?_
          refine lv_icmp_ge (tgt := 64) hx hb dX12_same_36 (by decide) (fun c_13 => ?_) (fun c_13 => ?_)
          · have c_13 : 1440 ≤ i := (nle 1440 i (Nat.le_of_ble_eq_true rfl) (by omega)).mp c_13
            refine lv_iconst (v := (-1)) hx hb dX12_same_64 (by decide) ?_
            exact sk_iret hx hb hr rfl hlocks hK hP hD hS (⟨(sm_none (by omega) (by omega) (by omega) hno), rfl⟩) (Nat.le_of_ble_eq_true rfl) (Nat.le_of_ble_eq_true rfl) dX12_same_65
          · have c_13 : ¬ (1440 ≤ i) := fun h => c_13 ((nle 1440 i (Nat.le_of_ble_eq_true rfl) (by omega)).mpr h)
            refine lv_iload_n hx hb dX12_same_39 rfl (lv_at hl 1 rfl) ?_
            refine lv_if_ne (tgt := 46) hx hb dX12_same_40 (by decide) (fun c_14 => ?_) (fun c_14 => ?_)
            · have c_14 : ¬ (vv = 0) := fun h => c_14 ((neq vv 0 (by omega) (Nat.le_of_ble_eq_true rfl)).mpr h)
              refine lv_iload_n hx hb dX12_same_46 rfl (lv_at hl 1 rfl) ?_
              refine lv_sipush (v := 1440) hx hb dX12_same_47 (by decide) ?_
              refine lv_iadd hx hb dX12_same_50 ?_
              refine sk_top (nI (vv + 1440)) (nI_add vv 1440) ?_
              refine lv_iload_n hx hb dX12_same_51 rfl (lv_at hl 4 rfl) ?_
              refine lv_isub hx hb dX12_same_52 ?_
              refine sk_top (nI (vv + 1440 - kd_10)) (nsub (vv + 1440) kd_10 (by omega)) ?_
              refine lv_sipush (v := 1440) hx hb dX12_same_53 (by decide) ?_
              refine lv_irem hx hb dX12_same_56 (by decide) ?_
              refine sk_top (nI ((vv + 1440 - kd_10) % 1440)) (nrem (vv + 1440 - kd_10) 1440 (by omega) (by omega) (by omega)) ?_
              refine lv_istore_n (lv' := [(3, .int (nI ((vv + 1440 - kd_10) % 1440))), (4, .int (nI i)), (0, .ref mm), (1, .int (nI kd_5)), (2, .int (nI kd_10))]) hx hb dX12_same_57 rfl hl (by decide) rfl (fun ls hl => ?_)
              refine lv_iinc (v := nI (i + 1)) (lv' := [(4, .int (nI (i + 1))), (3, .int (nI ((vv + 1440 - kd_10) % 1440))), (0, .ref mm), (1, .int (nI kd_5)), (2, .int (nI kd_10))]) hx hb dX12_same_58 hl (k := 1) rfl (ninc i 1 (by decide)) (by decide) rfl (fun ls hl => ?_)
              refine lv_goto (tgt := 31) hx hb dX12_same_61 (by decide) ?_
              exact ih_lp_11 (i + 1) ((vv + 1440 - kd_10) % 1440) _ _ _ (by omega) (by omega) (by omega) (sm_next (by omega) (by omega) hvv) (sno_s hno (fun h => absurd (show _ = 0 from h) (by omega))) hP hD hS (lv_sub hl [0, 1, 2, 3, 4] rfl)
            · have c_14 : vv = 0 := (neq vv 0 (by omega) (Nat.le_of_ble_eq_true rfl)).mp c_14
              refine lv_iload hx hb dX12_same_43 (lv_at hl 0 rfl) ?_
              exact sk_iret hx hb hr rfl hlocks hK hP hD hS (⟨(sm_found (by omega) (by omega) (by omega) (sd_of (hvv.symm.trans (by omega))) hno), rfl⟩) (Nat.le_of_ble_eq_true rfl) (Nat.le_of_ble_eq_true rfl) dX12_same_45
      exact lp_11 (1440 - 0 + 1) 0 kd_5 _ _ _ (Nat.lt_succ_self _) (by omega) (by omega) (sm_0 (by omega)) sno_0 hP hD hS (lv_sub hl [0, 1, 2, 3, 4] rfl)
    · have c_9 : b_6 = 0 := (neq b_6 0 (by omega) (Nat.le_of_ble_eq_true rfl)).mp c_9
      refine lv_iconst (v := (-1)) hx hb dX12_same_24 (by decide) ?_
      exact sk_iret hx hb hr rfl hlocks hK hP hD hS (⟨(Or.inr ⟨outB (hb1_8.resolve_right (by omega)).2, rfl⟩), rfl⟩) (Nat.le_of_ble_eq_true rfl) (Nat.le_of_ble_eq_true rfl) dX12_same_25
theorem dg_X12_checked_0_0 : bqL cX12_checked 0 [(0, [17, 0, 139]), (3, [61]), (4, [3]), (5, [62]), (6, [29]), (7, [27]), (8, [162, 0, 21]), (29, [28]), (30, [172]), (11, [6]), (12, [28]), (13, [104]), (14, [42]), (15, [29]), (16, [46]), (17, [96]), (18, [17, 0, 251]), (21, [112]), (22, [61]), (23, [132, 3, 1]), (26, [167, 255, 236])] = true := by decide +kernel
theorem dX12_checked_0 : decode cX12_checked 0 = .ok (.sipush 139, 3) := q_sipush (bat_get dg_X12_checked_0_0 0 rfl rfl) rfl
theorem dX12_checked_3 : decode cX12_checked 3 = .ok (.istore_n 2, 1) := q_istore_n2 (bat_get dg_X12_checked_0_0 1 rfl rfl)
theorem dX12_checked_4 : decode cX12_checked 4 = .ok (.iconst 0, 1) := q_iconst0 (bat_get dg_X12_checked_0_0 2 rfl rfl)
theorem dX12_checked_5 : decode cX12_checked 5 = .ok (.istore_n 3, 1) := q_istore_n3 (bat_get dg_X12_checked_0_0 3 rfl rfl)
theorem dX12_checked_6 : decode cX12_checked 6 = .ok (.iload_n 3, 1) := q_iload_n3 (bat_get dg_X12_checked_0_0 4 rfl rfl)
theorem dX12_checked_7 : decode cX12_checked 7 = .ok (.iload_n 1, 1) := q_iload_n1 (bat_get dg_X12_checked_0_0 5 rfl rfl)
theorem dX12_checked_8 : decode cX12_checked 8 = .ok (.if_icmp .ge 21, 3) := q_if_icmp_ge (bat_get dg_X12_checked_0_0 6 rfl rfl) rfl
theorem dX12_checked_29 : decode cX12_checked 29 = .ok (.iload_n 2, 1) := q_iload_n2 (bat_get dg_X12_checked_0_0 7 rfl rfl)
theorem dX12_checked_30 : decode cX12_checked 30 = .ok (.ireturn, 1) := q_ireturn (bat_get dg_X12_checked_0_0 8 rfl rfl)
theorem dX12_checked_11 : decode cX12_checked 11 = .ok (.iconst 3, 1) := q_iconst3 (bat_get dg_X12_checked_0_0 9 rfl rfl)
theorem dX12_checked_12 : decode cX12_checked 12 = .ok (.iload_n 2, 1) := q_iload_n2 (bat_get dg_X12_checked_0_0 10 rfl rfl)
theorem dX12_checked_13 : decode cX12_checked 13 = .ok (.imul, 1) := q_imul (bat_get dg_X12_checked_0_0 11 rfl rfl)
theorem dX12_checked_14 : decode cX12_checked 14 = .ok (.aload_n 0, 1) := q_aload_n0 (bat_get dg_X12_checked_0_0 12 rfl rfl)
theorem dX12_checked_15 : decode cX12_checked 15 = .ok (.iload_n 3, 1) := q_iload_n3 (bat_get dg_X12_checked_0_0 13 rfl rfl)
theorem dX12_checked_16 : decode cX12_checked 16 = .ok (.iaload, 1) := q_iaload (bat_get dg_X12_checked_0_0 14 rfl rfl)
theorem dX12_checked_17 : decode cX12_checked 17 = .ok (.iadd, 1) := q_iadd (bat_get dg_X12_checked_0_0 15 rfl rfl)
theorem dX12_checked_18 : decode cX12_checked 18 = .ok (.sipush 251, 3) := q_sipush (bat_get dg_X12_checked_0_0 16 rfl rfl) rfl
theorem dX12_checked_21 : decode cX12_checked 21 = .ok (.irem, 1) := q_irem (bat_get dg_X12_checked_0_0 17 rfl rfl)
theorem dX12_checked_22 : decode cX12_checked 22 = .ok (.istore_n 2, 1) := q_istore_n2 (bat_get dg_X12_checked_0_0 18 rfl rfl)
theorem dX12_checked_23 : decode cX12_checked 23 = .ok (.iinc 3 1, 3) := q_iinc (bat_get dg_X12_checked_0_0 19 rfl rfl) rfl
theorem dX12_checked_26 : decode cX12_checked 26 = .ok (.goto (-20), 3) := q_goto (bat_get dg_X12_checked_0_0 20 rfl rfl) rfl
theorem w_8_213 : (Cond.code yX12_checked cX12_checked 4 (some .int)) ∈ wsL_law := sk_mem (ck_8 _ (List.mem_of_getElem? (i := 213) rfl)) rfl
set_option maxHeartbeats 4000000 in
set_option maxRecDepth 100000 in
theorem c_m_checkedX (l : Launch) (D : va_G) (cI cJ cC cZ cS : ClassId) (h0 : Nat) (tb : Nat → Nat) (n : Nat) (hn : n ≤ 1600) (htb : ∀ j, tb j ≤ 255) : skM l yX12_checked cX12_checked 4 (some .int) 0 0 0 0 D (skT cI cJ cC cZ cS) [.ref h0, .int (nI n)] [ra_N h0 cI 1600 tb] (skI D (skT cI cJ cC cZ cS) (fun (r : Int32) (u : va_W) => ∃ (ck2 : Nat), ck2 = chkN tb n ∧ ck2 < 251 ∧ r = nI ck2 ∧ u = [ra_N h0 cI 1600 tb])) := by
  refine skM_of pf_X12_checked (Nat.le_of_ble_eq_true rfl) ?_
  intro p e s m below meth c A ls E hP hD hl
  refine skE_el E (fun hx hb hr hml hlocks hin hown hts hK hA => ?_)
  have hown : s.vm.findClass RX12 = some m.cls := hown
  have hS : va_S A s.heap s.heap [] := va_S.rf
  have hl : lv_has ls 4 [(0, .ref h0), (1, .int (nI n))] := hl
  refine lv_sipush (v := 139) hx hb dX12_checked_0 (by decide) ?_
  refine lv_istore_n (lv' := [(2, .int 139), (0, .ref h0), (1, .int (nI n))]) hx hb dX12_checked_3 rfl hl (by decide) rfl (fun ls hl => ?_)
  refine lv_iconst (v := 0) hx hb dX12_checked_4 ic_0 ?_
  refine lv_istore_n (lv' := [(3, .int 0), (2, .int 139), (0, .ref h0), (1, .int (nI n))]) hx hb dX12_checked_5 rfl hl (by decide) rfl (fun ls hl => ?_)
  have lp_1 : ∀ (n_2 : Nat) (i : Nat) (ck : Nat) (H : Heap) (locs : List Loc) (ls : Array Slot), n - i < n_2 → (i ≤ n) → (ck < 251) → (ck = chkN tb i) → va_P D vwCl [ra_N h0 cI 1600 tb] H → va_D A [ra_N h0 cI 1600 tb] → va_S A s.heap H locs → lv_has ls 4 [(3, .int (nI i)), (2, .int (nI ck)), (0, .ref h0), (1, .int (nI n))] → W p l e { frames := 0, cells := 0, slots := 0, locals := 0 } s m ([.ref h0, .int (nI n)] : List Value).toArray below meth c H locs 0 0 (MQ below (skI D (skT cI cJ cC cZ cS) (fun (r : Int32) (u : va_W) => ∃ (ck2 : Nat), ck2 = chkN tb n ∧ ck2 < 251 ∧ r = nI ck2 ∧ u = [ra_N h0 cI 1600 tb]) A) ([.ref h0, .int (nI n)] : List Value).toArray s 0 0 A) (F0 m 6 ls []) := by
    intro n_2
    induction n_2 with
    | zero => intro i ck H locs ls hm; exact absurd hm (Nat.not_lt_zero _)
    | succ n_2 ih_lp_1 =>
      intro i ck H locs ls hm hi hc9 hci hP hD hS hl
      refine lv_iload_n hx hb dX12_checked_6 rfl (lv_at hl 0 rfl) ?_
      refine lv_iload_n hx hb dX12_checked_7 rfl (lv_at hl 3 rfl) ?_
      refine lv_icmp_ge (tgt := 29) hx hb dX12_checked_8 (by decide) (fun c_3 => ?_) (fun c_3 => ?_)
      · have c_3 : n ≤ i := (nle n i (by omega) (by omega)).mp c_3
        refine lv_iload_n hx hb dX12_checked_29 rfl (lv_at hl 1 rfl) ?_
        exact sk_iret hx hb hr rfl hlocks hK hP hD hS (⟨ck, (by rw [show n = i by omega]; exact hci), hc9, rfl, rfl⟩) (Nat.le_of_ble_eq_true rfl) (Nat.le_of_ble_eq_true rfl) dX12_checked_30
      · have c_3 : ¬ (n ≤ i) := fun h => c_3 ((nle n i (by omega) (by omega)).mpr h)
        refine lv_iconst (v := 3) hx hb dX12_checked_11 ic_3 ?_
        refine lv_iload_n hx hb dX12_checked_12 rfl (lv_at hl 1 rfl) ?_
        refine lv_imul hx hb dX12_checked_13 ?_
        refine sk_top (nI (3 * ck)) (nmul 3 ck) ?_
        refine lv_aload_n hx hb dX12_checked_14 rfl (lv_at hl 2 rfl) ?_
        refine lv_iload_n hx hb dX12_checked_15 rfl (lv_at hl 0 rfl) ?_
        refine va_iald hx hb hK.1 hP 0 0 rfl rfl (vin i 1600 (by omega) (Nat.le_of_ble_eq_true rfl)) dX12_checked_16 ?_
        refine sk_top (nI (tb i)) (nrd tb i (by omega)) ?_
        have hb_4 := htb i
        refine lv_iadd hx hb dX12_checked_17 ?_
        refine sk_top (nI (3 * ck + (tb i))) (nI_add (3 * ck) (tb i)) ?_
        refine lv_sipush (v := 251) hx hb dX12_checked_18 (by decide) ?_
        refine lv_irem hx hb dX12_checked_21 (by decide) ?_
        refine sk_top (nI ((3 * ck + (tb i)) % 251)) (nrem (3 * ck + (tb i)) 251 (by omega) (by omega) (by omega)) ?_
        refine lv_istore_n (lv' := [(2, .int (nI ((3 * ck + (tb i)) % 251))), (3, .int (nI i)), (0, .ref h0), (1, .int (nI n))]) hx hb dX12_checked_22 rfl hl (by decide) rfl (fun ls hl => ?_)
        refine lv_iinc (v := nI (i + 1)) (lv' := [(3, .int (nI (i + 1))), (2, .int (nI ((3 * ck + (tb i)) % 251))), (0, .ref h0), (1, .int (nI n))]) hx hb dX12_checked_23 hl (k := 1) rfl (ninc i 1 (by decide)) (by decide) rfl (fun ls hl => ?_)
        refine lv_goto (tgt := 6) hx hb dX12_checked_26 (by decide) ?_
        exact ih_lp_1 (i + 1) ((3 * ck + (tb i)) % 251) _ _ _ (by omega) (by omega) (by omega) (by rw [chkN, ← hci]) hP hD hS (lv_sub hl [0, 1, 2, 3] rfl)
  exact lp_1 (n - 0 + 1) 0 139 _ _ _ (Nat.lt_succ_self _) (by omega) (by omega) rfl hP hD hS (lv_sub hl [0, 1, 2, 3] rfl)
theorem imgK_1 {tb : Nat → Nat} {i : Nat} (h : imgK tb i) (h1 : tb i ≤ 9) (h2 : 2 < i → i % 3 = 2 → tb i ≤ 1) : imgK tb (i + 1) := fun k q1 q2 => by
  by_cases e : k < i
  · exact h k q1 e
  · obtain rfl : k = i := by omega
    exact ⟨h1, h2⟩
theorem img_at {tb : Nat → Nat} {n d c : Nat} (hn : n - 1 = 3 * d + 3) (hc : c = chkN tb (n - 1)) : tb (n - 1) = c ↔ tb (3 * d + 3) = chkN tb (3 * d + 3) := by
  rw [hc, hn]
theorem fd_s {tb zb f1 : Nat → Nat} {t zt i : Nat} {a b c d e v w : Int32} (h : zb = feedN tb t (wByte a b c d e) i) (ht : zt = t + i) (hu : f1 = updN zb zt (lo8 v)) (hv : v = w >>> (nI (8 * (3 - i % 4)) &&& 31)) (hw : (if i < 4 then a else if i < 8 then b else if i < 12 then c else if i < 16 then d else e) = w) : f1 = feedN tb t (wByte a b c d e) (i + 1) := by
  rw [hu, h, ht]
  show updN _ _ _ = updN _ _ (wByte a b c d e i)
  unfold wByte
  rw [hw, hv]
theorem fd_20 {tb zb : Nat → Nat} {t i : Nat} {a b c d e : Int32} (h : zb = feedN tb t (wByte a b c d e) i) (hi : i = 20) : zb = feedT tb t a b c d e := by
  subst hi
  exact h
theorem dg_X12_isImage_0_0 : bqL cX12_isImage 0 [(0, [42]), (1, [180, 1, 46]), (4, [153, 0, 59]), (63, [3]), (64, [172]), (7, [27]), (8, [7]), (9, [6]), (10, [42]), (11, [182, 1, 59]), (14, [104]), (15, [96]), (16, [160, 0, 47]), (19, [42]), (20, [180, 0, 7]), (23, [27]), (24, [4]), (25, [100]), (26, [46]), (27, [42]), (28, [180, 0, 7]), (31, [27]), (32, [4]), (33, [100]), (34, [184, 2, 89]), (37, [160, 0, 26]), (40, [17, 1, 0]), (43, [42]), (44, [180, 0, 7]), (47, [3]), (48, [46]), (49, [104]), (50, [42]), (51, [180, 0, 7]), (54, [4]), (55, [46]), (56, [96]), (57, [17, 3, 231]), (60, [164, 0, 5]), (65, [5])] = true := by decide +kernel
theorem dX12_isImage_0 : decode cX12_isImage 0 = .ok (.aload_n 0, 1) := q_aload_n0 (bat_get dg_X12_isImage_0_0 0 rfl rfl)
theorem dX12_isImage_1 : decode cX12_isImage 1 = .ok (.getfield 302, 3) := q_getfield (bat_get dg_X12_isImage_0_0 1 rfl rfl) rfl
theorem dX12_isImage_4 : decode cX12_isImage 4 = .ok (.ifCond .eq 59, 3) := q_ifCond_eq (bat_get dg_X12_isImage_0_0 2 rfl rfl) rfl
theorem dX12_isImage_63 : decode cX12_isImage 63 = .ok (.iconst 0, 1) := q_iconst0 (bat_get dg_X12_isImage_0_0 3 rfl rfl)
theorem dX12_isImage_64 : decode cX12_isImage 64 = .ok (.ireturn, 1) := q_ireturn (bat_get dg_X12_isImage_0_0 4 rfl rfl)
theorem dX12_isImage_7 : decode cX12_isImage 7 = .ok (.iload_n 1, 1) := q_iload_n1 (bat_get dg_X12_isImage_0_0 5 rfl rfl)
theorem dX12_isImage_8 : decode cX12_isImage 8 = .ok (.iconst 4, 1) := q_iconst4 (bat_get dg_X12_isImage_0_0 6 rfl rfl)
theorem dX12_isImage_9 : decode cX12_isImage 9 = .ok (.iconst 3, 1) := q_iconst3 (bat_get dg_X12_isImage_0_0 7 rfl rfl)
theorem dX12_isImage_10 : decode cX12_isImage 10 = .ok (.aload_n 0, 1) := q_aload_n0 (bat_get dg_X12_isImage_0_0 8 rfl rfl)
theorem dX12_isImage_11 : decode cX12_isImage 11 = .ok (.invokevirtual 315, 3) := q_invokevirtual (bat_get dg_X12_isImage_0_0 9 rfl rfl) rfl
theorem dX12_isImage_14 : decode cX12_isImage 14 = .ok (.imul, 1) := q_imul (bat_get dg_X12_isImage_0_0 10 rfl rfl)
theorem dX12_isImage_15 : decode cX12_isImage 15 = .ok (.iadd, 1) := q_iadd (bat_get dg_X12_isImage_0_0 11 rfl rfl)
theorem dX12_isImage_16 : decode cX12_isImage 16 = .ok (.if_icmp .ne 47, 3) := q_if_icmp_ne (bat_get dg_X12_isImage_0_0 12 rfl rfl) rfl
theorem dX12_isImage_19 : decode cX12_isImage 19 = .ok (.aload_n 0, 1) := q_aload_n0 (bat_get dg_X12_isImage_0_0 13 rfl rfl)
theorem dX12_isImage_20 : decode cX12_isImage 20 = .ok (.getfield 7, 3) := q_getfield (bat_get dg_X12_isImage_0_0 14 rfl rfl) rfl
theorem dX12_isImage_23 : decode cX12_isImage 23 = .ok (.iload_n 1, 1) := q_iload_n1 (bat_get dg_X12_isImage_0_0 15 rfl rfl)
theorem dX12_isImage_24 : decode cX12_isImage 24 = .ok (.iconst 1, 1) := q_iconst1 (bat_get dg_X12_isImage_0_0 16 rfl rfl)
theorem dX12_isImage_25 : decode cX12_isImage 25 = .ok (.isub, 1) := q_isub (bat_get dg_X12_isImage_0_0 17 rfl rfl)
theorem dX12_isImage_26 : decode cX12_isImage 26 = .ok (.iaload, 1) := q_iaload (bat_get dg_X12_isImage_0_0 18 rfl rfl)
theorem dX12_isImage_27 : decode cX12_isImage 27 = .ok (.aload_n 0, 1) := q_aload_n0 (bat_get dg_X12_isImage_0_0 19 rfl rfl)
theorem dX12_isImage_28 : decode cX12_isImage 28 = .ok (.getfield 7, 3) := q_getfield (bat_get dg_X12_isImage_0_0 20 rfl rfl) rfl
theorem dX12_isImage_31 : decode cX12_isImage 31 = .ok (.iload_n 1, 1) := q_iload_n1 (bat_get dg_X12_isImage_0_0 21 rfl rfl)
theorem dX12_isImage_32 : decode cX12_isImage 32 = .ok (.iconst 1, 1) := q_iconst1 (bat_get dg_X12_isImage_0_0 22 rfl rfl)
theorem dX12_isImage_33 : decode cX12_isImage 33 = .ok (.isub, 1) := q_isub (bat_get dg_X12_isImage_0_0 23 rfl rfl)
theorem dX12_isImage_34 : decode cX12_isImage 34 = .ok (.invokestatic 601, 3) := q_invokestatic (bat_get dg_X12_isImage_0_0 24 rfl rfl) rfl
theorem dX12_isImage_37 : decode cX12_isImage 37 = .ok (.if_icmp .ne 26, 3) := q_if_icmp_ne (bat_get dg_X12_isImage_0_0 25 rfl rfl) rfl
theorem dX12_isImage_40 : decode cX12_isImage 40 = .ok (.sipush 256, 3) := q_sipush (bat_get dg_X12_isImage_0_0 26 rfl rfl) rfl
theorem dX12_isImage_43 : decode cX12_isImage 43 = .ok (.aload_n 0, 1) := q_aload_n0 (bat_get dg_X12_isImage_0_0 27 rfl rfl)
theorem dX12_isImage_44 : decode cX12_isImage 44 = .ok (.getfield 7, 3) := q_getfield (bat_get dg_X12_isImage_0_0 28 rfl rfl) rfl
theorem dX12_isImage_47 : decode cX12_isImage 47 = .ok (.iconst 0, 1) := q_iconst0 (bat_get dg_X12_isImage_0_0 29 rfl rfl)
theorem dX12_isImage_48 : decode cX12_isImage 48 = .ok (.iaload, 1) := q_iaload (bat_get dg_X12_isImage_0_0 30 rfl rfl)
theorem dX12_isImage_49 : decode cX12_isImage 49 = .ok (.imul, 1) := q_imul (bat_get dg_X12_isImage_0_0 31 rfl rfl)
theorem dX12_isImage_50 : decode cX12_isImage 50 = .ok (.aload_n 0, 1) := q_aload_n0 (bat_get dg_X12_isImage_0_0 32 rfl rfl)
theorem dX12_isImage_51 : decode cX12_isImage 51 = .ok (.getfield 7, 3) := q_getfield (bat_get dg_X12_isImage_0_0 33 rfl rfl) rfl
theorem dX12_isImage_54 : decode cX12_isImage 54 = .ok (.iconst 1, 1) := q_iconst1 (bat_get dg_X12_isImage_0_0 34 rfl rfl)
theorem dX12_isImage_55 : decode cX12_isImage 55 = .ok (.iaload, 1) := q_iaload (bat_get dg_X12_isImage_0_0 35 rfl rfl)
theorem dX12_isImage_56 : decode cX12_isImage 56 = .ok (.iadd, 1) := q_iadd (bat_get dg_X12_isImage_0_0 36 rfl rfl)
theorem dX12_isImage_57 : decode cX12_isImage 57 = .ok (.sipush 999, 3) := q_sipush (bat_get dg_X12_isImage_0_0 37 rfl rfl) rfl
theorem dX12_isImage_60 : decode cX12_isImage 60 = .ok (.if_icmp .le 5, 3) := q_if_icmp_le (bat_get dg_X12_isImage_0_0 38 rfl rfl) rfl
theorem dX12_isImage_65 : decode cX12_isImage 65 = .ok (.iconst 2, 1) := q_iconst2 (bat_get dg_X12_isImage_0_0 39 rfl rfl)
theorem dg_X12_isImage_66_66 : bqL cX12_isImage 66 [(0, [61]), (1, [28]), (2, [27]), (3, [4]), (4, [100]), (5, [162, 0, 38]), (43, [4]), (44, [172]), (8, [42]), (9, [180, 0, 7]), (12, [28]), (13, [46]), (14, [28]), (15, [5]), (16, [164, 0, 14]), (30, [16, 9]), (32, [164, 0, 5]), (37, [132, 2, 1]), (40, [167, 255, 217]), (35, [3]), (36, [172]), (19, [28]), (20, [6]), (21, [112]), (22, [5]), (23, [160, 0, 7]), (26, [4]), (27, [167, 0, 5])] = true := by decide +kernel
theorem dX12_isImage_66 : decode cX12_isImage 66 = .ok (.istore_n 2, 1) := q_istore_n2 (bat_get dg_X12_isImage_66_66 0 rfl rfl)
theorem dX12_isImage_67 : decode cX12_isImage 67 = .ok (.iload_n 2, 1) := q_iload_n2 (bat_get dg_X12_isImage_66_66 1 rfl rfl)
theorem dX12_isImage_68 : decode cX12_isImage 68 = .ok (.iload_n 1, 1) := q_iload_n1 (bat_get dg_X12_isImage_66_66 2 rfl rfl)
theorem dX12_isImage_69 : decode cX12_isImage 69 = .ok (.iconst 1, 1) := q_iconst1 (bat_get dg_X12_isImage_66_66 3 rfl rfl)
theorem dX12_isImage_70 : decode cX12_isImage 70 = .ok (.isub, 1) := q_isub (bat_get dg_X12_isImage_66_66 4 rfl rfl)
theorem dX12_isImage_71 : decode cX12_isImage 71 = .ok (.if_icmp .ge 38, 3) := q_if_icmp_ge (bat_get dg_X12_isImage_66_66 5 rfl rfl) rfl
theorem dX12_isImage_109 : decode cX12_isImage 109 = .ok (.iconst 1, 1) := q_iconst1 (bat_get dg_X12_isImage_66_66 6 rfl rfl)
theorem dX12_isImage_110 : decode cX12_isImage 110 = .ok (.ireturn, 1) := q_ireturn (bat_get dg_X12_isImage_66_66 7 rfl rfl)
theorem dX12_isImage_74 : decode cX12_isImage 74 = .ok (.aload_n 0, 1) := q_aload_n0 (bat_get dg_X12_isImage_66_66 8 rfl rfl)
theorem dX12_isImage_75 : decode cX12_isImage 75 = .ok (.getfield 7, 3) := q_getfield (bat_get dg_X12_isImage_66_66 9 rfl rfl) rfl
theorem dX12_isImage_78 : decode cX12_isImage 78 = .ok (.iload_n 2, 1) := q_iload_n2 (bat_get dg_X12_isImage_66_66 10 rfl rfl)
theorem dX12_isImage_79 : decode cX12_isImage 79 = .ok (.iaload, 1) := q_iaload (bat_get dg_X12_isImage_66_66 11 rfl rfl)
theorem dX12_isImage_80 : decode cX12_isImage 80 = .ok (.iload_n 2, 1) := q_iload_n2 (bat_get dg_X12_isImage_66_66 12 rfl rfl)
theorem dX12_isImage_81 : decode cX12_isImage 81 = .ok (.iconst 2, 1) := q_iconst2 (bat_get dg_X12_isImage_66_66 13 rfl rfl)
theorem dX12_isImage_82 : decode cX12_isImage 82 = .ok (.if_icmp .le 14, 3) := q_if_icmp_le (bat_get dg_X12_isImage_66_66 14 rfl rfl) rfl
theorem dX12_isImage_96 : decode cX12_isImage 96 = .ok (.bipush 9, 2) := q_bipush (bat_get dg_X12_isImage_66_66 15 rfl rfl) rfl
theorem dX12_isImage_98 : decode cX12_isImage 98 = .ok (.if_icmp .le 5, 3) := q_if_icmp_le (bat_get dg_X12_isImage_66_66 16 rfl rfl) rfl
theorem dX12_isImage_103 : decode cX12_isImage 103 = .ok (.iinc 2 1, 3) := q_iinc (bat_get dg_X12_isImage_66_66 17 rfl rfl) rfl
theorem dX12_isImage_106 : decode cX12_isImage 106 = .ok (.goto (-39), 3) := q_goto (bat_get dg_X12_isImage_66_66 18 rfl rfl) rfl
theorem dX12_isImage_101 : decode cX12_isImage 101 = .ok (.iconst 0, 1) := q_iconst0 (bat_get dg_X12_isImage_66_66 19 rfl rfl)
theorem dX12_isImage_102 : decode cX12_isImage 102 = .ok (.ireturn, 1) := q_ireturn (bat_get dg_X12_isImage_66_66 20 rfl rfl)
theorem dX12_isImage_85 : decode cX12_isImage 85 = .ok (.iload_n 2, 1) := q_iload_n2 (bat_get dg_X12_isImage_66_66 21 rfl rfl)
theorem dX12_isImage_86 : decode cX12_isImage 86 = .ok (.iconst 3, 1) := q_iconst3 (bat_get dg_X12_isImage_66_66 22 rfl rfl)
theorem dX12_isImage_87 : decode cX12_isImage 87 = .ok (.irem, 1) := q_irem (bat_get dg_X12_isImage_66_66 23 rfl rfl)
theorem dX12_isImage_88 : decode cX12_isImage 88 = .ok (.iconst 2, 1) := q_iconst2 (bat_get dg_X12_isImage_66_66 24 rfl rfl)
theorem dX12_isImage_89 : decode cX12_isImage 89 = .ok (.if_icmp .ne 7, 3) := q_if_icmp_ne (bat_get dg_X12_isImage_66_66 25 rfl rfl) rfl
theorem dX12_isImage_92 : decode cX12_isImage 92 = .ok (.iconst 1, 1) := q_iconst1 (bat_get dg_X12_isImage_66_66 26 rfl rfl)
theorem dX12_isImage_93 : decode cX12_isImage 93 = .ok (.goto 5, 3) := q_goto (bat_get dg_X12_isImage_66_66 27 rfl rfl) rfl
theorem w_5_155 : (Cond.fieldLink RX12 7 "SameKeeperModel" "tape" "[I") ∈ wsL_law := sk_mem (ck_5 _ (List.mem_of_getElem? (i := 155) rfl)) rfl
theorem w_8_211 : (Cond.methodLink RX12 601 yX12_checked) ∈ wsL_law := sk_mem (ck_8 _ (List.mem_of_getElem? (i := 211) rfl)) rfl
theorem w_8_212 : (Cond.static yX12_checked) ∈ wsL_law := sk_mem (ck_8 _ (List.mem_of_getElem? (i := 212) rfl)) rfl
theorem w_8_225 : (Cond.code yX12_isImage cX12_isImage 3 (some .boolean)) ∈ wsL_law := sk_mem (ck_8 _ (List.mem_of_getElem? (i := 225) rfl)) rfl
theorem hd_X12_checked_2 : skD yX12_checked 2 := by decide +kernel
set_option maxHeartbeats 4000000 in
set_option maxRecDepth 100000 in
theorem c_m_isImage (l : Launch) (D : va_G) (cI cJ cC cZ cS : ClassId) (mm : Nat) (g : Nat → Nat) (ta : Nat) (pa : Nat) (pe : Nat) (pd : Int32) (pb : Nat) (pp : Int32) (pf : Int32) (pg : Int32) (pn : Int32) (rt : Int32) (rn : Int32) (cd : Nat) (sn : Int32) (il : Nat) (tk : Int32) (am : Int32) (at_ : Int32) (aa : Int32) (wt : Int32) (wy : Int64) (rm : Nat) (ud : Nat) (nu : Nat) (sd : Int64) (qn : Nat) (qw : Nat) (qo : Int32) (qb : Nat) (qp : Nat) (qa : Int64) (qi : Nat) (oc : Nat) (n : Nat) (l0 : Nat) (l1 : Nat) (dm : Nat) (l3 : Nat) (tb : Nat → Nat) (hil : il ≤ 1) (hild : il = 1 → 1 ≤ dm) (hdm : dm ≤ 9) (hn : n ≤ 1600) (htb : ∀ j, tb j ≤ 255) : skM l yX12_isImage cX12_isImage 3 (some .boolean) 1 23 0 0 D (skT cI cJ cC cZ cS) [.ref mm, .int (nI n)] [ro_ mm 12 (mo g (nI ta) (nI pa) (nI pe) pd (nI pb) pp pf pg pn rt rn (nI cd) sn (nI il) tk am at_ aa 0 0 (-1) wt wy 0 (nI rm) (nI ud) (nI nu) sd (nI qn) (nI qw) qo (nI qb) (nI qp) qa (nI qi) (nI oc)), ra_I (g 20) cI 4 (l4 (nI l0) (nI l1) (nI dm) (nI l3)), ra_N (g 0) cI 1600 tb] (skI D (skT cI cJ cC cZ cS) (fun (r : Int32) (u : va_W) => ∃ (b : Nat), (b = 0 ∨ (b = 1 ∧ tb 2 ≤ 9)) ∧ ((b = 0 ∧ ¬ (1 ≤ il ∧ imgO tb n dm)) ∨ (b = 1 ∧ 1 ≤ il ∧ imgO tb n dm)) ∧ r = nI b ∧ u = [ro_ mm 12 (mo g (nI ta) (nI pa) (nI pe) pd (nI pb) pp pf pg pn rt rn (nI cd) sn (nI il) tk am at_ aa 0 0 (-1) wt wy 0 (nI rm) (nI ud) (nI nu) sd (nI qn) (nI qw) qo (nI qb) (nI qp) qa (nI qi) (nI oc)), ra_I (g 20) cI 4 (l4 (nI l0) (nI l1) (nI dm) (nI l3)), ra_N (g 0) cI 1600 tb])) := by
  refine skM_of pf_X12_isImage (Nat.le_of_ble_eq_true rfl) ?_
  intro p e s m below meth c A ls E hP hD hl
  refine skE_el E (fun hx hb hr hml hlocks hin hown hts hK hA => ?_)
  have hown : s.vm.findClass RX12 = some m.cls := hown
  have hS : va_S A s.heap s.heap [] := va_S.rf
  have hl : lv_has ls 3 [(0, .ref mm), (1, .int (nI n))] := hl
  refine lv_aload_n hx hb dX12_isImage_0 rfl (lv_at hl 0 rfl) ?_
  refine sk_get (v := .int (nI il)) (C := RX12) (T := TX12) (N := 92) hx hb hts inlX12 hown hK hP 0 rfl rfl 29 (Nat.le_of_ble_eq_true rfl) w_5_184 rfl dX12_isImage_1 ?_
  refine lv_if_eq (tgt := 63) hx hb dX12_isImage_4 (by decide) (fun c_1 => ?_) (fun c_1 => ?_)
  · have c_1 : il = 0 := (neq il 0 (by omega) (Nat.le_of_ble_eq_true rfl)).mp c_1
    refine lv_iconst (v := 0) hx hb dX12_isImage_63 ic_0 ?_
    exact sk_iret hx hb hr rfl hlocks hK hP hD hS (⟨0, (Or.inl rfl), (Or.inl ⟨rfl, fun hq => absurd hq.1 (by omega)⟩), rfl, rfl⟩) (Nat.le_of_ble_eq_true rfl) (Nat.le_of_ble_eq_true rfl) dX12_isImage_64
  · have c_1 : ¬ (il = 0) := fun h => c_1 ((neq il 0 (by omega) (Nat.le_of_ble_eq_true rfl)).mpr h)
    refine lv_iload_n hx hb dX12_isImage_7 rfl (lv_at hl 1 rfl) ?_
    refine lv_iconst (v := 4) hx hb dX12_isImage_8 ic_4 ?_
    refine lv_iconst (v := 3) hx hb dX12_isImage_9 ic_3 ?_
    refine lv_aload_n hx hb dX12_isImage_10 rfl (lv_at hl 0 rfl) ?_
    refine sk_Vi (q0 := 0) (n := 0) (rest := [.int 3, .int 4, .int (nI n)]) (wr := fmR om_3_6 _) ⟨hx, hb, hml, hown, hts⟩ hl.1 (c_m_dayMany l D cI cJ cC cZ cS mm g ta pa pe pd pb pp pf pg pn rt rn cd sn il tk am at_ aa 0 0 (-1) wt wy 0 rm ud nu sd qn qw qo qb qp qa qi oc l0 l1 dm l3) w_7_98 w_7_100 w_0_69 w_1_14 w_7_101 hd_X12_dayMany_0 ⟨⟨(Nat.le_of_ble_eq_true rfl), (Nat.le_of_ble_eq_true rfl)⟩, (Nat.le_of_ble_eq_true rfl), (Nat.le_of_ble_eq_true rfl)⟩ hK hP hD hS hA (fmT om_3_6 0) (fmF om_3_6 0) (fm_C1 rfl rfl) (fm_R rfl rfl) (fm_nT om_3_6 0) (fm_nF om_3_6 0) (fm_di om_3_6 0) rfl rfl rfl rfl (Nat.le_of_ble_eq_true rfl) dX12_isImage_11 (fun r_2 u H locs hw hP hD hS => ?_)
    refine anE hw (fun er_4 eu_3 => ?_)
    clear hw
    subst er_4
    refine o_mgE (ws' := [ro_ mm 12 (mo g (nI ta) (nI pa) (nI pe) pd (nI pb) pp pf pg pn rt rn (nI cd) sn (nI il) tk am at_ aa 0 0 (-1) wt wy 0 (nI rm) (nI ud) (nI nu) sd (nI qn) (nI qw) qo (nI qb) (nI qp) qa (nI qi) (nI oc)), ra_I (g 20) cI 4 (l4 (nI l0) (nI l1) (nI dm) (nI l3)), ra_N (g 0) cI 1600 tb]) eu_3 hP hD rfl (fun hP hD => ?_)
    refine lv_imul hx hb dX12_isImage_14 ?_
    refine sk_top (nI (3 * dm)) (nmul 3 dm) ?_
    refine lv_iadd hx hb dX12_isImage_15 ?_
    refine sk_top (nI (4 + (3 * dm))) (nI_add 4 (3 * dm)) ?_
    refine lv_icmp_ne (tgt := 63) hx hb dX12_isImage_16 (by decide) (fun c_5 => ?_) (fun c_5 => ?_)
    · have c_5 : ¬ (n = 4 + (3 * dm)) := fun h => c_5 ((neq n (4 + (3 * dm)) (by omega) (by omega)).mpr h)
      refine lv_iconst (v := 0) hx hb dX12_isImage_63 ic_0 ?_
      exact sk_iret hx hb hr rfl hlocks hK hP hD hS (⟨0, (Or.inl rfl), (Or.inl ⟨rfl, fun hq => absurd hq.2.1 (by omega)⟩), rfl, rfl⟩) (Nat.le_of_ble_eq_true rfl) (Nat.le_of_ble_eq_true rfl) dX12_isImage_64
    · have c_5 : n = 4 + (3 * dm) := (neq n (4 + (3 * dm)) (by omega) (by omega)).mp c_5
      refine lv_aload_n hx hb dX12_isImage_19 rfl (lv_at hl 0 rfl) ?_
      refine sk_get (v := .ref (g 0)) (C := RX12) (T := TX12) (N := 92) hx hb hts inlX12 hown hK hP 0 rfl rfl 0 (Nat.le_of_ble_eq_true rfl) w_5_155 rfl dX12_isImage_20 ?_
      refine lv_iload_n hx hb dX12_isImage_23 rfl (lv_at hl 1 rfl) ?_
      refine lv_iconst (v := 1) hx hb dX12_isImage_24 ic_1 ?_
      refine lv_isub hx hb dX12_isImage_25 ?_
      refine sk_top (nI (n - 1)) (nsub n 1 (by omega)) ?_
      refine va_iald hx hb hK.1 hP 2 0 rfl rfl (vin (n - 1) 1600 (by omega) (Nat.le_of_ble_eq_true rfl)) dX12_isImage_26 ?_
      refine sk_top (nI (tb (n - 1))) (nrd tb (n - 1) (by omega)) ?_
      have hb_6 := htb (n - 1)
      refine lv_aload_n hx hb dX12_isImage_27 rfl (lv_at hl 0 rfl) ?_
      refine sk_get (v := .ref (g 0)) (C := RX12) (T := TX12) (N := 92) hx hb hts inlX12 hown hK hP 0 rfl rfl 0 (Nat.le_of_ble_eq_true rfl) w_5_155 rfl dX12_isImage_28 ?_
      refine lv_iload_n hx hb dX12_isImage_31 rfl (lv_at hl 1 rfl) ?_
      refine lv_iconst (v := 1) hx hb dX12_isImage_32 ic_1 ?_
      refine lv_isub hx hb dX12_isImage_33 ?_
      refine sk_top (nI (n - 1)) (nsub n 1 (by omega)) ?_
      refine sk_Si (n := 2) (rest := [.int (nI (tb (n - 1)))]) (wr := fmR om_3_1 _) ⟨hx, hb, hml, hown, hts⟩ hl.1 (c_m_checkedX l D cI cJ cC cZ cS (g 0) tb (n - 1) (by omega) htb) w_8_211 w_8_212 w_1_14 w_8_213 hd_X12_checked_2 ⟨⟨(Nat.le_of_ble_eq_true rfl), (Nat.le_of_ble_eq_true rfl)⟩, (Nat.le_of_ble_eq_true rfl), (Nat.le_of_ble_eq_true rfl)⟩ hK hP hD hS hA (fmT om_3_1 0) (fmF om_3_1 0) (fm_C1 rfl rfl) (fm_R rfl rfl) (fm_nT om_3_1 0) (fm_nF om_3_1 0) (fm_di om_3_1 0) rfl rfl (Nat.le_of_ble_eq_true rfl) dX12_isImage_34 (fun r_8 u H locs hw hP hD hS => ?_)
      refine exE hw (fun ck2_7 hw1 => anE hw1 (fun hck_9 hw2 => anE hw2 (fun hck9_10 hw3 => anE hw3 (fun er_12 eu_11 => ?_))))
      clear hw hw1 hw2 hw3
      subst er_12
      refine o_mgE (ws' := [ro_ mm 12 (mo g (nI ta) (nI pa) (nI pe) pd (nI pb) pp pf pg pn rt rn (nI cd) sn (nI il) tk am at_ aa 0 0 (-1) wt wy 0 (nI rm) (nI ud) (nI nu) sd (nI qn) (nI qw) qo (nI qb) (nI qp) qa (nI qi) (nI oc)), ra_I (g 20) cI 4 (l4 (nI l0) (nI l1) (nI dm) (nI l3)), ra_N (g 0) cI 1600 tb]) eu_11 hP hD rfl (fun hP hD => ?_)
      have hn1 : n - 1 = 3 * dm + 3 := by omega
      refine lv_icmp_ne (tgt := 63) hx hb dX12_isImage_37 (by decide) (fun c_13 => ?_) (fun c_13 => ?_)
      · have c_13 : ¬ (tb (n - 1) = ck2_7) := fun h => c_13 ((neq (tb (n - 1)) ck2_7 (by omega) (by omega)).mpr h)
        refine lv_iconst (v := 0) hx hb dX12_isImage_63 ic_0 ?_
        exact sk_iret hx hb hr rfl hlocks hK hP hD hS (⟨0, (Or.inl rfl), (Or.inl ⟨rfl, fun hq => c_13 ((img_at hn1 hck_9).mpr hq.2.2.1)⟩), rfl, rfl⟩) (Nat.le_of_ble_eq_true rfl) (Nat.le_of_ble_eq_true rfl) dX12_isImage_64
      · have c_13 : tb (n - 1) = ck2_7 := (neq (tb (n - 1)) ck2_7 (by omega) (by omega)).mp c_13
        refine lv_sipush (v := 256) hx hb dX12_isImage_40 (by decide) ?_
        refine lv_aload_n hx hb dX12_isImage_43 rfl (lv_at hl 0 rfl) ?_
        refine sk_get (v := .ref (g 0)) (C := RX12) (T := TX12) (N := 92) hx hb hts inlX12 hown hK hP 0 rfl rfl 0 (Nat.le_of_ble_eq_true rfl) w_5_155 rfl dX12_isImage_44 ?_
        refine lv_iconst (v := 0) hx hb dX12_isImage_47 ic_0 ?_
        refine va_iald hx hb hK.1 hP 2 0 rfl rfl (by unfold vp_in; decide) dX12_isImage_48 ?_
        refine sk_top (nI (tb 0)) (nrd tb 0 (Nat.le_of_ble_eq_true rfl)) ?_
        have hb_14 := htb 0
        refine lv_imul hx hb dX12_isImage_49 ?_
        refine sk_top (nI (256 * (tb 0))) (nmul 256 (tb 0)) ?_
        refine lv_aload_n hx hb dX12_isImage_50 rfl (lv_at hl 0 rfl) ?_
        refine sk_get (v := .ref (g 0)) (C := RX12) (T := TX12) (N := 92) hx hb hts inlX12 hown hK hP 0 rfl rfl 0 (Nat.le_of_ble_eq_true rfl) w_5_155 rfl dX12_isImage_51 ?_
        refine lv_iconst (v := 1) hx hb dX12_isImage_54 ic_1 ?_
        refine va_iald hx hb hK.1 hP 2 0 rfl rfl (by unfold vp_in; decide) dX12_isImage_55 ?_
        refine sk_top (nI (tb 1)) (nrd tb 1 (Nat.le_of_ble_eq_true rfl)) ?_
        have hb_15 := htb 1
        refine lv_iadd hx hb dX12_isImage_56 ?_
        refine sk_top (nI (256 * (tb 0) + (tb 1))) (nI_add (256 * (tb 0)) (tb 1)) ?_
        refine lv_sipush (v := 999) hx hb dX12_isImage_57 (by decide) ?_
        refine lv_icmp_le (tgt := 65) hx hb dX12_isImage_60 (by decide) (fun c_16 => ?_) (fun c_16 => ?_)
        · have c_16 : 256 * (tb 0) + (tb 1) ≤ 999 := (nle (256 * (tb 0) + (tb 1)) 999 (by omega) (Nat.le_of_ble_eq_true rfl)).mp c_16
          refine lv_iconst (v := 2) hx hb dX12_isImage_65 ic_2 ?_
          refine lv_istore_n (lv' := [(2, .int 2), (0, .ref mm), (1, .int (nI n))]) hx hb dX12_isImage_66 rfl hl (by decide) rfl (fun ls hl => ?_)
          have lp_17 : ∀ (n_18 : Nat) (i : Nat) (H : Heap) (locs : List Loc) (ls : Array Slot), n - i < n_18 → (i ≤ n) → (2 ≤ i) → (imgK tb i) → va_P D vwCl [ro_ mm 12 (mo g (nI ta) (nI pa) (nI pe) pd (nI pb) pp pf pg pn rt rn (nI cd) sn (nI il) tk am at_ aa 0 0 (-1) wt wy 0 (nI rm) (nI ud) (nI nu) sd (nI qn) (nI qw) qo (nI qb) (nI qp) qa (nI qi) (nI oc)), ra_I (g 20) cI 4 (l4 (nI l0) (nI l1) (nI dm) (nI l3)), ra_N (g 0) cI 1600 tb] H → va_D A [ro_ mm 12 (mo g (nI ta) (nI pa) (nI pe) pd (nI pb) pp pf pg pn rt rn (nI cd) sn (nI il) tk am at_ aa 0 0 (-1) wt wy 0 (nI rm) (nI ud) (nI nu) sd (nI qn) (nI qw) qo (nI qb) (nI qp) qa (nI qi) (nI oc)), ra_I (g 20) cI 4 (l4 (nI l0) (nI l1) (nI dm) (nI l3)), ra_N (g 0) cI 1600 tb] → va_S A s.heap H locs → lv_has ls 3 [(2, .int (nI i)), (0, .ref mm), (1, .int (nI n))] → W p l e { frames := 1, cells := 0, slots := 0, locals := 23 } s m ([.ref mm, .int (nI n)] : List Value).toArray below meth c H locs 0 0 (MQ below (skI D (skT cI cJ cC cZ cS) (fun (r : Int32) (u : va_W) => ∃ (b : Nat), (b = 0 ∨ (b = 1 ∧ tb 2 ≤ 9)) ∧ ((b = 0 ∧ ¬ (1 ≤ il ∧ imgO tb n dm)) ∨ (b = 1 ∧ 1 ≤ il ∧ imgO tb n dm)) ∧ r = nI b ∧ u = [ro_ mm 12 (mo g (nI ta) (nI pa) (nI pe) pd (nI pb) pp pf pg pn rt rn (nI cd) sn (nI il) tk am at_ aa 0 0 (-1) wt wy 0 (nI rm) (nI ud) (nI nu) sd (nI qn) (nI qw) qo (nI qb) (nI qp) qa (nI qi) (nI oc)), ra_I (g 20) cI 4 (l4 (nI l0) (nI l1) (nI dm) (nI l3)), ra_N (g 0) cI 1600 tb]) A) ([.ref mm, .int (nI n)] : List Value).toArray s 0 0 A) (F0 m 67 ls []) := by
            intro n_18
            induction n_18 with
            | zero => intro i H locs ls hm; exact absurd hm (Nat.not_lt_zero _)
            | succ n_18 ih_lp_17 =>
              intro i H locs ls hm hi hi2 hal hP hD hS hl
              refine lv_iload_n hx hb dX12_isImage_67 rfl (lv_at hl 0 rfl) ?_
              refine lv_iload_n hx hb dX12_isImage_68 rfl (lv_at hl 2 rfl) ?_
              refine lv_iconst (v := 1) hx hb dX12_isImage_69 ic_1 ?_
              refine lv_isub hx hb dX12_isImage_70 ?_
              refine sk_top (nI (n - 1)) (nsub n 1 (by omega)) ?_
              refine lv_icmp_ge (tgt := 109) hx hb dX12_isImage_71 (by decide) (fun c_19 => ?_) (fun c_19 => ?_)
              · have c_19 : n - 1 ≤ i := (nle (n - 1) i (by omega) (by omega)).mp c_19
                refine lv_iconst (v := 1) hx hb dX12_isImage_109 ic_1 ?_
                exact sk_iret hx hb hr rfl hlocks hK hP hD hS (⟨1, (Or.inr ⟨rfl, (hal 2 (by omega) (by omega)).1⟩), (Or.inr ⟨rfl, by omega, by omega, (img_at hn1 hck_9).mp c_13, by omega, fun k h1 h2 => hal k h1 (by omega)⟩), rfl, rfl⟩) (Nat.le_of_ble_eq_true rfl) (Nat.le_of_ble_eq_true rfl) dX12_isImage_110
              · have c_19 : ¬ (n - 1 ≤ i) := fun h => c_19 ((nle (n - 1) i (by omega) (by omega)).mpr h)
                refine lv_aload_n hx hb dX12_isImage_74 rfl (lv_at hl 1 rfl) ?_
                refine sk_get (v := .ref (g 0)) (C := RX12) (T := TX12) (N := 92) hx hb hts inlX12 hown hK hP 0 rfl rfl 0 (Nat.le_of_ble_eq_true rfl) w_5_155 rfl dX12_isImage_75 ?_
                refine lv_iload_n hx hb dX12_isImage_78 rfl (lv_at hl 0 rfl) ?_
                refine va_iald hx hb hK.1 hP 2 0 rfl rfl (vin i 1600 (by omega) (Nat.le_of_ble_eq_true rfl)) dX12_isImage_79 ?_
                refine sk_top (nI (tb i)) (nrd tb i (by omega)) ?_
                have hb_20 := htb i
                refine lv_iload_n hx hb dX12_isImage_80 rfl (lv_at hl 0 rfl) ?_
                refine lv_iconst (v := 2) hx hb dX12_isImage_81 ic_2 ?_
                refine lv_icmp_le (tgt := 96) hx hb dX12_isImage_82 (by decide) (fun c_21 => ?_) (fun c_21 => ?_)
                · have c_21 : i ≤ 2 := (nle i 2 (by omega) (Nat.le_of_ble_eq_true rfl)).mp c_21
                  refine lv_bipush (v := 9) hx hb dX12_isImage_96 (by decide) ?_
                  refine lv_icmp_le (tgt := 103) hx hb dX12_isImage_98 (by decide) (fun c_22 => ?_) (fun c_22 => ?_)
                  · have c_22 : tb i ≤ 9 := (nle (tb i) 9 (by omega) (Nat.le_of_ble_eq_true rfl)).mp c_22
                    refine lv_iinc (v := nI (i + 1)) (lv' := [(2, .int (nI (i + 1))), (0, .ref mm), (1, .int (nI n))]) hx hb dX12_isImage_103 hl (k := 0) rfl (ninc i 1 (by decide)) (by decide) rfl (fun ls hl => ?_)
                    refine lv_goto (tgt := 67) hx hb dX12_isImage_106 (by decide) ?_
                    exact ih_lp_17 (i + 1) _ _ _ (by omega) (by omega) (by omega) (imgK_1 hal (by omega) (fun _ _ => by omega)) hP hD hS (lv_sub hl [0, 1, 2] rfl)
                  · have c_22 : ¬ (tb i ≤ 9) := fun h => c_22 ((nle (tb i) 9 (by omega) (Nat.le_of_ble_eq_true rfl)).mpr h)
                    refine lv_iconst (v := 0) hx hb dX12_isImage_101 ic_0 ?_
                    exact sk_iret hx hb hr rfl hlocks hK hP hD hS (⟨0, (Or.inl rfl), (Or.inl ⟨rfl, fun hq => by have h9 := hq.2.2.2.2 i (by omega) (by omega); first | (have h8 := h9.1; omega) | (have h8 := h9.2 (by omega) (by omega); omega)⟩), rfl, rfl⟩) (Nat.le_of_ble_eq_true rfl) (Nat.le_of_ble_eq_true rfl) dX12_isImage_102
                · have c_21 : ¬ (i ≤ 2) := fun h => c_21 ((nle i 2 (by omega) (Nat.le_of_ble_eq_true rfl)).mpr h)
                  refine lv_iload_n hx hb dX12_isImage_85 rfl (lv_at hl 0 rfl) ?_
                  refine lv_iconst (v := 3) hx hb dX12_isImage_86 ic_3 ?_
                  refine lv_irem hx hb dX12_isImage_87 (by decide) ?_
                  refine sk_top (nI (i % 3)) (nrem i 3 (by omega) (by omega) (by omega)) ?_
                  refine lv_iconst (v := 2) hx hb dX12_isImage_88 ic_2 ?_
                  refine lv_icmp_ne (tgt := 96) hx hb dX12_isImage_89 (by decide) (fun c_23 => ?_) (fun c_23 => ?_)
                  · have c_23 : ¬ (i % 3 = 2) := fun h => c_23 ((neq (i % 3) 2 (by omega) (Nat.le_of_ble_eq_true rfl)).mpr h)
                    refine lv_bipush (v := 9) hx hb dX12_isImage_96 (by decide) ?_
                    refine lv_icmp_le (tgt := 103) hx hb dX12_isImage_98 (by decide) (fun c_24 => ?_) (fun c_24 => ?_)
                    · have c_24 : tb i ≤ 9 := (nle (tb i) 9 (by omega) (Nat.le_of_ble_eq_true rfl)).mp c_24
                      refine lv_iinc (v := nI (i + 1)) (lv' := [(2, .int (nI (i + 1))), (0, .ref mm), (1, .int (nI n))]) hx hb dX12_isImage_103 hl (k := 0) rfl (ninc i 1 (by decide)) (by decide) rfl (fun ls hl => ?_)
                      refine lv_goto (tgt := 67) hx hb dX12_isImage_106 (by decide) ?_
                      exact ih_lp_17 (i + 1) _ _ _ (by omega) (by omega) (by omega) (imgK_1 hal (by omega) (fun _ _ => by omega)) hP hD hS (lv_sub hl [0, 1, 2] rfl)
                    · have c_24 : ¬ (tb i ≤ 9) := fun h => c_24 ((nle (tb i) 9 (by omega) (Nat.le_of_ble_eq_true rfl)).mpr h)
                      refine lv_iconst (v := 0) hx hb dX12_isImage_101 ic_0 ?_
                      exact sk_iret hx hb hr rfl hlocks hK hP hD hS (⟨0, (Or.inl rfl), (Or.inl ⟨rfl, fun hq => by have h9 := hq.2.2.2.2 i (by omega) (by omega); first | (have h8 := h9.1; omega) | (have h8 := h9.2 (by omega) (by omega); omega)⟩), rfl, rfl⟩) (Nat.le_of_ble_eq_true rfl) (Nat.le_of_ble_eq_true rfl) dX12_isImage_102
                  · have c_23 : i % 3 = 2 := (neq (i % 3) 2 (by omega) (Nat.le_of_ble_eq_true rfl)).mp c_23
                    refine lv_iconst (v := 1) hx hb dX12_isImage_92 ic_1 ?_
                    refine lv_goto (tgt := 98) hx hb dX12_isImage_93 (by decide) ?_
                    refine lv_icmp_le (tgt := 103) hx hb dX12_isImage_98 (by decide) (fun c_25 => ?_) (fun c_25 => ?_)
                    · have c_25 : tb i ≤ 1 := (nle (tb i) 1 (by omega) (Nat.le_of_ble_eq_true rfl)).mp c_25
                      refine lv_iinc (v := nI (i + 1)) (lv' := [(2, .int (nI (i + 1))), (0, .ref mm), (1, .int (nI n))]) hx hb dX12_isImage_103 hl (k := 0) rfl (ninc i 1 (by decide)) (by decide) rfl (fun ls hl => ?_)
                      refine lv_goto (tgt := 67) hx hb dX12_isImage_106 (by decide) ?_
                      exact ih_lp_17 (i + 1) _ _ _ (by omega) (by omega) (by omega) (imgK_1 hal (by omega) (fun _ _ => by omega)) hP hD hS (lv_sub hl [0, 1, 2] rfl)
                    · have c_25 : ¬ (tb i ≤ 1) := fun h => c_25 ((nle (tb i) 1 (by omega) (Nat.le_of_ble_eq_true rfl)).mpr h)
                      refine lv_iconst (v := 0) hx hb dX12_isImage_101 ic_0 ?_
                      exact sk_iret hx hb hr rfl hlocks hK hP hD hS (⟨0, (Or.inl rfl), (Or.inl ⟨rfl, fun hq => by have h9 := hq.2.2.2.2 i (by omega) (by omega); first | (have h8 := h9.1; omega) | (have h8 := h9.2 (by omega) (by omega); omega)⟩), rfl, rfl⟩) (Nat.le_of_ble_eq_true rfl) (Nat.le_of_ble_eq_true rfl) dX12_isImage_102
          exact lp_17 (n - 2 + 1) 2 _ _ _ (Nat.lt_succ_self _) (by omega) (by omega) (fun k h1 h2 => absurd h1 (by omega)) hP hD hS (lv_sub hl [0, 1, 2] rfl)
        · have c_16 : ¬ (256 * (tb 0) + (tb 1) ≤ 999) := fun h => c_16 ((nle (256 * (tb 0) + (tb 1)) 999 (by omega) (Nat.le_of_ble_eq_true rfl)).mpr h)
          refine lv_iconst (v := 0) hx hb dX12_isImage_63 ic_0 ?_
          exact sk_iret hx hb hr rfl hlocks hK hP hD hS (⟨0, (Or.inl rfl), (Or.inl ⟨rfl, fun hq => absurd hq.2.2.2.1 (by omega)⟩), rfl, rfl⟩) (Nat.le_of_ble_eq_true rfl) (Nat.le_of_ble_eq_true rfl) dX12_isImage_64
theorem dg_X12_fault_0_0 : bqL cX12_fault 0 [(0, [27]), (1, [154, 0, 10]), (11, [27]), (12, [4]), (13, [160, 0, 10]), (23, [2]), (24, [172]), (16, [42]), (17, [180, 0, 13]), (20, [167, 0, 4]), (4, [42]), (5, [180, 1, 40]), (8, [167, 0, 16])] = true := by decide +kernel
theorem dX12_fault_0 : decode cX12_fault 0 = .ok (.iload_n 1, 1) := q_iload_n1 (bat_get dg_X12_fault_0_0 0 rfl rfl)
theorem dX12_fault_1 : decode cX12_fault 1 = .ok (.ifCond .ne 10, 3) := q_ifCond_ne (bat_get dg_X12_fault_0_0 1 rfl rfl) rfl
theorem dX12_fault_11 : decode cX12_fault 11 = .ok (.iload_n 1, 1) := q_iload_n1 (bat_get dg_X12_fault_0_0 2 rfl rfl)
theorem dX12_fault_12 : decode cX12_fault 12 = .ok (.iconst 1, 1) := q_iconst1 (bat_get dg_X12_fault_0_0 3 rfl rfl)
theorem dX12_fault_13 : decode cX12_fault 13 = .ok (.if_icmp .ne 10, 3) := q_if_icmp_ne (bat_get dg_X12_fault_0_0 4 rfl rfl) rfl
theorem dX12_fault_23 : decode cX12_fault 23 = .ok (.iconst (-1), 1) := q_iconstm1 (bat_get dg_X12_fault_0_0 5 rfl rfl)
theorem dX12_fault_24 : decode cX12_fault 24 = .ok (.ireturn, 1) := q_ireturn (bat_get dg_X12_fault_0_0 6 rfl rfl)
theorem dX12_fault_16 : decode cX12_fault 16 = .ok (.aload_n 0, 1) := q_aload_n0 (bat_get dg_X12_fault_0_0 7 rfl rfl)
theorem dX12_fault_17 : decode cX12_fault 17 = .ok (.getfield 13, 3) := q_getfield (bat_get dg_X12_fault_0_0 8 rfl rfl) rfl
theorem dX12_fault_20 : decode cX12_fault 20 = .ok (.goto 4, 3) := q_goto (bat_get dg_X12_fault_0_0 9 rfl rfl) rfl
theorem dX12_fault_4 : decode cX12_fault 4 = .ok (.aload_n 0, 1) := q_aload_n0 (bat_get dg_X12_fault_0_0 10 rfl rfl)
theorem dX12_fault_5 : decode cX12_fault 5 = .ok (.getfield 296, 3) := q_getfield (bat_get dg_X12_fault_0_0 11 rfl rfl) rfl
theorem dX12_fault_8 : decode cX12_fault 8 = .ok (.goto 16, 3) := q_goto (bat_get dg_X12_fault_0_0 12 rfl rfl) rfl
theorem w_5_163 : (Cond.fieldLink RX12 13 "SameKeeperModel" "faultPlace" "I") ∈ wsL_law := sk_mem (ck_5 _ (List.mem_of_getElem? (i := 163) rfl)) rfl
theorem w_5_162 : (Cond.fieldLink RX12 296 "SameKeeperModel" "fault" "I") ∈ wsL_law := sk_mem (ck_5 _ (List.mem_of_getElem? (i := 162) rfl)) rfl
theorem w_7_93 : (Cond.code yX12_fault cX12_fault 2 (some .int)) ∈ wsL_law := sk_mem (ck_7 _ (List.mem_of_getElem? (i := 93) rfl)) rfl
set_option maxHeartbeats 4000000 in
set_option maxRecDepth 100000 in
theorem c_m_fault (l : Launch) (D : va_G) (cI cJ cC cZ cS : ClassId) (mm : Nat) (g : Nat → Nat) (ta : Nat) (pa : Nat) (pe : Nat) (pd : Int32) (pb : Nat) (pp : Int32) (pf : Int32) (pg : Int32) (pn : Int32) (rt : Int32) (rn : Int32) (cd : Nat) (sn : Int32) (il : Nat) (tk : Int32) (am : Int32) (at_ : Int32) (aa : Int32) (wt : Int32) (wy : Int64) (rm : Nat) (ud : Nat) (nu : Nat) (sd : Int64) (qn : Nat) (qw : Nat) (qo : Int32) (qb : Nat) (qp : Nat) (qa : Int64) (qi : Nat) (oc : Nat) (w : Int32)  : skM l yX12_fault cX12_fault 2 (some .int) 0 0 0 0 D (skT cI cJ cC cZ cS) [.ref mm, .int w] [ro_ mm 12 (mo g (nI ta) (nI pa) (nI pe) pd (nI pb) pp pf pg pn rt rn (nI cd) sn (nI il) tk am at_ aa 0 0 (-1) wt wy 0 (nI rm) (nI ud) (nI nu) sd (nI qn) (nI qw) qo (nI qb) (nI qp) qa (nI qi) (nI oc))] (skI D (skT cI cJ cC cZ cS) (fun (r : Int32) (u : va_W) => ((w = 0 ∧ r = pf) ∨ (w = 1 ∧ r = pg) ∨ (¬ w = 0 ∧ ¬ w = 1 ∧ r = -1)) ∧ u = [ro_ mm 12 (mo g (nI ta) (nI pa) (nI pe) pd (nI pb) pp pf pg pn rt rn (nI cd) sn (nI il) tk am at_ aa 0 0 (-1) wt wy 0 (nI rm) (nI ud) (nI nu) sd (nI qn) (nI qw) qo (nI qb) (nI qp) qa (nI qi) (nI oc))])) := by
  refine skM_of pf_X12_fault (Nat.le_of_ble_eq_true rfl) ?_
  intro p e s m below meth c A ls E hP hD hl
  refine skE_el E (fun hx hb hr hml hlocks hin hown hts hK hA => ?_)
  have hown : s.vm.findClass RX12 = some m.cls := hown
  have hS : va_S A s.heap s.heap [] := va_S.rf
  have hl : lv_has ls 2 [(0, .ref mm), (1, .int w)] := hl
  refine lv_iload_n hx hb dX12_fault_0 rfl (lv_at hl 1 rfl) ?_
  refine lv_if_ne (tgt := 11) hx hb dX12_fault_1 (by decide) (fun c_1 => ?_) (fun c_1 => ?_)
  · skip
    refine lv_iload_n hx hb dX12_fault_11 rfl (lv_at hl 1 rfl) ?_
    refine lv_iconst (v := 1) hx hb dX12_fault_12 ic_1 ?_
    refine lv_icmp_ne (tgt := 23) hx hb dX12_fault_13 (by decide) (fun c_2 => ?_) (fun c_2 => ?_)
    · skip
      refine lv_iconst (v := (-1)) hx hb dX12_fault_23 (by decide) ?_
      exact sk_iret hx hb hr rfl hlocks hK hP hD hS (⟨(Or.inr (Or.inr ⟨c_1, c_2, rfl⟩)), rfl⟩) (Nat.le_of_ble_eq_true rfl) (Nat.le_of_ble_eq_true rfl) dX12_fault_24
    · skip
      refine lv_aload_n hx hb dX12_fault_16 rfl (lv_at hl 0 rfl) ?_
      refine sk_get (v := .int pg) (C := RX12) (T := TX12) (N := 92) hx hb hts inlX12 hown hK hP 0 rfl rfl 8 (Nat.le_of_ble_eq_true rfl) w_5_163 rfl dX12_fault_17 ?_
      refine lv_goto (tgt := 24) hx hb dX12_fault_20 (by decide) ?_
      exact sk_iret hx hb hr rfl hlocks hK hP hD hS (⟨(Or.inr (Or.inl ⟨c_2, rfl⟩)), rfl⟩) (Nat.le_of_ble_eq_true rfl) (Nat.le_of_ble_eq_true rfl) dX12_fault_24
  · skip
    refine lv_aload_n hx hb dX12_fault_4 rfl (lv_at hl 0 rfl) ?_
    refine sk_get (v := .int pf) (C := RX12) (T := TX12) (N := 92) hx hb hts inlX12 hown hK hP 0 rfl rfl 7 (Nat.le_of_ble_eq_true rfl) w_5_162 rfl dX12_fault_5 ?_
    refine lv_goto (tgt := 24) hx hb dX12_fault_8 (by decide) ?_
    exact sk_iret hx hb hr rfl hlocks hK hP hD hS (⟨(Or.inl ⟨c_1, rfl⟩), rfl⟩) (Nat.le_of_ble_eq_true rfl) (Nat.le_of_ble_eq_true rfl) dX12_fault_24
/-! the reference's sums -/
theorem kbt {x v w : Int64} (hv : v = x - x / 10 * 10) {u : Int64} (hu : u = v + 10) (hw : w = u - u / 10 * 10) : w.toInt32 = nI (kcTen x) := by
  have e10 : (10 : Int64).toInt = 10 := rfl
  have h4 : v.toInt = x.toInt.tmod 10 := by rw [hv, lrem10]
  have h5 := Int.mul_tdiv_add_tmod x.toInt 10
  have hb1 : x.toInt.tmod 10 < 10 := Int.tmod_lt_of_pos _ (by decide)
  have hb2 : -10 < x.toInt.tmod 10 := by
    have h3 := Int.tmod_lt_of_pos (-x.toInt) (by decide : (0 : Int) < 10)
    rw [Int.neg_tmod] at h3
    omega
  have h6 : u.toInt = x.toInt.tmod 10 + 10 := by
    rw [hu, Jvm.Kit.i64_add (by rw [e10]; omega) (by rw [e10]; omega), e10, h4]
  have h7 : w.toInt = u.toInt.tmod 10 := by rw [hw, lrem10]
  rw [Int.tmod_eq_emod_of_nonneg (by omega)] at h7
  refine kten_i ?_ (by have := kcTen_lt x; omega)
  unfold kcTen
  omega
theorem kflr_e {x y : Int64} (hy : ¬ y = 0) (h : lg_cmp (x - x / y * y) 0 = 0) : x / y = kcFl x y := by
  unfold kcFl
  rw [if_neg hy, if_neg (fun q => q.1 ((lg_cmp_eq _ _).mp h))]
theorem kflr_s {x y : Int64} (hy : ¬ y = 0) (hs : x < 0 ↔ y < 0) : x / y = kcFl x y := by
  unfold kcFl
  rw [if_neg hy, if_neg (fun q => q.2 hs)]
theorem kflr_d {x y : Int64} (hy : ¬ y = 0) (h : ¬ lg_cmp (x - x / y * y) 0 = 0) (hs : ¬ (x < 0 ↔ y < 0)) : x / y - 1 = kcFl x y := by
  unfold kcFl
  rw [if_neg hy, if_pos ⟨fun q => h ((lg_cmp_eq _ _).mpr q), hs⟩]
theorem klt0 {x : Int64} (h : ¬ 0 ≤ lg_cmp x 0) : x < 0 := Int64.not_le.mp (fun q => h ((lg_cmp_ge x 0).mpr q))
theorem kge0 {x : Int64} (h : 0 ≤ lg_cmp x 0) : ¬ x < 0 := Int64.not_lt.mpr ((lg_cmp_ge x 0).mp h)
theorem kjo_c {c k : Nat} (h : nI c = nI k) (hc : c ≤ 6) (hk : k < 2147483648) : c = k := (neq _ _ (by omega) hk).mp h
theorem kjo_f {c : Nat} (h1 : 1 ≤ c) (h6 : c ≤ 6) (g1 : ¬ nI c = 1) (g2 : ¬ nI c = 2) (g3 : ¬ nI c = 3) (g4 : ¬ nI c = 4) (g5 : ¬ nI c = 5) (g6 : ¬ nI c = 6) : False := by
  rcases (show c = 1 ∨ c = 2 ∨ c = 3 ∨ c = 4 ∨ c = 5 ∨ c = 6 by omega) with rfl | rfl | rfl | rfl | rfl | rfl
  · exact g1 rfl
  · exact g2 rfl
  · exact g3 rfl
  · exact g4 rfl
  · exact g5 rfl
  · exact g6 rfl
theorem kjo_min {x y : Int64} (h : 0 ≤ lg_cmp x y) : y = kcOp 5 x y := by
  have h1 := (lg_cmp_ge x y).mp h
  show y = if y < x then y else x
  by_cases q : y < x
  · rw [if_pos q]
  · rw [if_neg q]; exact Int64.le_antisymm h1 (Int64.not_lt.mp q)
theorem kjo_min2 {x y : Int64} (h : ¬ 0 ≤ lg_cmp x y) : x = kcOp 5 x y := by
  have h1 : x < y := Int64.not_le.mp (fun q => h ((lg_cmp_ge x y).mpr q))
  show x = if y < x then y else x
  rw [if_neg (fun q => Int64.lt_irrefl (Int64.lt_trans h1 q))]
theorem kjo_max {x y : Int64} (h : lg_cmp x y ≤ 0) : y = kcOp 6 x y := by
  have h1 := (lg_cmp_le x y).mp h
  show y = if x < y then y else x
  by_cases q : x < y
  · rw [if_pos q]
  · rw [if_neg q]; exact Int64.le_antisymm (Int64.not_lt.mp q) h1
theorem kjo_max2 {x y : Int64} (h : ¬ lg_cmp x y ≤ 0) : x = kcOp 6 x y := by
  have h1 : y < x := Int64.not_le.mp (fun q => h ((lg_cmp_le x y).mpr q))
  show x = if x < y then y else x
  rw [if_neg (fun q => Int64.lt_irrefl (Int64.lt_trans h1 q))]
/-- what a name is, by the reference's fields -/
def mnO (nm : Nat → Int64) (am at_ aa : Int32) (nw : Nat → Int32) (d : Nat) : Prop := Int32.toInt64 am = nm 0 ∧ Int32.toInt64 (nw (2 + 3 * d)) = nm 1 ∧ Int32.toInt64 (nw (2 + 3 * d + 1)) = nm 2 ∧ Int32.toInt64 (nI d) = nm 3 ∧ Int32.toInt64 (nw 0) = nm 4 ∧ Int32.toInt64 at_ = nm 5 ∧ Int32.toInt64 aa = nm 6
theorem mn_k {k j : Nat} (h : nI k = nI j) (hk : k < 7) (hj : j < 2147483648) : k = j := (neq _ _ (by omega) hj).mp h
theorem mn_x {k j : Nat} {P : Prop} (h : nI k = nI j) (hk : k < 7) (hj : j < 2147483648) (h7 : 7 ≤ j) : P := by
  have := mn_k h hk hj
  exact absurd h7 (by omega)
theorem mn_f {k : Nat} (hk : k < 7) (g0 : ¬ nI k = 0) (g1 : ¬ nI k = 1) (g2 : ¬ nI k = 2) (g3 : ¬ nI k = 3) (g4 : ¬ nI k = 4) (g5 : ¬ nI k = 5) (g6 : ¬ nI k = 6) : False := by
  rcases (show k = 0 ∨ k = 1 ∨ k = 2 ∨ k = 3 ∨ k = 4 ∨ k = 5 ∨ k = 6 by omega) with rfl | rfl | rfl | rfl | rfl | rfl | rfl
  · exact g0 rfl
  · exact g1 rfl
  · exact g2 rfl
  · exact g3 rfl
  · exact g4 rfl
  · exact g5 rfl
  · exact g6 rfl
/-! the two counts are one -/
theorem sm_S (f : Nat → Nat) : ∀ n, sm f n = kcS f n
  | 0 => rfl
  | n + 1 => by
    show sm f n + f n = kcS f n + f n
    rw [sm_S f n]
theorem bk_C (C : Nat → Nat → Nat → Bool) : ∀ j d m, bk C j d m = kcC C j (d + 1) m
  | 0, _, _ => rfl
  | j + 1, d, m => by
    show sm (fun k => if C (d + 1) m k then bk C j (d + 1) k else 0) 10 = kcS (fun k => if C (d + 1) m k = true then kcC C j (d + 1 + 1) k else 0) 10
    rw [sm_S]
    exact kcS_cg 10 (fun k _ => by rw [bk_C C j (d + 1) k])
theorem bfo_B (C : Nat → Nat → Nat → Bool) (a0 : Nat) : ∀ d m, bfo C a0 d m = kcB C a0 d m
  | 0, _ => rfl
  | d + 1, m => by
    show sm (fun a => if C (d + 1) a m then bfo C a0 d a else 0) 10 = kcS (fun a => if C (d + 1) a m = true then kcB C a0 d a else 0) 10
    rw [sm_S]
    exact kcS_cg 10 (fun a _ => by rw [bfo_B C a0 d a])
theorem wys_C (C : Nat → Nat → Nat → Bool) (a0 : Nat) {n : Nat} (h : 1 ≤ n) : wys C a0 (n - 1) = kcC C n 0 a0 := by
  unfold wys
  rw [sm_S, kcS_cg (g := kcB C a0 (n - 1)) 10 (fun m _ => bfo_B C a0 (n - 1) m), kcB_all, show n - 1 + 1 = n by omega]
theorem gA_W (C : Nat → Nat → Nat → Bool) (n d a m : Nat) : gA C n d a m = kcW C n d a m := by
  unfold gA kcW
  rw [bk_C, show n - 1 - d = n - (d + 1) by omega]
set_option maxHeartbeats 4000000 in
set_option maxRecDepth 100000 in
theorem c_nm_byTen (l : Launch) (D : va_G) (cI cJ cC cZ cS : ClassId) (x : Int64)  : skM l yX12_byTen cX12_byTen 2 (some .int) 0 0 0 0 D (skT cI cJ cC cZ cS) [.long x] [] (skI D (skT cI cJ cC cZ cS) (fun (r : Int32) (u : va_W) => r = nI (kcTen x) ∧ u = [])) := by
  refine skM_of pf_X12_byTen (Nat.le_of_ble_eq_true rfl) ?_
  intro p e s m below meth c A ls E hP hD hl
  refine skE_el E (fun hx hb hr hml hlocks hin hown hts hK hA => ?_)
  have hown : s.vm.findClass RX12 = some m.cls := hown
  have hS : va_S A s.heap s.heap [] := va_S.rf
  have hl : lv_has ls 2 [(0, .long x)] := hl
  refine lv_lload_n hx hb dX12_byTen_0 rfl (lv_at hl 0 rfl) ?_
  refine lv_ldc2 (v := 10) hx hb hown (hts _ w_7_171) dX12_byTen_1 ?_
  refine lv_lrem hx hb dX12_byTen_4 (by decide) ?_
  refine lv_topl (fun v_1 ev_1 => ?_)
  refine lv_ldc2 (v := 10) hx hb hown (hts _ w_7_171) dX12_byTen_5 ?_
  refine lv_ladd hx hb dX12_byTen_8 ?_
  refine lv_topl (fun v_2 ev_2 => ?_)
  refine lv_ldc2 (v := 10) hx hb hown (hts _ w_7_171) dX12_byTen_9 ?_
  refine lv_lrem hx hb dX12_byTen_12 (by decide) ?_
  refine lv_topl (fun v_3 ev_3 => ?_)
  refine lv_l2i hx hb dX12_byTen_13 rfl ?_
  refine sk_top (nI (kcTen x)) (kbt ev_1 ev_2 ev_3) ?_
  exact sk_iret hx hb hr rfl hlocks hK hP hD hS (⟨rfl, rfl⟩) (Nat.le_of_ble_eq_true rfl) (Nat.le_of_ble_eq_true rfl) dX12_byTen_14
set_option maxHeartbeats 4000000 in
set_option maxRecDepth 100000 in
theorem c_nm_qClip (l : Launch) (D : va_G) (cI cJ cC cZ cS : ClassId) (x : Int64)  : skM l yX12_qClip cX12_qClip 2 (some .long) 0 0 0 0 D (skT cI cJ cC cZ cS) [.long x] [] (skL D (skT cI cJ cC cZ cS) (fun (r : Int64) (u : va_W) => r = kcClip x ∧ u = [])) := by
  refine skM_of pf_X12_qClip (Nat.le_of_ble_eq_true rfl) ?_
  intro p e s m below meth c A ls E hP hD hl
  refine skE_el E (fun hx hb hr hml hlocks hin hown hts hK hA => ?_)
  have hown : s.vm.findClass RX12 = some m.cls := hown
  have hS : va_S A s.heap s.heap [] := va_S.rf
  have hl : lv_has ls 2 [(0, .long x)] := hl
  refine lv_lload_n hx hb dX12_qClip_0 rfl (lv_at hl 0 rfl) ?_
  refine lv_ldc2 (v := 1000000) hx hb hown (hts _ w_7_163) dX12_qClip_1 ?_
  refine W.lcmp hx hb dX12_qClip_4 ?_
  refine lv_if_le (tgt := 14) hx hb dX12_qClip_5 (by decide) (fun c_1 => ?_) (fun c_1 => ?_)
  · skip
    refine lv_lload_n hx hb dX12_qClip_14 rfl (lv_at hl 0 rfl) ?_
    refine lv_ldc2 (v := (-1000000)) hx hb hown (hts _ w_7_164) dX12_qClip_15 ?_
    refine W.lcmp hx hb dX12_qClip_18 ?_
    refine lv_if_ge (tgt := 28) hx hb dX12_qClip_19 (by decide) (fun c_2 => ?_) (fun c_2 => ?_)
    · skip
      refine lv_lload_n hx hb dX12_qClip_28 rfl (lv_at hl 0 rfl) ?_
      exact sk_lret hx hb hr hlocks hK hP hD hS (⟨kclip_c c_1 c_2, rfl⟩) (Nat.le_of_ble_eq_true rfl) (Nat.le_of_ble_eq_true rfl) dX12_qClip_29
    · skip
      refine lv_ldc2 (v := (-1000000)) hx hb hown (hts _ w_7_164) dX12_qClip_22 ?_
      refine lv_goto (tgt := 29) hx hb dX12_qClip_25 (by decide) ?_
      exact sk_lret hx hb hr hlocks hK hP hD hS (⟨kclip_b c_1 c_2, rfl⟩) (Nat.le_of_ble_eq_true rfl) (Nat.le_of_ble_eq_true rfl) dX12_qClip_29
  · skip
    refine lv_ldc2 (v := 1000000) hx hb hown (hts _ w_7_163) dX12_qClip_8 ?_
    refine lv_goto (tgt := 29) hx hb dX12_qClip_11 (by decide) ?_
    exact sk_lret hx hb hr hlocks hK hP hD hS (⟨kclip_a c_1, rfl⟩) (Nat.le_of_ble_eq_true rfl) (Nat.le_of_ble_eq_true rfl) dX12_qClip_29
set_option maxHeartbeats 4000000 in
set_option maxRecDepth 100000 in
theorem c_nm_qFloor (l : Launch) (D : va_G) (cI cJ cC cZ cS : ClassId) (x : Int64) (y : Int64)  : skM l yX12_qFloor cX12_qFloor 6 (some .long) 0 0 0 0 D (skT cI cJ cC cZ cS) [.long x, .long y] [] (skL D (skT cI cJ cC cZ cS) (fun (r : Int64) (u : va_W) => r = kcFl x y ∧ u = [])) := by
  refine skM_of pf_X12_qFloor (Nat.le_of_ble_eq_true rfl) ?_
  intro p e s m below meth c A ls E hP hD hl
  refine skE_el E (fun hx hb hr hml hlocks hin hown hts hK hA => ?_)
  have hown : s.vm.findClass RX12 = some m.cls := hown
  have hS : va_S A s.heap s.heap [] := va_S.rf
  have hl : lv_has ls 6 [(0, .long x), (2, .long y)] := hl
  refine lv_lload_n hx hb dX12_qFloor_0 rfl (lv_at hl 1 rfl) ?_
  refine lv_lconst (v := 0) hx hb dX12_qFloor_1 (by decide) ?_
  refine W.lcmp hx hb dX12_qFloor_2 ?_
  refine lv_if_ne (tgt := 8) hx hb dX12_qFloor_3 (by decide) (fun c_1 => ?_) (fun c_1 => ?_)
  · skip
    refine lv_lload_n hx hb dX12_qFloor_8 rfl (lv_at hl 0 rfl) ?_
    refine lv_lload_n hx hb dX12_qFloor_9 rfl (lv_at hl 1 rfl) ?_
    refine lv_ldiv hx hb dX12_qFloor_10 (lg_ne0 c_1) ?_
    refine lv_lstore (lv' := [(4, .long (x / y)), (0, .long x), (2, .long y)]) hx hb dX12_qFloor_11 hl (by decide) rfl (fun ls hl => ?_)
    refine lv_lload_n hx hb dX12_qFloor_13 rfl (lv_at hl 1 rfl) ?_
    refine lv_lload_n hx hb dX12_qFloor_14 rfl (lv_at hl 2 rfl) ?_
    refine lv_lrem hx hb dX12_qFloor_15 (lg_ne0 c_1) ?_
    refine lv_lconst (v := 0) hx hb dX12_qFloor_16 (by decide) ?_
    refine W.lcmp hx hb dX12_qFloor_17 ?_
    refine lv_if_eq (tgt := 53) hx hb dX12_qFloor_18 (by decide) (fun c_2 => ?_) (fun c_2 => ?_)
    · skip
      refine lv_lload hx hb dX12_qFloor_53 (lv_at hl 0 rfl) ?_
      exact sk_lret hx hb hr hlocks hK hP hD hS (⟨kflr_e (lg_ne0 c_1) c_2, rfl⟩) (Nat.le_of_ble_eq_true rfl) (Nat.le_of_ble_eq_true rfl) dX12_qFloor_55
    · skip
      refine lv_lload_n hx hb dX12_qFloor_21 rfl (lv_at hl 1 rfl) ?_
      refine lv_lconst (v := 0) hx hb dX12_qFloor_22 (by decide) ?_
      refine W.lcmp hx hb dX12_qFloor_23 ?_
      refine lv_if_ge (tgt := 31) hx hb dX12_qFloor_24 (by decide) (fun c_3 => ?_) (fun c_3 => ?_)
      · skip
        refine lv_iconst (v := 0) hx hb dX12_qFloor_31 ic_0 ?_
        refine lv_lload_n hx hb dX12_qFloor_32 rfl (lv_at hl 2 rfl) ?_
        refine lv_lconst (v := 0) hx hb dX12_qFloor_33 (by decide) ?_
        refine W.lcmp hx hb dX12_qFloor_34 ?_
        refine lv_if_ge (tgt := 42) hx hb dX12_qFloor_35 (by decide) (fun c_4 => ?_) (fun c_4 => ?_)
        · skip
          refine lv_iconst (v := 0) hx hb dX12_qFloor_42 ic_0 ?_
          refine lv_icmp_eq (tgt := 53) hx hb dX12_qFloor_43 (by decide) (fun c_5 => ?_) (fun c => absurd c (by decide))
          refine lv_lload hx hb dX12_qFloor_53 (lv_at hl 0 rfl) ?_
          exact sk_lret hx hb hr hlocks hK hP hD hS (⟨kflr_s (lg_ne0 c_1) ⟨fun q => absurd q (kge0 c_3), fun q => absurd q (kge0 c_4)⟩, rfl⟩) (Nat.le_of_ble_eq_true rfl) (Nat.le_of_ble_eq_true rfl) dX12_qFloor_55
        · skip
          refine lv_iconst (v := 1) hx hb dX12_qFloor_38 ic_1 ?_
          refine lv_goto (tgt := 43) hx hb dX12_qFloor_39 (by decide) ?_
          refine lv_icmp_eq (tgt := 53) hx hb dX12_qFloor_43 (by decide) (fun c => absurd c (by decide)) (fun c_6 => ?_)
          refine lv_lload hx hb dX12_qFloor_46 (lv_at hl 0 rfl) ?_
          refine lv_lconst (v := 1) hx hb dX12_qFloor_48 (by decide) ?_
          refine lv_lsub hx hb dX12_qFloor_49 ?_
          refine lv_goto (tgt := 55) hx hb dX12_qFloor_50 (by decide) ?_
          exact sk_lret hx hb hr hlocks hK hP hD hS (⟨kflr_d (lg_ne0 c_1) c_2 (fun q => absurd (q.mpr (klt0 c_4)) (kge0 c_3)), rfl⟩) (Nat.le_of_ble_eq_true rfl) (Nat.le_of_ble_eq_true rfl) dX12_qFloor_55
      · skip
        refine lv_iconst (v := 1) hx hb dX12_qFloor_27 ic_1 ?_
        refine lv_goto (tgt := 32) hx hb dX12_qFloor_28 (by decide) ?_
        refine lv_lload_n hx hb dX12_qFloor_32 rfl (lv_at hl 2 rfl) ?_
        refine lv_lconst (v := 0) hx hb dX12_qFloor_33 (by decide) ?_
        refine W.lcmp hx hb dX12_qFloor_34 ?_
        refine lv_if_ge (tgt := 42) hx hb dX12_qFloor_35 (by decide) (fun c_7 => ?_) (fun c_7 => ?_)
        · skip
          refine lv_iconst (v := 0) hx hb dX12_qFloor_42 ic_0 ?_
          refine lv_icmp_eq (tgt := 53) hx hb dX12_qFloor_43 (by decide) (fun c => absurd c (by decide)) (fun c_8 => ?_)
          refine lv_lload hx hb dX12_qFloor_46 (lv_at hl 0 rfl) ?_
          refine lv_lconst (v := 1) hx hb dX12_qFloor_48 (by decide) ?_
          refine lv_lsub hx hb dX12_qFloor_49 ?_
          refine lv_goto (tgt := 55) hx hb dX12_qFloor_50 (by decide) ?_
          exact sk_lret hx hb hr hlocks hK hP hD hS (⟨kflr_d (lg_ne0 c_1) c_2 (fun q => absurd (q.mp (klt0 c_3)) (kge0 c_7)), rfl⟩) (Nat.le_of_ble_eq_true rfl) (Nat.le_of_ble_eq_true rfl) dX12_qFloor_55
        · skip
          refine lv_iconst (v := 1) hx hb dX12_qFloor_38 ic_1 ?_
          refine lv_goto (tgt := 43) hx hb dX12_qFloor_39 (by decide) ?_
          refine lv_icmp_eq (tgt := 53) hx hb dX12_qFloor_43 (by decide) (fun c_9 => ?_) (fun c => absurd c (by decide))
          refine lv_lload hx hb dX12_qFloor_53 (lv_at hl 0 rfl) ?_
          exact sk_lret hx hb hr hlocks hK hP hD hS (⟨kflr_s (lg_ne0 c_1) ⟨fun _ => (klt0 c_7), fun _ => (klt0 c_3)⟩, rfl⟩) (Nat.le_of_ble_eq_true rfl) (Nat.le_of_ble_eq_true rfl) dX12_qFloor_55
  · skip
    refine lv_lconst (v := 0) hx hb dX12_qFloor_6 (by decide) ?_
    exact sk_lret hx hb hr hlocks hK hP hD hS (⟨kfl_0 ((lg_cmp_eq _ _).mp c_1), rfl⟩) (Nat.le_of_ble_eq_true rfl) (Nat.le_of_ble_eq_true rfl) dX12_qFloor_7
set_option maxHeartbeats 4000000 in
set_option maxRecDepth 100000 in
theorem c_nm_qPuts (l : Launch) (D : va_G) (cI cJ cC cZ cS : ClassId) (mm : Nat) (g : Nat → Nat) (ta : Nat) (pa : Nat) (pe : Nat) (pd : Int32) (pb : Nat) (pp : Int32) (pf : Int32) (pg : Int32) (pn : Int32) (rt : Int32) (rn : Int32) (cd : Nat) (sn : Int32) (il : Nat) (tk : Int32) (am : Int32) (at_ : Int32) (aa : Int32) (mt_ : Int32) (wt : Int32) (wy : Int64) (it_ : Nat) (rm : Nat) (ud : Nat) (nu : Nat) (sd : Int64) (qn : Nat) (qw : Nat) (qo : Int32) (qb : Nat) (qp : Nat) (qa : Int64) (qi : Nat) (oc : Nat) (x : Int64) (ql : Nat → Int64) (hqp : qp < 1700) : skM l yX12_qPuts cX12_qPuts 3 none 0 0 0 0 D (skT cI cJ cC cZ cS) [.ref mm, .long x] [ro_ mm 12 (mo g (nI ta) (nI pa) (nI pe) pd (nI pb) pp pf pg pn rt rn (nI cd) sn (nI il) tk am at_ aa mt_ 0 (-1) wt wy (nI it_) (nI rm) (nI ud) (nI nu) sd (nI qn) (nI qw) qo (nI qb) (nI qp) qa (nI qi) (nI oc)), ra_J (g 86) cJ 1700 ql] (skV D (skT cI cJ cC cZ cS) (fun (u : va_W) => ∃ (ql2 : Nat → Int64), ql2 = vp_updL ql qp x ∧ u = [ro_ mm 12 (mo g (nI ta) (nI pa) (nI pe) pd (nI pb) pp pf pg pn rt rn (nI cd) sn (nI il) tk am at_ aa mt_ 0 (-1) wt wy (nI it_) (nI rm) (nI ud) (nI nu) sd (nI qn) (nI qw) qo (nI qb) (nI (qp + 1)) qa (nI qi) (nI oc)), ra_J (g 86) cJ 1700 ql2])) := by
  refine skM_of pf_X12_qPuts (Nat.le_of_ble_eq_true rfl) ?_
  intro p e s m below meth c A ls E hP hD hl
  refine skE_el E (fun hx hb hr hml hlocks hin hown hts hK hA => ?_)
  have hown : s.vm.findClass RX12 = some m.cls := hown
  have hS : va_S A s.heap s.heap [] := va_S.rf
  have hl : lv_has ls 3 [(0, .ref mm), (1, .long x)] := hl
  refine lv_aload_n hx hb dX12_qPuts_0 rfl (lv_at hl 0 rfl) ?_
  refine sk_get (v := .ref (g 86)) (C := RX12) (T := TX12) (N := 92) hx hb hts inlX12 hown hK hP 0 rfl rfl 86 (Nat.le_of_ble_eq_true rfl) w_6_1 rfl dX12_qPuts_1 ?_
  refine lv_aload_n hx hb dX12_qPuts_4 rfl (lv_at hl 0 rfl) ?_
  refine sk_get (v := .int (nI qp)) (C := RX12) (T := TX12) (N := 92) hx hb hts inlX12 hown hK hP 0 rfl rfl 87 (Nat.le_of_ble_eq_true rfl) w_6_2 rfl dX12_qPuts_5 ?_
  refine lv_lload_n hx hb dX12_qPuts_8 rfl (lv_at hl 1 rfl) ?_
  refine sk_lastE (k := qp) (ws' := fun f_1 => [ro_ mm 12 (mo g (nI ta) (nI pa) (nI pe) pd (nI pb) pp pf pg pn rt rn (nI cd) sn (nI il) tk am at_ aa mt_ 0 (-1) wt wy (nI it_) (nI rm) (nI ud) (nI nu) sd (nI qn) (nI qw) qo (nI qb) (nI qp) qa (nI qi) (nI oc)), ra_J (g 86) cJ 1700 f_1]) hx hb hK hP hD hS 1 1 rfl rfl (by omega) (by omega) (fun _ => rfl) dX12_qPuts_9 (fun f_1 H locs ef_2 hP hD hS => ?_)
  refine lv_aload_n hx hb dX12_qPuts_10 rfl (lv_at hl 0 rfl) ?_
  refine lv_dup hx hb dX12_qPuts_11 rfl ?_
  refine sk_get (v := .int (nI qp)) (C := RX12) (T := TX12) (N := 92) hx hb hts inlX12 hown hK hP 0 rfl rfl 87 (Nat.le_of_ble_eq_true rfl) w_6_2 rfl dX12_qPuts_12 ?_
  refine lv_iconst (v := 1) hx hb dX12_qPuts_15 ic_1 ?_
  refine lv_iadd hx hb dX12_qPuts_16 ?_
  refine sk_top (nI (qp + 1)) (nI_add qp 1) ?_
  refine sk_put (ws' := [ro_ mm 12 (mo g (nI ta) (nI pa) (nI pe) pd (nI pb) pp pf pg pn rt rn (nI cd) sn (nI il) tk am at_ aa mt_ 0 (-1) wt wy (nI it_) (nI rm) (nI ud) (nI nu) sd (nI qn) (nI qw) qo (nI qb) (nI (qp + 1)) qa (nI qi) (nI oc)), ra_J (g 86) cJ 1700 f_1]) (C := RX12) (T := TX12) (N := 92) (v := .int (nI (qp + 1))) hx hb hts inlX12 tyX12 tyX12_ok nmX12 hown hK hP hD hS 0 rfl rfl 87 (Nat.le_of_ble_eq_true rfl) w_6_2 rfl rfl rfl (Nat.le_of_ble_eq_true rfl) rfl dX12_qPuts_17 (fun H locs hP hD hS => ?_)
  exact sk_vret hx hb hr hlocks hK hP hD hS (⟨f_1, ef_2, rfl⟩) (Nat.le_of_ble_eq_true rfl) (Nat.le_of_ble_eq_true rfl) dX12_qPuts_20
set_option maxHeartbeats 4000000 in
set_option maxRecDepth 100000 in
theorem c_nm_qJoins (l : Launch) (D : va_G) (cI cJ cC cZ cS : ClassId) (mm : Nat) (g : Nat → Nat) (ta : Nat) (pa : Nat) (pe : Nat) (pd : Int32) (pb : Nat) (pp : Int32) (pf : Int32) (pg : Int32) (pn : Int32) (rt : Int32) (rn : Int32) (cd : Nat) (sn : Int32) (il : Nat) (tk : Int32) (am : Int32) (at_ : Int32) (aa : Int32) (mt_ : Int32) (wt : Int32) (wy : Int64) (it_ : Nat) (rm : Nat) (ud : Nat) (nu : Nat) (sd : Int64) (qn : Nat) (qw : Nat) (qo : Int32) (qb : Nat) (qp : Nat) (qa : Int64) (qi : Nat) (oc : Nat) (jop : Nat) (ql : Nat → Int64) (a1 : Int64) (b1 : Int64) (R1 : List Int64) (hc1 : 1 ≤ jop) (hc6 : jop ≤ 6) (hst : stkO ql (b1 :: a1 :: R1)) (hqp2 : qp = R1.length + 2) (hqp : qp ≤ 1700) : skM l yX12_qJoins cX12_qJoins 6 none 1 25 0 0 D (skT cI cJ cC cZ cS) [.ref mm, .int (nI jop)] [ro_ mm 12 (mo g (nI ta) (nI pa) (nI pe) pd (nI pb) pp pf pg pn rt rn (nI cd) sn (nI il) tk am at_ aa mt_ 0 (-1) wt wy (nI it_) (nI rm) (nI ud) (nI nu) sd (nI qn) (nI qw) qo (nI qb) (nI qp) qa (nI qi) (nI oc)), ra_J (g 86) cJ 1700 ql] (skV D (skT cI cJ cC cZ cS) (fun (u : va_W) => ∃ (ql2 : Nat → Int64), stkO ql2 (kcOp jop a1 b1 :: R1) ∧ u = [ro_ mm 12 (mo g (nI ta) (nI pa) (nI pe) pd (nI pb) pp pf pg pn rt rn (nI cd) sn (nI il) tk am at_ aa mt_ 0 (-1) wt wy (nI it_) (nI rm) (nI ud) (nI nu) sd (nI qn) (nI qw) qo (nI qb) (nI (qp - 2 + 1)) qa (nI qi) (nI oc)), ra_J (g 86) cJ 1700 ql2])) := by
  refine skM_of pf_X12_qJoins (Nat.le_of_ble_eq_true rfl) ?_
  intro p e s m below meth c A ls E hP hD hl
  refine skE_el E (fun hx hb hr hml hlocks hin hown hts hK hA => ?_)
  have hown : s.vm.findClass RX12 = some m.cls := hown
  have hS : va_S A s.heap s.heap [] := va_S.rf
  have hl : lv_has ls 6 [(0, .ref mm), (1, .int (nI jop))] := hl
  refine lv_aload_n hx hb dX12_qJoins_0 rfl (lv_at hl 0 rfl) ?_
  refine sk_get (v := .ref (g 86)) (C := RX12) (T := TX12) (N := 92) hx hb hts inlX12 hown hK hP 0 rfl rfl 86 (Nat.le_of_ble_eq_true rfl) w_6_1 rfl dX12_qJoins_1 ?_
  refine lv_aload_n hx hb dX12_qJoins_4 rfl (lv_at hl 0 rfl) ?_
  refine sk_get (v := .int (nI qp)) (C := RX12) (T := TX12) (N := 92) hx hb hts inlX12 hown hK hP 0 rfl rfl 87 (Nat.le_of_ble_eq_true rfl) w_6_2 rfl dX12_qJoins_5 ?_
  refine lv_iconst (v := 1) hx hb dX12_qJoins_8 ic_1 ?_
  refine lv_isub hx hb dX12_qJoins_9 ?_
  refine sk_top (nI (qp - 1)) (nsub qp 1 (by omega)) ?_
  refine va_lald hx hb hK.1 hP 1 1 rfl rfl (vin (qp - 1) 1700 (by omega) (Nat.le_of_ble_eq_true rfl)) dX12_qJoins_10 ?_
  refine sk_topl b1 (stk_b hst (by omega) (by omega)) ?_
  refine lv_lstore_n (lv' := [(2, .long b1), (0, .ref mm), (1, .int (nI jop))]) hx hb dX12_qJoins_11 rfl hl (by decide) rfl (fun ls hl => ?_)
  refine lv_aload_n hx hb dX12_qJoins_12 rfl (lv_at hl 1 rfl) ?_
  refine sk_get (v := .ref (g 86)) (C := RX12) (T := TX12) (N := 92) hx hb hts inlX12 hown hK hP 0 rfl rfl 86 (Nat.le_of_ble_eq_true rfl) w_6_1 rfl dX12_qJoins_13 ?_
  refine lv_aload_n hx hb dX12_qJoins_16 rfl (lv_at hl 1 rfl) ?_
  refine sk_get (v := .int (nI qp)) (C := RX12) (T := TX12) (N := 92) hx hb hts inlX12 hown hK hP 0 rfl rfl 87 (Nat.le_of_ble_eq_true rfl) w_6_2 rfl dX12_qJoins_17 ?_
  refine lv_iconst (v := 2) hx hb dX12_qJoins_20 ic_2 ?_
  refine lv_isub hx hb dX12_qJoins_21 ?_
  refine sk_top (nI (qp - 2)) (nsub qp 2 (by omega)) ?_
  refine va_lald hx hb hK.1 hP 1 1 rfl rfl (vin (qp - 2) 1700 (by omega) (Nat.le_of_ble_eq_true rfl)) dX12_qJoins_22 ?_
  refine sk_topl a1 (stk_a hst (by omega) (by omega)) ?_
  refine lv_lstore (lv' := [(4, .long a1), (2, .long b1), (0, .ref mm), (1, .int (nI jop))]) hx hb dX12_qJoins_23 hl (by decide) rfl (fun ls hl => ?_)
  refine lv_aload_n hx hb dX12_qJoins_25 rfl (lv_at hl 2 rfl) ?_
  refine lv_dup hx hb dX12_qJoins_26 rfl ?_
  refine sk_get (v := .int (nI qp)) (C := RX12) (T := TX12) (N := 92) hx hb hts inlX12 hown hK hP 0 rfl rfl 87 (Nat.le_of_ble_eq_true rfl) w_6_2 rfl dX12_qJoins_27 ?_
  refine lv_iconst (v := 2) hx hb dX12_qJoins_30 ic_2 ?_
  refine lv_isub hx hb dX12_qJoins_31 ?_
  refine sk_top (nI (qp - 2)) (nsub qp 2 (by omega)) ?_
  refine sk_put (ws' := [ro_ mm 12 (mo g (nI ta) (nI pa) (nI pe) pd (nI pb) pp pf pg pn rt rn (nI cd) sn (nI il) tk am at_ aa mt_ 0 (-1) wt wy (nI it_) (nI rm) (nI ud) (nI nu) sd (nI qn) (nI qw) qo (nI qb) (nI (qp - 2)) qa (nI qi) (nI oc)), ra_J (g 86) cJ 1700 ql]) (C := RX12) (T := TX12) (N := 92) (v := .int (nI (qp - 2))) hx hb hts inlX12 tyX12 tyX12_ok nmX12 hown hK hP hD hS 0 rfl rfl 87 (Nat.le_of_ble_eq_true rfl) w_6_2 rfl rfl rfl (Nat.le_of_ble_eq_true rfl) rfl dX12_qJoins_32 (fun H locs hP hD hS => ?_)
  refine lv_iload_n hx hb dX12_qJoins_35 rfl (lv_at hl 3 rfl) ?_
  by_cases g_1 : nI jop = 1
  · refine lv_tableIn (off := 56) (tgt := 92) hx hb dX12_qJoins_36 (by rw [g_1]; decide) (by rw [g_1]; decide) (by rw [g_1]; rfl) (by decide) ?_
    refine lv_aload_n hx hb dX12_qJoins_92 rfl (lv_at hl 2 rfl) ?_
    refine lv_lload hx hb dX12_qJoins_93 (lv_at hl 0 rfl) ?_
    refine lv_lload_n hx hb dX12_qJoins_95 rfl (lv_at hl 1 rfl) ?_
    refine lv_ladd hx hb dX12_qJoins_96 ?_
    refine sk_Sl (n := 1) (rest := [.ref mm]) (wr := [ro_ mm 12 (mo g (nI ta) (nI pa) (nI pe) pd (nI pb) pp pf pg pn rt rn (nI cd) sn (nI il) tk am at_ aa mt_ 0 (-1) wt wy (nI it_) (nI rm) (nI ud) (nI nu) sd (nI qn) (nI qw) qo (nI qb) (nI (qp - 2)) qa (nI qi) (nI oc)), ra_J (g 86) cJ 1700 ql]) ⟨hx, hb, hml, hown, hts⟩ hl.1 (c_nm_qClip l D cI cJ cC cZ cS (a1 + b1)) w_7_160 w_7_161 w_1_14 w_7_162 hd_X12_qClip_1 ⟨⟨(Nat.le_of_ble_eq_true rfl), (Nat.le_of_ble_eq_true rfl)⟩, (Nat.le_of_ble_eq_true rfl), (Nat.le_of_ble_eq_true rfl)⟩ hK hP hD hS hA [] [0, 1] rfl rfl (by decide +kernel) (by decide +kernel) (by decide +kernel) rfl rfl (Nat.le_of_ble_eq_true rfl) dX12_qJoins_97 (fun r_2 u H locs hw hP hD hS => ?_)
    obtain ⟨hr_3, rfl⟩ := hw
    refine o_re (ws' := [ro_ mm 12 (mo g (nI ta) (nI pa) (nI pe) pd (nI pb) pp pf pg pn rt rn (nI cd) sn (nI il) tk am at_ aa mt_ 0 (-1) wt wy (nI it_) (nI rm) (nI ud) (nI nu) sd (nI qn) (nI qw) qo (nI qb) (nI (qp - 2)) qa (nI qi) (nI oc)), ra_J (g 86) cJ 1700 ql]) hP hD rfl (fun hP hD => ?_)
    subst hr_3
    refine sk_Vv (q0 := 0) (n := 1) (rest := []) (wr := fmR om_2_3 _) ⟨hx, hb, hml, hown, hts⟩ hl.1 (c_nm_qPuts l D cI cJ cC cZ cS mm g ta pa pe pd pb pp pf pg pn rt rn cd sn il tk am at_ aa mt_ wt wy it_ rm ud nu sd qn qw qo qb (qp - 2) qa qi oc (kcClip (a1 + b1)) ql (by omega)) w_7_139 w_7_141 w_0_76 w_1_14 w_7_142 hd_X12_qPuts_1 ⟨⟨(Nat.le_of_ble_eq_true rfl), (Nat.le_of_ble_eq_true rfl)⟩, (Nat.le_of_ble_eq_true rfl), (Nat.le_of_ble_eq_true rfl)⟩ hK hP hD hS hA (fmT om_2_3 0) (fmF om_2_3 0) (fm_C1 rfl rfl) (fm_R rfl rfl) (fm_nT om_2_3 0) (fm_nF om_2_3 0) (fm_di om_2_3 0) rfl rfl rfl rfl (Nat.le_of_ble_eq_true rfl) dX12_qJoins_100 (fun u H locs hw hP hD hS => ?_)
    refine exE hw (fun ql2_4 hw1 => anE hw1 (fun hql_5 eu_6 => ?_))
    clear hw hw1
    refine o_mgE (ws' := [ro_ mm 12 (mo g (nI ta) (nI pa) (nI pe) pd (nI pb) pp pf pg pn rt rn (nI cd) sn (nI il) tk am at_ aa mt_ 0 (-1) wt wy (nI it_) (nI rm) (nI ud) (nI nu) sd (nI qn) (nI qw) qo (nI qb) (nI ((qp - 2) + 1)) qa (nI qi) (nI oc)), ra_J (g 86) cJ 1700 ql2_4]) eu_6 hP hD rfl (fun hP hD => ?_)
    refine lv_goto (tgt := 273) hx hb dX12_qJoins_103 (by decide) ?_
    exact sk_vret hx hb hr hlocks hK hP hD hS (⟨ql2_4, stk_push hst.2.2 (by omega) hql_5 (by obtain rfl := kjo_c (k := 1) g_1 hc6 (by decide); exact kop_1 (c := 1) (by decide) (by decide)), rfl⟩) (Nat.le_of_ble_eq_true rfl) (Nat.le_of_ble_eq_true rfl) dX12_qJoins_273
  by_cases g_7 : nI jop = 2
  · refine lv_tableIn (off := 70) (tgt := 106) hx hb dX12_qJoins_36 (by rw [g_7]; decide) (by rw [g_7]; decide) (by rw [g_7]; rfl) (by decide) ?_
    refine lv_aload_n hx hb dX12_qJoins_106 rfl (lv_at hl 2 rfl) ?_
    refine lv_lload hx hb dX12_qJoins_107 (lv_at hl 0 rfl) ?_
    refine lv_lload_n hx hb dX12_qJoins_109 rfl (lv_at hl 1 rfl) ?_
    refine lv_lsub hx hb dX12_qJoins_110 ?_
    refine sk_Sl (n := 1) (rest := [.ref mm]) (wr := [ro_ mm 12 (mo g (nI ta) (nI pa) (nI pe) pd (nI pb) pp pf pg pn rt rn (nI cd) sn (nI il) tk am at_ aa mt_ 0 (-1) wt wy (nI it_) (nI rm) (nI ud) (nI nu) sd (nI qn) (nI qw) qo (nI qb) (nI (qp - 2)) qa (nI qi) (nI oc)), ra_J (g 86) cJ 1700 ql]) ⟨hx, hb, hml, hown, hts⟩ hl.1 (c_nm_qClip l D cI cJ cC cZ cS (a1 - b1)) w_7_160 w_7_161 w_1_14 w_7_162 hd_X12_qClip_1 ⟨⟨(Nat.le_of_ble_eq_true rfl), (Nat.le_of_ble_eq_true rfl)⟩, (Nat.le_of_ble_eq_true rfl), (Nat.le_of_ble_eq_true rfl)⟩ hK hP hD hS hA [] [0, 1] rfl rfl (by decide +kernel) (by decide +kernel) (by decide +kernel) rfl rfl (Nat.le_of_ble_eq_true rfl) dX12_qJoins_111 (fun r_8 u H locs hw hP hD hS => ?_)
    obtain ⟨hr_9, rfl⟩ := hw
    refine o_re (ws' := [ro_ mm 12 (mo g (nI ta) (nI pa) (nI pe) pd (nI pb) pp pf pg pn rt rn (nI cd) sn (nI il) tk am at_ aa mt_ 0 (-1) wt wy (nI it_) (nI rm) (nI ud) (nI nu) sd (nI qn) (nI qw) qo (nI qb) (nI (qp - 2)) qa (nI qi) (nI oc)), ra_J (g 86) cJ 1700 ql]) hP hD rfl (fun hP hD => ?_)
    subst hr_9
    refine sk_Vv (q0 := 0) (n := 1) (rest := []) (wr := fmR om_2_3 _) ⟨hx, hb, hml, hown, hts⟩ hl.1 (c_nm_qPuts l D cI cJ cC cZ cS mm g ta pa pe pd pb pp pf pg pn rt rn cd sn il tk am at_ aa mt_ wt wy it_ rm ud nu sd qn qw qo qb (qp - 2) qa qi oc (kcClip (a1 - b1)) ql (by omega)) w_7_139 w_7_141 w_0_76 w_1_14 w_7_142 hd_X12_qPuts_1 ⟨⟨(Nat.le_of_ble_eq_true rfl), (Nat.le_of_ble_eq_true rfl)⟩, (Nat.le_of_ble_eq_true rfl), (Nat.le_of_ble_eq_true rfl)⟩ hK hP hD hS hA (fmT om_2_3 0) (fmF om_2_3 0) (fm_C1 rfl rfl) (fm_R rfl rfl) (fm_nT om_2_3 0) (fm_nF om_2_3 0) (fm_di om_2_3 0) rfl rfl rfl rfl (Nat.le_of_ble_eq_true rfl) dX12_qJoins_114 (fun u H locs hw hP hD hS => ?_)
    refine exE hw (fun ql2_10 hw1 => anE hw1 (fun hql_11 eu_12 => ?_))
    clear hw hw1
    refine o_mgE (ws' := [ro_ mm 12 (mo g (nI ta) (nI pa) (nI pe) pd (nI pb) pp pf pg pn rt rn (nI cd) sn (nI il) tk am at_ aa mt_ 0 (-1) wt wy (nI it_) (nI rm) (nI ud) (nI nu) sd (nI qn) (nI qw) qo (nI qb) (nI ((qp - 2) + 1)) qa (nI qi) (nI oc)), ra_J (g 86) cJ 1700 ql2_10]) eu_12 hP hD rfl (fun hP hD => ?_)
    refine lv_goto (tgt := 273) hx hb dX12_qJoins_117 (by decide) ?_
    exact sk_vret hx hb hr hlocks hK hP hD hS (⟨ql2_10, stk_push hst.2.2 (by omega) hql_11 (by obtain rfl := kjo_c (k := 2) g_7 hc6 (by decide); exact kop_2 (c := 2) (by decide) (by decide)), rfl⟩) (Nat.le_of_ble_eq_true rfl) (Nat.le_of_ble_eq_true rfl) dX12_qJoins_273
  by_cases g_13 : nI jop = 3
  · refine lv_tableIn (off := 84) (tgt := 120) hx hb dX12_qJoins_36 (by rw [g_13]; decide) (by rw [g_13]; decide) (by rw [g_13]; rfl) (by decide) ?_
    refine lv_aload_n hx hb dX12_qJoins_120 rfl (lv_at hl 2 rfl) ?_
    refine lv_lload hx hb dX12_qJoins_121 (lv_at hl 0 rfl) ?_
    refine lv_lload_n hx hb dX12_qJoins_123 rfl (lv_at hl 1 rfl) ?_
    refine lv_lmul hx hb dX12_qJoins_124 ?_
    refine sk_Sl (n := 1) (rest := [.ref mm]) (wr := [ro_ mm 12 (mo g (nI ta) (nI pa) (nI pe) pd (nI pb) pp pf pg pn rt rn (nI cd) sn (nI il) tk am at_ aa mt_ 0 (-1) wt wy (nI it_) (nI rm) (nI ud) (nI nu) sd (nI qn) (nI qw) qo (nI qb) (nI (qp - 2)) qa (nI qi) (nI oc)), ra_J (g 86) cJ 1700 ql]) ⟨hx, hb, hml, hown, hts⟩ hl.1 (c_nm_qClip l D cI cJ cC cZ cS (a1 * b1)) w_7_160 w_7_161 w_1_14 w_7_162 hd_X12_qClip_1 ⟨⟨(Nat.le_of_ble_eq_true rfl), (Nat.le_of_ble_eq_true rfl)⟩, (Nat.le_of_ble_eq_true rfl), (Nat.le_of_ble_eq_true rfl)⟩ hK hP hD hS hA [] [0, 1] rfl rfl (by decide +kernel) (by decide +kernel) (by decide +kernel) rfl rfl (Nat.le_of_ble_eq_true rfl) dX12_qJoins_125 (fun r_14 u H locs hw hP hD hS => ?_)
    obtain ⟨hr_15, rfl⟩ := hw
    refine o_re (ws' := [ro_ mm 12 (mo g (nI ta) (nI pa) (nI pe) pd (nI pb) pp pf pg pn rt rn (nI cd) sn (nI il) tk am at_ aa mt_ 0 (-1) wt wy (nI it_) (nI rm) (nI ud) (nI nu) sd (nI qn) (nI qw) qo (nI qb) (nI (qp - 2)) qa (nI qi) (nI oc)), ra_J (g 86) cJ 1700 ql]) hP hD rfl (fun hP hD => ?_)
    subst hr_15
    refine sk_Vv (q0 := 0) (n := 1) (rest := []) (wr := fmR om_2_3 _) ⟨hx, hb, hml, hown, hts⟩ hl.1 (c_nm_qPuts l D cI cJ cC cZ cS mm g ta pa pe pd pb pp pf pg pn rt rn cd sn il tk am at_ aa mt_ wt wy it_ rm ud nu sd qn qw qo qb (qp - 2) qa qi oc (kcClip (a1 * b1)) ql (by omega)) w_7_139 w_7_141 w_0_76 w_1_14 w_7_142 hd_X12_qPuts_1 ⟨⟨(Nat.le_of_ble_eq_true rfl), (Nat.le_of_ble_eq_true rfl)⟩, (Nat.le_of_ble_eq_true rfl), (Nat.le_of_ble_eq_true rfl)⟩ hK hP hD hS hA (fmT om_2_3 0) (fmF om_2_3 0) (fm_C1 rfl rfl) (fm_R rfl rfl) (fm_nT om_2_3 0) (fm_nF om_2_3 0) (fm_di om_2_3 0) rfl rfl rfl rfl (Nat.le_of_ble_eq_true rfl) dX12_qJoins_128 (fun u H locs hw hP hD hS => ?_)
    refine exE hw (fun ql2_16 hw1 => anE hw1 (fun hql_17 eu_18 => ?_))
    clear hw hw1
    refine o_mgE (ws' := [ro_ mm 12 (mo g (nI ta) (nI pa) (nI pe) pd (nI pb) pp pf pg pn rt rn (nI cd) sn (nI il) tk am at_ aa mt_ 0 (-1) wt wy (nI it_) (nI rm) (nI ud) (nI nu) sd (nI qn) (nI qw) qo (nI qb) (nI ((qp - 2) + 1)) qa (nI qi) (nI oc)), ra_J (g 86) cJ 1700 ql2_16]) eu_18 hP hD rfl (fun hP hD => ?_)
    refine lv_goto (tgt := 273) hx hb dX12_qJoins_131 (by decide) ?_
    exact sk_vret hx hb hr hlocks hK hP hD hS (⟨ql2_16, stk_push hst.2.2 (by omega) hql_17 (by obtain rfl := kjo_c (k := 3) g_13 hc6 (by decide); exact kop_3 (c := 3) (by decide) (by decide)), rfl⟩) (Nat.le_of_ble_eq_true rfl) (Nat.le_of_ble_eq_true rfl) dX12_qJoins_273
  by_cases g_19 : nI jop = 4
  · refine lv_tableIn (off := 98) (tgt := 134) hx hb dX12_qJoins_36 (by rw [g_19]; decide) (by rw [g_19]; decide) (by rw [g_19]; rfl) (by decide) ?_
    refine lv_aload_n hx hb dX12_qJoins_134 rfl (lv_at hl 2 rfl) ?_
    refine lv_lload hx hb dX12_qJoins_135 (lv_at hl 0 rfl) ?_
    refine lv_lload_n hx hb dX12_qJoins_137 rfl (lv_at hl 1 rfl) ?_
    refine sk_Sl (n := 2) (rest := [.ref mm]) (wr := [ro_ mm 12 (mo g (nI ta) (nI pa) (nI pe) pd (nI pb) pp pf pg pn rt rn (nI cd) sn (nI il) tk am at_ aa mt_ 0 (-1) wt wy (nI it_) (nI rm) (nI ud) (nI nu) sd (nI qn) (nI qw) qo (nI qb) (nI (qp - 2)) qa (nI qi) (nI oc)), ra_J (g 86) cJ 1700 ql]) ⟨hx, hb, hml, hown, hts⟩ hl.1 (c_nm_qFloor l D cI cJ cC cZ cS a1 b1) w_7_165 w_7_166 w_1_14 w_7_167 hd_X12_qFloor_2 ⟨⟨(Nat.le_of_ble_eq_true rfl), (Nat.le_of_ble_eq_true rfl)⟩, (Nat.le_of_ble_eq_true rfl), (Nat.le_of_ble_eq_true rfl)⟩ hK hP hD hS hA [] [0, 1] rfl rfl (by decide +kernel) (by decide +kernel) (by decide +kernel) rfl rfl (Nat.le_of_ble_eq_true rfl) dX12_qJoins_138 (fun r_20 u H locs hw hP hD hS => ?_)
    obtain ⟨hr_21, rfl⟩ := hw
    refine o_re (ws' := [ro_ mm 12 (mo g (nI ta) (nI pa) (nI pe) pd (nI pb) pp pf pg pn rt rn (nI cd) sn (nI il) tk am at_ aa mt_ 0 (-1) wt wy (nI it_) (nI rm) (nI ud) (nI nu) sd (nI qn) (nI qw) qo (nI qb) (nI (qp - 2)) qa (nI qi) (nI oc)), ra_J (g 86) cJ 1700 ql]) hP hD rfl (fun hP hD => ?_)
    subst hr_21
    refine sk_Vv (q0 := 0) (n := 1) (rest := []) (wr := fmR om_2_3 _) ⟨hx, hb, hml, hown, hts⟩ hl.1 (c_nm_qPuts l D cI cJ cC cZ cS mm g ta pa pe pd pb pp pf pg pn rt rn cd sn il tk am at_ aa mt_ wt wy it_ rm ud nu sd qn qw qo qb (qp - 2) qa qi oc (kcFl a1 b1) ql (by omega)) w_7_139 w_7_141 w_0_76 w_1_14 w_7_142 hd_X12_qPuts_1 ⟨⟨(Nat.le_of_ble_eq_true rfl), (Nat.le_of_ble_eq_true rfl)⟩, (Nat.le_of_ble_eq_true rfl), (Nat.le_of_ble_eq_true rfl)⟩ hK hP hD hS hA (fmT om_2_3 0) (fmF om_2_3 0) (fm_C1 rfl rfl) (fm_R rfl rfl) (fm_nT om_2_3 0) (fm_nF om_2_3 0) (fm_di om_2_3 0) rfl rfl rfl rfl (Nat.le_of_ble_eq_true rfl) dX12_qJoins_141 (fun u H locs hw hP hD hS => ?_)
    refine exE hw (fun ql2_22 hw1 => anE hw1 (fun hql_23 eu_24 => ?_))
    clear hw hw1
    refine o_mgE (ws' := [ro_ mm 12 (mo g (nI ta) (nI pa) (nI pe) pd (nI pb) pp pf pg pn rt rn (nI cd) sn (nI il) tk am at_ aa mt_ 0 (-1) wt wy (nI it_) (nI rm) (nI ud) (nI nu) sd (nI qn) (nI qw) qo (nI qb) (nI ((qp - 2) + 1)) qa (nI qi) (nI oc)), ra_J (g 86) cJ 1700 ql2_22]) eu_24 hP hD rfl (fun hP hD => ?_)
    refine lv_goto (tgt := 273) hx hb dX12_qJoins_144 (by decide) ?_
    exact sk_vret hx hb hr hlocks hK hP hD hS (⟨ql2_22, stk_push hst.2.2 (by omega) hql_23 (by obtain rfl := kjo_c (k := 4) g_19 hc6 (by decide); exact kop_4 (c := 4) (by decide) (by decide) rfl), rfl⟩) (Nat.le_of_ble_eq_true rfl) (Nat.le_of_ble_eq_true rfl) dX12_qJoins_273
  by_cases g_25 : nI jop = 5
  · refine lv_tableIn (off := 111) (tgt := 147) hx hb dX12_qJoins_36 (by rw [g_25]; decide) (by rw [g_25]; decide) (by rw [g_25]; rfl) (by decide) ?_
    refine lv_aload_n hx hb dX12_qJoins_147 rfl (lv_at hl 2 rfl) ?_
    refine lv_lload hx hb dX12_qJoins_148 (lv_at hl 0 rfl) ?_
    refine lv_lload_n hx hb dX12_qJoins_150 rfl (lv_at hl 1 rfl) ?_
    refine W.lcmp hx hb dX12_qJoins_151 ?_
    refine lv_if_ge (tgt := 160) hx hb dX12_qJoins_152 (by decide) (fun c_26 => ?_) (fun c_26 => ?_)
    · skip
      refine lv_lload_n hx hb dX12_qJoins_160 rfl (lv_at hl 1 rfl) ?_
      refine sk_Vv (q0 := 0) (n := 1) (rest := []) (wr := fmR om_2_3 _) ⟨hx, hb, hml, hown, hts⟩ hl.1 (c_nm_qPuts l D cI cJ cC cZ cS mm g ta pa pe pd pb pp pf pg pn rt rn cd sn il tk am at_ aa mt_ wt wy it_ rm ud nu sd qn qw qo qb (qp - 2) qa qi oc b1 ql (by omega)) w_7_139 w_7_141 w_0_76 w_1_14 w_7_142 hd_X12_qPuts_1 ⟨⟨(Nat.le_of_ble_eq_true rfl), (Nat.le_of_ble_eq_true rfl)⟩, (Nat.le_of_ble_eq_true rfl), (Nat.le_of_ble_eq_true rfl)⟩ hK hP hD hS hA (fmT om_2_3 0) (fmF om_2_3 0) (fm_C1 rfl rfl) (fm_R rfl rfl) (fm_nT om_2_3 0) (fm_nF om_2_3 0) (fm_di om_2_3 0) rfl rfl rfl rfl (Nat.le_of_ble_eq_true rfl) dX12_qJoins_161 (fun u H locs hw hP hD hS => ?_)
      refine exE hw (fun ql2_27 hw1 => anE hw1 (fun hql_28 eu_29 => ?_))
      clear hw hw1
      refine o_mgE (ws' := [ro_ mm 12 (mo g (nI ta) (nI pa) (nI pe) pd (nI pb) pp pf pg pn rt rn (nI cd) sn (nI il) tk am at_ aa mt_ 0 (-1) wt wy (nI it_) (nI rm) (nI ud) (nI nu) sd (nI qn) (nI qw) qo (nI qb) (nI ((qp - 2) + 1)) qa (nI qi) (nI oc)), ra_J (g 86) cJ 1700 ql2_27]) eu_29 hP hD rfl (fun hP hD => ?_)
      refine lv_goto (tgt := 273) hx hb dX12_qJoins_164 (by decide) ?_
      exact sk_vret hx hb hr hlocks hK hP hD hS (⟨ql2_27, stk_push hst.2.2 (by omega) hql_28 (by obtain rfl := kjo_c (k := 5) g_25 hc6 (by decide); exact kjo_min c_26), rfl⟩) (Nat.le_of_ble_eq_true rfl) (Nat.le_of_ble_eq_true rfl) dX12_qJoins_273
    · skip
      refine lv_lload hx hb dX12_qJoins_155 (lv_at hl 0 rfl) ?_
      refine lv_goto (tgt := 161) hx hb dX12_qJoins_157 (by decide) ?_
      refine sk_Vv (q0 := 0) (n := 1) (rest := []) (wr := fmR om_2_3 _) ⟨hx, hb, hml, hown, hts⟩ hl.1 (c_nm_qPuts l D cI cJ cC cZ cS mm g ta pa pe pd pb pp pf pg pn rt rn cd sn il tk am at_ aa mt_ wt wy it_ rm ud nu sd qn qw qo qb (qp - 2) qa qi oc a1 ql (by omega)) w_7_139 w_7_141 w_0_76 w_1_14 w_7_142 hd_X12_qPuts_1 ⟨⟨(Nat.le_of_ble_eq_true rfl), (Nat.le_of_ble_eq_true rfl)⟩, (Nat.le_of_ble_eq_true rfl), (Nat.le_of_ble_eq_true rfl)⟩ hK hP hD hS hA (fmT om_2_3 0) (fmF om_2_3 0) (fm_C1 rfl rfl) (fm_R rfl rfl) (fm_nT om_2_3 0) (fm_nF om_2_3 0) (fm_di om_2_3 0) rfl rfl rfl rfl (Nat.le_of_ble_eq_true rfl) dX12_qJoins_161 (fun u H locs hw hP hD hS => ?_)
      refine exE hw (fun ql2_30 hw1 => anE hw1 (fun hql_31 eu_32 => ?_))
      clear hw hw1
      refine o_mgE (ws' := [ro_ mm 12 (mo g (nI ta) (nI pa) (nI pe) pd (nI pb) pp pf pg pn rt rn (nI cd) sn (nI il) tk am at_ aa mt_ 0 (-1) wt wy (nI it_) (nI rm) (nI ud) (nI nu) sd (nI qn) (nI qw) qo (nI qb) (nI ((qp - 2) + 1)) qa (nI qi) (nI oc)), ra_J (g 86) cJ 1700 ql2_30]) eu_32 hP hD rfl (fun hP hD => ?_)
      refine lv_goto (tgt := 273) hx hb dX12_qJoins_164 (by decide) ?_
      exact sk_vret hx hb hr hlocks hK hP hD hS (⟨ql2_30, stk_push hst.2.2 (by omega) hql_31 (by obtain rfl := kjo_c (k := 5) g_25 hc6 (by decide); exact kjo_min2 c_26), rfl⟩) (Nat.le_of_ble_eq_true rfl) (Nat.le_of_ble_eq_true rfl) dX12_qJoins_273
  by_cases g_33 : nI jop = 6
  · refine lv_tableIn (off := 131) (tgt := 167) hx hb dX12_qJoins_36 (by rw [g_33]; decide) (by rw [g_33]; decide) (by rw [g_33]; rfl) (by decide) ?_
    refine lv_aload_n hx hb dX12_qJoins_167 rfl (lv_at hl 2 rfl) ?_
    refine lv_lload hx hb dX12_qJoins_168 (lv_at hl 0 rfl) ?_
    refine lv_lload_n hx hb dX12_qJoins_170 rfl (lv_at hl 1 rfl) ?_
    refine W.lcmp hx hb dX12_qJoins_171 ?_
    refine lv_if_le (tgt := 180) hx hb dX12_qJoins_172 (by decide) (fun c_34 => ?_) (fun c_34 => ?_)
    · skip
      refine lv_lload_n hx hb dX12_qJoins_180 rfl (lv_at hl 1 rfl) ?_
      refine sk_Vv (q0 := 0) (n := 1) (rest := []) (wr := fmR om_2_3 _) ⟨hx, hb, hml, hown, hts⟩ hl.1 (c_nm_qPuts l D cI cJ cC cZ cS mm g ta pa pe pd pb pp pf pg pn rt rn cd sn il tk am at_ aa mt_ wt wy it_ rm ud nu sd qn qw qo qb (qp - 2) qa qi oc b1 ql (by omega)) w_7_139 w_7_141 w_0_76 w_1_14 w_7_142 hd_X12_qPuts_1 ⟨⟨(Nat.le_of_ble_eq_true rfl), (Nat.le_of_ble_eq_true rfl)⟩, (Nat.le_of_ble_eq_true rfl), (Nat.le_of_ble_eq_true rfl)⟩ hK hP hD hS hA (fmT om_2_3 0) (fmF om_2_3 0) (fm_C1 rfl rfl) (fm_R rfl rfl) (fm_nT om_2_3 0) (fm_nF om_2_3 0) (fm_di om_2_3 0) rfl rfl rfl rfl (Nat.le_of_ble_eq_true rfl) dX12_qJoins_181 (fun u H locs hw hP hD hS => ?_)
      refine exE hw (fun ql2_35 hw1 => anE hw1 (fun hql_36 eu_37 => ?_))
      clear hw hw1
      refine o_mgE (ws' := [ro_ mm 12 (mo g (nI ta) (nI pa) (nI pe) pd (nI pb) pp pf pg pn rt rn (nI cd) sn (nI il) tk am at_ aa mt_ 0 (-1) wt wy (nI it_) (nI rm) (nI ud) (nI nu) sd (nI qn) (nI qw) qo (nI qb) (nI ((qp - 2) + 1)) qa (nI qi) (nI oc)), ra_J (g 86) cJ 1700 ql2_35]) eu_37 hP hD rfl (fun hP hD => ?_)
      refine lv_goto (tgt := 273) hx hb dX12_qJoins_184 (by decide) ?_
      exact sk_vret hx hb hr hlocks hK hP hD hS (⟨ql2_35, stk_push hst.2.2 (by omega) hql_36 (by obtain rfl := kjo_c (k := 6) g_33 hc6 (by decide); exact kjo_max c_34), rfl⟩) (Nat.le_of_ble_eq_true rfl) (Nat.le_of_ble_eq_true rfl) dX12_qJoins_273
    · skip
      refine lv_lload hx hb dX12_qJoins_175 (lv_at hl 0 rfl) ?_
      refine lv_goto (tgt := 181) hx hb dX12_qJoins_177 (by decide) ?_
      refine sk_Vv (q0 := 0) (n := 1) (rest := []) (wr := fmR om_2_3 _) ⟨hx, hb, hml, hown, hts⟩ hl.1 (c_nm_qPuts l D cI cJ cC cZ cS mm g ta pa pe pd pb pp pf pg pn rt rn cd sn il tk am at_ aa mt_ wt wy it_ rm ud nu sd qn qw qo qb (qp - 2) qa qi oc a1 ql (by omega)) w_7_139 w_7_141 w_0_76 w_1_14 w_7_142 hd_X12_qPuts_1 ⟨⟨(Nat.le_of_ble_eq_true rfl), (Nat.le_of_ble_eq_true rfl)⟩, (Nat.le_of_ble_eq_true rfl), (Nat.le_of_ble_eq_true rfl)⟩ hK hP hD hS hA (fmT om_2_3 0) (fmF om_2_3 0) (fm_C1 rfl rfl) (fm_R rfl rfl) (fm_nT om_2_3 0) (fm_nF om_2_3 0) (fm_di om_2_3 0) rfl rfl rfl rfl (Nat.le_of_ble_eq_true rfl) dX12_qJoins_181 (fun u H locs hw hP hD hS => ?_)
      refine exE hw (fun ql2_38 hw1 => anE hw1 (fun hql_39 eu_40 => ?_))
      clear hw hw1
      refine o_mgE (ws' := [ro_ mm 12 (mo g (nI ta) (nI pa) (nI pe) pd (nI pb) pp pf pg pn rt rn (nI cd) sn (nI il) tk am at_ aa mt_ 0 (-1) wt wy (nI it_) (nI rm) (nI ud) (nI nu) sd (nI qn) (nI qw) qo (nI qb) (nI ((qp - 2) + 1)) qa (nI qi) (nI oc)), ra_J (g 86) cJ 1700 ql2_38]) eu_40 hP hD rfl (fun hP hD => ?_)
      refine lv_goto (tgt := 273) hx hb dX12_qJoins_184 (by decide) ?_
      exact sk_vret hx hb hr hlocks hK hP hD hS (⟨ql2_38, stk_push hst.2.2 (by omega) hql_39 (by obtain rfl := kjo_c (k := 6) g_33 hc6 (by decide); exact kjo_max2 c_34), rfl⟩) (Nat.le_of_ble_eq_true rfl) (Nat.le_of_ble_eq_true rfl) dX12_qJoins_273
  by_cases g_41 : nI jop = 7
  · refine lv_tableIn (off := 151) (tgt := 187) hx hb dX12_qJoins_36 (by rw [g_41]; decide) (by rw [g_41]; decide) (by rw [g_41]; rfl) (by decide) ?_
    refine lv_aload_n hx hb dX12_qJoins_187 rfl (lv_at hl 2 rfl) ?_
    refine lv_lload hx hb dX12_qJoins_188 (lv_at hl 0 rfl) ?_
    refine lv_lload_n hx hb dX12_qJoins_190 rfl (lv_at hl 1 rfl) ?_
    refine W.lcmp hx hb dX12_qJoins_191 ?_
    refine lv_if_ge (tgt := 199) hx hb dX12_qJoins_192 (by decide) (fun c_42 => ?_) (fun c_42 => ?_)
    · skip
      refine lv_lconst (v := 0) hx hb dX12_qJoins_199 (by decide) ?_
      refine sk_Vv (q0 := 0) (n := 1) (rest := []) (wr := fmR om_2_3 _) ⟨hx, hb, hml, hown, hts⟩ hl.1 (c_nm_qPuts l D cI cJ cC cZ cS mm g ta pa pe pd pb pp pf pg pn rt rn cd sn il tk am at_ aa mt_ wt wy it_ rm ud nu sd qn qw qo qb (qp - 2) qa qi oc 0 ql (by omega)) w_7_139 w_7_141 w_0_76 w_1_14 w_7_142 hd_X12_qPuts_1 ⟨⟨(Nat.le_of_ble_eq_true rfl), (Nat.le_of_ble_eq_true rfl)⟩, (Nat.le_of_ble_eq_true rfl), (Nat.le_of_ble_eq_true rfl)⟩ hK hP hD hS hA (fmT om_2_3 0) (fmF om_2_3 0) (fm_C1 rfl rfl) (fm_R rfl rfl) (fm_nT om_2_3 0) (fm_nF om_2_3 0) (fm_di om_2_3 0) rfl rfl rfl rfl (Nat.le_of_ble_eq_true rfl) dX12_qJoins_200 (fun u H locs hw hP hD hS => ?_)
      refine exE hw (fun ql2_43 hw1 => anE hw1 (fun hql_44 eu_45 => ?_))
      clear hw hw1
      refine o_mgE (ws' := [ro_ mm 12 (mo g (nI ta) (nI pa) (nI pe) pd (nI pb) pp pf pg pn rt rn (nI cd) sn (nI il) tk am at_ aa mt_ 0 (-1) wt wy (nI it_) (nI rm) (nI ud) (nI nu) sd (nI qn) (nI qw) qo (nI qb) (nI ((qp - 2) + 1)) qa (nI qi) (nI oc)), ra_J (g 86) cJ 1700 ql2_43]) eu_45 hP hD rfl (fun hP hD => ?_)
      refine lv_goto (tgt := 273) hx hb dX12_qJoins_203 (by decide) ?_
      exact sk_vret hx hb hr hlocks hK hP hD hS (⟨ql2_43, (show _ from absurd (kjo_c (k := 7) g_41 hc6 (by decide)) (by omega)), rfl⟩) (Nat.le_of_ble_eq_true rfl) (Nat.le_of_ble_eq_true rfl) dX12_qJoins_273
    · skip
      refine lv_lconst (v := 1) hx hb dX12_qJoins_195 (by decide) ?_
      refine lv_goto (tgt := 200) hx hb dX12_qJoins_196 (by decide) ?_
      refine sk_Vv (q0 := 0) (n := 1) (rest := []) (wr := fmR om_2_3 _) ⟨hx, hb, hml, hown, hts⟩ hl.1 (c_nm_qPuts l D cI cJ cC cZ cS mm g ta pa pe pd pb pp pf pg pn rt rn cd sn il tk am at_ aa mt_ wt wy it_ rm ud nu sd qn qw qo qb (qp - 2) qa qi oc 1 ql (by omega)) w_7_139 w_7_141 w_0_76 w_1_14 w_7_142 hd_X12_qPuts_1 ⟨⟨(Nat.le_of_ble_eq_true rfl), (Nat.le_of_ble_eq_true rfl)⟩, (Nat.le_of_ble_eq_true rfl), (Nat.le_of_ble_eq_true rfl)⟩ hK hP hD hS hA (fmT om_2_3 0) (fmF om_2_3 0) (fm_C1 rfl rfl) (fm_R rfl rfl) (fm_nT om_2_3 0) (fm_nF om_2_3 0) (fm_di om_2_3 0) rfl rfl rfl rfl (Nat.le_of_ble_eq_true rfl) dX12_qJoins_200 (fun u H locs hw hP hD hS => ?_)
      refine exE hw (fun ql2_46 hw1 => anE hw1 (fun hql_47 eu_48 => ?_))
      clear hw hw1
      refine o_mgE (ws' := [ro_ mm 12 (mo g (nI ta) (nI pa) (nI pe) pd (nI pb) pp pf pg pn rt rn (nI cd) sn (nI il) tk am at_ aa mt_ 0 (-1) wt wy (nI it_) (nI rm) (nI ud) (nI nu) sd (nI qn) (nI qw) qo (nI qb) (nI ((qp - 2) + 1)) qa (nI qi) (nI oc)), ra_J (g 86) cJ 1700 ql2_46]) eu_48 hP hD rfl (fun hP hD => ?_)
      refine lv_goto (tgt := 273) hx hb dX12_qJoins_203 (by decide) ?_
      exact sk_vret hx hb hr hlocks hK hP hD hS (⟨ql2_46, (show _ from absurd (kjo_c (k := 7) g_41 hc6 (by decide)) (by omega)), rfl⟩) (Nat.le_of_ble_eq_true rfl) (Nat.le_of_ble_eq_true rfl) dX12_qJoins_273
  by_cases g_49 : nI jop = 8
  · refine lv_tableIn (off := 170) (tgt := 206) hx hb dX12_qJoins_36 (by rw [g_49]; decide) (by rw [g_49]; decide) (by rw [g_49]; rfl) (by decide) ?_
    refine lv_aload_n hx hb dX12_qJoins_206 rfl (lv_at hl 2 rfl) ?_
    refine lv_lload hx hb dX12_qJoins_207 (lv_at hl 0 rfl) ?_
    refine lv_lload_n hx hb dX12_qJoins_209 rfl (lv_at hl 1 rfl) ?_
    refine W.lcmp hx hb dX12_qJoins_210 ?_
    refine lv_if_le (tgt := 218) hx hb dX12_qJoins_211 (by decide) (fun c_50 => ?_) (fun c_50 => ?_)
    · skip
      refine lv_lconst (v := 0) hx hb dX12_qJoins_218 (by decide) ?_
      refine sk_Vv (q0 := 0) (n := 1) (rest := []) (wr := fmR om_2_3 _) ⟨hx, hb, hml, hown, hts⟩ hl.1 (c_nm_qPuts l D cI cJ cC cZ cS mm g ta pa pe pd pb pp pf pg pn rt rn cd sn il tk am at_ aa mt_ wt wy it_ rm ud nu sd qn qw qo qb (qp - 2) qa qi oc 0 ql (by omega)) w_7_139 w_7_141 w_0_76 w_1_14 w_7_142 hd_X12_qPuts_1 ⟨⟨(Nat.le_of_ble_eq_true rfl), (Nat.le_of_ble_eq_true rfl)⟩, (Nat.le_of_ble_eq_true rfl), (Nat.le_of_ble_eq_true rfl)⟩ hK hP hD hS hA (fmT om_2_3 0) (fmF om_2_3 0) (fm_C1 rfl rfl) (fm_R rfl rfl) (fm_nT om_2_3 0) (fm_nF om_2_3 0) (fm_di om_2_3 0) rfl rfl rfl rfl (Nat.le_of_ble_eq_true rfl) dX12_qJoins_219 (fun u H locs hw hP hD hS => ?_)
      refine exE hw (fun ql2_51 hw1 => anE hw1 (fun hql_52 eu_53 => ?_))
      clear hw hw1
      refine o_mgE (ws' := [ro_ mm 12 (mo g (nI ta) (nI pa) (nI pe) pd (nI pb) pp pf pg pn rt rn (nI cd) sn (nI il) tk am at_ aa mt_ 0 (-1) wt wy (nI it_) (nI rm) (nI ud) (nI nu) sd (nI qn) (nI qw) qo (nI qb) (nI ((qp - 2) + 1)) qa (nI qi) (nI oc)), ra_J (g 86) cJ 1700 ql2_51]) eu_53 hP hD rfl (fun hP hD => ?_)
      refine lv_goto (tgt := 273) hx hb dX12_qJoins_222 (by decide) ?_
      exact sk_vret hx hb hr hlocks hK hP hD hS (⟨ql2_51, (show _ from absurd (kjo_c (k := 8) g_49 hc6 (by decide)) (by omega)), rfl⟩) (Nat.le_of_ble_eq_true rfl) (Nat.le_of_ble_eq_true rfl) dX12_qJoins_273
    · skip
      refine lv_lconst (v := 1) hx hb dX12_qJoins_214 (by decide) ?_
      refine lv_goto (tgt := 219) hx hb dX12_qJoins_215 (by decide) ?_
      refine sk_Vv (q0 := 0) (n := 1) (rest := []) (wr := fmR om_2_3 _) ⟨hx, hb, hml, hown, hts⟩ hl.1 (c_nm_qPuts l D cI cJ cC cZ cS mm g ta pa pe pd pb pp pf pg pn rt rn cd sn il tk am at_ aa mt_ wt wy it_ rm ud nu sd qn qw qo qb (qp - 2) qa qi oc 1 ql (by omega)) w_7_139 w_7_141 w_0_76 w_1_14 w_7_142 hd_X12_qPuts_1 ⟨⟨(Nat.le_of_ble_eq_true rfl), (Nat.le_of_ble_eq_true rfl)⟩, (Nat.le_of_ble_eq_true rfl), (Nat.le_of_ble_eq_true rfl)⟩ hK hP hD hS hA (fmT om_2_3 0) (fmF om_2_3 0) (fm_C1 rfl rfl) (fm_R rfl rfl) (fm_nT om_2_3 0) (fm_nF om_2_3 0) (fm_di om_2_3 0) rfl rfl rfl rfl (Nat.le_of_ble_eq_true rfl) dX12_qJoins_219 (fun u H locs hw hP hD hS => ?_)
      refine exE hw (fun ql2_54 hw1 => anE hw1 (fun hql_55 eu_56 => ?_))
      clear hw hw1
      refine o_mgE (ws' := [ro_ mm 12 (mo g (nI ta) (nI pa) (nI pe) pd (nI pb) pp pf pg pn rt rn (nI cd) sn (nI il) tk am at_ aa mt_ 0 (-1) wt wy (nI it_) (nI rm) (nI ud) (nI nu) sd (nI qn) (nI qw) qo (nI qb) (nI ((qp - 2) + 1)) qa (nI qi) (nI oc)), ra_J (g 86) cJ 1700 ql2_54]) eu_56 hP hD rfl (fun hP hD => ?_)
      refine lv_goto (tgt := 273) hx hb dX12_qJoins_222 (by decide) ?_
      exact sk_vret hx hb hr hlocks hK hP hD hS (⟨ql2_54, (show _ from absurd (kjo_c (k := 8) g_49 hc6 (by decide)) (by omega)), rfl⟩) (Nat.le_of_ble_eq_true rfl) (Nat.le_of_ble_eq_true rfl) dX12_qJoins_273
  by_cases g_57 : nI jop = 9
  · refine lv_tableIn (off := 189) (tgt := 225) hx hb dX12_qJoins_36 (by rw [g_57]; decide) (by rw [g_57]; decide) (by rw [g_57]; rfl) (by decide) ?_
    refine lv_aload_n hx hb dX12_qJoins_225 rfl (lv_at hl 2 rfl) ?_
    refine lv_lload hx hb dX12_qJoins_226 (lv_at hl 0 rfl) ?_
    refine lv_lload_n hx hb dX12_qJoins_228 rfl (lv_at hl 1 rfl) ?_
    refine W.lcmp hx hb dX12_qJoins_229 ?_
    refine lv_if_ne (tgt := 237) hx hb dX12_qJoins_230 (by decide) (fun c_58 => ?_) (fun c_58 => ?_)
    · skip
      refine lv_lconst (v := 0) hx hb dX12_qJoins_237 (by decide) ?_
      refine sk_Vv (q0 := 0) (n := 1) (rest := []) (wr := fmR om_2_3 _) ⟨hx, hb, hml, hown, hts⟩ hl.1 (c_nm_qPuts l D cI cJ cC cZ cS mm g ta pa pe pd pb pp pf pg pn rt rn cd sn il tk am at_ aa mt_ wt wy it_ rm ud nu sd qn qw qo qb (qp - 2) qa qi oc 0 ql (by omega)) w_7_139 w_7_141 w_0_76 w_1_14 w_7_142 hd_X12_qPuts_1 ⟨⟨(Nat.le_of_ble_eq_true rfl), (Nat.le_of_ble_eq_true rfl)⟩, (Nat.le_of_ble_eq_true rfl), (Nat.le_of_ble_eq_true rfl)⟩ hK hP hD hS hA (fmT om_2_3 0) (fmF om_2_3 0) (fm_C1 rfl rfl) (fm_R rfl rfl) (fm_nT om_2_3 0) (fm_nF om_2_3 0) (fm_di om_2_3 0) rfl rfl rfl rfl (Nat.le_of_ble_eq_true rfl) dX12_qJoins_238 (fun u H locs hw hP hD hS => ?_)
      refine exE hw (fun ql2_59 hw1 => anE hw1 (fun hql_60 eu_61 => ?_))
      clear hw hw1
      refine o_mgE (ws' := [ro_ mm 12 (mo g (nI ta) (nI pa) (nI pe) pd (nI pb) pp pf pg pn rt rn (nI cd) sn (nI il) tk am at_ aa mt_ 0 (-1) wt wy (nI it_) (nI rm) (nI ud) (nI nu) sd (nI qn) (nI qw) qo (nI qb) (nI ((qp - 2) + 1)) qa (nI qi) (nI oc)), ra_J (g 86) cJ 1700 ql2_59]) eu_61 hP hD rfl (fun hP hD => ?_)
      refine lv_goto (tgt := 273) hx hb dX12_qJoins_241 (by decide) ?_
      exact sk_vret hx hb hr hlocks hK hP hD hS (⟨ql2_59, (show _ from absurd (kjo_c (k := 9) g_57 hc6 (by decide)) (by omega)), rfl⟩) (Nat.le_of_ble_eq_true rfl) (Nat.le_of_ble_eq_true rfl) dX12_qJoins_273
    · skip
      refine lv_lconst (v := 1) hx hb dX12_qJoins_233 (by decide) ?_
      refine lv_goto (tgt := 238) hx hb dX12_qJoins_234 (by decide) ?_
      refine sk_Vv (q0 := 0) (n := 1) (rest := []) (wr := fmR om_2_3 _) ⟨hx, hb, hml, hown, hts⟩ hl.1 (c_nm_qPuts l D cI cJ cC cZ cS mm g ta pa pe pd pb pp pf pg pn rt rn cd sn il tk am at_ aa mt_ wt wy it_ rm ud nu sd qn qw qo qb (qp - 2) qa qi oc 1 ql (by omega)) w_7_139 w_7_141 w_0_76 w_1_14 w_7_142 hd_X12_qPuts_1 ⟨⟨(Nat.le_of_ble_eq_true rfl), (Nat.le_of_ble_eq_true rfl)⟩, (Nat.le_of_ble_eq_true rfl), (Nat.le_of_ble_eq_true rfl)⟩ hK hP hD hS hA (fmT om_2_3 0) (fmF om_2_3 0) (fm_C1 rfl rfl) (fm_R rfl rfl) (fm_nT om_2_3 0) (fm_nF om_2_3 0) (fm_di om_2_3 0) rfl rfl rfl rfl (Nat.le_of_ble_eq_true rfl) dX12_qJoins_238 (fun u H locs hw hP hD hS => ?_)
      refine exE hw (fun ql2_62 hw1 => anE hw1 (fun hql_63 eu_64 => ?_))
      clear hw hw1
      refine o_mgE (ws' := [ro_ mm 12 (mo g (nI ta) (nI pa) (nI pe) pd (nI pb) pp pf pg pn rt rn (nI cd) sn (nI il) tk am at_ aa mt_ 0 (-1) wt wy (nI it_) (nI rm) (nI ud) (nI nu) sd (nI qn) (nI qw) qo (nI qb) (nI ((qp - 2) + 1)) qa (nI qi) (nI oc)), ra_J (g 86) cJ 1700 ql2_62]) eu_64 hP hD rfl (fun hP hD => ?_)
      refine lv_goto (tgt := 273) hx hb dX12_qJoins_241 (by decide) ?_
      exact sk_vret hx hb hr hlocks hK hP hD hS (⟨ql2_62, (show _ from absurd (kjo_c (k := 9) g_57 hc6 (by decide)) (by omega)), rfl⟩) (Nat.le_of_ble_eq_true rfl) (Nat.le_of_ble_eq_true rfl) dX12_qJoins_273
  by_cases g_65 : nI jop = 10
  · refine lv_tableIn (off := 208) (tgt := 244) hx hb dX12_qJoins_36 (by rw [g_65]; decide) (by rw [g_65]; decide) (by rw [g_65]; rfl) (by decide) ?_
    refine lv_aload_n hx hb dX12_qJoins_244 rfl (lv_at hl 2 rfl) ?_
    refine lv_lload hx hb dX12_qJoins_245 (lv_at hl 0 rfl) ?_
    refine lv_lload_n hx hb dX12_qJoins_247 rfl (lv_at hl 1 rfl) ?_
    refine lv_lmul hx hb dX12_qJoins_248 ?_
    refine lv_topl (fun v_66 ev_66 => ?_)
    refine sk_Vv (q0 := 0) (n := 1) (rest := []) (wr := fmR om_2_3 _) ⟨hx, hb, hml, hown, hts⟩ hl.1 (c_nm_qPuts l D cI cJ cC cZ cS mm g ta pa pe pd pb pp pf pg pn rt rn cd sn il tk am at_ aa mt_ wt wy it_ rm ud nu sd qn qw qo qb (qp - 2) qa qi oc v_66 ql (by omega)) w_7_139 w_7_141 w_0_76 w_1_14 w_7_142 hd_X12_qPuts_1 ⟨⟨(Nat.le_of_ble_eq_true rfl), (Nat.le_of_ble_eq_true rfl)⟩, (Nat.le_of_ble_eq_true rfl), (Nat.le_of_ble_eq_true rfl)⟩ hK hP hD hS hA (fmT om_2_3 0) (fmF om_2_3 0) (fm_C1 rfl rfl) (fm_R rfl rfl) (fm_nT om_2_3 0) (fm_nF om_2_3 0) (fm_di om_2_3 0) rfl rfl rfl rfl (Nat.le_of_ble_eq_true rfl) dX12_qJoins_249 (fun u H locs hw hP hD hS => ?_)
    refine exE hw (fun ql2_67 hw1 => anE hw1 (fun hql_68 eu_69 => ?_))
    clear hw hw1
    refine o_mgE (ws' := [ro_ mm 12 (mo g (nI ta) (nI pa) (nI pe) pd (nI pb) pp pf pg pn rt rn (nI cd) sn (nI il) tk am at_ aa mt_ 0 (-1) wt wy (nI it_) (nI rm) (nI ud) (nI nu) sd (nI qn) (nI qw) qo (nI qb) (nI ((qp - 2) + 1)) qa (nI qi) (nI oc)), ra_J (g 86) cJ 1700 ql2_67]) eu_69 hP hD rfl (fun hP hD => ?_)
    refine lv_goto (tgt := 273) hx hb dX12_qJoins_252 (by decide) ?_
    exact sk_vret hx hb hr hlocks hK hP hD hS (⟨ql2_67, (show _ from absurd (kjo_c (k := 10) g_65 hc6 (by decide)) (by omega)), rfl⟩) (Nat.le_of_ble_eq_true rfl) (Nat.le_of_ble_eq_true rfl) dX12_qJoins_273
  refine lv_tableOut (tgt := 255) hx hb dX12_qJoins_36 (sk_out2 1 10 (by intro k hk1 hk2; rcases (show k = 1 ∨ k = 2 ∨ k = 3 ∨ k = 4 ∨ k = 5 ∨ k = 6 ∨ k = 7 ∨ k = 8 ∨ k = 9 ∨ k = 10 by omega) with rfl | rfl | rfl | rfl | rfl | rfl | rfl | rfl | rfl | rfl <;> assumption)) (by decide) ?_
  refine lv_aload_n hx hb dX12_qJoins_255 rfl (lv_at hl 2 rfl) ?_
  refine lv_lload hx hb dX12_qJoins_256 (lv_at hl 0 rfl) ?_
  refine lv_lload_n hx hb dX12_qJoins_258 rfl (lv_at hl 1 rfl) ?_
  refine lv_ladd hx hb dX12_qJoins_259 ?_
  refine lv_topl (fun v_70 ev_70 => ?_)
  refine lv_lconst (v := 0) hx hb dX12_qJoins_260 (by decide) ?_
  refine W.lcmp hx hb dX12_qJoins_261 ?_
  refine lv_if_le (tgt := 269) hx hb dX12_qJoins_262 (by decide) (fun c_71 => ?_) (fun c_71 => ?_)
  · skip
    refine lv_lconst (v := 0) hx hb dX12_qJoins_269 (by decide) ?_
    refine sk_Vv (q0 := 0) (n := 1) (rest := []) (wr := fmR om_2_3 _) ⟨hx, hb, hml, hown, hts⟩ hl.1 (c_nm_qPuts l D cI cJ cC cZ cS mm g ta pa pe pd pb pp pf pg pn rt rn cd sn il tk am at_ aa mt_ wt wy it_ rm ud nu sd qn qw qo qb (qp - 2) qa qi oc 0 ql (by omega)) w_7_139 w_7_141 w_0_76 w_1_14 w_7_142 hd_X12_qPuts_1 ⟨⟨(Nat.le_of_ble_eq_true rfl), (Nat.le_of_ble_eq_true rfl)⟩, (Nat.le_of_ble_eq_true rfl), (Nat.le_of_ble_eq_true rfl)⟩ hK hP hD hS hA (fmT om_2_3 0) (fmF om_2_3 0) (fm_C1 rfl rfl) (fm_R rfl rfl) (fm_nT om_2_3 0) (fm_nF om_2_3 0) (fm_di om_2_3 0) rfl rfl rfl rfl (Nat.le_of_ble_eq_true rfl) dX12_qJoins_270 (fun u H locs hw hP hD hS => ?_)
    refine exE hw (fun ql2_72 hw1 => anE hw1 (fun hql_73 eu_74 => ?_))
    clear hw hw1
    refine o_mgE (ws' := [ro_ mm 12 (mo g (nI ta) (nI pa) (nI pe) pd (nI pb) pp pf pg pn rt rn (nI cd) sn (nI il) tk am at_ aa mt_ 0 (-1) wt wy (nI it_) (nI rm) (nI ud) (nI nu) sd (nI qn) (nI qw) qo (nI qb) (nI ((qp - 2) + 1)) qa (nI qi) (nI oc)), ra_J (g 86) cJ 1700 ql2_72]) eu_74 hP hD rfl (fun hP hD => ?_)
    exact sk_vret hx hb hr hlocks hK hP hD hS (⟨ql2_72, (kjo_f hc1 hc6 (by assumption) (by assumption) (by assumption) (by assumption) (by assumption) (by assumption)).elim, rfl⟩) (Nat.le_of_ble_eq_true rfl) (Nat.le_of_ble_eq_true rfl) dX12_qJoins_273
  · skip
    refine lv_lconst (v := 1) hx hb dX12_qJoins_265 (by decide) ?_
    refine lv_goto (tgt := 270) hx hb dX12_qJoins_266 (by decide) ?_
    refine sk_Vv (q0 := 0) (n := 1) (rest := []) (wr := fmR om_2_3 _) ⟨hx, hb, hml, hown, hts⟩ hl.1 (c_nm_qPuts l D cI cJ cC cZ cS mm g ta pa pe pd pb pp pf pg pn rt rn cd sn il tk am at_ aa mt_ wt wy it_ rm ud nu sd qn qw qo qb (qp - 2) qa qi oc 1 ql (by omega)) w_7_139 w_7_141 w_0_76 w_1_14 w_7_142 hd_X12_qPuts_1 ⟨⟨(Nat.le_of_ble_eq_true rfl), (Nat.le_of_ble_eq_true rfl)⟩, (Nat.le_of_ble_eq_true rfl), (Nat.le_of_ble_eq_true rfl)⟩ hK hP hD hS hA (fmT om_2_3 0) (fmF om_2_3 0) (fm_C1 rfl rfl) (fm_R rfl rfl) (fm_nT om_2_3 0) (fm_nF om_2_3 0) (fm_di om_2_3 0) rfl rfl rfl rfl (Nat.le_of_ble_eq_true rfl) dX12_qJoins_270 (fun u H locs hw hP hD hS => ?_)
    refine exE hw (fun ql2_75 hw1 => anE hw1 (fun hql_76 eu_77 => ?_))
    clear hw hw1
    refine o_mgE (ws' := [ro_ mm 12 (mo g (nI ta) (nI pa) (nI pe) pd (nI pb) pp pf pg pn rt rn (nI cd) sn (nI il) tk am at_ aa mt_ 0 (-1) wt wy (nI it_) (nI rm) (nI ud) (nI nu) sd (nI qn) (nI qw) qo (nI qb) (nI ((qp - 2) + 1)) qa (nI qi) (nI oc)), ra_J (g 86) cJ 1700 ql2_75]) eu_77 hP hD rfl (fun hP hD => ?_)
    exact sk_vret hx hb hr hlocks hK hP hD hS (⟨ql2_75, (kjo_f hc1 hc6 (by assumption) (by assumption) (by assumption) (by assumption) (by assumption) (by assumption)).elim, rfl⟩) (Nat.le_of_ble_eq_true rfl) (Nat.le_of_ble_eq_true rfl) dX12_qJoins_273
