set_option maxHeartbeats 4000000 in
set_option maxRecDepth 100000 in
theorem m_fin (cI cJ cC cZ cS : ClassId) (mm : Nat) (q_1 : Nat) (q_2 : Nat) (q_3 : Nat) (q_4 : Nat) (q_5 : Nat) (q_6 : Nat) (q_7 : Nat) (q_8 : Nat) (q_9 : Nat) (q_10 : Nat) (q_11 : Nat) (q_12 : Nat) (q_13 : Nat) (q_14 : Nat) (q_15 : Nat) (q_16 : Nat) (q_17 : Nat) (q_18 : Nat) (q_19 : Nat) (q_20 : Nat) (q_21 : Nat) (q_22 : Nat) (q_23 : Nat) (q_24 : Nat) (q_25 : Nat) (q_26 : Nat) (q_27 : Nat) (q_28 : Nat) (q_29 : Nat) (q_30 : Nat) (q_31 : Nat) (q_32 : Nat) (q_33 : Nat) (q_34 : Nat) (q_35 : Nat) (q_36 : Nat) (q_37 : Nat) (q_38 : Nat) (q_39 : Nat) (q_40 : Nat) (q_41 : Nat) (q_42 : Nat) (q_43 : Nat) (q_44 : Nat) (q_45 : Nat) (q_46 : Nat) (q_47 : Nat) (q_48 : Nat) (q_49 : Nat) (q_50 : Nat) (q_51 : Nat) (q_52 : Nat) (q_53 : Nat) (q_54 : Nat) (q_55 : Nat) (q_56 : Nat) : ∃ (g : Nat → Nat), ∃ (fz4 : Nat → Int32), ∃ (fz6 : Nat → Int32), fz4 = l4 (nI 0) (nI 0) (nI 0) (nI 0) ∧ fz6 = l6 0 0 0 0 0 0 ∧ ([(mm, .inr (12, (.ref q_1 :: .int 0 :: .int 0 :: .int 0 :: .int 0 :: .int 0 :: .int 0 :: .int 0 :: .int (-1) :: .ref q_2 :: .int 0 :: .ref q_3 :: .ref q_4 :: .ref q_5 :: .ref q_6 :: .ref q_7 :: .ref q_8 :: .ref q_9 :: .ref q_10 :: .ref q_11 :: .ref q_12 :: .ref q_13 :: .int 0 :: .int 0 :: .ref q_14 :: .ref q_15 :: .ref q_16 :: .int 0 :: .int 0 :: .int 0 :: .int 0 :: .ref q_17 :: .ref q_18 :: .int 0 :: .int 0 :: .int 0 :: .ref q_19 :: .ref q_20 :: .ref q_21 :: .int 0 :: .int 0 :: .int (-1) :: .int 0 :: .ref q_22 :: .ref q_23 :: .long 0 :: .ref q_24 :: .int 0 :: .ref q_25 :: .ref q_26 :: .ref q_27 :: .ref q_28 :: .int 0 :: .ref q_29 :: .ref q_30 :: .int 0 :: .int 0 :: .long 1 :: .ref q_31 :: .ref q_32 :: .ref q_33 :: .ref q_34 :: .ref q_35 :: .ref q_36 :: .ref q_37 :: .ref q_38 :: .ref q_39 :: .ref q_40 :: .ref q_41 :: .ref q_42 :: .ref q_43 :: .ref q_44 :: .ref q_45 :: .ref q_46 :: .ref q_47 :: .ref q_48 :: .ref q_49 :: .ref q_50 :: .ref q_51 :: .ref q_52 :: .ref q_53 :: .int 0 :: .ref q_54 :: .int 0 :: .int 0 :: .int 0 :: .ref q_55 :: .int 0 :: .long 0 :: .int 0 :: .ref q_56 :: .int 0 :: []))), (q_1, .inl (cI, 1600, .inl (fun _ => 0))), (q_2, .inl (cI, 6, .inl (fun _ => 0))), (q_12, .inl (cI, 4, .inl (fun _ => 0))), (q_13, .inl (cI, 27, .inl (fun _ => 0))), (q_14, .inl (cI, 6, .inl (l6 (-1) (-1) (-1) (-1) (-1) (-1)))), (q_15, .inl (cI, 6, .inl (fun _ => 0))), (q_16, .inl (cI, 3200, .inl (fun _ => 0))), (q_17, .inl (cI, 120, .inl (fun _ => 0))), (q_18, .inl (cI, 29, .inl (fun _ => 0))), (q_19, .inl (cZ, 900, .inl (fun _ => 0))), (q_20, .inl (cZ, 900, .inl (fun _ => 0))), (q_21, .inl (cI, 90, .inl (fun _ => 0))), (q_22, .inl (cJ, 90, .inr (.inl (fun _ => 0)))), (q_23, .inl (cJ, 90, .inr (.inl (fun _ => 0)))), (q_24, .inl (cI, 9, .inl (fun _ => 0))), (q_25, .inl (cJ, 90, .inr (.inl (fun _ => 0)))), (q_26, .inl (cJ, 4608, .inr (.inl (fun _ => 0)))), (q_27, .inl (cZ, 512, .inl (fun _ => 0))), (q_28, .inl (cI, 9, .inl (fun _ => 0))), (q_29, .inl (cI, 32, .inl (fun _ => 0))), (q_30, .inl (cI, 2400, .inl (fun _ => 0))), (q_53, .inl (cI, 1700, .inl (fun _ => 0))), (q_54, .inl (cI, 1700, .inl (fun _ => 0))), (q_55, .inl (cJ, 1700, .inr (.inl (fun _ => 0)))), (q_56, .inl (cI, 31, .inl (fun _ => 0))), (q_3, .inl (cC, 4, .inl (cw [108, 111, 99, 107]))), (q_4, .inl (cC, 4, .inl (cw [102, 114, 111, 109]))), (q_5, .inl (cC, 5, .inl (cw [98, 97, 114, 103, 101]))), (q_6, .inl (cC, 3, .inl (cw [119, 101, 116]))), (q_7, .inl (cC, 4, .inl (cw [109, 117, 116, 101]))), (q_8, .inl (cC, 4, .inl (cw [115, 97, 121, 115]))), (q_9, .inl (cC, 4, .inl (cw [100, 111, 101, 115]))), (q_10, .inl (cC, 4, .inl (cw [119, 97, 103, 101]))), (q_11, .inl (cC, 4, .inl (cw [114, 97, 105, 110]))), (q_31, .inl (cC, 5, .inl (cw [102, 105, 114, 115, 116]))), (q_32, .inl (cC, 4, .inl (cw [108, 97, 115, 116]))), (q_33, .inl (cC, 5, .inl (cw [111, 102, 116, 101, 110]))), (q_34, .inl (cC, 5, .inl (cw [116, 111, 116, 97, 108]))), (q_35, .inl (cC, 4, .inl (cw [109, 111, 115, 116]))), (q_36, .inl (cC, 5, .inl (cw [108, 101, 97, 115, 116]))), (q_37, .inl (cC, 3, .inl (cw [110, 111, 116]))), (q_38, .inl (cC, 3, .inl (cw [97, 110, 100]))), (q_39, .inl (cC, 2, .inl (cw [111, 114]))), (q_40, .inl (cC, 3, .inl (cw [97, 108, 108]))), (q_41, .inl (cC, 3, .inl (cw [109, 105, 110]))), (q_42, .inl (cC, 3, .inl (cw [109, 97, 120]))), (q_43, .inl (cC, 4, .inl (cw [109, 111, 111, 100]))), (q_44, .inl (cC, 5, .inl (cw [98, 97, 114, 103, 101]))), (q_45, .inl (cC, 3, .inl (cw [119, 101, 116]))), (q_46, .inl (cC, 3, .inl (cw [100, 97, 121]))), (q_47, .inl (cC, 4, .inl (cw [119, 101, 101, 107]))), (q_48, .inl (cC, 4, .inl (cw [116, 111, 108, 100]))), (q_49, .inl (cC, 5, .inl (cw [97, 108, 111, 110, 101]))), (q_50, .inl (cC, 6, .inl (cw [110, 117, 109, 98, 101, 114]))), (q_51, .inl (cC, 4, .inl (cw [109, 117, 116, 101]))), (q_52, .inl (cC, 5, .inl (cw [119, 101, 101, 107, 115])))] : va_W) = [(mm, .inr (12, mo g 0 0 0 0 0 0 0 (-1) 0 0 0 0 0 0 0 0 0 0 0 0 (-1) 0 0 0 0 0 0 1 0 0 0 0 0 0 0 0)), (g 0, .inl (cI, 1600, .inl (fun _ => 0))), (g 9, .inl (cI, 6, .inl (fun _ => 0))), (g 20, .inl (cI, 4, .inl fz4)), (g 21, .inl (cI, 27, .inl (fun _ => 0))), (g 24, .inl (cI, 6, .inl (l6 (-1) (-1) (-1) (-1) (-1) (-1)))), (g 25, .inl (cI, 6, .inl fz6)), (g 26, .inl (cI, 3200, .inl (fun _ => 0))), (g 31, .inl (cI, 120, .inl (fun _ => 0))), (g 32, .inl (cI, 29, .inl (fun _ => 0))), (g 36, .inl (cZ, 900, .inl (fun _ => 0))), (g 37, .inl (cZ, 900, .inl (fun _ => 0))), (g 38, .inl (cI, 90, .inl (fun _ => 0))), (g 43, .inl (cJ, 90, .inr (.inl (fun _ => 0)))), (g 44, .inl (cJ, 90, .inr (.inl (fun _ => 0)))), (g 46, .inl (cI, 9, .inl (fun _ => 0))), (g 48, .inl (cJ, 90, .inr (.inl (fun _ => 0)))), (g 49, .inl (cJ, 4608, .inr (.inl (fun _ => 0)))), (g 50, .inl (cZ, 512, .inl (fun _ => 0))), (g 51, .inl (cI, 9, .inl (fun _ => 0))), (g 53, .inl (cI, 32, .inl (fun _ => 0))), (g 54, .inl (cI, 2400, .inl (fun _ => 0))), (g 80, .inl (cI, 1700, .inl (fun _ => 0))), (g 82, .inl (cI, 1700, .inl (fun _ => 0))), (g 86, .inl (cJ, 1700, .inr (.inl (fun _ => 0)))), (g 90, .inl (cI, 31, .inl (fun _ => 0))), (g 11, .inl (cC, 4, .inl (cw [108, 111, 99, 107]))), (g 12, .inl (cC, 4, .inl (cw [102, 114, 111, 109]))), (g 13, .inl (cC, 5, .inl (cw [98, 97, 114, 103, 101]))), (g 14, .inl (cC, 3, .inl (cw [119, 101, 116]))), (g 15, .inl (cC, 4, .inl (cw [109, 117, 116, 101]))), (g 16, .inl (cC, 4, .inl (cw [115, 97, 121, 115]))), (g 17, .inl (cC, 4, .inl (cw [100, 111, 101, 115]))), (g 18, .inl (cC, 4, .inl (cw [119, 97, 103, 101]))), (g 19, .inl (cC, 4, .inl (cw [114, 97, 105, 110]))), (g 58, .inl (cC, 5, .inl (cw [102, 105, 114, 115, 116]))), (g 59, .inl (cC, 4, .inl (cw [108, 97, 115, 116]))), (g 60, .inl (cC, 5, .inl (cw [111, 102, 116, 101, 110]))), (g 61, .inl (cC, 5, .inl (cw [116, 111, 116, 97, 108]))), (g 62, .inl (cC, 4, .inl (cw [109, 111, 115, 116]))), (g 63, .inl (cC, 5, .inl (cw [108, 101, 97, 115, 116]))), (g 64, .inl (cC, 3, .inl (cw [110, 111, 116]))), (g 65, .inl (cC, 3, .inl (cw [97, 110, 100]))), (g 66, .inl (cC, 2, .inl (cw [111, 114]))), (g 67, .inl (cC, 3, .inl (cw [97, 108, 108]))), (g 68, .inl (cC, 3, .inl (cw [109, 105, 110]))), (g 69, .inl (cC, 3, .inl (cw [109, 97, 120]))), (g 70, .inl (cC, 4, .inl (cw [109, 111, 111, 100]))), (g 71, .inl (cC, 5, .inl (cw [98, 97, 114, 103, 101]))), (g 72, .inl (cC, 3, .inl (cw [119, 101, 116]))), (g 73, .inl (cC, 3, .inl (cw [100, 97, 121]))), (g 74, .inl (cC, 4, .inl (cw [119, 101, 101, 107]))), (g 75, .inl (cC, 4, .inl (cw [116, 111, 108, 100]))), (g 76, .inl (cC, 5, .inl (cw [97, 108, 111, 110, 101]))), (g 77, .inl (cC, 6, .inl (cw [110, 117, 109, 98, 101, 114]))), (g 78, .inl (cC, 4, .inl (cw [109, 117, 116, 101]))), (g 79, .inl (cC, 5, .inl (cw [119, 101, 101, 107, 115])))] := by
  obtain ⟨g, hg0, hg9, hg11, hg12, hg13, hg14, hg15, hg16, hg17, hg18, hg19, hg20, hg21, hg24, hg25, hg26, hg31, hg32, hg36, hg37, hg38, hg43, hg44, hg46, hg48, hg49, hg50, hg51, hg53, hg54, hg58, hg59, hg60, hg61, hg62, hg63, hg64, hg65, hg66, hg67, hg68, hg69, hg70, hg71, hg72, hg73, hg74, hg75, hg76, hg77, hg78, hg79, hg80, hg82, hg86, hg90⟩ : ∃ g : Nat → Nat, g 0 = q_1 ∧ g 9 = q_2 ∧ g 11 = q_3 ∧ g 12 = q_4 ∧ g 13 = q_5 ∧ g 14 = q_6 ∧ g 15 = q_7 ∧ g 16 = q_8 ∧ g 17 = q_9 ∧ g 18 = q_10 ∧ g 19 = q_11 ∧ g 20 = q_12 ∧ g 21 = q_13 ∧ g 24 = q_14 ∧ g 25 = q_15 ∧ g 26 = q_16 ∧ g 31 = q_17 ∧ g 32 = q_18 ∧ g 36 = q_19 ∧ g 37 = q_20 ∧ g 38 = q_21 ∧ g 43 = q_22 ∧ g 44 = q_23 ∧ g 46 = q_24 ∧ g 48 = q_25 ∧ g 49 = q_26 ∧ g 50 = q_27 ∧ g 51 = q_28 ∧ g 53 = q_29 ∧ g 54 = q_30 ∧ g 58 = q_31 ∧ g 59 = q_32 ∧ g 60 = q_33 ∧ g 61 = q_34 ∧ g 62 = q_35 ∧ g 63 = q_36 ∧ g 64 = q_37 ∧ g 65 = q_38 ∧ g 66 = q_39 ∧ g 67 = q_40 ∧ g 68 = q_41 ∧ g 69 = q_42 ∧ g 70 = q_43 ∧ g 71 = q_44 ∧ g 72 = q_45 ∧ g 73 = q_46 ∧ g 74 = q_47 ∧ g 75 = q_48 ∧ g 76 = q_49 ∧ g 77 = q_50 ∧ g 78 = q_51 ∧ g 79 = q_52 ∧ g 80 = q_53 ∧ g 82 = q_54 ∧ g 86 = q_55 ∧ g 90 = q_56 := ⟨fun k => List.getD (q_1 :: 0 :: 0 :: 0 :: 0 :: 0 :: 0 :: 0 :: 0 :: q_2 :: 0 :: q_3 :: q_4 :: q_5 :: q_6 :: q_7 :: q_8 :: q_9 :: q_10 :: q_11 :: q_12 :: q_13 :: 0 :: 0 :: q_14 :: q_15 :: q_16 :: 0 :: 0 :: 0 :: 0 :: q_17 :: q_18 :: 0 :: 0 :: 0 :: q_19 :: q_20 :: q_21 :: 0 :: 0 :: 0 :: 0 :: q_22 :: q_23 :: 0 :: q_24 :: 0 :: q_25 :: q_26 :: q_27 :: q_28 :: 0 :: q_29 :: q_30 :: 0 :: 0 :: 0 :: q_31 :: q_32 :: q_33 :: q_34 :: q_35 :: q_36 :: q_37 :: q_38 :: q_39 :: q_40 :: q_41 :: q_42 :: q_43 :: q_44 :: q_45 :: q_46 :: q_47 :: q_48 :: q_49 :: q_50 :: q_51 :: q_52 :: q_53 :: 0 :: q_54 :: 0 :: 0 :: 0 :: q_55 :: 0 :: 0 :: 0 :: q_56 :: 0 :: []) k 0, rfl, rfl, rfl, rfl, rfl, rfl, rfl, rfl, rfl, rfl, rfl, rfl, rfl, rfl, rfl, rfl, rfl, rfl, rfl, rfl, rfl, rfl, rfl, rfl, rfl, rfl, rfl, rfl, rfl, rfl, rfl, rfl, rfl, rfl, rfl, rfl, rfl, rfl, rfl, rfl, rfl, rfl, rfl, rfl, rfl, rfl, rfl, rfl, rfl, rfl, rfl, rfl, rfl, rfl, rfl, rfl⟩
  subst hg0
  subst hg9
  subst hg11
  subst hg12
  subst hg13
  subst hg14
  subst hg15
  subst hg16
  subst hg17
  subst hg18
  subst hg19
  subst hg20
  subst hg21
  subst hg24
  subst hg25
  subst hg26
  subst hg31
  subst hg32
  subst hg36
  subst hg37
  subst hg38
  subst hg43
  subst hg44
  subst hg46
  subst hg48
  subst hg49
  subst hg50
  subst hg51
  subst hg53
  subst hg54
  subst hg58
  subst hg59
  subst hg60
  subst hg61
  subst hg62
  subst hg63
  subst hg64
  subst hg65
  subst hg66
  subst hg67
  subst hg68
  subst hg69
  subst hg70
  subst hg71
  subst hg72
  subst hg73
  subst hg74
  subst hg75
  subst hg76
  subst hg77
  subst hg78
  subst hg79
  subst hg80
  subst hg82
  subst hg86
  subst hg90
  exact ⟨g, (fun _ => 0), (fun _ => 0), z4_0, z6_0, rfl⟩

