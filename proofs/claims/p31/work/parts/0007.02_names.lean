abbrev cX12_image : ByteArray := prog_14_method_125_code
def yX12_image : MethodName := ⟨RX12, "image", "()I"⟩
abbrev cX12_octet : ByteArray := prog_14_method_126_code
def yX12_octet : MethodName := ⟨RX12, "octet", "(I)I"⟩
abbrev cX12_isImage : ByteArray := prog_14_method_127_code
def yX12_isImage : MethodName := ⟨RX12, "isImage", "(I)Z"⟩
abbrev cX12_on : ByteArray := prog_14_method_128_code
def yX12_on : MethodName := ⟨RX12, "on", "()Z"⟩
abbrev cX12_status : ByteArray := prog_14_method_129_code
def yX12_status : MethodName := ⟨RX12, "status", "(I)I"⟩
def RJ6 : String := "java/lang/Integer"
abbrev cJ6_numberOfTrailingZeros_0f7a4 : ByteArray := prog_15_method_48_code
def yJ6_numberOfTrailingZeros_0f7a4 : MethodName := ⟨RJ6, "numberOfTrailingZeros", "(I)I"⟩
abbrev cJ6_bitCount_0f7a4 : ByteArray := prog_15_method_49_code
def yJ6_bitCount_0f7a4 : MethodName := ⟨RJ6, "bitCount", "(I)I"⟩
def RJ9 : String := "java/lang/Math"
abbrev cJ9_floorDiv_f86c9 : ByteArray := prog_16_method_49_code
def yJ9_floorDiv_f86c9 : MethodName := ⟨RJ9, "floorDiv", "(JJ)J"⟩
abbrev cJ9_floorMod_1978a : ByteArray := prog_16_method_51_code
def yJ9_floorMod_1978a : MethodName := ⟨RJ9, "floorMod", "(JI)I"⟩
abbrev cJ9_floorMod_f86c9 : ByteArray := prog_16_method_52_code
def yJ9_floorMod_f86c9 : MethodName := ⟨RJ9, "floorMod", "(JJ)J"⟩
def RJ0 : String := "java/lang/String"
abbrev cJ0_length_8abf5 : ByteArray := prog_17_method_54_code
def yJ0_length_8abf5 : MethodName := ⟨RJ0, "length", "()I"⟩
abbrev cJ0_charAt_5068e : ByteArray := prog_17_method_56_code
def yJ0_charAt_5068e : MethodName := ⟨RJ0, "charAt", "(I)C"⟩
abbrev cJ0_coder_7d493 : ByteArray := prog_17_method_152_code
def yJ0_coder_7d493 : MethodName := ⟨RJ0, "coder", "()B"⟩
abbrev cJ0_isLatin1_aae02 : ByteArray := prog_17_method_154_code
def yJ0_isLatin1_aae02 : MethodName := ⟨RJ0, "isLatin1", "()Z"⟩
abbrev cJ0_checkIndex_df160 : ByteArray := prog_17_method_155_code
def yJ0_checkIndex_df160 : MethodName := ⟨RJ0, "checkIndex", "(II)V"⟩
def RJ1 : String := "java/lang/StringLatin1"
abbrev cJ1_charAt_3b067 : ByteArray := prog_18_method_2_code
def yJ1_charAt_3b067 : MethodName := ⟨RJ1, "charAt", "([BI)C"⟩
def RJ7 : String := "java/util/Arrays"
abbrev cJ7_fill_d0a16 : ByteArray := prog_21_method_101_code
def yJ7_fill_d0a16 : MethodName := ⟨RJ7, "fill", "([JJ)V"⟩
abbrev cJ7_fill_53178 : ByteArray := prog_21_method_103_code
def yJ7_fill_53178 : MethodName := ⟨RJ7, "fill", "([II)V"⟩
def RJ3 : String := "jdk/internal/util/Preconditions"
abbrev cJ3_checkIndex_8e157 : ByteArray := prog_22_method_11_code
def yJ3_checkIndex_8e157 : MethodName := ⟨RJ3, "checkIndex", "(IILjava/util/function/BiFunction;)I"⟩
def RL : String := "SameKeeperLaw"
abbrev cL_law : ByteArray := code
abbrev vwCl : List vw_C := [(RX0, TX0, 6), (RX1, TX1, 9), (RX2, TX2, 10), (RX3, TX3, 3), (RX4, TX4, 5), (RX5, TX5, 4), (RX6, TX6, 8), (RX7, TX7, 7), (RX8, TX8, 2), (RX9, TX9, 6), (RX10, TX10, 2), (RX11, TX11, 18), (RX12, TX12, 92)]
/-- the words that all contracts stand on: those of the tables that outlast a call -/
def wsL_law : List Cond := lw_tbl.filter goodWord
theorem wsL_law_in : ∀ w ∈ wsL_law, w ∈ lw_tbl := fun _ h => (List.mem_filter.mp h).1
theorem sk_mem {w : Cond} (h : w ∈ lw_tbl) (g : goodWord w = true) : w ∈ wsL_law := List.mem_filter.mpr ⟨h, g⟩
theorem ck_0 : ∀ w ∈ k2_sels lw_privs, w ∈ lw_tbl := fun _ h => List.mem_append_left _ h
theorem ck_1 : ∀ w ∈ tables_1_1, w ∈ lw_tbl := fun _ h => List.mem_append_right _ (List.mem_append_left _ h)
theorem ck_2 : ∀ w ∈ tables_1_2, w ∈ lw_tbl := fun _ h => List.mem_append_right _ (List.mem_append_right _ (List.mem_append_left _ h))
theorem ck_3 : ∀ w ∈ tables_1_3, w ∈ lw_tbl := fun _ h => List.mem_append_right _ (List.mem_append_right _ (List.mem_append_right _ (List.mem_append_left _ h)))
theorem ck_4 : ∀ w ∈ tables_1_4, w ∈ lw_tbl := fun _ h => List.mem_append_right _ (List.mem_append_right _ (List.mem_append_right _ (List.mem_append_right _ (List.mem_append_left _ h))))
theorem ck_5 : ∀ w ∈ tables_1_5, w ∈ lw_tbl := fun _ h => List.mem_append_right _ (List.mem_append_right _ (List.mem_append_right _ (List.mem_append_right _ (List.mem_append_right _ (List.mem_append_left _ h)))))
theorem ck_6 : ∀ w ∈ tables_1_6, w ∈ lw_tbl := fun _ h => List.mem_append_right _ (List.mem_append_right _ (List.mem_append_right _ (List.mem_append_right _ (List.mem_append_right _ (List.mem_append_right _ (List.mem_append_left _ h))))))
theorem ck_7 : ∀ w ∈ tables_1_7, w ∈ lw_tbl := fun _ h => List.mem_append_right _ (List.mem_append_right _ (List.mem_append_right _ (List.mem_append_right _ (List.mem_append_right _ (List.mem_append_right _ (List.mem_append_right _ (List.mem_append_left _ h)))))))
theorem ck_8 : ∀ w ∈ tables_1_8, w ∈ lw_tbl := fun _ h => List.mem_append_right _ (List.mem_append_right _ (List.mem_append_right _ (List.mem_append_right _ (List.mem_append_right _ (List.mem_append_right _ (List.mem_append_right _ (List.mem_append_right _ (h))))))))
theorem inlX0 : ∀ w ∈ u_ws RX0 TX0 6, w ∈ wsL_law := fun w hw => by
  obtain ⟨k, hk, rfl⟩ := List.mem_map.mp hw
  have hk := List.mem_range.mp hk
  match k, hk with
  | 0, _ => exact sk_mem (ck_1 _ (List.mem_of_getElem? (i := 138) rfl)) rfl
  | 1, _ => exact sk_mem (ck_1 _ (List.mem_of_getElem? (i := 140) rfl)) rfl
  | 2, _ => exact sk_mem (ck_1 _ (List.mem_of_getElem? (i := 142) rfl)) rfl
  | 3, _ => exact sk_mem (ck_1 _ (List.mem_of_getElem? (i := 144) rfl)) rfl
  | 4, _ => exact sk_mem (ck_1 _ (List.mem_of_getElem? (i := 146) rfl)) rfl
  | 5, _ => exact sk_mem (ck_1 _ (List.mem_of_getElem? (i := 148) rfl)) rfl
  | n + 6, h => exact absurd h (by omega)
theorem inlX1 : ∀ w ∈ u_ws RX1 TX1 9, w ∈ wsL_law := fun w hw => by
  obtain ⟨k, hk, rfl⟩ := List.mem_map.mp hw
  have hk := List.mem_range.mp hk
  match k, hk with
  | 0, _ => exact sk_mem (ck_2 _ (List.mem_of_getElem? (i := 104) rfl)) rfl
  | 1, _ => exact sk_mem (ck_2 _ (List.mem_of_getElem? (i := 106) rfl)) rfl
  | 2, _ => exact sk_mem (ck_2 _ (List.mem_of_getElem? (i := 108) rfl)) rfl
  | 3, _ => exact sk_mem (ck_2 _ (List.mem_of_getElem? (i := 110) rfl)) rfl
  | 4, _ => exact sk_mem (ck_2 _ (List.mem_of_getElem? (i := 112) rfl)) rfl
  | 5, _ => exact sk_mem (ck_2 _ (List.mem_of_getElem? (i := 114) rfl)) rfl
  | 6, _ => exact sk_mem (ck_2 _ (List.mem_of_getElem? (i := 116) rfl)) rfl
  | 7, _ => exact sk_mem (ck_2 _ (List.mem_of_getElem? (i := 118) rfl)) rfl
  | 8, _ => exact sk_mem (ck_2 _ (List.mem_of_getElem? (i := 120) rfl)) rfl
  | n + 9, h => exact absurd h (by omega)
theorem inlX2 : ∀ w ∈ u_ws RX2 TX2 10, w ∈ wsL_law := fun w hw => by
  obtain ⟨k, hk, rfl⟩ := List.mem_map.mp hw
  have hk := List.mem_range.mp hk
  match k, hk with
  | 0, _ => exact sk_mem (ck_1 _ (List.mem_of_getElem? (i := 203) rfl)) rfl
  | 1, _ => exact sk_mem (ck_1 _ (List.mem_of_getElem? (i := 205) rfl)) rfl
  | 2, _ => exact sk_mem (ck_1 _ (List.mem_of_getElem? (i := 207) rfl)) rfl
  | 3, _ => exact sk_mem (ck_1 _ (List.mem_of_getElem? (i := 209) rfl)) rfl
  | 4, _ => exact sk_mem (ck_1 _ (List.mem_of_getElem? (i := 211) rfl)) rfl
  | 5, _ => exact sk_mem (ck_1 _ (List.mem_of_getElem? (i := 213) rfl)) rfl
  | 6, _ => exact sk_mem (ck_1 _ (List.mem_of_getElem? (i := 215) rfl)) rfl
  | 7, _ => exact sk_mem (ck_1 _ (List.mem_of_getElem? (i := 217) rfl)) rfl
  | 8, _ => exact sk_mem (ck_1 _ (List.mem_of_getElem? (i := 219) rfl)) rfl
  | 9, _ => exact sk_mem (ck_1 _ (List.mem_of_getElem? (i := 221) rfl)) rfl
  | n + 10, h => exact absurd h (by omega)
theorem inlX3 : ∀ w ∈ u_ws RX3 TX3 3, w ∈ wsL_law := fun w hw => by
  obtain ⟨k, hk, rfl⟩ := List.mem_map.mp hw
  have hk := List.mem_range.mp hk
  match k, hk with
  | 0, _ => exact sk_mem (ck_1 _ (List.mem_of_getElem? (i := 110) rfl)) rfl
  | 1, _ => exact sk_mem (ck_1 _ (List.mem_of_getElem? (i := 112) rfl)) rfl
  | 2, _ => exact sk_mem (ck_1 _ (List.mem_of_getElem? (i := 114) rfl)) rfl
  | n + 3, h => exact absurd h (by omega)
theorem inlX4 : ∀ w ∈ u_ws RX4 TX4 5, w ∈ wsL_law := fun w hw => by
  obtain ⟨k, hk, rfl⟩ := List.mem_map.mp hw
  have hk := List.mem_range.mp hk
  match k, hk with
  | 0, _ => exact sk_mem (ck_2 _ (List.mem_of_getElem? (i := 46) rfl)) rfl
  | 1, _ => exact sk_mem (ck_2 _ (List.mem_of_getElem? (i := 48) rfl)) rfl
  | 2, _ => exact sk_mem (ck_2 _ (List.mem_of_getElem? (i := 50) rfl)) rfl
  | 3, _ => exact sk_mem (ck_2 _ (List.mem_of_getElem? (i := 52) rfl)) rfl
  | 4, _ => exact sk_mem (ck_2 _ (List.mem_of_getElem? (i := 54) rfl)) rfl
  | n + 5, h => exact absurd h (by omega)
theorem inlX5 : ∀ w ∈ u_ws RX5 TX5 4, w ∈ wsL_law := fun w hw => by
  obtain ⟨k, hk, rfl⟩ := List.mem_map.mp hw
  have hk := List.mem_range.mp hk
  match k, hk with
  | 0, _ => exact sk_mem (ck_1 _ (List.mem_of_getElem? (i := 158) rfl)) rfl
  | 1, _ => exact sk_mem (ck_1 _ (List.mem_of_getElem? (i := 160) rfl)) rfl
  | 2, _ => exact sk_mem (ck_1 _ (List.mem_of_getElem? (i := 162) rfl)) rfl
  | 3, _ => exact sk_mem (ck_1 _ (List.mem_of_getElem? (i := 164) rfl)) rfl
  | n + 4, h => exact absurd h (by omega)
theorem inlX6 : ∀ w ∈ u_ws RX6 TX6 8, w ∈ wsL_law := fun w hw => by
  obtain ⟨k, hk, rfl⟩ := List.mem_map.mp hw
  have hk := List.mem_range.mp hk
  match k, hk with
  | 0, _ => exact sk_mem (ck_1 _ (List.mem_of_getElem? (i := 71) rfl)) rfl
  | 1, _ => exact sk_mem (ck_1 _ (List.mem_of_getElem? (i := 73) rfl)) rfl
  | 2, _ => exact sk_mem (ck_1 _ (List.mem_of_getElem? (i := 75) rfl)) rfl
  | 3, _ => exact sk_mem (ck_1 _ (List.mem_of_getElem? (i := 77) rfl)) rfl
  | 4, _ => exact sk_mem (ck_1 _ (List.mem_of_getElem? (i := 79) rfl)) rfl
  | 5, _ => exact sk_mem (ck_1 _ (List.mem_of_getElem? (i := 81) rfl)) rfl
  | 6, _ => exact sk_mem (ck_1 _ (List.mem_of_getElem? (i := 83) rfl)) rfl
  | 7, _ => exact sk_mem (ck_1 _ (List.mem_of_getElem? (i := 85) rfl)) rfl
  | n + 8, h => exact absurd h (by omega)
theorem inlX7 : ∀ w ∈ u_ws RX7 TX7 7, w ∈ wsL_law := fun w hw => by
  obtain ⟨k, hk, rfl⟩ := List.mem_map.mp hw
  have hk := List.mem_range.mp hk
  match k, hk with
  | 0, _ => exact sk_mem (ck_2 _ (List.mem_of_getElem? (i := 16) rfl)) rfl
  | 1, _ => exact sk_mem (ck_2 _ (List.mem_of_getElem? (i := 18) rfl)) rfl
  | 2, _ => exact sk_mem (ck_2 _ (List.mem_of_getElem? (i := 20) rfl)) rfl
  | 3, _ => exact sk_mem (ck_2 _ (List.mem_of_getElem? (i := 22) rfl)) rfl
  | 4, _ => exact sk_mem (ck_2 _ (List.mem_of_getElem? (i := 24) rfl)) rfl
  | 5, _ => exact sk_mem (ck_2 _ (List.mem_of_getElem? (i := 26) rfl)) rfl
  | 6, _ => exact sk_mem (ck_2 _ (List.mem_of_getElem? (i := 28) rfl)) rfl
  | n + 7, h => exact absurd h (by omega)
theorem inlX8 : ∀ w ∈ u_ws RX8 TX8 2, w ∈ wsL_law := fun w hw => by
  obtain ⟨k, hk, rfl⟩ := List.mem_map.mp hw
  have hk := List.mem_range.mp hk
  match k, hk with
  | 0, _ => exact sk_mem (ck_1 _ (List.mem_of_getElem? (i := 102) rfl)) rfl
  | 1, _ => exact sk_mem (ck_1 _ (List.mem_of_getElem? (i := 104) rfl)) rfl
  | n + 2, h => exact absurd h (by omega)
theorem inlX9 : ∀ w ∈ u_ws RX9 TX9 6, w ∈ wsL_law := fun w hw => by
  obtain ⟨k, hk, rfl⟩ := List.mem_map.mp hw
  have hk := List.mem_range.mp hk
  match k, hk with
  | 0, _ => exact sk_mem (ck_2 _ (List.mem_of_getElem? (i := 76) rfl)) rfl
  | 1, _ => exact sk_mem (ck_2 _ (List.mem_of_getElem? (i := 78) rfl)) rfl
  | 2, _ => exact sk_mem (ck_2 _ (List.mem_of_getElem? (i := 80) rfl)) rfl
  | 3, _ => exact sk_mem (ck_2 _ (List.mem_of_getElem? (i := 82) rfl)) rfl
  | 4, _ => exact sk_mem (ck_2 _ (List.mem_of_getElem? (i := 84) rfl)) rfl
  | 5, _ => exact sk_mem (ck_2 _ (List.mem_of_getElem? (i := 86) rfl)) rfl
  | n + 6, h => exact absurd h (by omega)
theorem inlX10 : ∀ w ∈ u_ws RX10 TX10 2, w ∈ wsL_law := fun w hw => by
  obtain ⟨k, hk, rfl⟩ := List.mem_map.mp hw
  have hk := List.mem_range.mp hk
  match k, hk with
  | 0, _ => exact sk_mem (ck_1 _ (List.mem_of_getElem? (i := 44) rfl)) rfl
  | 1, _ => exact sk_mem (ck_1 _ (List.mem_of_getElem? (i := 46) rfl)) rfl
  | n + 2, h => exact absurd h (by omega)
theorem inlX11 : ∀ w ∈ u_ws RX11 TX11 18, w ∈ wsL_law := fun w hw => by
  obtain ⟨k, hk, rfl⟩ := List.mem_map.mp hw
  have hk := List.mem_range.mp hk
  match k, hk with
  | 0, _ => exact sk_mem (ck_2 _ (List.mem_of_getElem? (i := 141) rfl)) rfl
  | 1, _ => exact sk_mem (ck_2 _ (List.mem_of_getElem? (i := 143) rfl)) rfl
  | 2, _ => exact sk_mem (ck_2 _ (List.mem_of_getElem? (i := 145) rfl)) rfl
  | 3, _ => exact sk_mem (ck_2 _ (List.mem_of_getElem? (i := 147) rfl)) rfl
  | 4, _ => exact sk_mem (ck_2 _ (List.mem_of_getElem? (i := 149) rfl)) rfl
  | 5, _ => exact sk_mem (ck_2 _ (List.mem_of_getElem? (i := 151) rfl)) rfl
  | 6, _ => exact sk_mem (ck_2 _ (List.mem_of_getElem? (i := 153) rfl)) rfl
  | 7, _ => exact sk_mem (ck_2 _ (List.mem_of_getElem? (i := 155) rfl)) rfl
  | 8, _ => exact sk_mem (ck_2 _ (List.mem_of_getElem? (i := 157) rfl)) rfl
  | 9, _ => exact sk_mem (ck_2 _ (List.mem_of_getElem? (i := 159) rfl)) rfl
  | 10, _ => exact sk_mem (ck_2 _ (List.mem_of_getElem? (i := 161) rfl)) rfl
  | 11, _ => exact sk_mem (ck_2 _ (List.mem_of_getElem? (i := 163) rfl)) rfl
  | 12, _ => exact sk_mem (ck_2 _ (List.mem_of_getElem? (i := 165) rfl)) rfl
  | 13, _ => exact sk_mem (ck_2 _ (List.mem_of_getElem? (i := 167) rfl)) rfl
  | 14, _ => exact sk_mem (ck_2 _ (List.mem_of_getElem? (i := 169) rfl)) rfl
  | 15, _ => exact sk_mem (ck_2 _ (List.mem_of_getElem? (i := 171) rfl)) rfl
  | 16, _ => exact sk_mem (ck_2 _ (List.mem_of_getElem? (i := 173) rfl)) rfl
  | 17, _ => exact sk_mem (ck_2 _ (List.mem_of_getElem? (i := 175) rfl)) rfl
  | n + 18, h => exact absurd h (by omega)
theorem inlX12 : ∀ w ∈ u_ws RX12 TX12 92, w ∈ wsL_law := fun w hw => by
  obtain ⟨k, hk, rfl⟩ := List.mem_map.mp hw
  have hk := List.mem_range.mp hk
  match k, hk with
  | 0, _ => exact sk_mem (ck_6 _ (List.mem_of_getElem? (i := 7) rfl)) rfl
  | 1, _ => exact sk_mem (ck_6 _ (List.mem_of_getElem? (i := 9) rfl)) rfl
  | 2, _ => exact sk_mem (ck_6 _ (List.mem_of_getElem? (i := 11) rfl)) rfl
  | 3, _ => exact sk_mem (ck_6 _ (List.mem_of_getElem? (i := 13) rfl)) rfl
  | 4, _ => exact sk_mem (ck_6 _ (List.mem_of_getElem? (i := 15) rfl)) rfl
  | 5, _ => exact sk_mem (ck_6 _ (List.mem_of_getElem? (i := 17) rfl)) rfl
  | 6, _ => exact sk_mem (ck_6 _ (List.mem_of_getElem? (i := 19) rfl)) rfl
  | 7, _ => exact sk_mem (ck_6 _ (List.mem_of_getElem? (i := 21) rfl)) rfl
  | 8, _ => exact sk_mem (ck_6 _ (List.mem_of_getElem? (i := 23) rfl)) rfl
  | 9, _ => exact sk_mem (ck_6 _ (List.mem_of_getElem? (i := 25) rfl)) rfl
  | 10, _ => exact sk_mem (ck_6 _ (List.mem_of_getElem? (i := 27) rfl)) rfl
  | 11, _ => exact sk_mem (ck_6 _ (List.mem_of_getElem? (i := 29) rfl)) rfl
  | 12, _ => exact sk_mem (ck_6 _ (List.mem_of_getElem? (i := 31) rfl)) rfl
  | 13, _ => exact sk_mem (ck_6 _ (List.mem_of_getElem? (i := 33) rfl)) rfl
  | 14, _ => exact sk_mem (ck_6 _ (List.mem_of_getElem? (i := 35) rfl)) rfl
  | 15, _ => exact sk_mem (ck_6 _ (List.mem_of_getElem? (i := 37) rfl)) rfl
  | 16, _ => exact sk_mem (ck_6 _ (List.mem_of_getElem? (i := 39) rfl)) rfl
  | 17, _ => exact sk_mem (ck_6 _ (List.mem_of_getElem? (i := 41) rfl)) rfl
  | 18, _ => exact sk_mem (ck_6 _ (List.mem_of_getElem? (i := 43) rfl)) rfl
  | 19, _ => exact sk_mem (ck_6 _ (List.mem_of_getElem? (i := 45) rfl)) rfl
  | 20, _ => exact sk_mem (ck_6 _ (List.mem_of_getElem? (i := 47) rfl)) rfl
  | 21, _ => exact sk_mem (ck_6 _ (List.mem_of_getElem? (i := 49) rfl)) rfl
  | 22, _ => exact sk_mem (ck_6 _ (List.mem_of_getElem? (i := 51) rfl)) rfl
  | 23, _ => exact sk_mem (ck_6 _ (List.mem_of_getElem? (i := 53) rfl)) rfl
  | 24, _ => exact sk_mem (ck_6 _ (List.mem_of_getElem? (i := 55) rfl)) rfl
  | 25, _ => exact sk_mem (ck_6 _ (List.mem_of_getElem? (i := 57) rfl)) rfl
  | 26, _ => exact sk_mem (ck_6 _ (List.mem_of_getElem? (i := 59) rfl)) rfl
  | 27, _ => exact sk_mem (ck_6 _ (List.mem_of_getElem? (i := 61) rfl)) rfl
  | 28, _ => exact sk_mem (ck_6 _ (List.mem_of_getElem? (i := 63) rfl)) rfl
  | 29, _ => exact sk_mem (ck_6 _ (List.mem_of_getElem? (i := 65) rfl)) rfl
  | 30, _ => exact sk_mem (ck_6 _ (List.mem_of_getElem? (i := 67) rfl)) rfl
  | 31, _ => exact sk_mem (ck_6 _ (List.mem_of_getElem? (i := 69) rfl)) rfl
  | 32, _ => exact sk_mem (ck_6 _ (List.mem_of_getElem? (i := 71) rfl)) rfl
  | 33, _ => exact sk_mem (ck_6 _ (List.mem_of_getElem? (i := 73) rfl)) rfl
  | 34, _ => exact sk_mem (ck_6 _ (List.mem_of_getElem? (i := 75) rfl)) rfl
  | 35, _ => exact sk_mem (ck_6 _ (List.mem_of_getElem? (i := 77) rfl)) rfl
  | 36, _ => exact sk_mem (ck_6 _ (List.mem_of_getElem? (i := 79) rfl)) rfl
  | 37, _ => exact sk_mem (ck_6 _ (List.mem_of_getElem? (i := 81) rfl)) rfl
  | 38, _ => exact sk_mem (ck_6 _ (List.mem_of_getElem? (i := 83) rfl)) rfl
  | 39, _ => exact sk_mem (ck_6 _ (List.mem_of_getElem? (i := 85) rfl)) rfl
  | 40, _ => exact sk_mem (ck_6 _ (List.mem_of_getElem? (i := 87) rfl)) rfl
  | 41, _ => exact sk_mem (ck_6 _ (List.mem_of_getElem? (i := 89) rfl)) rfl
  | 42, _ => exact sk_mem (ck_6 _ (List.mem_of_getElem? (i := 91) rfl)) rfl
  | 43, _ => exact sk_mem (ck_6 _ (List.mem_of_getElem? (i := 93) rfl)) rfl
  | 44, _ => exact sk_mem (ck_6 _ (List.mem_of_getElem? (i := 95) rfl)) rfl
  | 45, _ => exact sk_mem (ck_6 _ (List.mem_of_getElem? (i := 97) rfl)) rfl
  | 46, _ => exact sk_mem (ck_6 _ (List.mem_of_getElem? (i := 99) rfl)) rfl
  | 47, _ => exact sk_mem (ck_6 _ (List.mem_of_getElem? (i := 101) rfl)) rfl
  | 48, _ => exact sk_mem (ck_6 _ (List.mem_of_getElem? (i := 103) rfl)) rfl
  | 49, _ => exact sk_mem (ck_6 _ (List.mem_of_getElem? (i := 105) rfl)) rfl
  | 50, _ => exact sk_mem (ck_6 _ (List.mem_of_getElem? (i := 107) rfl)) rfl
  | 51, _ => exact sk_mem (ck_6 _ (List.mem_of_getElem? (i := 109) rfl)) rfl
  | 52, _ => exact sk_mem (ck_6 _ (List.mem_of_getElem? (i := 111) rfl)) rfl
  | 53, _ => exact sk_mem (ck_6 _ (List.mem_of_getElem? (i := 113) rfl)) rfl
  | 54, _ => exact sk_mem (ck_6 _ (List.mem_of_getElem? (i := 115) rfl)) rfl
  | 55, _ => exact sk_mem (ck_6 _ (List.mem_of_getElem? (i := 117) rfl)) rfl
  | 56, _ => exact sk_mem (ck_6 _ (List.mem_of_getElem? (i := 119) rfl)) rfl
  | 57, _ => exact sk_mem (ck_6 _ (List.mem_of_getElem? (i := 121) rfl)) rfl
  | 58, _ => exact sk_mem (ck_6 _ (List.mem_of_getElem? (i := 123) rfl)) rfl
  | 59, _ => exact sk_mem (ck_6 _ (List.mem_of_getElem? (i := 125) rfl)) rfl
  | 60, _ => exact sk_mem (ck_6 _ (List.mem_of_getElem? (i := 127) rfl)) rfl
  | 61, _ => exact sk_mem (ck_6 _ (List.mem_of_getElem? (i := 129) rfl)) rfl
  | 62, _ => exact sk_mem (ck_6 _ (List.mem_of_getElem? (i := 131) rfl)) rfl
  | 63, _ => exact sk_mem (ck_6 _ (List.mem_of_getElem? (i := 133) rfl)) rfl
  | 64, _ => exact sk_mem (ck_6 _ (List.mem_of_getElem? (i := 135) rfl)) rfl
  | 65, _ => exact sk_mem (ck_6 _ (List.mem_of_getElem? (i := 137) rfl)) rfl
  | 66, _ => exact sk_mem (ck_6 _ (List.mem_of_getElem? (i := 139) rfl)) rfl
  | 67, _ => exact sk_mem (ck_6 _ (List.mem_of_getElem? (i := 141) rfl)) rfl
  | 68, _ => exact sk_mem (ck_6 _ (List.mem_of_getElem? (i := 143) rfl)) rfl
  | 69, _ => exact sk_mem (ck_6 _ (List.mem_of_getElem? (i := 145) rfl)) rfl
  | 70, _ => exact sk_mem (ck_6 _ (List.mem_of_getElem? (i := 147) rfl)) rfl
  | 71, _ => exact sk_mem (ck_6 _ (List.mem_of_getElem? (i := 149) rfl)) rfl
  | 72, _ => exact sk_mem (ck_6 _ (List.mem_of_getElem? (i := 151) rfl)) rfl
  | 73, _ => exact sk_mem (ck_6 _ (List.mem_of_getElem? (i := 153) rfl)) rfl
  | 74, _ => exact sk_mem (ck_6 _ (List.mem_of_getElem? (i := 155) rfl)) rfl
  | 75, _ => exact sk_mem (ck_6 _ (List.mem_of_getElem? (i := 157) rfl)) rfl
  | 76, _ => exact sk_mem (ck_6 _ (List.mem_of_getElem? (i := 159) rfl)) rfl
  | 77, _ => exact sk_mem (ck_6 _ (List.mem_of_getElem? (i := 161) rfl)) rfl
  | 78, _ => exact sk_mem (ck_6 _ (List.mem_of_getElem? (i := 163) rfl)) rfl
  | 79, _ => exact sk_mem (ck_6 _ (List.mem_of_getElem? (i := 165) rfl)) rfl
  | 80, _ => exact sk_mem (ck_6 _ (List.mem_of_getElem? (i := 167) rfl)) rfl
  | 81, _ => exact sk_mem (ck_6 _ (List.mem_of_getElem? (i := 169) rfl)) rfl
  | 82, _ => exact sk_mem (ck_6 _ (List.mem_of_getElem? (i := 171) rfl)) rfl
  | 83, _ => exact sk_mem (ck_6 _ (List.mem_of_getElem? (i := 173) rfl)) rfl
  | 84, _ => exact sk_mem (ck_6 _ (List.mem_of_getElem? (i := 175) rfl)) rfl
  | 85, _ => exact sk_mem (ck_6 _ (List.mem_of_getElem? (i := 177) rfl)) rfl
  | 86, _ => exact sk_mem (ck_6 _ (List.mem_of_getElem? (i := 179) rfl)) rfl
  | 87, _ => exact sk_mem (ck_6 _ (List.mem_of_getElem? (i := 181) rfl)) rfl
  | 88, _ => exact sk_mem (ck_6 _ (List.mem_of_getElem? (i := 183) rfl)) rfl
  | 89, _ => exact sk_mem (ck_6 _ (List.mem_of_getElem? (i := 185) rfl)) rfl
  | 90, _ => exact sk_mem (ck_6 _ (List.mem_of_getElem? (i := 187) rfl)) rfl
  | 91, _ => exact sk_mem (ck_6 _ (List.mem_of_getElem? (i := 189) rfl)) rfl
  | n + 92, h => exact absurd h (by omega)

