theorem lg_pos {a : Int64} (h : ¬ lg_cmp a 0 ≤ 0) : ¬ a = 0 := fun q => h (by rw [lg_cmp_le, q]; exact Int64.le_refl _)
