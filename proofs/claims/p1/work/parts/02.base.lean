theorem zt_l1 : ∀ w ∈ tables_1_1, w ∈ lw_tbl := fun w h => List.mem_append_right _ (show w ∈ tables_1 from List.mem_append_left _ h)
theorem zt_l2 : ∀ w ∈ tables_1_2, w ∈ lw_tbl := fun w h => List.mem_append_right _ (show w ∈ tables_1 from List.mem_append_right _ (List.mem_append_left _ h))
theorem zt_l3 : ∀ w ∈ tables_1_3, w ∈ lw_tbl := fun w h => List.mem_append_right _ (show w ∈ tables_1 from List.mem_append_right _ (List.mem_append_right _ (List.mem_append_left _ h)))
theorem zt_l4 : ∀ w ∈ tables_1_4, w ∈ lw_tbl := fun w h => List.mem_append_right _ (show w ∈ tables_1 from List.mem_append_right _ (List.mem_append_right _ (List.mem_append_right _ (List.mem_append_left _ h))))
theorem zt_l5 : ∀ w ∈ tables_1_5, w ∈ lw_tbl := fun w h => List.mem_append_right _ (show w ∈ tables_1 from List.mem_append_right _ (List.mem_append_right _ (List.mem_append_right _ (List.mem_append_right _ (List.mem_append_left _ h)))))
theorem zt_l6 : ∀ w ∈ tables_1_6, w ∈ lw_tbl := fun w h => List.mem_append_right _ (show w ∈ tables_1 from List.mem_append_right _ (List.mem_append_right _ (List.mem_append_right _ (List.mem_append_right _ (List.mem_append_right _ (List.mem_append_left _ h))))))
theorem zt_l7 : ∀ w ∈ tables_1_7, w ∈ lw_tbl := fun w h => List.mem_append_right _ (show w ∈ tables_1 from List.mem_append_right _ (List.mem_append_right _ (List.mem_append_right _ (List.mem_append_right _ (List.mem_append_right _ (List.mem_append_right _ (List.mem_append_left _ h)))))))
theorem zt_l8 : ∀ w ∈ tables_1_8, w ∈ lw_tbl := fun w h => List.mem_append_right _ (show w ∈ tables_1 from List.mem_append_right _ (List.mem_append_right _ (List.mem_append_right _ (List.mem_append_right _ (List.mem_append_right _ (List.mem_append_right _ (List.mem_append_right _ (List.mem_append_left _ h))))))))
theorem zt_l9 : ∀ w ∈ tables_1_9, w ∈ lw_tbl := fun w h => List.mem_append_right _ (show w ∈ tables_1 from List.mem_append_right _ (List.mem_append_right _ (List.mem_append_right _ (List.mem_append_right _ (List.mem_append_right _ (List.mem_append_right _ (List.mem_append_right _ (List.mem_append_right _ (List.mem_append_left _ h)))))))))
theorem zt_l10 : ∀ w ∈ tables_1_10, w ∈ lw_tbl := fun w h => List.mem_append_right _ (show w ∈ tables_1 from List.mem_append_right _ (List.mem_append_right _ (List.mem_append_right _ (List.mem_append_right _ (List.mem_append_right _ (List.mem_append_right _ (List.mem_append_right _ (List.mem_append_right _ (List.mem_append_right _ (List.mem_append_left _ h))))))))))
theorem zt_l11 : ∀ w ∈ tables_1_11, w ∈ lw_tbl := fun w h => List.mem_append_right _ (show w ∈ tables_1 from List.mem_append_right _ (List.mem_append_right _ (List.mem_append_right _ (List.mem_append_right _ (List.mem_append_right _ (List.mem_append_right _ (List.mem_append_right _ (List.mem_append_right _ (List.mem_append_right _ (List.mem_append_right _ (List.mem_append_left _ h)))))))))))
theorem zt_l12 : ∀ w ∈ tables_1_12, w ∈ lw_tbl := fun w h => List.mem_append_right _ (show w ∈ tables_1 from List.mem_append_right _ (List.mem_append_right _ (List.mem_append_right _ (List.mem_append_right _ (List.mem_append_right _ (List.mem_append_right _ (List.mem_append_right _ (List.mem_append_right _ (List.mem_append_right _ (List.mem_append_right _ (List.mem_append_right _ (List.mem_append_left _ h))))))))))))
theorem zt_l13 : ∀ w ∈ tables_1_13, w ∈ lw_tbl := fun w h => List.mem_append_right _ (show w ∈ tables_1 from List.mem_append_right _ (List.mem_append_right _ (List.mem_append_right _ (List.mem_append_right _ (List.mem_append_right _ (List.mem_append_right _ (List.mem_append_right _ (List.mem_append_right _ (List.mem_append_right _ (List.mem_append_right _ (List.mem_append_right _ (List.mem_append_right _ (List.mem_append_left _ h)))))))))))))
theorem zt_l14 : ∀ w ∈ tables_1_14, w ∈ lw_tbl := fun w h => List.mem_append_right _ (show w ∈ tables_1 from List.mem_append_right _ (List.mem_append_right _ (List.mem_append_right _ (List.mem_append_right _ (List.mem_append_right _ (List.mem_append_right _ (List.mem_append_right _ (List.mem_append_right _ (List.mem_append_right _ (List.mem_append_right _ (List.mem_append_right _ (List.mem_append_right _ (List.mem_append_right _ (h))))))))))))))
theorem zp_1 : ∀ q ∈ lw_privs_1, q ∈ lw_privs := fun q h => List.mem_append_left _ h
theorem zs_l1 : ∀ w ∈ k2_sels lw_privs_1, w ∈ lw_tbl := fun w h => by
  obtain ⟨q, hq, rfl⟩ := List.mem_map.mp h
  exact List.mem_append_left _ (List.mem_map.mpr ⟨q, zp_1 q hq, rfl⟩)
theorem zp_2 : ∀ q ∈ lw_privs_2, q ∈ lw_privs := fun q h => List.mem_append_right _ (List.mem_append_left _ h)
theorem zs_l2 : ∀ w ∈ k2_sels lw_privs_2, w ∈ lw_tbl := fun w h => by
  obtain ⟨q, hq, rfl⟩ := List.mem_map.mp h
  exact List.mem_append_left _ (List.mem_map.mpr ⟨q, zp_2 q hq, rfl⟩)
theorem zp_3 : ∀ q ∈ lw_privs_3, q ∈ lw_privs := fun q h => List.mem_append_right _ (List.mem_append_right _ (List.mem_append_left _ h))
theorem zs_l3 : ∀ w ∈ k2_sels lw_privs_3, w ∈ lw_tbl := fun w h => by
  obtain ⟨q, hq, rfl⟩ := List.mem_map.mp h
  exact List.mem_append_left _ (List.mem_map.mpr ⟨q, zp_3 q hq, rfl⟩)
theorem zp_4 : ∀ q ∈ lw_privs_4, q ∈ lw_privs := fun q h => List.mem_append_right _ (List.mem_append_right _ (List.mem_append_right _ (List.mem_append_left _ h)))
theorem zs_l4 : ∀ w ∈ k2_sels lw_privs_4, w ∈ lw_tbl := fun w h => by
  obtain ⟨q, hq, rfl⟩ := List.mem_map.mp h
  exact List.mem_append_left _ (List.mem_map.mpr ⟨q, zp_4 q hq, rfl⟩)
theorem zp_5 : ∀ q ∈ lw_privs_5, q ∈ lw_privs := fun q h => List.mem_append_right _ (List.mem_append_right _ (List.mem_append_right _ (List.mem_append_right _ (List.mem_append_left _ h))))
theorem zs_l5 : ∀ w ∈ k2_sels lw_privs_5, w ∈ lw_tbl := fun w h => by
  obtain ⟨q, hq, rfl⟩ := List.mem_map.mp h
  exact List.mem_append_left _ (List.mem_map.mpr ⟨q, zp_5 q hq, rfl⟩)
theorem zp_6 : ∀ q ∈ lw_privs_6, q ∈ lw_privs := fun q h => List.mem_append_right _ (List.mem_append_right _ (List.mem_append_right _ (List.mem_append_right _ (List.mem_append_right _ (List.mem_append_left _ h)))))
theorem zs_l6 : ∀ w ∈ k2_sels lw_privs_6, w ∈ lw_tbl := fun w h => by
  obtain ⟨q, hq, rfl⟩ := List.mem_map.mp h
  exact List.mem_append_left _ (List.mem_map.mpr ⟨q, zp_6 q hq, rfl⟩)
theorem zp_7 : ∀ q ∈ lw_privs_7, q ∈ lw_privs := fun q h => List.mem_append_right _ (List.mem_append_right _ (List.mem_append_right _ (List.mem_append_right _ (List.mem_append_right _ (List.mem_append_right _ (List.mem_append_left _ h))))))
theorem zs_l7 : ∀ w ∈ k2_sels lw_privs_7, w ∈ lw_tbl := fun w h => by
  obtain ⟨q, hq, rfl⟩ := List.mem_map.mp h
  exact List.mem_append_left _ (List.mem_map.mpr ⟨q, zp_7 q hq, rfl⟩)
theorem zp_8 : ∀ q ∈ lw_privs_8, q ∈ lw_privs := fun q h => List.mem_append_right _ (List.mem_append_right _ (List.mem_append_right _ (List.mem_append_right _ (List.mem_append_right _ (List.mem_append_right _ (List.mem_append_right _ (List.mem_append_left _ h)))))))
theorem zs_l8 : ∀ w ∈ k2_sels lw_privs_8, w ∈ lw_tbl := fun w h => by
  obtain ⟨q, hq, rfl⟩ := List.mem_map.mp h
  exact List.mem_append_left _ (List.mem_map.mpr ⟨q, zp_8 q hq, rfl⟩)
theorem zp_9 : ∀ q ∈ lw_privs_9, q ∈ lw_privs := fun q h => List.mem_append_right _ (List.mem_append_right _ (List.mem_append_right _ (List.mem_append_right _ (List.mem_append_right _ (List.mem_append_right _ (List.mem_append_right _ (List.mem_append_right _ (List.mem_append_left _ h))))))))
theorem zs_l9 : ∀ w ∈ k2_sels lw_privs_9, w ∈ lw_tbl := fun w h => by
  obtain ⟨q, hq, rfl⟩ := List.mem_map.mp h
  exact List.mem_append_left _ (List.mem_map.mpr ⟨q, zp_9 q hq, rfl⟩)
theorem zp_10 : ∀ q ∈ lw_privs_10, q ∈ lw_privs := fun q h => List.mem_append_right _ (List.mem_append_right _ (List.mem_append_right _ (List.mem_append_right _ (List.mem_append_right _ (List.mem_append_right _ (List.mem_append_right _ (List.mem_append_right _ (List.mem_append_right _ (List.mem_append_left _ h)))))))))
theorem zs_l10 : ∀ w ∈ k2_sels lw_privs_10, w ∈ lw_tbl := fun w h => by
  obtain ⟨q, hq, rfl⟩ := List.mem_map.mp h
  exact List.mem_append_left _ (List.mem_map.mpr ⟨q, zp_10 q hq, rfl⟩)
theorem zp_11 : ∀ q ∈ lw_privs_11, q ∈ lw_privs := fun q h => List.mem_append_right _ (List.mem_append_right _ (List.mem_append_right _ (List.mem_append_right _ (List.mem_append_right _ (List.mem_append_right _ (List.mem_append_right _ (List.mem_append_right _ (List.mem_append_right _ (List.mem_append_right _ (List.mem_append_left _ h))))))))))
theorem zs_l11 : ∀ w ∈ k2_sels lw_privs_11, w ∈ lw_tbl := fun w h => by
  obtain ⟨q, hq, rfl⟩ := List.mem_map.mp h
  exact List.mem_append_left _ (List.mem_map.mpr ⟨q, zp_11 q hq, rfl⟩)
theorem zp_12 : ∀ q ∈ lw_privs_12, q ∈ lw_privs := fun q h => List.mem_append_right _ (List.mem_append_right _ (List.mem_append_right _ (List.mem_append_right _ (List.mem_append_right _ (List.mem_append_right _ (List.mem_append_right _ (List.mem_append_right _ (List.mem_append_right _ (List.mem_append_right _ (List.mem_append_right _ (List.mem_append_left _ h)))))))))))
theorem zs_l12 : ∀ w ∈ k2_sels lw_privs_12, w ∈ lw_tbl := fun w h => by
  obtain ⟨q, hq, rfl⟩ := List.mem_map.mp h
  exact List.mem_append_left _ (List.mem_map.mpr ⟨q, zp_12 q hq, rfl⟩)
theorem zp_13 : ∀ q ∈ lw_privs_13, q ∈ lw_privs := fun q h => List.mem_append_right _ (List.mem_append_right _ (List.mem_append_right _ (List.mem_append_right _ (List.mem_append_right _ (List.mem_append_right _ (List.mem_append_right _ (List.mem_append_right _ (List.mem_append_right _ (List.mem_append_right _ (List.mem_append_right _ (List.mem_append_right _ (List.mem_append_left _ h))))))))))))
theorem zs_l13 : ∀ w ∈ k2_sels lw_privs_13, w ∈ lw_tbl := fun w h => by
  obtain ⟨q, hq, rfl⟩ := List.mem_map.mp h
  exact List.mem_append_left _ (List.mem_map.mpr ⟨q, zp_13 q hq, rfl⟩)
theorem zp_14 : ∀ q ∈ lw_privs_14, q ∈ lw_privs := fun q h => List.mem_append_right _ (List.mem_append_right _ (List.mem_append_right _ (List.mem_append_right _ (List.mem_append_right _ (List.mem_append_right _ (List.mem_append_right _ (List.mem_append_right _ (List.mem_append_right _ (List.mem_append_right _ (List.mem_append_right _ (List.mem_append_right _ (List.mem_append_right _ (List.mem_append_left _ h)))))))))))))
theorem zs_l14 : ∀ w ∈ k2_sels lw_privs_14, w ∈ lw_tbl := fun w h => by
  obtain ⟨q, hq, rfl⟩ := List.mem_map.mp h
  exact List.mem_append_left _ (List.mem_map.mpr ⟨q, zp_14 q hq, rfl⟩)
theorem zp_15 : ∀ q ∈ lw_privs_15, q ∈ lw_privs := fun q h => List.mem_append_right _ (List.mem_append_right _ (List.mem_append_right _ (List.mem_append_right _ (List.mem_append_right _ (List.mem_append_right _ (List.mem_append_right _ (List.mem_append_right _ (List.mem_append_right _ (List.mem_append_right _ (List.mem_append_right _ (List.mem_append_right _ (List.mem_append_right _ (List.mem_append_right _ (List.mem_append_left _ h))))))))))))))
theorem zs_l15 : ∀ w ∈ k2_sels lw_privs_15, w ∈ lw_tbl := fun w h => by
  obtain ⟨q, hq, rfl⟩ := List.mem_map.mp h
  exact List.mem_append_left _ (List.mem_map.mpr ⟨q, zp_15 q hq, rfl⟩)
theorem zp_16 : ∀ q ∈ lw_privs_16, q ∈ lw_privs := fun q h => List.mem_append_right _ (List.mem_append_right _ (List.mem_append_right _ (List.mem_append_right _ (List.mem_append_right _ (List.mem_append_right _ (List.mem_append_right _ (List.mem_append_right _ (List.mem_append_right _ (List.mem_append_right _ (List.mem_append_right _ (List.mem_append_right _ (List.mem_append_right _ (List.mem_append_right _ (List.mem_append_right _ (h)))))))))))))))
theorem zs_l16 : ∀ w ∈ k2_sels lw_privs_16, w ∈ lw_tbl := fun w h => by
  obtain ⟨q, hq, rfl⟩ := List.mem_map.mp h
  exact List.mem_append_left _ (List.mem_map.mpr ⟨q, zp_16 q hq, rfl⟩)
/-- the tables' words that a callee may be given -/
def zg_tbl : List Cond := lw_tbl.filter goodWord
theorem zg_of {w : Cond} (h : w ∈ lw_tbl) (hg : goodWord w = true) : w ∈ zg_tbl := List.mem_filter.mpr ⟨h, hg⟩
theorem zg_in {w : Cond} (h : w ∈ zg_tbl) : w ∈ lw_tbl := (List.mem_filter.mp h).1
theorem zg_good {w : Cond} (h : w ∈ zg_tbl) : (w.onTables && w.keeps) = true ∨ ∃ ty, w = .arrayClass ty := good_of_word (List.mem_filter.mp h).2
theorem zt_1 {w : Cond} (h : w ∈ tables_1_1) (hg : goodWord w = true) : w ∈ zg_tbl := zg_of (zt_l1 w h) hg
theorem zt_2 {w : Cond} (h : w ∈ tables_1_2) (hg : goodWord w = true) : w ∈ zg_tbl := zg_of (zt_l2 w h) hg
theorem zt_3 {w : Cond} (h : w ∈ tables_1_3) (hg : goodWord w = true) : w ∈ zg_tbl := zg_of (zt_l3 w h) hg
theorem zt_4 {w : Cond} (h : w ∈ tables_1_4) (hg : goodWord w = true) : w ∈ zg_tbl := zg_of (zt_l4 w h) hg
theorem zt_5 {w : Cond} (h : w ∈ tables_1_5) (hg : goodWord w = true) : w ∈ zg_tbl := zg_of (zt_l5 w h) hg
theorem zt_6 {w : Cond} (h : w ∈ tables_1_6) (hg : goodWord w = true) : w ∈ zg_tbl := zg_of (zt_l6 w h) hg
theorem zt_7 {w : Cond} (h : w ∈ tables_1_7) (hg : goodWord w = true) : w ∈ zg_tbl := zg_of (zt_l7 w h) hg
theorem zt_8 {w : Cond} (h : w ∈ tables_1_8) (hg : goodWord w = true) : w ∈ zg_tbl := zg_of (zt_l8 w h) hg
theorem zt_9 {w : Cond} (h : w ∈ tables_1_9) (hg : goodWord w = true) : w ∈ zg_tbl := zg_of (zt_l9 w h) hg
theorem zt_10 {w : Cond} (h : w ∈ tables_1_10) (hg : goodWord w = true) : w ∈ zg_tbl := zg_of (zt_l10 w h) hg
theorem zt_11 {w : Cond} (h : w ∈ tables_1_11) (hg : goodWord w = true) : w ∈ zg_tbl := zg_of (zt_l11 w h) hg
theorem zt_12 {w : Cond} (h : w ∈ tables_1_12) (hg : goodWord w = true) : w ∈ zg_tbl := zg_of (zt_l12 w h) hg
theorem zt_13 {w : Cond} (h : w ∈ tables_1_13) (hg : goodWord w = true) : w ∈ zg_tbl := zg_of (zt_l13 w h) hg
theorem zt_14 {w : Cond} (h : w ∈ tables_1_14) (hg : goodWord w = true) : w ∈ zg_tbl := zg_of (zt_l14 w h) hg
theorem zs_1 {w : Cond} (h : w ∈ k2_sels lw_privs_1) (hg : goodWord w = true) : w ∈ zg_tbl := zg_of (zs_l1 w h) hg
theorem zs_2 {w : Cond} (h : w ∈ k2_sels lw_privs_2) (hg : goodWord w = true) : w ∈ zg_tbl := zg_of (zs_l2 w h) hg
theorem zs_3 {w : Cond} (h : w ∈ k2_sels lw_privs_3) (hg : goodWord w = true) : w ∈ zg_tbl := zg_of (zs_l3 w h) hg
theorem zs_4 {w : Cond} (h : w ∈ k2_sels lw_privs_4) (hg : goodWord w = true) : w ∈ zg_tbl := zg_of (zs_l4 w h) hg
theorem zs_5 {w : Cond} (h : w ∈ k2_sels lw_privs_5) (hg : goodWord w = true) : w ∈ zg_tbl := zg_of (zs_l5 w h) hg
theorem zs_6 {w : Cond} (h : w ∈ k2_sels lw_privs_6) (hg : goodWord w = true) : w ∈ zg_tbl := zg_of (zs_l6 w h) hg
theorem zs_7 {w : Cond} (h : w ∈ k2_sels lw_privs_7) (hg : goodWord w = true) : w ∈ zg_tbl := zg_of (zs_l7 w h) hg
theorem zs_8 {w : Cond} (h : w ∈ k2_sels lw_privs_8) (hg : goodWord w = true) : w ∈ zg_tbl := zg_of (zs_l8 w h) hg
theorem zs_9 {w : Cond} (h : w ∈ k2_sels lw_privs_9) (hg : goodWord w = true) : w ∈ zg_tbl := zg_of (zs_l9 w h) hg
theorem zs_10 {w : Cond} (h : w ∈ k2_sels lw_privs_10) (hg : goodWord w = true) : w ∈ zg_tbl := zg_of (zs_l10 w h) hg
theorem zs_11 {w : Cond} (h : w ∈ k2_sels lw_privs_11) (hg : goodWord w = true) : w ∈ zg_tbl := zg_of (zs_l11 w h) hg
theorem zs_12 {w : Cond} (h : w ∈ k2_sels lw_privs_12) (hg : goodWord w = true) : w ∈ zg_tbl := zg_of (zs_l12 w h) hg
theorem zs_13 {w : Cond} (h : w ∈ k2_sels lw_privs_13) (hg : goodWord w = true) : w ∈ zg_tbl := zg_of (zs_l13 w h) hg
theorem zs_14 {w : Cond} (h : w ∈ k2_sels lw_privs_14) (hg : goodWord w = true) : w ∈ zg_tbl := zg_of (zs_l14 w h) hg
theorem zs_15 {w : Cond} (h : w ∈ k2_sels lw_privs_15) (hg : goodWord w = true) : w ∈ zg_tbl := zg_of (zs_l15 w h) hg
theorem zs_16 {w : Cond} (h : w ∈ k2_sels lw_privs_16) (hg : goodWord w = true) : w ∈ zg_tbl := zg_of (zs_l16 w h) hg
def zt_ch (j : Nat) : List Cond := match j with
  | 1 => tables_1_1
  | 2 => tables_1_2
  | 3 => tables_1_3
  | 4 => tables_1_4
  | 5 => tables_1_5
  | 6 => tables_1_6
  | 7 => tables_1_7
  | 8 => tables_1_8
  | 9 => tables_1_9
  | 10 => tables_1_10
  | 11 => tables_1_11
  | 12 => tables_1_12
  | 13 => tables_1_13
  | _ => tables_1_14
theorem zt_chin : ∀ (j : Nat) (w : Cond), w ∈ zt_ch j → w ∈ lw_tbl := by
  intro j w h
  unfold zt_ch at h
  split at h
  · exact zt_l1 w h
  · exact zt_l2 w h
  · exact zt_l3 w h
  · exact zt_l4 w h
  · exact zt_l5 w h
  · exact zt_l6 w h
  · exact zt_l7 w h
  · exact zt_l8 w h
  · exact zt_l9 w h
  · exact zt_l10 w h
  · exact zt_l11 w h
  · exact zt_l12 w h
  · exact zt_l13 w h
  · exact zt_l14 w h
theorem zt_layg (C : String) (T : u_T) (k : Nat) : goodWord (u_lay C T k) = true := by
  unfold u_lay
  split <;> rfl
theorem zt_sub {C : String} {T : u_T} {N : Nat} (is : List (Nat × Nat)) (h : is.map (fun q => (zt_ch q.1)[q.2]?) = (u_ws C T N).map some) : ∀ w ∈ u_ws C T N, w ∈ zg_tbl := by
  intro w hw
  have h1 : some w ∈ (u_ws C T N).map some := List.mem_map.mpr ⟨w, hw, rfl⟩
  rw [← h] at h1
  obtain ⟨q, -, hq⟩ := List.mem_map.mp h1
  obtain ⟨k, -, rfl⟩ := List.mem_map.mp hw
  exact zg_of (zt_chin q.1 _ (List.mem_of_getElem? hq)) (zt_layg C T k)
theorem zt_G {y : MethodName} {b : ByteArray} {n : Nat} {r : Option FieldType} (h : Cond.code y b n r ∈ zg_tbl) : GoodIn zg_tbl (Cond.code y b n r :: zg_tbl) := by
  intro w hw
  rcases List.mem_cons.mp hw with rfl | hw
  · exact ⟨h, zg_good h⟩
  · exact ⟨hw, zg_good hw⟩
theorem zt_V {own C : String} {idx : Nat} {y : MethodName} {b : ByteArray} {n : Nat} {r : Option FieldType} (h1 : Cond.methodLink own idx y ∈ zg_tbl) (h2 : Cond.instanceMethod y ∈ zg_tbl) (h3 : Cond.selects C y y ∈ zg_tbl) (h4 : Cond.initialized C ∈ zg_tbl) (h : Cond.code y b n r ∈ zg_tbl) : GoodIn zg_tbl (wsV own idx C y (Cond.code y b n r :: zg_tbl)) := by
  intro w hw
  rcases List.mem_append.mp hw with hw | hw
  · have hm : w ∈ zg_tbl := by
      simp only [List.mem_cons, List.not_mem_nil, or_false] at hw
      rcases hw with rfl | rfl | rfl | rfl
      · exact h1
      · exact h2
      · exact h3
      · exact h4
    exact ⟨hm, zg_good hm⟩
  · exact zt_G h w hw
theorem zt_S {own : String} {idx : Nat} {y : MethodName} {b : ByteArray} {n : Nat} {r : Option FieldType} (h1 : Cond.methodLink own idx y ∈ zg_tbl) (h2 : Cond.static y ∈ zg_tbl) (h3 : Cond.initialized y.cls ∈ zg_tbl) (h : Cond.code y b n r ∈ zg_tbl) : GoodIn zg_tbl (va_wsS own idx y (Cond.code y b n r :: zg_tbl)) := by
  intro w hw
  rcases List.mem_append.mp hw with hw | hw
  · have hm : w ∈ zg_tbl := by
      simp only [List.mem_cons, List.not_mem_nil, or_false] at hw
      rcases hw with rfl | rfl | rfl
      · exact h1
      · exact h2
      · exact h3
    exact ⟨hm, zg_good hm⟩
  · exact zt_G h w hw
section
variable {p : Program} {l : Launch} {e : Env} {R : Room} {s : State} {m : MethodId} {args : Array Value} {below : List Frame} {meth : Method} {c : Code} {H : Heap} {locs : List Loc} {cells slots : Nat} {Q : State → Prop} {pc : Nat} {ls : Array Slot} {rest : List Value}
/-- a computed int under another name -/
theorem zi_top {x y : Int32} (h : x = y) (k : W p l e R s m args below meth c H locs cells slots Q (F0 m pc ls (.int y :: rest))) : W p l e R s m args below meth c H locs cells slots Q (F0 m pc ls (.int x :: rest)) := h ▸ k
theorem zi_topl {x y : Int64} (h : x = y) (k : W p l e R s m args below meth c H locs cells slots Q (F0 m pc ls (.long y :: rest))) : W p l e R s m args below meth c H locs cells slots Q (F0 m pc ls (.long x :: rest)) := h ▸ k
end
theorem zu0 {k : Nat} {x : Int32} (h : x = 0) : upd (fun _ => (0 : Int32)) k x = fun _ => 0 := by
  funext j
  subst h
  simp [upd]
theorem zu1 {f : Nat → Int32} {i k : Nat} {x y : Int32} (hi : i = k) (hx : x = y) : upd f i x = upd f k y := by rw [hi, hx]
theorem zc00 {sp dp n : Nat} : va_cpy (fun _ => (0 : Int32)) (fun _ => 0) sp dp n = fun _ => 0 := by
  funext j
  unfold va_cpy
  split <;> rfl
section
variable {p : Program} {l : Launch} {e : Env} {R : Room} {s : State} {m : MethodId} {args : Array Value} {below : List Frame} {meth : Method} {c : Code} {H : Heap} {locs : List Loc} {cells slots : Nat} {Q : State → Prop}
variable {cc : ByteArray} {pc : Nat} {ls : Array Slot} {rest : List Value} {D : va_G} {cl : List vw_C} {A : Nat → Prop} {a : Nat} {tys : List (ClassId × FieldType)} {ws : va_W} {H0 : Heap}
theorem za_iast (hexec : p.tables.exec = Jvm.exec) (hb : c.code = cc) (hK : va_K D cl tys s) (hP : va_P D cl ws H) (hD : va_D A ws) (hS : va_S A H0 H locs) (q0 t0 : Nat) {cA : ClassId} {n : Nat} {f g : Nat → Int32} (ha : ws[q0]? = some (a, .inl (cA, n, .inl f))) (ht : tys[t0]? = some (cA, .int)) {i x : Int32} (hin : vp_in i n) (hg : upd f i.toNatClampNeg x = g) (hdg : decode cc pc = .ok (.iastore, 1))
    (kk : ∀ (H1 : Heap) (locs1 : List Loc), va_P D cl (ws.set q0 (a, .inl (cA, n, .inl g))) H1 → va_D A (ws.set q0 (a, .inl (cA, n, .inl g))) → va_S A H0 H1 locs1 → W p l e R s m args below meth c H1 locs1 cells slots Q (F0 m (pc + 1) ls rest)) : W p l e R s m args below meth c H locs cells slots Q (F0 m pc ls (.int x :: .int i :: .ref a :: rest)) := by
  subst hg
  exact va_iast hexec hb hK hP hD hS q0 t0 ha ht hin hdg kk
theorem za_bast (hexec : p.tables.exec = Jvm.exec) (hb : c.code = cc) (hK : va_K D cl tys s) (hP : va_P D cl ws H) (hD : va_D A ws) (hS : va_S A H0 H locs) (q0 t0 : Nat) {cA : ClassId} {n : Nat} {f g : Nat → Int32} (ha : ws[q0]? = some (a, .inl (cA, n, .inl f))) (ht : tys[t0]? = some (cA, .byte)) {i x : Int32} (hin : vp_in i n) (hg : upd f i.toNatClampNeg (vp_nar .byte x) = g) (hdg : decode cc pc = .ok (.bastore, 1))
    (kk : ∀ (H1 : Heap) (locs1 : List Loc), va_P D cl (ws.set q0 (a, .inl (cA, n, .inl g))) H1 → va_D A (ws.set q0 (a, .inl (cA, n, .inl g))) → va_S A H0 H1 locs1 → W p l e R s m args below meth c H1 locs1 cells slots Q (F0 m (pc + 1) ls rest)) : W p l e R s m args below meth c H locs cells slots Q (F0 m pc ls (.int x :: .int i :: .ref a :: rest)) := by
  subst hg
  exact va_bast hexec hb hK hP hD hS q0 t0 ha ht hin hdg kk
theorem za_zast (hexec : p.tables.exec = Jvm.exec) (hb : c.code = cc) (hK : va_K D cl tys s) (hP : va_P D cl ws H) (hD : va_D A ws) (hS : va_S A H0 H locs) (q0 t0 : Nat) {cA : ClassId} {n : Nat} {f g : Nat → Int32} (ha : ws[q0]? = some (a, .inl (cA, n, .inl f))) (ht : tys[t0]? = some (cA, .boolean)) {i x : Int32} (hin : vp_in i n) (hg : upd f i.toNatClampNeg (vp_nar .boolean x) = g) (hdg : decode cc pc = .ok (.bastore, 1))
    (kk : ∀ (H1 : Heap) (locs1 : List Loc), va_P D cl (ws.set q0 (a, .inl (cA, n, .inl g))) H1 → va_D A (ws.set q0 (a, .inl (cA, n, .inl g))) → va_S A H0 H1 locs1 → W p l e R s m args below meth c H1 locs1 cells slots Q (F0 m (pc + 1) ls rest)) : W p l e R s m args below meth c H locs cells slots Q (F0 m pc ls (.int x :: .int i :: .ref a :: rest)) := by
  subst hg
  exact va_zast hexec hb hK hP hD hS q0 t0 ha ht hin hdg kk
theorem za_last (hexec : p.tables.exec = Jvm.exec) (hb : c.code = cc) (hK : va_K D cl tys s) (hP : va_P D cl ws H) (hD : va_D A ws) (hS : va_S A H0 H locs) (q0 t0 : Nat) {cA : ClassId} {n : Nat} {f g : Nat → Int64} (ha : ws[q0]? = some (a, .inl (cA, n, .inr (.inl f)))) (ht : tys[t0]? = some (cA, .long)) {i : Int32} {x : Int64} (hin : vp_in i n) (hg : vp_updL f i.toNatClampNeg x = g) (hdg : decode cc pc = .ok (.lastore, 1))
    (kk : ∀ (H1 : Heap) (locs1 : List Loc), va_P D cl (ws.set q0 (a, .inl (cA, n, .inr (.inl g)))) H1 → va_D A (ws.set q0 (a, .inl (cA, n, .inr (.inl g)))) → va_S A H0 H1 locs1 → W p l e R s m args below meth c H1 locs1 cells slots Q (F0 m (pc + 1) ls rest)) : W p l e R s m args below meth c H locs cells slots Q (F0 m pc ls (.long x :: .int i :: .ref a :: rest)) := by
  subst hg
  exact va_last hexec hb hK hP hD hS q0 t0 ha ht hin hdg kk
end
/-- an array of references by the list of what it holds -/
def zq (l : List Nat) : Nat → Option Nat := fun i => l[i]?
theorem zl_s {n : Nat} {L : List Nat} (h : L.length = n + 1) : ∃ (r : Nat) (K : List Nat), L = r :: K ∧ K.length = n := by
  cases L with
  | nil => cases h
  | cons r K => exact ⟨r, K, rfl, Nat.succ.inj h⟩
theorem zl_2 : ∀ L : List Nat, L.length = 2 → ∃ r0 r1 : Nat, L = [r0, r1] := by
  intro L h0
  obtain ⟨r0, L, rfl, h1⟩ := zl_s h0
  obtain ⟨r1, L, rfl, h2⟩ := zl_s h1
  obtain rfl : L = [] := List.length_eq_zero_iff.mp h2
  exact ⟨r0, r1, rfl⟩
theorem zl_5 : ∀ L : List Nat, L.length = 5 → ∃ r0 r1 r2 r3 r4 : Nat, L = [r0, r1, r2, r3, r4] := by
  intro L h0
  obtain ⟨r0, L, rfl, h1⟩ := zl_s h0
  obtain ⟨r1, L, rfl, h2⟩ := zl_s h1
  obtain ⟨r2, L, rfl, h3⟩ := zl_s h2
  obtain ⟨r3, L, rfl, h4⟩ := zl_s h3
  obtain ⟨r4, L, rfl, h5⟩ := zl_s h4
  obtain rfl : L = [] := List.length_eq_zero_iff.mp h5
  exact ⟨r0, r1, r2, r3, r4, rfl⟩
theorem zl_10 : ∀ L : List Nat, L.length = 10 → ∃ r0 r1 r2 r3 r4 r5 r6 r7 r8 r9 : Nat, L = [r0, r1, r2, r3, r4, r5, r6, r7, r8, r9] := by
  intro L h0
  obtain ⟨r0, L, rfl, h1⟩ := zl_s h0
  obtain ⟨r1, L, rfl, h2⟩ := zl_s h1
  obtain ⟨r2, L, rfl, h3⟩ := zl_s h2
  obtain ⟨r3, L, rfl, h4⟩ := zl_s h3
  obtain ⟨r4, L, rfl, h5⟩ := zl_s h4
  obtain ⟨r5, L, rfl, h6⟩ := zl_s h5
  obtain ⟨r6, L, rfl, h7⟩ := zl_s h6
  obtain ⟨r7, L, rfl, h8⟩ := zl_s h7
  obtain ⟨r8, L, rfl, h9⟩ := zl_s h8
  obtain ⟨r9, L, rfl, h10⟩ := zl_s h9
  obtain rfl : L = [] := List.length_eq_zero_iff.mp h10
  exact ⟨r0, r1, r2, r3, r4, r5, r6, r7, r8, r9, rfl⟩
theorem zl_37 : ∀ L : List Nat, L.length = 37 → ∃ r0 r1 r2 r3 r4 r5 r6 r7 r8 r9 r10 r11 r12 r13 r14 r15 r16 r17 r18 r19 r20 r21 r22 r23 r24 r25 r26 r27 r28 r29 r30 r31 r32 r33 r34 r35 r36 : Nat, L = [r0, r1, r2, r3, r4, r5, r6, r7, r8, r9, r10, r11, r12, r13, r14, r15, r16, r17, r18, r19, r20, r21, r22, r23, r24, r25, r26, r27, r28, r29, r30, r31, r32, r33, r34, r35, r36] := by
  intro L h0
  obtain ⟨r0, L, rfl, h1⟩ := zl_s h0
  obtain ⟨r1, L, rfl, h2⟩ := zl_s h1
  obtain ⟨r2, L, rfl, h3⟩ := zl_s h2
  obtain ⟨r3, L, rfl, h4⟩ := zl_s h3
  obtain ⟨r4, L, rfl, h5⟩ := zl_s h4
  obtain ⟨r5, L, rfl, h6⟩ := zl_s h5
  obtain ⟨r6, L, rfl, h7⟩ := zl_s h6
  obtain ⟨r7, L, rfl, h8⟩ := zl_s h7
  obtain ⟨r8, L, rfl, h9⟩ := zl_s h8
  obtain ⟨r9, L, rfl, h10⟩ := zl_s h9
  obtain ⟨r10, L, rfl, h11⟩ := zl_s h10
  obtain ⟨r11, L, rfl, h12⟩ := zl_s h11
  obtain ⟨r12, L, rfl, h13⟩ := zl_s h12
  obtain ⟨r13, L, rfl, h14⟩ := zl_s h13
  obtain ⟨r14, L, rfl, h15⟩ := zl_s h14
  obtain ⟨r15, L, rfl, h16⟩ := zl_s h15
  obtain ⟨r16, L, rfl, h17⟩ := zl_s h16
  obtain ⟨r17, L, rfl, h18⟩ := zl_s h17
  obtain ⟨r18, L, rfl, h19⟩ := zl_s h18
  obtain ⟨r19, L, rfl, h20⟩ := zl_s h19
  obtain ⟨r20, L, rfl, h21⟩ := zl_s h20
  obtain ⟨r21, L, rfl, h22⟩ := zl_s h21
  obtain ⟨r22, L, rfl, h23⟩ := zl_s h22
  obtain ⟨r23, L, rfl, h24⟩ := zl_s h23
  obtain ⟨r24, L, rfl, h25⟩ := zl_s h24
  obtain ⟨r25, L, rfl, h26⟩ := zl_s h25
  obtain ⟨r26, L, rfl, h27⟩ := zl_s h26
  obtain ⟨r27, L, rfl, h28⟩ := zl_s h27
  obtain ⟨r28, L, rfl, h29⟩ := zl_s h28
  obtain ⟨r29, L, rfl, h30⟩ := zl_s h29
  obtain ⟨r30, L, rfl, h31⟩ := zl_s h30
  obtain ⟨r31, L, rfl, h32⟩ := zl_s h31
  obtain ⟨r32, L, rfl, h33⟩ := zl_s h32
  obtain ⟨r33, L, rfl, h34⟩ := zl_s h33
  obtain ⟨r34, L, rfl, h35⟩ := zl_s h34
  obtain ⟨r35, L, rfl, h36⟩ := zl_s h35
  obtain ⟨r36, L, rfl, h37⟩ := zl_s h36
  obtain rfl : L = [] := List.length_eq_zero_iff.mp h37
  exact ⟨r0, r1, r2, r3, r4, r5, r6, r7, r8, r9, r10, r11, r12, r13, r14, r15, r16, r17, r18, r19, r20, r21, r22, r23, r24, r25, r26, r27, r28, r29, r30, r31, r32, r33, r34, r35, r36, rfl⟩
theorem zAO_moved {u U : State} (hvm : u.vm.Alike U.vm) (h : (Cond.arrayOver (.array .int)).before #[] u = true) : (Cond.arrayOver (.array .int)).before #[] U = true := by
  obtain ⟨comp, c, k, h1, h2, h3, h4, h5⟩ := arrayOverA_spec h
  obtain ⟨k', hk', he⟩ := hvm.2.2 _ _ h3
  have hi : (U.vm.classes.findIdx? fun (x : Class) => match x.kind with | .array component _ => component == comp | _ => false) = some c := by
    have e1 := va_idx_bare U.vm comp
    have e2 := va_idx_bare u.vm comp
    have e3 : U.vm.bare = u.vm.bare := by first | exact hvm.bare_eq | exact hvm.bare_eq.symm
    rw [e3] at e1
    exact e1.symm.trans (e2.trans h2)
  have hkind : k'.kind = .array comp (.array .int) := by rw [he]; exact h4
  have f1 : U.vm.findClass (FieldType.array .int).toString = some comp := by rw [hvm.findClass]; exact h1
  have f2 : U.vm.findClass ("[" ++ (FieldType.array .int).toString) = some c := by rw [hvm.findClass]; exact h5
  unfold Cond.before Cond.holds
  simp only [Cond.value]
  rw [f1, Option.bind_some]
  refine (congrArg (fun o : Option Nat => (o.bind (fun c => (U.vm.classes[c]?).map fun (k : Class) => match k.kind with | .array _ ty => decide (ty = FieldType.array .int) && decide (U.vm.findClass ("[" ++ (FieldType.array .int).toString) = some c) | _ => false) == some true)) hi).trans ?_
  simp [hk', hkind, f2]
def zX (U : State) : Prop := va_Nw (.methodLinkNest "CellDecide" 15 ⟨"CellDecide$Statement", "<init>", "()V"⟩ "CellDecide") U ∧ va_Nw (.fieldLinkNest "CellDecide$Line" 65 "CellDecide$Curves" "polys" "LCellDecide$Polys;" "CellDecide") U ∧ va_Nw (.methodLinkNest "CellDecide$Line" 79 ⟨"CellDecide$Root", "<init>", "()V"⟩ "CellDecide") U ∧ va_Nw (.methodLinkNest "CellDecide$Roots" 68 ⟨"CellDecide$Root", "<init>", "()V"⟩ "CellDecide") U ∧ (Cond.arrayOver (.array .int)).before #[] U = true ∧ va_AO "CellDecide$Root" U ∧ va_AO "java/lang/Object" U
theorem zX.warm {s U : State} (hW : s.WarmedH U.vm) (h : zX s) : zX U := by
  obtain ⟨h0, h1, h2, h3, h4, h5, h6⟩ := h
  exact ⟨va_Nw.warmM hW h0, va_Nw.warmF hW h1, va_Nw.warmM hW h2, va_Nw.warmM hW h3, zAO_moved hW.alike h4, va_AO.moved hW.alike h5, va_AO.moved hW.alike h6⟩
theorem zX.call {U : State} {g : JFrame} {mk : MethodId} {a : Array Value} (h : zX U) : zX (U.calling g mk a) := by
  obtain ⟨h0, h1, h2, h3, h4, h5, h6⟩ := h
  exact ⟨va_Nw.same rfl rfl h0, va_Nw.same rfl rfl h1, va_Nw.same rfl rfl h2, va_Nw.same rfl rfl h3, zAO_moved (Vm.Alike.refl U.vm) h4, va_AO.moved (Vm.Alike.refl U.vm) h5, va_AO.moved (Vm.Alike.refl U.vm) h6⟩
