/-- the words that stay true as tables warm -/
def px_tb : List Cond := lw_tbl.filter goodWord
theorem px_tbm {w : Cond} (h : w ∈ lw_tbl) (g : goodWord w = true) : w ∈ px_tb := List.mem_filter.mpr ⟨h, g⟩
theorem px_in_0 : (List.range 4).all (fun k => decide (lw_tbl[([428, 430, 432, 434] : List Nat).getD k 0]? = some (u_lay RX0 TX0 k))) = true := by decide +kernel
theorem px_dc_0 : (List.range 4).all (fun k => decide ((TX0 k).1 = RX0)) = true := by decide +kernel
theorem px_in_1 : (List.range 13).all (fun k => decide (lw_tbl[([336, 338, 340, 342, 344, 346, 348, 350, 352, 354, 356, 358, 360] : List Nat).getD k 0]? = some (u_lay RX1 TX1 k))) = true := by decide +kernel
theorem px_dc_1 : (List.range 13).all (fun k => decide ((TX1 k).1 = RX1)) = true := by decide +kernel
theorem px_in_2 : (List.range 8).all (fun k => decide (lw_tbl[([234, 236, 238, 240, 242, 244, 246, 248] : List Nat).getD k 0]? = some (u_lay RX2 TX2 k))) = true := by decide +kernel
theorem px_dc_2 : (List.range 8).all (fun k => decide ((TX2 k).1 = RX2)) = true := by decide +kernel
theorem px_in_3 : (List.range 3).all (fun k => decide (lw_tbl[([257, 259, 261] : List Nat).getD k 0]? = some (u_lay RX3 TX3 k))) = true := by decide +kernel
theorem px_dc_3 : (List.range 3).all (fun k => decide ((TX3 k).1 = RX3)) = true := by decide +kernel
theorem px_in_4 : (List.range 5).all (fun k => decide (lw_tbl[([403, 405, 407, 409, 411] : List Nat).getD k 0]? = some (u_lay RX4 TX4 k))) = true := by decide +kernel
theorem px_dc_4 : (List.range 5).all (fun k => decide ((TX4 k).1 = RX4)) = true := by decide +kernel
theorem px_in_5 : (List.range 4).all (fun k => decide (lw_tbl[([303, 305, 307, 309] : List Nat).getD k 0]? = some (u_lay RX6 TX6 k))) = true := by decide +kernel
theorem px_dc_5 : (List.range 4).all (fun k => decide ((TX6 k).1 = RX6)) = true := by decide +kernel
theorem px_in_6 : (List.range 3).all (fun k => decide (lw_tbl[([277, 279, 281] : List Nat).getD k 0]? = some (u_lay RX7 TX7 k))) = true := by decide +kernel
theorem px_dc_6 : (List.range 3).all (fun k => decide ((TX7 k).1 = RX7)) = true := by decide +kernel
theorem px_in_7 : (List.range 6).all (fun k => decide (lw_tbl[([180, 182, 184, 186, 188, 190] : List Nat).getD k 0]? = some (u_lay RX8 TX8 k))) = true := by decide +kernel
theorem px_dc_7 : (List.range 6).all (fun k => decide ((TX8 k).1 = RX8)) = true := by decide +kernel
theorem px_in_8 : (List.range 2).all (fun k => decide (lw_tbl[([150, 152] : List Nat).getD k 0]? = some (u_lay RX9 TX9 k))) = true := by decide +kernel
theorem px_dc_8 : (List.range 2).all (fun k => decide ((TX9 k).1 = RX9)) = true := by decide +kernel
theorem px_in_9 : (List.range 4).all (fun k => decide (lw_tbl[([377, 379, 381, 383] : List Nat).getD k 0]? = some (u_lay RX10 TX10 k))) = true := by decide +kernel
theorem px_dc_9 : (List.range 4).all (fun k => decide ((TX10 k).1 = RX10)) = true := by decide +kernel
theorem px_in_10 : (List.range 11).all (fun k => decide (lw_tbl[([448, 450, 452, 454, 456, 458, 460, 462, 464, 466, 468] : List Nat).getD k 0]? = some (u_lay RX11 TX11 k))) = true := by decide +kernel
theorem px_dc_10 : (List.range 11).all (fun k => decide ((TX11 k).1 = RX11)) = true := by decide +kernel
theorem px_in_11 : (List.range 36).all (fun k => decide (lw_tbl[([1178, 1180, 1182, 1184, 1186, 1188, 1190, 1192, 1194, 1196, 1198, 1200, 1202, 1204, 1206, 1208, 1210, 1212, 1214, 1216, 1218, 1220, 1222, 1224, 1226, 1228, 1230, 1232, 1234, 1236, 1238, 1240, 1242, 1244, 1246, 1248] : List Nat).getD k 0]? = some (u_lay RX12 TX12 k))) = true := by decide +kernel
theorem px_dc_11 : (List.range 36).all (fun k => decide ((TX12 k).1 = RX12)) = true := by decide +kernel
theorem px_in_of {N : Nat} {ps : List Nat} {C : String} {T : u_T} (h : (List.range N).all (fun k => decide (lw_tbl[ps.getD k 0]? = some (u_lay C T k))) = true) : ∀ w ∈ u_ws C T N, w ∈ px_tb := by
  intro w hw
  obtain ⟨k, hk, rfl⟩ := List.mem_map.mp hw
  refine px_tbm (List.mem_of_getElem? (of_decide_eq_true (List.all_eq_true.mp h k hk))) ?_
  unfold u_lay
  split <;> rfl
theorem px_ws_in : ∀ (c : Nat) (C : vw_C), vwCl[c]? = some C → ∀ w ∈ u_ws C.1 C.2.1 C.2.2, w ∈ px_tb := by
  intro c C h
  match c, h with
  | 0, h => cases h; exact px_in_of px_in_0
  | 1, h => cases h; exact px_in_of px_in_1
  | 2, h => cases h; exact px_in_of px_in_2
  | 3, h => cases h; exact px_in_of px_in_3
  | 4, h => cases h; exact px_in_of px_in_4
  | 5, h => cases h; exact px_in_of px_in_5
  | 6, h => cases h; exact px_in_of px_in_6
  | 7, h => cases h; exact px_in_of px_in_7
  | 8, h => cases h; exact px_in_of px_in_8
  | 9, h => cases h; exact px_in_of px_in_9
  | 10, h => cases h; exact px_in_of px_in_10
  | 11, h => cases h; exact px_in_of px_in_11
  | c + 12, h => exact absurd h (by simp [vwCl])
theorem px_ty_of : ∀ (c : Nat) (C : vw_C), vwCl[c]? = some C → ∃ f, px_TY[c]? = some f ∧ ∀ k, k < C.2.2 → parseFieldDescriptor (C.2.1 k).2.2.1 = some (f k) := by
  intro c C h
  match c, h with
  | 0, h => cases h; exact ⟨_, rfl, tyX0_ok⟩
  | 1, h => cases h; exact ⟨_, rfl, tyX1_ok⟩
  | 2, h => cases h; exact ⟨_, rfl, tyX2_ok⟩
  | 3, h => cases h; exact ⟨_, rfl, tyX3_ok⟩
  | 4, h => cases h; exact ⟨_, rfl, tyX4_ok⟩
  | 5, h => cases h; exact ⟨_, rfl, tyX6_ok⟩
  | 6, h => cases h; exact ⟨_, rfl, tyX7_ok⟩
  | 7, h => cases h; exact ⟨_, rfl, tyX8_ok⟩
  | 8, h => cases h; exact ⟨_, rfl, tyX9_ok⟩
  | 9, h => cases h; exact ⟨_, rfl, tyX10_ok⟩
  | 10, h => cases h; exact ⟨_, rfl, tyX11_ok⟩
  | 11, h => cases h; exact ⟨_, rfl, tyX12_ok⟩
  | c + 12, h => exact absurd h (by simp [vwCl])
theorem px_nm_of : ∀ (c : Nat) (C : vw_C), vwCl[c]? = some C → ∀ a, a < C.2.2 → ∀ b, b < C.2.2 → a ≠ b → (C.2.1 a).2.1 ≠ (C.2.1 b).2.1 := by
  intro c C h
  match c, h with
  | 0, h => cases h; exact nmX0
  | 1, h => cases h; exact nmX1
  | 2, h => cases h; exact nmX2
  | 3, h => cases h; exact nmX3
  | 4, h => cases h; exact nmX4
  | 5, h => cases h; exact nmX6
  | 6, h => cases h; exact nmX7
  | 7, h => cases h; exact nmX8
  | 8, h => cases h; exact nmX9
  | 9, h => cases h; exact nmX10
  | 10, h => cases h; exact nmX11
  | 11, h => cases h; exact nmX12
  | c + 12, h => exact absurd h (by simp [vwCl])
theorem px_ow_of : ∀ (c : Nat) (C : vw_C), vwCl[c]? = some C → ∃ o, px_OW[c]? = some o ∧ px_R[o]? = some C.1 := by
  intro c C h
  match c, h with
  | 0, h => cases h; exact ⟨_, rfl, rfl⟩
  | 1, h => cases h; exact ⟨_, rfl, rfl⟩
  | 2, h => cases h; exact ⟨_, rfl, rfl⟩
  | 3, h => cases h; exact ⟨_, rfl, rfl⟩
  | 4, h => cases h; exact ⟨_, rfl, rfl⟩
  | 5, h => cases h; exact ⟨_, rfl, rfl⟩
  | 6, h => cases h; exact ⟨_, rfl, rfl⟩
  | 7, h => cases h; exact ⟨_, rfl, rfl⟩
  | 8, h => cases h; exact ⟨_, rfl, rfl⟩
  | 9, h => cases h; exact ⟨_, rfl, rfl⟩
  | 10, h => cases h; exact ⟨_, rfl, rfl⟩
  | 11, h => cases h; exact ⟨_, rfl, rfl⟩
  | c + 12, h => exact absurd h (by simp [vwCl])
theorem px_dc_of : ∀ (c : Nat) (C : vw_C), vwCl[c]? = some C → ∀ k, k < C.2.2 → (C.2.1 k).1 = C.1 := by
  intro c C h
  match c, h with
  | 0, h => cases h; exact fun k hk => of_decide_eq_true (List.all_eq_true.mp px_dc_0 k (List.mem_range.mpr hk))
  | 1, h => cases h; exact fun k hk => of_decide_eq_true (List.all_eq_true.mp px_dc_1 k (List.mem_range.mpr hk))
  | 2, h => cases h; exact fun k hk => of_decide_eq_true (List.all_eq_true.mp px_dc_2 k (List.mem_range.mpr hk))
  | 3, h => cases h; exact fun k hk => of_decide_eq_true (List.all_eq_true.mp px_dc_3 k (List.mem_range.mpr hk))
  | 4, h => cases h; exact fun k hk => of_decide_eq_true (List.all_eq_true.mp px_dc_4 k (List.mem_range.mpr hk))
  | 5, h => cases h; exact fun k hk => of_decide_eq_true (List.all_eq_true.mp px_dc_5 k (List.mem_range.mpr hk))
  | 6, h => cases h; exact fun k hk => of_decide_eq_true (List.all_eq_true.mp px_dc_6 k (List.mem_range.mpr hk))
  | 7, h => cases h; exact fun k hk => of_decide_eq_true (List.all_eq_true.mp px_dc_7 k (List.mem_range.mpr hk))
  | 8, h => cases h; exact fun k hk => of_decide_eq_true (List.all_eq_true.mp px_dc_8 k (List.mem_range.mpr hk))
  | 9, h => cases h; exact fun k hk => of_decide_eq_true (List.all_eq_true.mp px_dc_9 k (List.mem_range.mpr hk))
  | 10, h => cases h; exact fun k hk => of_decide_eq_true (List.all_eq_true.mp px_dc_10 k (List.mem_range.mpr hk))
  | 11, h => cases h; exact fun k hk => of_decide_eq_true (List.all_eq_true.mp px_dc_11 k (List.mem_range.mpr hk))
  | c + 12, h => exact absurd h (by simp [vwCl])
theorem px_frc_all : ∀ e ∈ px_FR, px_frc e = true := List.forall_mem_append.mpr ⟨fun e h => List.all_eq_true.mp px_frc_0 e h, List.forall_mem_append.mpr ⟨fun e h => List.all_eq_true.mp px_frc_1 e h, List.forall_mem_append.mpr ⟨fun e h => List.all_eq_true.mp px_frc_2 e h, List.forall_mem_append.mpr ⟨fun e h => List.all_eq_true.mp px_frc_3 e h, List.forall_mem_append.mpr ⟨fun e h => List.all_eq_true.mp px_frc_4 e h, List.forall_mem_append.mpr ⟨fun e h => List.all_eq_true.mp px_frc_5 e h, List.forall_mem_append.mpr ⟨fun e h => List.all_eq_true.mp px_frc_6 e h, List.forall_mem_append.mpr ⟨fun e h => List.all_eq_true.mp px_frc_7 e h, List.forall_mem_append.mpr ⟨fun e h => List.all_eq_true.mp px_frc_8 e h, List.forall_mem_append.mpr ⟨fun e h => List.all_eq_true.mp px_frc_9 e h, fun e h => List.all_eq_true.mp px_frc_10 e h⟩⟩⟩⟩⟩⟩⟩⟩⟩⟩
theorem px_crc_all : ∀ e ∈ px_CR, px_crc e = true := List.forall_mem_append.mpr ⟨fun e h => List.all_eq_true.mp px_crc_0 e h, List.forall_mem_append.mpr ⟨fun e h => List.all_eq_true.mp px_crc_1 e h, List.forall_mem_append.mpr ⟨fun e h => List.all_eq_true.mp px_crc_2 e h, List.forall_mem_append.mpr ⟨fun e h => List.all_eq_true.mp px_crc_3 e h, List.forall_mem_append.mpr ⟨fun e h => List.all_eq_true.mp px_crc_4 e h, List.forall_mem_append.mpr ⟨fun e h => List.all_eq_true.mp px_crc_5 e h, List.forall_mem_append.mpr ⟨fun e h => List.all_eq_true.mp px_crc_6 e h, List.forall_mem_append.mpr ⟨fun e h => List.all_eq_true.mp px_crc_7 e h, List.forall_mem_append.mpr ⟨fun e h => List.all_eq_true.mp px_crc_8 e h, List.forall_mem_append.mpr ⟨fun e h => List.all_eq_true.mp px_crc_9 e h, List.forall_mem_append.mpr ⟨fun e h => List.all_eq_true.mp px_crc_10 e h, List.forall_mem_append.mpr ⟨fun e h => List.all_eq_true.mp px_crc_11 e h, List.forall_mem_append.mpr ⟨fun e h => List.all_eq_true.mp px_crc_12 e h, List.forall_mem_append.mpr ⟨fun e h => List.all_eq_true.mp px_crc_13 e h, List.forall_mem_append.mpr ⟨fun e h => List.all_eq_true.mp px_crc_14 e h, List.forall_mem_append.mpr ⟨fun e h => List.all_eq_true.mp px_crc_15 e h, List.forall_mem_append.mpr ⟨fun e h => List.all_eq_true.mp px_crc_16 e h, List.forall_mem_append.mpr ⟨fun e h => List.all_eq_true.mp px_crc_17 e h, List.forall_mem_append.mpr ⟨fun e h => List.all_eq_true.mp px_crc_18 e h, List.forall_mem_append.mpr ⟨fun e h => List.all_eq_true.mp px_crc_19 e h, List.forall_mem_append.mpr ⟨fun e h => List.all_eq_true.mp px_crc_20 e h, List.forall_mem_append.mpr ⟨fun e h => List.all_eq_true.mp px_crc_21 e h, fun e h => List.all_eq_true.mp px_crc_22 e h⟩⟩⟩⟩⟩⟩⟩⟩⟩⟩⟩⟩⟩⟩⟩⟩⟩⟩⟩⟩⟩⟩
set_option maxRecDepth 100000 in
theorem px_mt_all : ∀ q ∈ px_MT, px_mtc q = true ∨ q = px_m_307 ∨ q = px_m_308 ∨ q = px_m_309 := List.forall_mem_cons.mpr ⟨Or.inl px_mtc_0, List.forall_mem_cons.mpr ⟨Or.inl px_mtc_1, List.forall_mem_cons.mpr ⟨Or.inl px_mtc_2, List.forall_mem_cons.mpr ⟨Or.inl px_mtc_3, List.forall_mem_cons.mpr ⟨Or.inl px_mtc_4, List.forall_mem_cons.mpr ⟨Or.inl px_mtc_5, List.forall_mem_cons.mpr ⟨Or.inl px_mtc_6, List.forall_mem_cons.mpr ⟨Or.inl px_mtc_7, List.forall_mem_cons.mpr ⟨Or.inl px_mtc_8, List.forall_mem_cons.mpr ⟨Or.inl px_mtc_9, List.forall_mem_cons.mpr ⟨Or.inl px_mtc_10, List.forall_mem_cons.mpr ⟨Or.inl px_mtc_11, List.forall_mem_cons.mpr ⟨Or.inl px_mtc_12, List.forall_mem_cons.mpr ⟨Or.inl px_mtc_13, List.forall_mem_cons.mpr ⟨Or.inl px_mtc_14, List.forall_mem_cons.mpr ⟨Or.inl px_mtc_15, List.forall_mem_cons.mpr ⟨Or.inl px_mtc_16, List.forall_mem_cons.mpr ⟨Or.inl px_mtc_17, List.forall_mem_cons.mpr ⟨Or.inl px_mtc_18, List.forall_mem_cons.mpr ⟨Or.inl px_mtc_19, List.forall_mem_cons.mpr ⟨Or.inl px_mtc_20, List.forall_mem_cons.mpr ⟨Or.inl px_mtc_21, List.forall_mem_cons.mpr ⟨Or.inl px_mtc_22, List.forall_mem_cons.mpr ⟨Or.inl px_mtc_23, List.forall_mem_cons.mpr ⟨Or.inl px_mtc_24, List.forall_mem_cons.mpr ⟨Or.inl px_mtc_25, List.forall_mem_cons.mpr ⟨Or.inl px_mtc_26, List.forall_mem_cons.mpr ⟨Or.inl px_mtc_27, List.forall_mem_cons.mpr ⟨Or.inl px_mtc_28, List.forall_mem_cons.mpr ⟨Or.inl px_mtc_29, List.forall_mem_cons.mpr ⟨Or.inl px_mtc_30, List.forall_mem_cons.mpr ⟨Or.inl px_mtc_31, List.forall_mem_cons.mpr ⟨Or.inl px_mtc_32, List.forall_mem_cons.mpr ⟨Or.inl px_mtc_33, List.forall_mem_cons.mpr ⟨Or.inl px_mtc_34, List.forall_mem_cons.mpr ⟨Or.inl px_mtc_35, List.forall_mem_cons.mpr ⟨Or.inl px_mtc_36, List.forall_mem_cons.mpr ⟨Or.inl px_mtc_37, List.forall_mem_cons.mpr ⟨Or.inl px_mtc_38, List.forall_mem_cons.mpr ⟨Or.inl px_mtc_39, List.forall_mem_cons.mpr ⟨Or.inl px_mtc_40, List.forall_mem_cons.mpr ⟨Or.inl px_mtc_41, List.forall_mem_cons.mpr ⟨Or.inl px_mtc_42, List.forall_mem_cons.mpr ⟨Or.inl px_mtc_43, List.forall_mem_cons.mpr ⟨Or.inl px_mtc_44, List.forall_mem_cons.mpr ⟨Or.inl px_mtc_45, List.forall_mem_cons.mpr ⟨Or.inl px_mtc_46, List.forall_mem_cons.mpr ⟨Or.inl px_mtc_47, List.forall_mem_cons.mpr ⟨Or.inl px_mtc_48, List.forall_mem_cons.mpr ⟨Or.inl px_mtc_49, List.forall_mem_cons.mpr ⟨Or.inl px_mtc_50, List.forall_mem_cons.mpr ⟨Or.inl px_mtc_51, List.forall_mem_cons.mpr ⟨Or.inl px_mtc_52, List.forall_mem_cons.mpr ⟨Or.inl px_mtc_53, List.forall_mem_cons.mpr ⟨Or.inl px_mtc_54, List.forall_mem_cons.mpr ⟨Or.inl px_mtc_55, List.forall_mem_cons.mpr ⟨Or.inl px_mtc_56, List.forall_mem_cons.mpr ⟨Or.inl px_mtc_57, List.forall_mem_cons.mpr ⟨Or.inl px_mtc_58, List.forall_mem_cons.mpr ⟨Or.inl px_mtc_59, List.forall_mem_cons.mpr ⟨Or.inl px_mtc_60, List.forall_mem_cons.mpr ⟨Or.inl px_mtc_61, List.forall_mem_cons.mpr ⟨Or.inl px_mtc_62, List.forall_mem_cons.mpr ⟨Or.inl px_mtc_63, List.forall_mem_cons.mpr ⟨Or.inl px_mtc_64, List.forall_mem_cons.mpr ⟨Or.inl px_mtc_65, List.forall_mem_cons.mpr ⟨Or.inl px_mtc_66, List.forall_mem_cons.mpr ⟨Or.inl px_mtc_67, List.forall_mem_cons.mpr ⟨Or.inl px_mtc_68, List.forall_mem_cons.mpr ⟨Or.inl px_mtc_69, List.forall_mem_cons.mpr ⟨Or.inl px_mtc_70, List.forall_mem_cons.mpr ⟨Or.inl px_mtc_71, List.forall_mem_cons.mpr ⟨Or.inl px_mtc_72, List.forall_mem_cons.mpr ⟨Or.inl px_mtc_73, List.forall_mem_cons.mpr ⟨Or.inl px_mtc_74, List.forall_mem_cons.mpr ⟨Or.inl px_mtc_75, List.forall_mem_cons.mpr ⟨Or.inl px_mtc_76, List.forall_mem_cons.mpr ⟨Or.inl px_mtc_77, List.forall_mem_cons.mpr ⟨Or.inl px_mtc_78, List.forall_mem_cons.mpr ⟨Or.inl px_mtc_79, List.forall_mem_cons.mpr ⟨Or.inl px_mtc_80, List.forall_mem_cons.mpr ⟨Or.inl px_mtc_81, List.forall_mem_cons.mpr ⟨Or.inl px_mtc_82, List.forall_mem_cons.mpr ⟨Or.inl px_mtc_83, List.forall_mem_cons.mpr ⟨Or.inl px_mtc_84, List.forall_mem_cons.mpr ⟨Or.inl px_mtc_85, List.forall_mem_cons.mpr ⟨Or.inl px_mtc_86, List.forall_mem_cons.mpr ⟨Or.inl px_mtc_87, List.forall_mem_cons.mpr ⟨Or.inl px_mtc_88, List.forall_mem_cons.mpr ⟨Or.inl px_mtc_89, List.forall_mem_cons.mpr ⟨Or.inl px_mtc_90, List.forall_mem_cons.mpr ⟨Or.inl px_mtc_91, List.forall_mem_cons.mpr ⟨Or.inl px_mtc_92, List.forall_mem_cons.mpr ⟨Or.inl px_mtc_93, List.forall_mem_cons.mpr ⟨Or.inl px_mtc_94, List.forall_mem_cons.mpr ⟨Or.inl px_mtc_95, List.forall_mem_cons.mpr ⟨Or.inl px_mtc_96, List.forall_mem_cons.mpr ⟨Or.inl px_mtc_97, List.forall_mem_cons.mpr ⟨Or.inl px_mtc_98, List.forall_mem_cons.mpr ⟨Or.inl px_mtc_99, List.forall_mem_cons.mpr ⟨Or.inl px_mtc_100, List.forall_mem_cons.mpr ⟨Or.inl px_mtc_101, List.forall_mem_cons.mpr ⟨Or.inl px_mtc_102, List.forall_mem_cons.mpr ⟨Or.inl px_mtc_103, List.forall_mem_cons.mpr ⟨Or.inl px_mtc_104, List.forall_mem_cons.mpr ⟨Or.inl px_mtc_105, List.forall_mem_cons.mpr ⟨Or.inl px_mtc_106, List.forall_mem_cons.mpr ⟨Or.inl px_mtc_107, List.forall_mem_cons.mpr ⟨Or.inl px_mtc_108, List.forall_mem_cons.mpr ⟨Or.inl px_mtc_109, List.forall_mem_cons.mpr ⟨Or.inl px_mtc_110, List.forall_mem_cons.mpr ⟨Or.inl px_mtc_111, List.forall_mem_cons.mpr ⟨Or.inl px_mtc_112, List.forall_mem_cons.mpr ⟨Or.inl px_mtc_113, List.forall_mem_cons.mpr ⟨Or.inl px_mtc_114, List.forall_mem_cons.mpr ⟨Or.inl px_mtc_115, List.forall_mem_cons.mpr ⟨Or.inl px_mtc_116, List.forall_mem_cons.mpr ⟨Or.inl px_mtc_117, List.forall_mem_cons.mpr ⟨Or.inl px_mtc_118, List.forall_mem_cons.mpr ⟨Or.inl px_mtc_119, List.forall_mem_cons.mpr ⟨Or.inl px_mtc_120, List.forall_mem_cons.mpr ⟨Or.inl px_mtc_121, List.forall_mem_cons.mpr ⟨Or.inl px_mtc_122, List.forall_mem_cons.mpr ⟨Or.inl px_mtc_123, List.forall_mem_cons.mpr ⟨Or.inl px_mtc_124, List.forall_mem_cons.mpr ⟨Or.inl px_mtc_125, List.forall_mem_cons.mpr ⟨Or.inl px_mtc_126, List.forall_mem_cons.mpr ⟨Or.inl px_mtc_127, List.forall_mem_cons.mpr ⟨Or.inl px_mtc_128, List.forall_mem_cons.mpr ⟨Or.inl px_mtc_129, List.forall_mem_cons.mpr ⟨Or.inl px_mtc_130, List.forall_mem_cons.mpr ⟨Or.inl px_mtc_131, List.forall_mem_cons.mpr ⟨Or.inl px_mtc_132, List.forall_mem_cons.mpr ⟨Or.inl px_mtc_133, List.forall_mem_cons.mpr ⟨Or.inl px_mtc_134, List.forall_mem_cons.mpr ⟨Or.inl px_mtc_135, List.forall_mem_cons.mpr ⟨Or.inl px_mtc_136, List.forall_mem_cons.mpr ⟨Or.inl px_mtc_137, List.forall_mem_cons.mpr ⟨Or.inl px_mtc_138, List.forall_mem_cons.mpr ⟨Or.inl px_mtc_139, List.forall_mem_cons.mpr ⟨Or.inl px_mtc_140, List.forall_mem_cons.mpr ⟨Or.inl px_mtc_141, List.forall_mem_cons.mpr ⟨Or.inl px_mtc_142, List.forall_mem_cons.mpr ⟨Or.inl px_mtc_143, List.forall_mem_cons.mpr ⟨Or.inl px_mtc_144, List.forall_mem_cons.mpr ⟨Or.inl px_mtc_145, List.forall_mem_cons.mpr ⟨Or.inl px_mtc_146, List.forall_mem_cons.mpr ⟨Or.inl px_mtc_147, List.forall_mem_cons.mpr ⟨Or.inl px_mtc_148, List.forall_mem_cons.mpr ⟨Or.inl px_mtc_149, List.forall_mem_cons.mpr ⟨Or.inl px_mtc_150, List.forall_mem_cons.mpr ⟨Or.inl px_mtc_151, List.forall_mem_cons.mpr ⟨Or.inl px_mtc_152, List.forall_mem_cons.mpr ⟨Or.inl px_mtc_153, List.forall_mem_cons.mpr ⟨Or.inl px_mtc_154, List.forall_mem_cons.mpr ⟨Or.inl px_mtc_155, List.forall_mem_cons.mpr ⟨Or.inl px_mtc_156, List.forall_mem_cons.mpr ⟨Or.inl px_mtc_157, List.forall_mem_cons.mpr ⟨Or.inl px_mtc_158, List.forall_mem_cons.mpr ⟨Or.inl px_mtc_159, List.forall_mem_cons.mpr ⟨Or.inl px_mtc_160, List.forall_mem_cons.mpr ⟨Or.inl px_mtc_161, List.forall_mem_cons.mpr ⟨Or.inl px_mtc_162, List.forall_mem_cons.mpr ⟨Or.inl px_mtc_163, List.forall_mem_cons.mpr ⟨Or.inl px_mtc_164, List.forall_mem_cons.mpr ⟨Or.inl px_mtc_165, List.forall_mem_cons.mpr ⟨Or.inl px_mtc_166, List.forall_mem_cons.mpr ⟨Or.inl px_mtc_167, List.forall_mem_cons.mpr ⟨Or.inl px_mtc_168, List.forall_mem_cons.mpr ⟨Or.inl px_mtc_169, List.forall_mem_cons.mpr ⟨Or.inl px_mtc_170, List.forall_mem_cons.mpr ⟨Or.inl px_mtc_171, List.forall_mem_cons.mpr ⟨Or.inl px_mtc_172, List.forall_mem_cons.mpr ⟨Or.inl px_mtc_173, List.forall_mem_cons.mpr ⟨Or.inl px_mtc_174, List.forall_mem_cons.mpr ⟨Or.inl px_mtc_175, List.forall_mem_cons.mpr ⟨Or.inl px_mtc_176, List.forall_mem_cons.mpr ⟨Or.inl px_mtc_177, List.forall_mem_cons.mpr ⟨Or.inl px_mtc_178, List.forall_mem_cons.mpr ⟨Or.inl px_mtc_179, List.forall_mem_cons.mpr ⟨Or.inl px_mtc_180, List.forall_mem_cons.mpr ⟨Or.inl px_mtc_181, List.forall_mem_cons.mpr ⟨Or.inl px_mtc_182, List.forall_mem_cons.mpr ⟨Or.inl px_mtc_183, List.forall_mem_cons.mpr ⟨Or.inl px_mtc_184, List.forall_mem_cons.mpr ⟨Or.inl px_mtc_185, List.forall_mem_cons.mpr ⟨Or.inl px_mtc_186, List.forall_mem_cons.mpr ⟨Or.inl px_mtc_187, List.forall_mem_cons.mpr ⟨Or.inl px_mtc_188, List.forall_mem_cons.mpr ⟨Or.inl px_mtc_189, List.forall_mem_cons.mpr ⟨Or.inl px_mtc_190, List.forall_mem_cons.mpr ⟨Or.inl px_mtc_191, List.forall_mem_cons.mpr ⟨Or.inl px_mtc_192, List.forall_mem_cons.mpr ⟨Or.inl px_mtc_193, List.forall_mem_cons.mpr ⟨Or.inl px_mtc_194, List.forall_mem_cons.mpr ⟨Or.inl px_mtc_195, List.forall_mem_cons.mpr ⟨Or.inl px_mtc_196, List.forall_mem_cons.mpr ⟨Or.inl px_mtc_197, List.forall_mem_cons.mpr ⟨Or.inl px_mtc_198, List.forall_mem_cons.mpr ⟨Or.inl px_mtc_199, List.forall_mem_cons.mpr ⟨Or.inl px_mtc_200, List.forall_mem_cons.mpr ⟨Or.inl px_mtc_201, List.forall_mem_cons.mpr ⟨Or.inl px_mtc_202, List.forall_mem_cons.mpr ⟨Or.inl px_mtc_203, List.forall_mem_cons.mpr ⟨Or.inl px_mtc_204, List.forall_mem_cons.mpr ⟨Or.inl px_mtc_205, List.forall_mem_cons.mpr ⟨Or.inl px_mtc_206, List.forall_mem_cons.mpr ⟨Or.inl px_mtc_207, List.forall_mem_cons.mpr ⟨Or.inl px_mtc_208, List.forall_mem_cons.mpr ⟨Or.inl px_mtc_209, List.forall_mem_cons.mpr ⟨Or.inl px_mtc_210, List.forall_mem_cons.mpr ⟨Or.inl px_mtc_211, List.forall_mem_cons.mpr ⟨Or.inl px_mtc_212, List.forall_mem_cons.mpr ⟨Or.inl px_mtc_213, List.forall_mem_cons.mpr ⟨Or.inl px_mtc_214, List.forall_mem_cons.mpr ⟨Or.inl px_mtc_215, List.forall_mem_cons.mpr ⟨Or.inl px_mtc_216, List.forall_mem_cons.mpr ⟨Or.inl px_mtc_217, List.forall_mem_cons.mpr ⟨Or.inl px_mtc_218, List.forall_mem_cons.mpr ⟨Or.inl px_mtc_219, List.forall_mem_cons.mpr ⟨Or.inl px_mtc_220, List.forall_mem_cons.mpr ⟨Or.inl px_mtc_221, List.forall_mem_cons.mpr ⟨Or.inl px_mtc_222, List.forall_mem_cons.mpr ⟨Or.inl px_mtc_223, List.forall_mem_cons.mpr ⟨Or.inl px_mtc_224, List.forall_mem_cons.mpr ⟨Or.inl px_mtc_225, List.forall_mem_cons.mpr ⟨Or.inl px_mtc_226, List.forall_mem_cons.mpr ⟨Or.inl px_mtc_227, List.forall_mem_cons.mpr ⟨Or.inl px_mtc_228, List.forall_mem_cons.mpr ⟨Or.inl px_mtc_229, List.forall_mem_cons.mpr ⟨Or.inl px_mtc_230, List.forall_mem_cons.mpr ⟨Or.inl px_mtc_231, List.forall_mem_cons.mpr ⟨Or.inl px_mtc_232, List.forall_mem_cons.mpr ⟨Or.inl px_mtc_233, List.forall_mem_cons.mpr ⟨Or.inl px_mtc_234, List.forall_mem_cons.mpr ⟨Or.inl px_mtc_235, List.forall_mem_cons.mpr ⟨Or.inl px_mtc_236, List.forall_mem_cons.mpr ⟨Or.inl px_mtc_237, List.forall_mem_cons.mpr ⟨Or.inl px_mtc_238, List.forall_mem_cons.mpr ⟨Or.inl px_mtc_239, List.forall_mem_cons.mpr ⟨Or.inl px_mtc_240, List.forall_mem_cons.mpr ⟨Or.inl px_mtc_241, List.forall_mem_cons.mpr ⟨Or.inl px_mtc_242, List.forall_mem_cons.mpr ⟨Or.inl px_mtc_243, List.forall_mem_cons.mpr ⟨Or.inl px_mtc_244, List.forall_mem_cons.mpr ⟨Or.inl px_mtc_245, List.forall_mem_cons.mpr ⟨Or.inl px_mtc_246, List.forall_mem_cons.mpr ⟨Or.inl px_mtc_247, List.forall_mem_cons.mpr ⟨Or.inl px_mtc_248, List.forall_mem_cons.mpr ⟨Or.inl px_mtc_249, List.forall_mem_cons.mpr ⟨Or.inl px_mtc_250, List.forall_mem_cons.mpr ⟨Or.inl px_mtc_251, List.forall_mem_cons.mpr ⟨Or.inl px_mtc_252, List.forall_mem_cons.mpr ⟨Or.inl px_mtc_253, List.forall_mem_cons.mpr ⟨Or.inl px_mtc_254, List.forall_mem_cons.mpr ⟨Or.inl px_mtc_255, List.forall_mem_cons.mpr ⟨Or.inl px_mtc_256, List.forall_mem_cons.mpr ⟨Or.inl px_mtc_257, List.forall_mem_cons.mpr ⟨Or.inl px_mtc_258, List.forall_mem_cons.mpr ⟨Or.inl px_mtc_259, List.forall_mem_cons.mpr ⟨Or.inl px_mtc_260, List.forall_mem_cons.mpr ⟨Or.inl px_mtc_261, List.forall_mem_cons.mpr ⟨Or.inl px_mtc_262, List.forall_mem_cons.mpr ⟨Or.inl px_mtc_263, List.forall_mem_cons.mpr ⟨Or.inl px_mtc_264, List.forall_mem_cons.mpr ⟨Or.inl px_mtc_265, List.forall_mem_cons.mpr ⟨Or.inl px_mtc_266, List.forall_mem_cons.mpr ⟨Or.inl px_mtc_267, List.forall_mem_cons.mpr ⟨Or.inl px_mtc_268, List.forall_mem_cons.mpr ⟨Or.inl px_mtc_269, List.forall_mem_cons.mpr ⟨Or.inl px_mtc_270, List.forall_mem_cons.mpr ⟨Or.inl px_mtc_271, List.forall_mem_cons.mpr ⟨Or.inl px_mtc_272, List.forall_mem_cons.mpr ⟨Or.inl px_mtc_273, List.forall_mem_cons.mpr ⟨Or.inl px_mtc_274, List.forall_mem_cons.mpr ⟨Or.inl px_mtc_275, List.forall_mem_cons.mpr ⟨Or.inl px_mtc_276, List.forall_mem_cons.mpr ⟨Or.inl px_mtc_277, List.forall_mem_cons.mpr ⟨Or.inl px_mtc_278, List.forall_mem_cons.mpr ⟨Or.inl px_mtc_279, List.forall_mem_cons.mpr ⟨Or.inl px_mtc_280, List.forall_mem_cons.mpr ⟨Or.inl px_mtc_281, List.forall_mem_cons.mpr ⟨Or.inl px_mtc_282, List.forall_mem_cons.mpr ⟨Or.inl px_mtc_283, List.forall_mem_cons.mpr ⟨Or.inl px_mtc_284, List.forall_mem_cons.mpr ⟨Or.inl px_mtc_285, List.forall_mem_cons.mpr ⟨Or.inl px_mtc_286, List.forall_mem_cons.mpr ⟨Or.inl px_mtc_287, List.forall_mem_cons.mpr ⟨Or.inl px_mtc_288, List.forall_mem_cons.mpr ⟨Or.inl px_mtc_289, List.forall_mem_cons.mpr ⟨Or.inl px_mtc_290, List.forall_mem_cons.mpr ⟨Or.inl px_mtc_291, List.forall_mem_cons.mpr ⟨Or.inl px_mtc_292, List.forall_mem_cons.mpr ⟨Or.inl px_mtc_293, List.forall_mem_cons.mpr ⟨Or.inl px_mtc_294, List.forall_mem_cons.mpr ⟨Or.inl px_mtc_295, List.forall_mem_cons.mpr ⟨Or.inl px_mtc_296, List.forall_mem_cons.mpr ⟨Or.inl px_mtc_297, List.forall_mem_cons.mpr ⟨Or.inl px_mtc_298, List.forall_mem_cons.mpr ⟨Or.inl px_mtc_299, List.forall_mem_cons.mpr ⟨Or.inl px_mtc_300, List.forall_mem_cons.mpr ⟨Or.inl px_mtc_301, List.forall_mem_cons.mpr ⟨Or.inl px_mtc_302, List.forall_mem_cons.mpr ⟨Or.inl px_mtc_303, List.forall_mem_cons.mpr ⟨Or.inl px_mtc_304, List.forall_mem_cons.mpr ⟨Or.inl px_mtc_305, List.forall_mem_cons.mpr ⟨Or.inl px_mtc_306, List.forall_mem_cons.mpr ⟨Or.inr (Or.inl rfl), List.forall_mem_cons.mpr ⟨Or.inr (Or.inr (Or.inl rfl)), List.forall_mem_cons.mpr ⟨Or.inr (Or.inr (Or.inr rfl)), fun _ h => absurd h List.not_mem_nil⟩⟩⟩⟩⟩⟩⟩⟩⟩⟩⟩⟩⟩⟩⟩⟩⟩⟩⟩⟩⟩⟩⟩⟩⟩⟩⟩⟩⟩⟩⟩⟩⟩⟩⟩⟩⟩⟩⟩⟩⟩⟩⟩⟩⟩⟩⟩⟩⟩⟩⟩⟩⟩⟩⟩⟩⟩⟩⟩⟩⟩⟩⟩⟩⟩⟩⟩⟩⟩⟩⟩⟩⟩⟩⟩⟩⟩⟩⟩⟩⟩⟩⟩⟩⟩⟩⟩⟩⟩⟩⟩⟩⟩⟩⟩⟩⟩⟩⟩⟩⟩⟩⟩⟩⟩⟩⟩⟩⟩⟩⟩⟩⟩⟩⟩⟩⟩⟩⟩⟩⟩⟩⟩⟩⟩⟩⟩⟩⟩⟩⟩⟩⟩⟩⟩⟩⟩⟩⟩⟩⟩⟩⟩⟩⟩⟩⟩⟩⟩⟩⟩⟩⟩⟩⟩⟩⟩⟩⟩⟩⟩⟩⟩⟩⟩⟩⟩⟩⟩⟩⟩⟩⟩⟩⟩⟩⟩⟩⟩⟩⟩⟩⟩⟩⟩⟩⟩⟩⟩⟩⟩⟩⟩⟩⟩⟩⟩⟩⟩⟩⟩⟩⟩⟩⟩⟩⟩⟩⟩⟩⟩⟩⟩⟩⟩⟩⟩⟩⟩⟩⟩⟩⟩⟩⟩⟩⟩⟩⟩⟩⟩⟩⟩⟩⟩⟩⟩⟩⟩⟩⟩⟩⟩⟩⟩⟩⟩⟩⟩⟩⟩⟩⟩⟩⟩⟩⟩⟩⟩⟩⟩⟩⟩⟩⟩⟩⟩⟩⟩⟩⟩⟩⟩⟩⟩⟩⟩⟩⟩⟩⟩⟩⟩⟩⟩⟩⟩⟩⟩⟩⟩⟩⟩⟩⟩⟩⟩⟩⟩⟩⟩⟩⟩⟩⟩⟩⟩⟩⟩⟩
def px_PR : List (px_M × List px_e) := px_PRA ++ (px_PRB ++ (px_PRC ++ (px_PRD ++ px_PRE)))
theorem px_PR_ok : ∀ q ∈ px_PR, px_chk q.1 q.2 = true := List.forall_mem_append.mpr ⟨px_PRA_ok, List.forall_mem_append.mpr ⟨px_PRB_ok, List.forall_mem_append.mpr ⟨px_PRC_ok, List.forall_mem_append.mpr ⟨px_PRD_ok, px_PRE_ok⟩⟩⟩⟩
set_option maxRecDepth 100000 in
theorem px_PR_MT : px_PR.map (·.1) = px_MT := rfl
theorem px_fr_le : px_MT.all (fun q => decide (q.2.2.2.2.getD 1 0 ≤ 8)) = true := by decide +kernel
theorem px_good : ∀ w ∈ px_tb, goodWord w = true := fun w h => (List.mem_filter.mp h).2
def px_krc (e : Nat × Nat × Nat × Nat × Nat) : Bool := match px_R[e.1]? with | some R => (if e.2.2.2.2 = 0 then decide (lw_tbl[e.2.2.2.1]? = some (.constant R e.2.1 (Int32.ofNat e.2.2.1))) else decide (lw_tbl[e.2.2.2.1]? = some (.constantLong R e.2.1 (Int64.ofNat e.2.2.1)))) | none => false
theorem px_krc_all : px_KR.all px_krc = true := by decide +kernel
def px_nrc (e : Nat × Nat × Nat × Nat × Nat × Nat × Nat) : Bool := match px_R[e.1]?, vwCl[e.2.2.1]? with | some R, some C => decide (lw_tbl[e.2.2.2.2.1]? = some (.classLink R e.2.1 C.1)) && decide (lw_tbl[e.2.2.2.2.2.1]? = some (.instantiable C.1 e.2.2.2.1)) && decide (lw_tbl[e.2.2.2.2.2.2]? = some (.initialized C.1)) | _, _ => false
theorem px_nrc_all : px_NR.all px_nrc = true := by decide +kernel
theorem px_w_int : Cond.arrayClass .int ∈ px_tb := px_tbm (List.mem_of_getElem? (i := 155) (by decide +kernel)) rfl
theorem px_w_long : Cond.arrayClass .long ∈ px_tb := px_tbm (List.mem_of_getElem? (i := 193) (by decide +kernel)) rfl
theorem px_w_byte : Cond.arrayClass .byte ∈ px_tb := px_tbm (List.mem_of_getElem? (i := 1251) (by decide +kernel)) rfl
theorem px_w_bool : Cond.arrayClass .boolean ∈ px_tb := px_tbm (List.mem_of_getElem? (i := 312) (by decide +kernel)) rfl
theorem px_w_ovi : Cond.arrayOver (.array .int) ∈ lw_tbl := List.mem_of_getElem? (i := 163) (by decide +kernel)
theorem px_w_ove : Cond.arrayOver (.object "EditionVault$Edition") ∈ lw_tbl := List.mem_of_getElem? (i := 201) (by decide +kernel)
theorem px_w_oi : Cond.instanceMethod objectInit ∈ px_tb := px_tbm (List.mem_of_getElem? (i := 138) (by decide +kernel)) rfl
theorem px_w_oc : Cond.code objectInit ⟨#[0xb1]⟩ 1 none ∈ px_tb := px_tbm (List.mem_of_getElem? (i := 139) (by decide +kernel)) rfl
theorem px_math : (List.range 310).all (fun z => decide (px_MT[z]?.map (fun y => y.2.2.2.2.getD 0 0) = some 14 → z = 307 ∨ z = 308)) = true := by decide +kernel
set_option maxRecDepth 100000 in
theorem px_mlen : px_MT.length = 310 := rfl
theorem px_w_stmax : Cond.static Lib.Math.max.name ∈ px_tb := px_tbm (List.mem_of_getElem? (i := 1022) (by decide +kernel)) rfl
theorem px_w_cdmax : Cond.code Lib.Math.max.name Lib.Math.max.code 2 (some .int) ∈ px_tb := px_tbm (List.mem_of_getElem? (i := 1023) (by decide +kernel)) rfl
theorem px_y_max : px_m_307.1 = Lib.Math.max.name := rfl
theorem px_w_stmin : Cond.static Lib.MathLoose.min_long.x ∈ px_tb := px_tbm (List.mem_of_getElem? (i := 760) (by decide +kernel)) rfl
theorem px_w_cdmin : Cond.code Lib.MathLoose.min_long.x Lib.MathLoose.min_long.code 4 (some .long) ∈ px_tb := px_tbm (List.mem_of_getElem? (i := 761) (by decide +kernel)) rfl
theorem px_y_min : px_m_308.1 = Lib.MathLoose.min_long.x := rfl
theorem px_w_mi : Cond.initialized "java/lang/Math" ∈ px_tb := px_tbm (List.mem_of_getElem? (i := 130) (by decide +kernel)) rfl
