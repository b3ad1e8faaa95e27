theorem px_ck_0 : px_chk px_m_0 px_cd_0 = true := by decide +kernel
theorem px_ck_1 : px_chk px_m_1 px_cd_1 = true := by decide +kernel
theorem px_ck_2 : px_chk px_m_2 px_cd_2 = true := by decide +kernel
theorem px_ck_3 : px_chk px_m_3 px_cd_3 = true := by decide +kernel
theorem px_ck_4 : px_chk px_m_4 px_cd_4 = true := by decide +kernel
theorem px_ck_5_0 : px_chk px_m_5 ((px_cd_5.drop 0).take 40) = true := by decide +kernel
theorem px_ck_5_1 : px_chk px_m_5 ((px_cd_5.drop 40).take 40) = true := by decide +kernel
theorem px_ck_5 : px_chk px_m_5 px_cd_5 = true := px_chk_cut 40 0 _ _ px_ck_5_0 (px_chk_cut 40 40 _ _ px_ck_5_1 (px_chk_end _ _ 80 (by decide +kernel)))
theorem px_ck_6 : px_chk px_m_6 px_cd_6 = true := by decide +kernel
theorem px_ck_7 : px_chk px_m_7 px_cd_7 = true := by decide +kernel
theorem px_ck_8 : px_chk px_m_8 px_cd_8 = true := by decide +kernel
theorem px_ck_9 : px_chk px_m_9 px_cd_9 = true := by decide +kernel
theorem px_ck_10 : px_chk px_m_10 px_cd_10 = true := by decide +kernel
theorem px_ck_11 : px_chk px_m_11 px_cd_11 = true := by decide +kernel
theorem px_ck_12 : px_chk px_m_12 px_cd_12 = true := by decide +kernel
theorem px_ck_13 : px_chk px_m_13 px_cd_13 = true := by decide +kernel
theorem px_ck_14 : px_chk px_m_14 px_cd_14 = true := by decide +kernel
theorem px_ck_15_0 : px_chk px_m_15 ((px_cd_15.drop 0).take 40) = true := by decide +kernel
theorem px_ck_15_1 : px_chk px_m_15 ((px_cd_15.drop 40).take 40) = true := by decide +kernel
theorem px_ck_15_2 : px_chk px_m_15 ((px_cd_15.drop 80).take 40) = true := by decide +kernel
theorem px_ck_15_3 : px_chk px_m_15 ((px_cd_15.drop 120).take 40) = true := by decide +kernel
theorem px_ck_15 : px_chk px_m_15 px_cd_15 = true := px_chk_cut 40 0 _ _ px_ck_15_0 (px_chk_cut 40 40 _ _ px_ck_15_1 (px_chk_cut 40 80 _ _ px_ck_15_2 (px_chk_cut 40 120 _ _ px_ck_15_3 (px_chk_end _ _ 160 (by decide +kernel)))))
theorem px_ck_16 : px_chk px_m_16 px_cd_16 = true := by decide +kernel
theorem px_ck_17 : px_chk px_m_17 px_cd_17 = true := by decide +kernel
theorem px_ck_18_0 : px_chk px_m_18 ((px_cd_18.drop 0).take 40) = true := by decide +kernel
theorem px_ck_18_1 : px_chk px_m_18 ((px_cd_18.drop 40).take 40) = true := by decide +kernel
theorem px_ck_18_2 : px_chk px_m_18 ((px_cd_18.drop 80).take 40) = true := by decide +kernel
theorem px_ck_18 : px_chk px_m_18 px_cd_18 = true := px_chk_cut 40 0 _ _ px_ck_18_0 (px_chk_cut 40 40 _ _ px_ck_18_1 (px_chk_cut 40 80 _ _ px_ck_18_2 (px_chk_end _ _ 120 (by decide +kernel))))
theorem px_ck_19 : px_chk px_m_19 px_cd_19 = true := by decide +kernel
theorem px_ck_20 : px_chk px_m_20 px_cd_20 = true := by decide +kernel
theorem px_ck_21 : px_chk px_m_21 px_cd_21 = true := by decide +kernel
theorem px_ck_22 : px_chk px_m_22 px_cd_22 = true := by decide +kernel
theorem px_ck_23 : px_chk px_m_23 px_cd_23 = true := by decide +kernel
theorem px_ck_24_0 : px_chk px_m_24 ((px_cd_24.drop 0).take 40) = true := by decide +kernel
theorem px_ck_24_1 : px_chk px_m_24 ((px_cd_24.drop 40).take 40) = true := by decide +kernel
theorem px_ck_24 : px_chk px_m_24 px_cd_24 = true := px_chk_cut 40 0 _ _ px_ck_24_0 (px_chk_cut 40 40 _ _ px_ck_24_1 (px_chk_end _ _ 80 (by decide +kernel)))
theorem px_ck_25 : px_chk px_m_25 px_cd_25 = true := by decide +kernel
theorem px_ck_26 : px_chk px_m_26 px_cd_26 = true := by decide +kernel
theorem px_ck_27_0 : px_chk px_m_27 ((px_cd_27.drop 0).take 40) = true := by decide +kernel
theorem px_ck_27_1 : px_chk px_m_27 ((px_cd_27.drop 40).take 40) = true := by decide +kernel
theorem px_ck_27_2 : px_chk px_m_27 ((px_cd_27.drop 80).take 40) = true := by decide +kernel
theorem px_ck_27 : px_chk px_m_27 px_cd_27 = true := px_chk_cut 40 0 _ _ px_ck_27_0 (px_chk_cut 40 40 _ _ px_ck_27_1 (px_chk_cut 40 80 _ _ px_ck_27_2 (px_chk_end _ _ 120 (by decide +kernel))))
theorem px_ck_28 : px_chk px_m_28 px_cd_28 = true := by decide +kernel
theorem px_ck_29 : px_chk px_m_29 px_cd_29 = true := by decide +kernel
theorem px_ck_30 : px_chk px_m_30 px_cd_30 = true := by decide +kernel
theorem px_ck_31 : px_chk px_m_31 px_cd_31 = true := by decide +kernel
theorem px_ck_32 : px_chk px_m_32 px_cd_32 = true := by decide +kernel
theorem px_ck_33 : px_chk px_m_33 px_cd_33 = true := by decide +kernel
theorem px_ck_34 : px_chk px_m_34 px_cd_34 = true := by decide +kernel
theorem px_ck_35 : px_chk px_m_35 px_cd_35 = true := by decide +kernel
theorem px_ck_36 : px_chk px_m_36 px_cd_36 = true := by decide +kernel
theorem px_ck_37 : px_chk px_m_37 px_cd_37 = true := by decide +kernel
theorem px_ck_38 : px_chk px_m_38 px_cd_38 = true := by decide +kernel
theorem px_ck_39 : px_chk px_m_39 px_cd_39 = true := by decide +kernel
theorem px_ck_40 : px_chk px_m_40 px_cd_40 = true := by decide +kernel
theorem px_ck_41 : px_chk px_m_41 px_cd_41 = true := by decide +kernel
theorem px_ck_42 : px_chk px_m_42 px_cd_42 = true := by decide +kernel
theorem px_ck_43 : px_chk px_m_43 px_cd_43 = true := by decide +kernel
theorem px_ck_44 : px_chk px_m_44 px_cd_44 = true := by decide +kernel
theorem px_ck_45 : px_chk px_m_45 px_cd_45 = true := by decide +kernel
theorem px_ck_46 : px_chk px_m_46 px_cd_46 = true := by decide +kernel
theorem px_ck_47 : px_chk px_m_47 px_cd_47 = true := by decide +kernel
theorem px_ck_48 : px_chk px_m_48 px_cd_48 = true := by decide +kernel
theorem px_ck_49_0 : px_chk px_m_49 ((px_cd_49.drop 0).take 40) = true := by decide +kernel
theorem px_ck_49_1 : px_chk px_m_49 ((px_cd_49.drop 40).take 40) = true := by decide +kernel
theorem px_ck_49 : px_chk px_m_49 px_cd_49 = true := px_chk_cut 40 0 _ _ px_ck_49_0 (px_chk_cut 40 40 _ _ px_ck_49_1 (px_chk_end _ _ 80 (by decide +kernel)))
theorem px_ck_50_0 : px_chk px_m_50 ((px_cd_50.drop 0).take 40) = true := by decide +kernel
theorem px_ck_50_1 : px_chk px_m_50 ((px_cd_50.drop 40).take 40) = true := by decide +kernel
theorem px_ck_50 : px_chk px_m_50 px_cd_50 = true := px_chk_cut 40 0 _ _ px_ck_50_0 (px_chk_cut 40 40 _ _ px_ck_50_1 (px_chk_end _ _ 80 (by decide +kernel)))
theorem px_ck_51 : px_chk px_m_51 px_cd_51 = true := by decide +kernel
theorem px_ck_52 : px_chk px_m_52 px_cd_52 = true := by decide +kernel
theorem px_ck_53 : px_chk px_m_53 px_cd_53 = true := by decide +kernel
theorem px_ck_54 : px_chk px_m_54 px_cd_54 = true := by decide +kernel
theorem px_ck_55 : px_chk px_m_55 px_cd_55 = true := by decide +kernel
theorem px_ck_56 : px_chk px_m_56 px_cd_56 = true := by decide +kernel
theorem px_ck_57 : px_chk px_m_57 px_cd_57 = true := by decide +kernel
theorem px_ck_58_0 : px_chk px_m_58 ((px_cd_58.drop 0).take 40) = true := by decide +kernel
theorem px_ck_58_1 : px_chk px_m_58 ((px_cd_58.drop 40).take 40) = true := by decide +kernel
theorem px_ck_58 : px_chk px_m_58 px_cd_58 = true := px_chk_cut 40 0 _ _ px_ck_58_0 (px_chk_cut 40 40 _ _ px_ck_58_1 (px_chk_end _ _ 80 (by decide +kernel)))
theorem px_ck_59 : px_chk px_m_59 px_cd_59 = true := by decide +kernel
theorem px_ck_60 : px_chk px_m_60 px_cd_60 = true := by decide +kernel
theorem px_ck_61 : px_chk px_m_61 px_cd_61 = true := by decide +kernel
theorem px_ck_62 : px_chk px_m_62 px_cd_62 = true := by decide +kernel
theorem px_ck_63 : px_chk px_m_63 px_cd_63 = true := by decide +kernel
theorem px_ck_64 : px_chk px_m_64 px_cd_64 = true := by decide +kernel
theorem px_ck_65 : px_chk px_m_65 px_cd_65 = true := by decide +kernel
theorem px_ck_66 : px_chk px_m_66 px_cd_66 = true := by decide +kernel
theorem px_ck_67 : px_chk px_m_67 px_cd_67 = true := by decide +kernel
theorem px_ck_68 : px_chk px_m_68 px_cd_68 = true := by decide +kernel
theorem px_ck_69 : px_chk px_m_69 px_cd_69 = true := by decide +kernel
theorem px_ck_70 : px_chk px_m_70 px_cd_70 = true := by decide +kernel
theorem px_ck_71_0 : px_chk px_m_71 ((px_cd_71.drop 0).take 40) = true := by decide +kernel
theorem px_ck_71_1 : px_chk px_m_71 ((px_cd_71.drop 40).take 40) = true := by decide +kernel
theorem px_ck_71 : px_chk px_m_71 px_cd_71 = true := px_chk_cut 40 0 _ _ px_ck_71_0 (px_chk_cut 40 40 _ _ px_ck_71_1 (px_chk_end _ _ 80 (by decide +kernel)))
theorem px_ck_72 : px_chk px_m_72 px_cd_72 = true := by decide +kernel
theorem px_ck_73 : px_chk px_m_73 px_cd_73 = true := by decide +kernel
theorem px_ck_74 : px_chk px_m_74 px_cd_74 = true := by decide +kernel
theorem px_ck_75 : px_chk px_m_75 px_cd_75 = true := by decide +kernel
theorem px_ck_76 : px_chk px_m_76 px_cd_76 = true := by decide +kernel
theorem px_ck_77 : px_chk px_m_77 px_cd_77 = true := by decide +kernel
theorem px_ck_78 : px_chk px_m_78 px_cd_78 = true := by decide +kernel
theorem px_ck_79 : px_chk px_m_79 px_cd_79 = true := by decide +kernel
theorem px_ck_80 : px_chk px_m_80 px_cd_80 = true := by decide +kernel
theorem px_ck_81 : px_chk px_m_81 px_cd_81 = true := by decide +kernel
theorem px_ck_82 : px_chk px_m_82 px_cd_82 = true := by decide +kernel
theorem px_ck_83 : px_chk px_m_83 px_cd_83 = true := by decide +kernel
theorem px_ck_84 : px_chk px_m_84 px_cd_84 = true := by decide +kernel
theorem px_ck_85 : px_chk px_m_85 px_cd_85 = true := by decide +kernel
theorem px_ck_86 : px_chk px_m_86 px_cd_86 = true := by decide +kernel
theorem px_ck_87 : px_chk px_m_87 px_cd_87 = true := by decide +kernel
theorem px_ck_88 : px_chk px_m_88 px_cd_88 = true := by decide +kernel
theorem px_ck_89 : px_chk px_m_89 px_cd_89 = true := by decide +kernel
theorem px_ck_90 : px_chk px_m_90 px_cd_90 = true := by decide +kernel
theorem px_ck_91 : px_chk px_m_91 px_cd_91 = true := by decide +kernel
theorem px_ck_92 : px_chk px_m_92 px_cd_92 = true := by decide +kernel
theorem px_ck_93 : px_chk px_m_93 px_cd_93 = true := by decide +kernel
theorem px_ck_94 : px_chk px_m_94 px_cd_94 = true := by decide +kernel
theorem px_ck_95 : px_chk px_m_95 px_cd_95 = true := by decide +kernel
theorem px_ck_96 : px_chk px_m_96 px_cd_96 = true := by decide +kernel
theorem px_ck_97 : px_chk px_m_97 px_cd_97 = true := by decide +kernel
theorem px_ck_98 : px_chk px_m_98 px_cd_98 = true := by decide +kernel
theorem px_ck_99 : px_chk px_m_99 px_cd_99 = true := by decide +kernel
theorem px_ck_100 : px_chk px_m_100 px_cd_100 = true := by decide +kernel
theorem px_ck_101 : px_chk px_m_101 px_cd_101 = true := by decide +kernel
theorem px_ck_102 : px_chk px_m_102 px_cd_102 = true := by decide +kernel
theorem px_ck_103 : px_chk px_m_103 px_cd_103 = true := by decide +kernel
theorem px_ck_104 : px_chk px_m_104 px_cd_104 = true := by decide +kernel
theorem px_ck_105 : px_chk px_m_105 px_cd_105 = true := by decide +kernel
theorem px_ck_106 : px_chk px_m_106 px_cd_106 = true := by decide +kernel
theorem px_ck_107_0 : px_chk px_m_107 ((px_cd_107.drop 0).take 40) = true := by decide +kernel
theorem px_ck_107_1 : px_chk px_m_107 ((px_cd_107.drop 40).take 40) = true := by decide +kernel
theorem px_ck_107 : px_chk px_m_107 px_cd_107 = true := px_chk_cut 40 0 _ _ px_ck_107_0 (px_chk_cut 40 40 _ _ px_ck_107_1 (px_chk_end _ _ 80 (by decide +kernel)))
theorem px_ck_108 : px_chk px_m_108 px_cd_108 = true := by decide +kernel
theorem px_ck_109_0 : px_chk px_m_109 ((px_cd_109.drop 0).take 40) = true := by decide +kernel
theorem px_ck_109_1 : px_chk px_m_109 ((px_cd_109.drop 40).take 40) = true := by decide +kernel
theorem px_ck_109_2 : px_chk px_m_109 ((px_cd_109.drop 80).take 40) = true := by decide +kernel
theorem px_ck_109 : px_chk px_m_109 px_cd_109 = true := px_chk_cut 40 0 _ _ px_ck_109_0 (px_chk_cut 40 40 _ _ px_ck_109_1 (px_chk_cut 40 80 _ _ px_ck_109_2 (px_chk_end _ _ 120 (by decide +kernel))))
theorem px_ck_110 : px_chk px_m_110 px_cd_110 = true := by decide +kernel
theorem px_ck_111 : px_chk px_m_111 px_cd_111 = true := by decide +kernel
theorem px_PRA_ok : ∀ q ∈ px_PRA, px_chk q.1 q.2 = true := List.forall_mem_cons.mpr ⟨px_ck_0, List.forall_mem_cons.mpr ⟨px_ck_1, List.forall_mem_cons.mpr ⟨px_ck_2, List.forall_mem_cons.mpr ⟨px_ck_3, List.forall_mem_cons.mpr ⟨px_ck_4, List.forall_mem_cons.mpr ⟨px_ck_5, List.forall_mem_cons.mpr ⟨px_ck_6, List.forall_mem_cons.mpr ⟨px_ck_7, List.forall_mem_cons.mpr ⟨px_ck_8, List.forall_mem_cons.mpr ⟨px_ck_9, List.forall_mem_cons.mpr ⟨px_ck_10, List.forall_mem_cons.mpr ⟨px_ck_11, List.forall_mem_cons.mpr ⟨px_ck_12, List.forall_mem_cons.mpr ⟨px_ck_13, List.forall_mem_cons.mpr ⟨px_ck_14, List.forall_mem_cons.mpr ⟨px_ck_15, List.forall_mem_cons.mpr ⟨px_ck_16, List.forall_mem_cons.mpr ⟨px_ck_17, List.forall_mem_cons.mpr ⟨px_ck_18, List.forall_mem_cons.mpr ⟨px_ck_19, List.forall_mem_cons.mpr ⟨px_ck_20, List.forall_mem_cons.mpr ⟨px_ck_21, List.forall_mem_cons.mpr ⟨px_ck_22, List.forall_mem_cons.mpr ⟨px_ck_23, List.forall_mem_cons.mpr ⟨px_ck_24, List.forall_mem_cons.mpr ⟨px_ck_25, List.forall_mem_cons.mpr ⟨px_ck_26, List.forall_mem_cons.mpr ⟨px_ck_27, List.forall_mem_cons.mpr ⟨px_ck_28, List.forall_mem_cons.mpr ⟨px_ck_29, List.forall_mem_cons.mpr ⟨px_ck_30, List.forall_mem_cons.mpr ⟨px_ck_31, List.forall_mem_cons.mpr ⟨px_ck_32, List.forall_mem_cons.mpr ⟨px_ck_33, List.forall_mem_cons.mpr ⟨px_ck_34, List.forall_mem_cons.mpr ⟨px_ck_35, List.forall_mem_cons.mpr ⟨px_ck_36, List.forall_mem_cons.mpr ⟨px_ck_37, List.forall_mem_cons.mpr ⟨px_ck_38, List.forall_mem_cons.mpr ⟨px_ck_39, List.forall_mem_cons.mpr ⟨px_ck_40, List.forall_mem_cons.mpr ⟨px_ck_41, List.forall_mem_cons.mpr ⟨px_ck_42, List.forall_mem_cons.mpr ⟨px_ck_43, List.forall_mem_cons.mpr ⟨px_ck_44, List.forall_mem_cons.mpr ⟨px_ck_45, List.forall_mem_cons.mpr ⟨px_ck_46, List.forall_mem_cons.mpr ⟨px_ck_47, List.forall_mem_cons.mpr ⟨px_ck_48, List.forall_mem_cons.mpr ⟨px_ck_49, List.forall_mem_cons.mpr ⟨px_ck_50, List.forall_mem_cons.mpr ⟨px_ck_51, List.forall_mem_cons.mpr ⟨px_ck_52, List.forall_mem_cons.mpr ⟨px_ck_53, List.forall_mem_cons.mpr ⟨px_ck_54, List.forall_mem_cons.mpr ⟨px_ck_55, List.forall_mem_cons.mpr ⟨px_ck_56, List.forall_mem_cons.mpr ⟨px_ck_57, List.forall_mem_cons.mpr ⟨px_ck_58, List.forall_mem_cons.mpr ⟨px_ck_59, List.forall_mem_cons.mpr ⟨px_ck_60, List.forall_mem_cons.mpr ⟨px_ck_61, List.forall_mem_cons.mpr ⟨px_ck_62, List.forall_mem_cons.mpr ⟨px_ck_63, List.forall_mem_cons.mpr ⟨px_ck_64, List.forall_mem_cons.mpr ⟨px_ck_65, List.forall_mem_cons.mpr ⟨px_ck_66, List.forall_mem_cons.mpr ⟨px_ck_67, List.forall_mem_cons.mpr ⟨px_ck_68, List.forall_mem_cons.mpr ⟨px_ck_69, List.forall_mem_cons.mpr ⟨px_ck_70, List.forall_mem_cons.mpr ⟨px_ck_71, List.forall_mem_cons.mpr ⟨px_ck_72, List.forall_mem_cons.mpr ⟨px_ck_73, List.forall_mem_cons.mpr ⟨px_ck_74, List.forall_mem_cons.mpr ⟨px_ck_75, List.forall_mem_cons.mpr ⟨px_ck_76, List.forall_mem_cons.mpr ⟨px_ck_77, List.forall_mem_cons.mpr ⟨px_ck_78, List.forall_mem_cons.mpr ⟨px_ck_79, List.forall_mem_cons.mpr ⟨px_ck_80, List.forall_mem_cons.mpr ⟨px_ck_81, List.forall_mem_cons.mpr ⟨px_ck_82, List.forall_mem_cons.mpr ⟨px_ck_83, List.forall_mem_cons.mpr ⟨px_ck_84, List.forall_mem_cons.mpr ⟨px_ck_85, List.forall_mem_cons.mpr ⟨px_ck_86, List.forall_mem_cons.mpr ⟨px_ck_87, List.forall_mem_cons.mpr ⟨px_ck_88, List.forall_mem_cons.mpr ⟨px_ck_89, List.forall_mem_cons.mpr ⟨px_ck_90, List.forall_mem_cons.mpr ⟨px_ck_91, List.forall_mem_cons.mpr ⟨px_ck_92, List.forall_mem_cons.mpr ⟨px_ck_93, List.forall_mem_cons.mpr ⟨px_ck_94, List.forall_mem_cons.mpr ⟨px_ck_95, List.forall_mem_cons.mpr ⟨px_ck_96, List.forall_mem_cons.mpr ⟨px_ck_97, List.forall_mem_cons.mpr ⟨px_ck_98, List.forall_mem_cons.mpr ⟨px_ck_99, List.forall_mem_cons.mpr ⟨px_ck_100, List.forall_mem_cons.mpr ⟨px_ck_101, List.forall_mem_cons.mpr ⟨px_ck_102, List.forall_mem_cons.mpr ⟨px_ck_103, List.forall_mem_cons.mpr ⟨px_ck_104, List.forall_mem_cons.mpr ⟨px_ck_105, List.forall_mem_cons.mpr ⟨px_ck_106, List.forall_mem_cons.mpr ⟨px_ck_107, List.forall_mem_cons.mpr ⟨px_ck_108, List.forall_mem_cons.mpr ⟨px_ck_109, List.forall_mem_cons.mpr ⟨px_ck_110, List.forall_mem_cons.mpr ⟨px_ck_111, fun _ h => absurd h List.not_mem_nil⟩⟩⟩⟩⟩⟩⟩⟩⟩⟩⟩⟩⟩⟩⟩⟩⟩⟩⟩⟩⟩⟩⟩⟩⟩⟩⟩⟩⟩⟩⟩⟩⟩⟩⟩⟩⟩⟩⟩⟩⟩⟩⟩⟩⟩⟩⟩⟩⟩⟩⟩⟩⟩⟩⟩⟩⟩⟩⟩⟩⟩⟩⟩⟩⟩⟩⟩⟩⟩⟩⟩⟩⟩⟩⟩⟩⟩⟩⟩⟩⟩⟩⟩⟩⟩⟩⟩⟩⟩⟩⟩⟩⟩⟩⟩⟩⟩⟩⟩⟩⟩⟩⟩⟩⟩⟩⟩⟩⟩⟩⟩⟩
