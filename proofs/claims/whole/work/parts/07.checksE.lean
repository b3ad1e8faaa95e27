theorem px_ck_309_0 : px_chk px_m_309 ((px_cd_309.drop 0).take 40) = true := by decide +kernel
theorem px_ck_309_1 : px_chk px_m_309 ((px_cd_309.drop 40).take 40) = true := by decide +kernel
theorem px_ck_309_2 : px_chk px_m_309 ((px_cd_309.drop 80).take 40) = true := by decide +kernel
theorem px_ck_309_3 : px_chk px_m_309 ((px_cd_309.drop 120).take 40) = true := by decide +kernel
theorem px_ck_309_4 : px_chk px_m_309 ((px_cd_309.drop 160).take 40) = true := by decide +kernel
theorem px_ck_309_5 : px_chk px_m_309 ((px_cd_309.drop 200).take 40) = true := by decide +kernel
theorem px_ck_309_6 : px_chk px_m_309 ((px_cd_309.drop 240).take 40) = true := by decide +kernel
theorem px_ck_309_7 : px_chk px_m_309 ((px_cd_309.drop 280).take 40) = true := by decide +kernel
theorem px_ck_309_8 : px_chk px_m_309 ((px_cd_309.drop 320).take 40) = true := by decide +kernel
theorem px_ck_309_9 : px_chk px_m_309 ((px_cd_309.drop 360).take 40) = true := by decide +kernel
theorem px_ck_309_10 : px_chk px_m_309 ((px_cd_309.drop 400).take 40) = true := by decide +kernel
theorem px_ck_309_11 : px_chk px_m_309 ((px_cd_309.drop 440).take 40) = true := by decide +kernel
theorem px_ck_309_12 : px_chk px_m_309 ((px_cd_309.drop 480).take 40) = true := by decide +kernel
theorem px_ck_309_13 : px_chk px_m_309 ((px_cd_309.drop 520).take 40) = true := by decide +kernel
theorem px_ck_309_14 : px_chk px_m_309 ((px_cd_309.drop 560).take 40) = true := by decide +kernel
theorem px_ck_309_15 : px_chk px_m_309 ((px_cd_309.drop 600).take 40) = true := by decide +kernel
theorem px_ck_309_16 : px_chk px_m_309 ((px_cd_309.drop 640).take 40) = true := by decide +kernel
theorem px_ck_309_17 : px_chk px_m_309 ((px_cd_309.drop 680).take 40) = true := by decide +kernel
theorem px_ck_309_18 : px_chk px_m_309 ((px_cd_309.drop 720).take 40) = true := by decide +kernel
theorem px_ck_309_19 : px_chk px_m_309 ((px_cd_309.drop 760).take 40) = true := by decide +kernel
theorem px_ck_309_20 : px_chk px_m_309 ((px_cd_309.drop 800).take 40) = true := by decide +kernel
theorem px_ck_309_21 : px_chk px_m_309 ((px_cd_309.drop 840).take 40) = true := by decide +kernel
theorem px_ck_309_22 : px_chk px_m_309 ((px_cd_309.drop 880).take 40) = true := by decide +kernel
theorem px_ck_309_23 : px_chk px_m_309 ((px_cd_309.drop 920).take 40) = true := by decide +kernel
theorem px_ck_309_24 : px_chk px_m_309 ((px_cd_309.drop 960).take 40) = true := by decide +kernel
theorem px_ck_309_25 : px_chk px_m_309 ((px_cd_309.drop 1000).take 40) = true := by decide +kernel
theorem px_ck_309 : px_chk px_m_309 px_cd_309 = true := px_chk_cut 40 0 _ _ px_ck_309_0 (px_chk_cut 40 40 _ _ px_ck_309_1 (px_chk_cut 40 80 _ _ px_ck_309_2 (px_chk_cut 40 120 _ _ px_ck_309_3 (px_chk_cut 40 160 _ _ px_ck_309_4 (px_chk_cut 40 200 _ _ px_ck_309_5 (px_chk_cut 40 240 _ _ px_ck_309_6 (px_chk_cut 40 280 _ _ px_ck_309_7 (px_chk_cut 40 320 _ _ px_ck_309_8 (px_chk_cut 40 360 _ _ px_ck_309_9 (px_chk_cut 40 400 _ _ px_ck_309_10 (px_chk_cut 40 440 _ _ px_ck_309_11 (px_chk_cut 40 480 _ _ px_ck_309_12 (px_chk_cut 40 520 _ _ px_ck_309_13 (px_chk_cut 40 560 _ _ px_ck_309_14 (px_chk_cut 40 600 _ _ px_ck_309_15 (px_chk_cut 40 640 _ _ px_ck_309_16 (px_chk_cut 40 680 _ _ px_ck_309_17 (px_chk_cut 40 720 _ _ px_ck_309_18 (px_chk_cut 40 760 _ _ px_ck_309_19 (px_chk_cut 40 800 _ _ px_ck_309_20 (px_chk_cut 40 840 _ _ px_ck_309_21 (px_chk_cut 40 880 _ _ px_ck_309_22 (px_chk_cut 40 920 _ _ px_ck_309_23 (px_chk_cut 40 960 _ _ px_ck_309_24 (px_chk_cut 40 1000 _ _ px_ck_309_25 (px_chk_end _ _ 1040 (by decide +kernel)))))))))))))))))))))))))))
theorem px_PRE_ok : ∀ q ∈ px_PRE, px_chk q.1 q.2 = true := List.forall_mem_cons.mpr ⟨px_ck_309, fun _ h => absurd h List.not_mem_nil⟩
