theorem px_ck_112 : px_chk px_m_112 px_cd_112 = true := by decide +kernel
theorem px_ck_113 : px_chk px_m_113 px_cd_113 = true := by decide +kernel
theorem px_ck_114 : px_chk px_m_114 px_cd_114 = true := by decide +kernel
theorem px_ck_115 : px_chk px_m_115 px_cd_115 = true := by decide +kernel
theorem px_ck_116 : px_chk px_m_116 px_cd_116 = true := by decide +kernel
theorem px_ck_117 : px_chk px_m_117 px_cd_117 = true := by decide +kernel
theorem px_ck_118_0 : px_chk px_m_118 ((px_cd_118.drop 0).take 40) = true := by decide +kernel
theorem px_ck_118_1 : px_chk px_m_118 ((px_cd_118.drop 40).take 40) = true := by decide +kernel
theorem px_ck_118 : px_chk px_m_118 px_cd_118 = true := px_chk_cut 40 0 _ _ px_ck_118_0 (px_chk_cut 40 40 _ _ px_ck_118_1 (px_chk_end _ _ 80 (by decide +kernel)))
theorem px_ck_119 : px_chk px_m_119 px_cd_119 = true := by decide +kernel
theorem px_ck_120 : px_chk px_m_120 px_cd_120 = true := by decide +kernel
theorem px_ck_121_0 : px_chk px_m_121 ((px_cd_121.drop 0).take 40) = true := by decide +kernel
theorem px_ck_121_1 : px_chk px_m_121 ((px_cd_121.drop 40).take 40) = true := by decide +kernel
theorem px_ck_121 : px_chk px_m_121 px_cd_121 = true := px_chk_cut 40 0 _ _ px_ck_121_0 (px_chk_cut 40 40 _ _ px_ck_121_1 (px_chk_end _ _ 80 (by decide +kernel)))
theorem px_ck_122 : px_chk px_m_122 px_cd_122 = true := by decide +kernel
theorem px_ck_123 : px_chk px_m_123 px_cd_123 = true := by decide +kernel
theorem px_ck_124_0 : px_chk px_m_124 ((px_cd_124.drop 0).take 40) = true := by decide +kernel
theorem px_ck_124_1 : px_chk px_m_124 ((px_cd_124.drop 40).take 40) = true := by decide +kernel
theorem px_ck_124 : px_chk px_m_124 px_cd_124 = true := px_chk_cut 40 0 _ _ px_ck_124_0 (px_chk_cut 40 40 _ _ px_ck_124_1 (px_chk_end _ _ 80 (by decide +kernel)))
theorem px_ck_125 : px_chk px_m_125 px_cd_125 = true := by decide +kernel
theorem px_ck_126 : px_chk px_m_126 px_cd_126 = true := by decide +kernel
theorem px_ck_127 : px_chk px_m_127 px_cd_127 = true := by decide +kernel
theorem px_ck_128 : px_chk px_m_128 px_cd_128 = true := by decide +kernel
theorem px_ck_129 : px_chk px_m_129 px_cd_129 = true := by decide +kernel
theorem px_ck_130 : px_chk px_m_130 px_cd_130 = true := by decide +kernel
theorem px_ck_131 : px_chk px_m_131 px_cd_131 = true := by decide +kernel
theorem px_ck_132 : px_chk px_m_132 px_cd_132 = true := by decide +kernel
theorem px_ck_133 : px_chk px_m_133 px_cd_133 = true := by decide +kernel
theorem px_ck_134 : px_chk px_m_134 px_cd_134 = true := by decide +kernel
theorem px_ck_135 : px_chk px_m_135 px_cd_135 = true := by decide +kernel
theorem px_ck_136 : px_chk px_m_136 px_cd_136 = true := by decide +kernel
theorem px_ck_137 : px_chk px_m_137 px_cd_137 = true := by decide +kernel
theorem px_ck_138 : px_chk px_m_138 px_cd_138 = true := by decide +kernel
theorem px_ck_139 : px_chk px_m_139 px_cd_139 = true := by decide +kernel
theorem px_ck_140 : px_chk px_m_140 px_cd_140 = true := by decide +kernel
theorem px_ck_141 : px_chk px_m_141 px_cd_141 = true := by decide +kernel
theorem px_ck_142_0 : px_chk px_m_142 ((px_cd_142.drop 0).take 40) = true := by decide +kernel
theorem px_ck_142_1 : px_chk px_m_142 ((px_cd_142.drop 40).take 40) = true := by decide +kernel
theorem px_ck_142 : px_chk px_m_142 px_cd_142 = true := px_chk_cut 40 0 _ _ px_ck_142_0 (px_chk_cut 40 40 _ _ px_ck_142_1 (px_chk_end _ _ 80 (by decide +kernel)))
theorem px_ck_143 : px_chk px_m_143 px_cd_143 = true := by decide +kernel
theorem px_ck_144 : px_chk px_m_144 px_cd_144 = true := by decide +kernel
theorem px_ck_145 : px_chk px_m_145 px_cd_145 = true := by decide +kernel
theorem px_ck_146_0 : px_chk px_m_146 ((px_cd_146.drop 0).take 40) = true := by decide +kernel
theorem px_ck_146_1 : px_chk px_m_146 ((px_cd_146.drop 40).take 40) = true := by decide +kernel
theorem px_ck_146_2 : px_chk px_m_146 ((px_cd_146.drop 80).take 40) = true := by decide +kernel
theorem px_ck_146 : px_chk px_m_146 px_cd_146 = true := px_chk_cut 40 0 _ _ px_ck_146_0 (px_chk_cut 40 40 _ _ px_ck_146_1 (px_chk_cut 40 80 _ _ px_ck_146_2 (px_chk_end _ _ 120 (by decide +kernel))))
theorem px_ck_147 : px_chk px_m_147 px_cd_147 = true := by decide +kernel
theorem px_ck_148 : px_chk px_m_148 px_cd_148 = true := by decide +kernel
theorem px_ck_149 : px_chk px_m_149 px_cd_149 = true := by decide +kernel
theorem px_ck_150 : px_chk px_m_150 px_cd_150 = true := by decide +kernel
theorem px_ck_151 : px_chk px_m_151 px_cd_151 = true := by decide +kernel
theorem px_ck_152 : px_chk px_m_152 px_cd_152 = true := by decide +kernel
theorem px_ck_153 : px_chk px_m_153 px_cd_153 = true := by decide +kernel
theorem px_ck_154_0 : px_chk px_m_154 ((px_cd_154.drop 0).take 40) = true := by decide +kernel
theorem px_ck_154_1 : px_chk px_m_154 ((px_cd_154.drop 40).take 40) = true := by decide +kernel
theorem px_ck_154 : px_chk px_m_154 px_cd_154 = true := px_chk_cut 40 0 _ _ px_ck_154_0 (px_chk_cut 40 40 _ _ px_ck_154_1 (px_chk_end _ _ 80 (by decide +kernel)))
theorem px_ck_155 : px_chk px_m_155 px_cd_155 = true := by decide +kernel
theorem px_ck_156 : px_chk px_m_156 px_cd_156 = true := by decide +kernel
theorem px_ck_157 : px_chk px_m_157 px_cd_157 = true := by decide +kernel
theorem px_ck_158_0 : px_chk px_m_158 ((px_cd_158.drop 0).take 40) = true := by decide +kernel
theorem px_ck_158_1 : px_chk px_m_158 ((px_cd_158.drop 40).take 40) = true := by decide +kernel
theorem px_ck_158 : px_chk px_m_158 px_cd_158 = true := px_chk_cut 40 0 _ _ px_ck_158_0 (px_chk_cut 40 40 _ _ px_ck_158_1 (px_chk_end _ _ 80 (by decide +kernel)))
theorem px_ck_159 : px_chk px_m_159 px_cd_159 = true := by decide +kernel
theorem px_ck_160 : px_chk px_m_160 px_cd_160 = true := by decide +kernel
theorem px_ck_161 : px_chk px_m_161 px_cd_161 = true := by decide +kernel
theorem px_ck_162_0 : px_chk px_m_162 ((px_cd_162.drop 0).take 40) = true := by decide +kernel
theorem px_ck_162_1 : px_chk px_m_162 ((px_cd_162.drop 40).take 40) = true := by decide +kernel
theorem px_ck_162 : px_chk px_m_162 px_cd_162 = true := px_chk_cut 40 0 _ _ px_ck_162_0 (px_chk_cut 40 40 _ _ px_ck_162_1 (px_chk_end _ _ 80 (by decide +kernel)))
theorem px_ck_163 : px_chk px_m_163 px_cd_163 = true := by decide +kernel
theorem px_ck_164_0 : px_chk px_m_164 ((px_cd_164.drop 0).take 40) = true := by decide +kernel
theorem px_ck_164_1 : px_chk px_m_164 ((px_cd_164.drop 40).take 40) = true := by decide +kernel
theorem px_ck_164 : px_chk px_m_164 px_cd_164 = true := px_chk_cut 40 0 _ _ px_ck_164_0 (px_chk_cut 40 40 _ _ px_ck_164_1 (px_chk_end _ _ 80 (by decide +kernel)))
theorem px_ck_165 : px_chk px_m_165 px_cd_165 = true := by decide +kernel
theorem px_ck_166 : px_chk px_m_166 px_cd_166 = true := by decide +kernel
theorem px_ck_167 : px_chk px_m_167 px_cd_167 = true := by decide +kernel
theorem px_ck_168 : px_chk px_m_168 px_cd_168 = true := by decide +kernel
theorem px_PRB_ok : ∀ q ∈ px_PRB, px_chk q.1 q.2 = true := List.forall_mem_cons.mpr ⟨px_ck_112, List.forall_mem_cons.mpr ⟨px_ck_113, List.forall_mem_cons.mpr ⟨px_ck_114, List.forall_mem_cons.mpr ⟨px_ck_115, List.forall_mem_cons.mpr ⟨px_ck_116, List.forall_mem_cons.mpr ⟨px_ck_117, List.forall_mem_cons.mpr ⟨px_ck_118, List.forall_mem_cons.mpr ⟨px_ck_119, List.forall_mem_cons.mpr ⟨px_ck_120, List.forall_mem_cons.mpr ⟨px_ck_121, List.forall_mem_cons.mpr ⟨px_ck_122, List.forall_mem_cons.mpr ⟨px_ck_123, List.forall_mem_cons.mpr ⟨px_ck_124, List.forall_mem_cons.mpr ⟨px_ck_125, List.forall_mem_cons.mpr ⟨px_ck_126, List.forall_mem_cons.mpr ⟨px_ck_127, List.forall_mem_cons.mpr ⟨px_ck_128, List.forall_mem_cons.mpr ⟨px_ck_129, List.forall_mem_cons.mpr ⟨px_ck_130, List.forall_mem_cons.mpr ⟨px_ck_131, List.forall_mem_cons.mpr ⟨px_ck_132, List.forall_mem_cons.mpr ⟨px_ck_133, List.forall_mem_cons.mpr ⟨px_ck_134, List.forall_mem_cons.mpr ⟨px_ck_135, List.forall_mem_cons.mpr ⟨px_ck_136, List.forall_mem_cons.mpr ⟨px_ck_137, List.forall_mem_cons.mpr ⟨px_ck_138, List.forall_mem_cons.mpr ⟨px_ck_139, List.forall_mem_cons.mpr ⟨px_ck_140, List.forall_mem_cons.mpr ⟨px_ck_141, List.forall_mem_cons.mpr ⟨px_ck_142, List.forall_mem_cons.mpr ⟨px_ck_143, List.forall_mem_cons.mpr ⟨px_ck_144, List.forall_mem_cons.mpr ⟨px_ck_145, List.forall_mem_cons.mpr ⟨px_ck_146, List.forall_mem_cons.mpr ⟨px_ck_147, List.forall_mem_cons.mpr ⟨px_ck_148, List.forall_mem_cons.mpr ⟨px_ck_149, List.forall_mem_cons.mpr ⟨px_ck_150, List.forall_mem_cons.mpr ⟨px_ck_151, List.forall_mem_cons.mpr ⟨px_ck_152, List.forall_mem_cons.mpr ⟨px_ck_153, List.forall_mem_cons.mpr ⟨px_ck_154, List.forall_mem_cons.mpr ⟨px_ck_155, List.forall_mem_cons.mpr ⟨px_ck_156, List.forall_mem_cons.mpr ⟨px_ck_157, List.forall_mem_cons.mpr ⟨px_ck_158, List.forall_mem_cons.mpr ⟨px_ck_159, List.forall_mem_cons.mpr ⟨px_ck_160, List.forall_mem_cons.mpr ⟨px_ck_161, List.forall_mem_cons.mpr ⟨px_ck_162, List.forall_mem_cons.mpr ⟨px_ck_163, List.forall_mem_cons.mpr ⟨px_ck_164, List.forall_mem_cons.mpr ⟨px_ck_165, List.forall_mem_cons.mpr ⟨px_ck_166, List.forall_mem_cons.mpr ⟨px_ck_167, List.forall_mem_cons.mpr ⟨px_ck_168, fun _ h => absurd h List.not_mem_nil⟩⟩⟩⟩⟩⟩⟩⟩⟩⟩⟩⟩⟩⟩⟩⟩⟩⟩⟩⟩⟩⟩⟩⟩⟩⟩⟩⟩⟩⟩⟩⟩⟩⟩⟩⟩⟩⟩⟩⟩⟩⟩⟩⟩⟩⟩⟩⟩⟩⟩⟩⟩⟩⟩⟩⟩⟩
