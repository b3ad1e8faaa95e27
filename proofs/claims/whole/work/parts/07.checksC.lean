theorem px_ck_169_0 : px_chk px_m_169 ((px_cd_169.drop 0).take 40) = true := by decide +kernel
theorem px_ck_169_1 : px_chk px_m_169 ((px_cd_169.drop 40).take 40) = true := by decide +kernel
theorem px_ck_169_2 : px_chk px_m_169 ((px_cd_169.drop 80).take 40) = true := by decide +kernel
theorem px_ck_169 : px_chk px_m_169 px_cd_169 = true := px_chk_cut 40 0 _ _ px_ck_169_0 (px_chk_cut 40 40 _ _ px_ck_169_1 (px_chk_cut 40 80 _ _ px_ck_169_2 (px_chk_end _ _ 120 (by decide +kernel))))
theorem px_ck_170 : px_chk px_m_170 px_cd_170 = true := by decide +kernel
theorem px_ck_171 : px_chk px_m_171 px_cd_171 = true := by decide +kernel
theorem px_ck_172 : px_chk px_m_172 px_cd_172 = true := by decide +kernel
theorem px_ck_173 : px_chk px_m_173 px_cd_173 = true := by decide +kernel
theorem px_ck_174 : px_chk px_m_174 px_cd_174 = true := by decide +kernel
theorem px_ck_175 : px_chk px_m_175 px_cd_175 = true := by decide +kernel
theorem px_ck_176 : px_chk px_m_176 px_cd_176 = true := by decide +kernel
theorem px_ck_177 : px_chk px_m_177 px_cd_177 = true := by decide +kernel
theorem px_ck_178 : px_chk px_m_178 px_cd_178 = true := by decide +kernel
theorem px_ck_179 : px_chk px_m_179 px_cd_179 = true := by decide +kernel
theorem px_ck_180 : px_chk px_m_180 px_cd_180 = true := by decide +kernel
theorem px_ck_181 : px_chk px_m_181 px_cd_181 = true := by decide +kernel
theorem px_ck_182 : px_chk px_m_182 px_cd_182 = true := by decide +kernel
theorem px_ck_183 : px_chk px_m_183 px_cd_183 = true := by decide +kernel
theorem px_ck_184 : px_chk px_m_184 px_cd_184 = true := by decide +kernel
theorem px_ck_185 : px_chk px_m_185 px_cd_185 = true := by decide +kernel
theorem px_ck_186 : px_chk px_m_186 px_cd_186 = true := by decide +kernel
theorem px_ck_187 : px_chk px_m_187 px_cd_187 = true := by decide +kernel
theorem px_ck_188 : px_chk px_m_188 px_cd_188 = true := by decide +kernel
theorem px_ck_189 : px_chk px_m_189 px_cd_189 = true := by decide +kernel
theorem px_ck_190 : px_chk px_m_190 px_cd_190 = true := by decide +kernel
theorem px_ck_191 : px_chk px_m_191 px_cd_191 = true := by decide +kernel
theorem px_ck_192_0 : px_chk px_m_192 ((px_cd_192.drop 0).take 40) = true := by decide +kernel
theorem px_ck_192_1 : px_chk px_m_192 ((px_cd_192.drop 40).take 40) = true := by decide +kernel
theorem px_ck_192_2 : px_chk px_m_192 ((px_cd_192.drop 80).take 40) = true := by decide +kernel
theorem px_ck_192_3 : px_chk px_m_192 ((px_cd_192.drop 120).take 40) = true := by decide +kernel
theorem px_ck_192 : px_chk px_m_192 px_cd_192 = true := px_chk_cut 40 0 _ _ px_ck_192_0 (px_chk_cut 40 40 _ _ px_ck_192_1 (px_chk_cut 40 80 _ _ px_ck_192_2 (px_chk_cut 40 120 _ _ px_ck_192_3 (px_chk_end _ _ 160 (by decide +kernel)))))
theorem px_ck_193_0 : px_chk px_m_193 ((px_cd_193.drop 0).take 40) = true := by decide +kernel
theorem px_ck_193_1 : px_chk px_m_193 ((px_cd_193.drop 40).take 40) = true := by decide +kernel
theorem px_ck_193_2 : px_chk px_m_193 ((px_cd_193.drop 80).take 40) = true := by decide +kernel
theorem px_ck_193 : px_chk px_m_193 px_cd_193 = true := px_chk_cut 40 0 _ _ px_ck_193_0 (px_chk_cut 40 40 _ _ px_ck_193_1 (px_chk_cut 40 80 _ _ px_ck_193_2 (px_chk_end _ _ 120 (by decide +kernel))))
theorem px_ck_194 : px_chk px_m_194 px_cd_194 = true := by decide +kernel
theorem px_ck_195 : px_chk px_m_195 px_cd_195 = true := by decide +kernel
theorem px_ck_196_0 : px_chk px_m_196 ((px_cd_196.drop 0).take 40) = true := by decide +kernel
theorem px_ck_196_1 : px_chk px_m_196 ((px_cd_196.drop 40).take 40) = true := by decide +kernel
theorem px_ck_196_2 : px_chk px_m_196 ((px_cd_196.drop 80).take 40) = true := by decide +kernel
theorem px_ck_196 : px_chk px_m_196 px_cd_196 = true := px_chk_cut 40 0 _ _ px_ck_196_0 (px_chk_cut 40 40 _ _ px_ck_196_1 (px_chk_cut 40 80 _ _ px_ck_196_2 (px_chk_end _ _ 120 (by decide +kernel))))
theorem px_ck_197 : px_chk px_m_197 px_cd_197 = true := by decide +kernel
theorem px_ck_198 : px_chk px_m_198 px_cd_198 = true := by decide +kernel
theorem px_ck_199 : px_chk px_m_199 px_cd_199 = true := by decide +kernel
theorem px_ck_200_0 : px_chk px_m_200 ((px_cd_200.drop 0).take 40) = true := by decide +kernel
theorem px_ck_200_1 : px_chk px_m_200 ((px_cd_200.drop 40).take 40) = true := by decide +kernel
theorem px_ck_200 : px_chk px_m_200 px_cd_200 = true := px_chk_cut 40 0 _ _ px_ck_200_0 (px_chk_cut 40 40 _ _ px_ck_200_1 (px_chk_end _ _ 80 (by decide +kernel)))
theorem px_ck_201 : px_chk px_m_201 px_cd_201 = true := by decide +kernel
theorem px_ck_202 : px_chk px_m_202 px_cd_202 = true := by decide +kernel
theorem px_ck_203_0 : px_chk px_m_203 ((px_cd_203.drop 0).take 40) = true := by decide +kernel
theorem px_ck_203_1 : px_chk px_m_203 ((px_cd_203.drop 40).take 40) = true := by decide +kernel
theorem px_ck_203_2 : px_chk px_m_203 ((px_cd_203.drop 80).take 40) = true := by decide +kernel
theorem px_ck_203 : px_chk px_m_203 px_cd_203 = true := px_chk_cut 40 0 _ _ px_ck_203_0 (px_chk_cut 40 40 _ _ px_ck_203_1 (px_chk_cut 40 80 _ _ px_ck_203_2 (px_chk_end _ _ 120 (by decide +kernel))))
theorem px_ck_204 : px_chk px_m_204 px_cd_204 = true := by decide +kernel
theorem px_ck_205 : px_chk px_m_205 px_cd_205 = true := by decide +kernel
theorem px_ck_206 : px_chk px_m_206 px_cd_206 = true := by decide +kernel
theorem px_ck_207 : px_chk px_m_207 px_cd_207 = true := by decide +kernel
theorem px_ck_208 : px_chk px_m_208 px_cd_208 = true := by decide +kernel
theorem px_ck_209 : px_chk px_m_209 px_cd_209 = true := by decide +kernel
theorem px_ck_210 : px_chk px_m_210 px_cd_210 = true := by decide +kernel
theorem px_ck_211 : px_chk px_m_211 px_cd_211 = true := by decide +kernel
theorem px_ck_212 : px_chk px_m_212 px_cd_212 = true := by decide +kernel
theorem px_ck_213 : px_chk px_m_213 px_cd_213 = true := by decide +kernel
theorem px_ck_214 : px_chk px_m_214 px_cd_214 = true := by decide +kernel
theorem px_ck_215 : px_chk px_m_215 px_cd_215 = true := by decide +kernel
theorem px_ck_216 : px_chk px_m_216 px_cd_216 = true := by decide +kernel
theorem px_ck_217 : px_chk px_m_217 px_cd_217 = true := by decide +kernel
theorem px_ck_218 : px_chk px_m_218 px_cd_218 = true := by decide +kernel
theorem px_ck_219 : px_chk px_m_219 px_cd_219 = true := by decide +kernel
theorem px_ck_220 : px_chk px_m_220 px_cd_220 = true := by decide +kernel
theorem px_ck_221 : px_chk px_m_221 px_cd_221 = true := by decide +kernel
theorem px_ck_222 : px_chk px_m_222 px_cd_222 = true := by decide +kernel
theorem px_ck_223_0 : px_chk px_m_223 ((px_cd_223.drop 0).take 40) = true := by decide +kernel
theorem px_ck_223_1 : px_chk px_m_223 ((px_cd_223.drop 40).take 40) = true := by decide +kernel
theorem px_ck_223_2 : px_chk px_m_223 ((px_cd_223.drop 80).take 40) = true := by decide +kernel
theorem px_ck_223 : px_chk px_m_223 px_cd_223 = true := px_chk_cut 40 0 _ _ px_ck_223_0 (px_chk_cut 40 40 _ _ px_ck_223_1 (px_chk_cut 40 80 _ _ px_ck_223_2 (px_chk_end _ _ 120 (by decide +kernel))))
theorem px_ck_224 : px_chk px_m_224 px_cd_224 = true := by decide +kernel
theorem px_ck_225 : px_chk px_m_225 px_cd_225 = true := by decide +kernel
theorem px_ck_226 : px_chk px_m_226 px_cd_226 = true := by decide +kernel
theorem px_ck_227_0 : px_chk px_m_227 ((px_cd_227.drop 0).take 40) = true := by decide +kernel
theorem px_ck_227_1 : px_chk px_m_227 ((px_cd_227.drop 40).take 40) = true := by decide +kernel
theorem px_ck_227 : px_chk px_m_227 px_cd_227 = true := px_chk_cut 40 0 _ _ px_ck_227_0 (px_chk_cut 40 40 _ _ px_ck_227_1 (px_chk_end _ _ 80 (by decide +kernel)))
theorem px_ck_228_0 : px_chk px_m_228 ((px_cd_228.drop 0).take 40) = true := by decide +kernel
theorem px_ck_228_1 : px_chk px_m_228 ((px_cd_228.drop 40).take 40) = true := by decide +kernel
theorem px_ck_228 : px_chk px_m_228 px_cd_228 = true := px_chk_cut 40 0 _ _ px_ck_228_0 (px_chk_cut 40 40 _ _ px_ck_228_1 (px_chk_end _ _ 80 (by decide +kernel)))
theorem px_ck_229_0 : px_chk px_m_229 ((px_cd_229.drop 0).take 40) = true := by decide +kernel
theorem px_ck_229_1 : px_chk px_m_229 ((px_cd_229.drop 40).take 40) = true := by decide +kernel
theorem px_ck_229 : px_chk px_m_229 px_cd_229 = true := px_chk_cut 40 0 _ _ px_ck_229_0 (px_chk_cut 40 40 _ _ px_ck_229_1 (px_chk_end _ _ 80 (by decide +kernel)))
theorem px_ck_230 : px_chk px_m_230 px_cd_230 = true := by decide +kernel
theorem px_ck_231 : px_chk px_m_231 px_cd_231 = true := by decide +kernel
theorem px_ck_232 : px_chk px_m_232 px_cd_232 = true := by decide +kernel
theorem px_ck_233 : px_chk px_m_233 px_cd_233 = true := by decide +kernel
theorem px_ck_234 : px_chk px_m_234 px_cd_234 = true := by decide +kernel
theorem px_ck_235_0 : px_chk px_m_235 ((px_cd_235.drop 0).take 40) = true := by decide +kernel
theorem px_ck_235_1 : px_chk px_m_235 ((px_cd_235.drop 40).take 40) = true := by decide +kernel
theorem px_ck_235_2 : px_chk px_m_235 ((px_cd_235.drop 80).take 40) = true := by decide +kernel
theorem px_ck_235_3 : px_chk px_m_235 ((px_cd_235.drop 120).take 40) = true := by decide +kernel
theorem px_ck_235_4 : px_chk px_m_235 ((px_cd_235.drop 160).take 40) = true := by decide +kernel
theorem px_ck_235 : px_chk px_m_235 px_cd_235 = true := px_chk_cut 40 0 _ _ px_ck_235_0 (px_chk_cut 40 40 _ _ px_ck_235_1 (px_chk_cut 40 80 _ _ px_ck_235_2 (px_chk_cut 40 120 _ _ px_ck_235_3 (px_chk_cut 40 160 _ _ px_ck_235_4 (px_chk_end _ _ 200 (by decide +kernel))))))
theorem px_ck_236 : px_chk px_m_236 px_cd_236 = true := by decide +kernel
theorem px_ck_237_0 : px_chk px_m_237 ((px_cd_237.drop 0).take 40) = true := by decide +kernel
theorem px_ck_237_1 : px_chk px_m_237 ((px_cd_237.drop 40).take 40) = true := by decide +kernel
theorem px_ck_237 : px_chk px_m_237 px_cd_237 = true := px_chk_cut 40 0 _ _ px_ck_237_0 (px_chk_cut 40 40 _ _ px_ck_237_1 (px_chk_end _ _ 80 (by decide +kernel)))
theorem px_ck_238 : px_chk px_m_238 px_cd_238 = true := by decide +kernel
theorem px_ck_239 : px_chk px_m_239 px_cd_239 = true := by decide +kernel
theorem px_PRC_ok : ∀ q ∈ px_PRC, px_chk q.1 q.2 = true := List.forall_mem_cons.mpr ⟨px_ck_169, List.forall_mem_cons.mpr ⟨px_ck_170, List.forall_mem_cons.mpr ⟨px_ck_171, List.forall_mem_cons.mpr ⟨px_ck_172, List.forall_mem_cons.mpr ⟨px_ck_173, List.forall_mem_cons.mpr ⟨px_ck_174, List.forall_mem_cons.mpr ⟨px_ck_175, List.forall_mem_cons.mpr ⟨px_ck_176, List.forall_mem_cons.mpr ⟨px_ck_177, List.forall_mem_cons.mpr ⟨px_ck_178, List.forall_mem_cons.mpr ⟨px_ck_179, List.forall_mem_cons.mpr ⟨px_ck_180, List.forall_mem_cons.mpr ⟨px_ck_181, List.forall_mem_cons.mpr ⟨px_ck_182, List.forall_mem_cons.mpr ⟨px_ck_183, List.forall_mem_cons.mpr ⟨px_ck_184, List.forall_mem_cons.mpr ⟨px_ck_185, List.forall_mem_cons.mpr ⟨px_ck_186, List.forall_mem_cons.mpr ⟨px_ck_187, List.forall_mem_cons.mpr ⟨px_ck_188, List.forall_mem_cons.mpr ⟨px_ck_189, List.forall_mem_cons.mpr ⟨px_ck_190, List.forall_mem_cons.mpr ⟨px_ck_191, List.forall_mem_cons.mpr ⟨px_ck_192, List.forall_mem_cons.mpr ⟨px_ck_193, List.forall_mem_cons.mpr ⟨px_ck_194, List.forall_mem_cons.mpr ⟨px_ck_195, List.forall_mem_cons.mpr ⟨px_ck_196, List.forall_mem_cons.mpr ⟨px_ck_197, List.forall_mem_cons.mpr ⟨px_ck_198, List.forall_mem_cons.mpr ⟨px_ck_199, List.forall_mem_cons.mpr ⟨px_ck_200, List.forall_mem_cons.mpr ⟨px_ck_201, List.forall_mem_cons.mpr ⟨px_ck_202, List.forall_mem_cons.mpr ⟨px_ck_203, List.forall_mem_cons.mpr ⟨px_ck_204, List.forall_mem_cons.mpr ⟨px_ck_205, List.forall_mem_cons.mpr ⟨px_ck_206, List.forall_mem_cons.mpr ⟨px_ck_207, List.forall_mem_cons.mpr ⟨px_ck_208, List.forall_mem_cons.mpr ⟨px_ck_209, List.forall_mem_cons.mpr ⟨px_ck_210, List.forall_mem_cons.mpr ⟨px_ck_211, List.forall_mem_cons.mpr ⟨px_ck_212, List.forall_mem_cons.mpr ⟨px_ck_213, List.forall_mem_cons.mpr ⟨px_ck_214, List.forall_mem_cons.mpr ⟨px_ck_215, List.forall_mem_cons.mpr ⟨px_ck_216, List.forall_mem_cons.mpr ⟨px_ck_217, List.forall_mem_cons.mpr ⟨px_ck_218, List.forall_mem_cons.mpr ⟨px_ck_219, List.forall_mem_cons.mpr ⟨px_ck_220, List.forall_mem_cons.mpr ⟨px_ck_221, List.forall_mem_cons.mpr ⟨px_ck_222, List.forall_mem_cons.mpr ⟨px_ck_223, List.forall_mem_cons.mpr ⟨px_ck_224, List.forall_mem_cons.mpr ⟨px_ck_225, List.forall_mem_cons.mpr ⟨px_ck_226, List.forall_mem_cons.mpr ⟨px_ck_227, List.forall_mem_cons.mpr ⟨px_ck_228, List.forall_mem_cons.mpr ⟨px_ck_229, List.forall_mem_cons.mpr ⟨px_ck_230, List.forall_mem_cons.mpr ⟨px_ck_231, List.forall_mem_cons.mpr ⟨px_ck_232, List.forall_mem_cons.mpr ⟨px_ck_233, List.forall_mem_cons.mpr ⟨px_ck_234, List.forall_mem_cons.mpr ⟨px_ck_235, List.forall_mem_cons.mpr ⟨px_ck_236, List.forall_mem_cons.mpr ⟨px_ck_237, List.forall_mem_cons.mpr ⟨px_ck_238, List.forall_mem_cons.mpr ⟨px_ck_239, fun _ h => absurd h List.not_mem_nil⟩⟩⟩⟩⟩⟩⟩⟩⟩⟩⟩⟩⟩⟩⟩⟩⟩⟩⟩⟩⟩⟩⟩⟩⟩⟩⟩⟩⟩⟩⟩⟩⟩⟩⟩⟩⟩⟩⟩⟩⟩⟩⟩⟩⟩⟩⟩⟩⟩⟩⟩⟩⟩⟩⟩⟩⟩⟩⟩⟩⟩⟩⟩⟩⟩⟩⟩⟩⟩⟩⟩
