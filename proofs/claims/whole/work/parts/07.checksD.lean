theorem px_ck_240 : px_chk px_m_240 px_cd_240 = true := by decide +kernel
theorem px_ck_241 : px_chk px_m_241 px_cd_241 = true := by decide +kernel
theorem px_ck_242_0 : px_chk px_m_242 ((px_cd_242.drop 0).take 40) = true := by decide +kernel
theorem px_ck_242_1 : px_chk px_m_242 ((px_cd_242.drop 40).take 40) = true := by decide +kernel
theorem px_ck_242 : px_chk px_m_242 px_cd_242 = true := px_chk_cut 40 0 _ _ px_ck_242_0 (px_chk_cut 40 40 _ _ px_ck_242_1 (px_chk_end _ _ 80 (by decide +kernel)))
theorem px_ck_243_0 : px_chk px_m_243 ((px_cd_243.drop 0).take 40) = true := by decide +kernel
theorem px_ck_243_1 : px_chk px_m_243 ((px_cd_243.drop 40).take 40) = true := by decide +kernel
theorem px_ck_243_2 : px_chk px_m_243 ((px_cd_243.drop 80).take 40) = true := by decide +kernel
theorem px_ck_243 : px_chk px_m_243 px_cd_243 = true := px_chk_cut 40 0 _ _ px_ck_243_0 (px_chk_cut 40 40 _ _ px_ck_243_1 (px_chk_cut 40 80 _ _ px_ck_243_2 (px_chk_end _ _ 120 (by decide +kernel))))
theorem px_ck_244 : px_chk px_m_244 px_cd_244 = true := by decide +kernel
theorem px_ck_245_0 : px_chk px_m_245 ((px_cd_245.drop 0).take 40) = true := by decide +kernel
theorem px_ck_245_1 : px_chk px_m_245 ((px_cd_245.drop 40).take 40) = true := by decide +kernel
theorem px_ck_245_2 : px_chk px_m_245 ((px_cd_245.drop 80).take 40) = true := by decide +kernel
theorem px_ck_245 : px_chk px_m_245 px_cd_245 = true := px_chk_cut 40 0 _ _ px_ck_245_0 (px_chk_cut 40 40 _ _ px_ck_245_1 (px_chk_cut 40 80 _ _ px_ck_245_2 (px_chk_end _ _ 120 (by decide +kernel))))
theorem px_ck_246 : px_chk px_m_246 px_cd_246 = true := by decide +kernel
theorem px_ck_247_0 : px_chk px_m_247 ((px_cd_247.drop 0).take 40) = true := by decide +kernel
theorem px_ck_247_1 : px_chk px_m_247 ((px_cd_247.drop 40).take 40) = true := by decide +kernel
theorem px_ck_247 : px_chk px_m_247 px_cd_247 = true := px_chk_cut 40 0 _ _ px_ck_247_0 (px_chk_cut 40 40 _ _ px_ck_247_1 (px_chk_end _ _ 80 (by decide +kernel)))
theorem px_ck_248 : px_chk px_m_248 px_cd_248 = true := by decide +kernel
theorem px_ck_249 : px_chk px_m_249 px_cd_249 = true := by decide +kernel
theorem px_ck_250_0 : px_chk px_m_250 ((px_cd_250.drop 0).take 40) = true := by decide +kernel
theorem px_ck_250_1 : px_chk px_m_250 ((px_cd_250.drop 40).take 40) = true := by decide +kernel
theorem px_ck_250_2 : px_chk px_m_250 ((px_cd_250.drop 80).take 40) = true := by decide +kernel
theorem px_ck_250_3 : px_chk px_m_250 ((px_cd_250.drop 120).take 40) = true := by decide +kernel
theorem px_ck_250 : px_chk px_m_250 px_cd_250 = true := px_chk_cut 40 0 _ _ px_ck_250_0 (px_chk_cut 40 40 _ _ px_ck_250_1 (px_chk_cut 40 80 _ _ px_ck_250_2 (px_chk_cut 40 120 _ _ px_ck_250_3 (px_chk_end _ _ 160 (by decide +kernel)))))
theorem px_ck_251 : px_chk px_m_251 px_cd_251 = true := by decide +kernel
theorem px_ck_252 : px_chk px_m_252 px_cd_252 = true := by decide +kernel
theorem px_ck_253 : px_chk px_m_253 px_cd_253 = true := by decide +kernel
theorem px_ck_254 : px_chk px_m_254 px_cd_254 = true := by decide +kernel
theorem px_ck_255_0 : px_chk px_m_255 ((px_cd_255.drop 0).take 40) = true := by decide +kernel
theorem px_ck_255_1 : px_chk px_m_255 ((px_cd_255.drop 40).take 40) = true := by decide +kernel
theorem px_ck_255_2 : px_chk px_m_255 ((px_cd_255.drop 80).take 40) = true := by decide +kernel
theorem px_ck_255 : px_chk px_m_255 px_cd_255 = true := px_chk_cut 40 0 _ _ px_ck_255_0 (px_chk_cut 40 40 _ _ px_ck_255_1 (px_chk_cut 40 80 _ _ px_ck_255_2 (px_chk_end _ _ 120 (by decide +kernel))))
theorem px_ck_256 : px_chk px_m_256 px_cd_256 = true := by decide +kernel
theorem px_ck_257 : px_chk px_m_257 px_cd_257 = true := by decide +kernel
theorem px_ck_258 : px_chk px_m_258 px_cd_258 = true := by decide +kernel
theorem px_ck_259 : px_chk px_m_259 px_cd_259 = true := by decide +kernel
theorem px_ck_260 : px_chk px_m_260 px_cd_260 = true := by decide +kernel
theorem px_ck_261 : px_chk px_m_261 px_cd_261 = true := by decide +kernel
theorem px_ck_262 : px_chk px_m_262 px_cd_262 = true := by decide +kernel
theorem px_ck_263_0 : px_chk px_m_263 ((px_cd_263.drop 0).take 40) = true := by decide +kernel
theorem px_ck_263_1 : px_chk px_m_263 ((px_cd_263.drop 40).take 40) = true := by decide +kernel
theorem px_ck_263 : px_chk px_m_263 px_cd_263 = true := px_chk_cut 40 0 _ _ px_ck_263_0 (px_chk_cut 40 40 _ _ px_ck_263_1 (px_chk_end _ _ 80 (by decide +kernel)))
theorem px_ck_264_0 : px_chk px_m_264 ((px_cd_264.drop 0).take 40) = true := by decide +kernel
theorem px_ck_264_1 : px_chk px_m_264 ((px_cd_264.drop 40).take 40) = true := by decide +kernel
theorem px_ck_264_2 : px_chk px_m_264 ((px_cd_264.drop 80).take 40) = true := by decide +kernel
theorem px_ck_264 : px_chk px_m_264 px_cd_264 = true := px_chk_cut 40 0 _ _ px_ck_264_0 (px_chk_cut 40 40 _ _ px_ck_264_1 (px_chk_cut 40 80 _ _ px_ck_264_2 (px_chk_end _ _ 120 (by decide +kernel))))
theorem px_ck_265 : px_chk px_m_265 px_cd_265 = true := by decide +kernel
theorem px_ck_266_0 : px_chk px_m_266 ((px_cd_266.drop 0).take 40) = true := by decide +kernel
theorem px_ck_266_1 : px_chk px_m_266 ((px_cd_266.drop 40).take 40) = true := by decide +kernel
theorem px_ck_266 : px_chk px_m_266 px_cd_266 = true := px_chk_cut 40 0 _ _ px_ck_266_0 (px_chk_cut 40 40 _ _ px_ck_266_1 (px_chk_end _ _ 80 (by decide +kernel)))
theorem px_ck_267_0 : px_chk px_m_267 ((px_cd_267.drop 0).take 40) = true := by decide +kernel
theorem px_ck_267_1 : px_chk px_m_267 ((px_cd_267.drop 40).take 40) = true := by decide +kernel
theorem px_ck_267 : px_chk px_m_267 px_cd_267 = true := px_chk_cut 40 0 _ _ px_ck_267_0 (px_chk_cut 40 40 _ _ px_ck_267_1 (px_chk_end _ _ 80 (by decide +kernel)))
theorem px_ck_268 : px_chk px_m_268 px_cd_268 = true := by decide +kernel
theorem px_ck_269 : px_chk px_m_269 px_cd_269 = true := by decide +kernel
theorem px_ck_270 : px_chk px_m_270 px_cd_270 = true := by decide +kernel
theorem px_ck_271_0 : px_chk px_m_271 ((px_cd_271.drop 0).take 40) = true := by decide +kernel
theorem px_ck_271_1 : px_chk px_m_271 ((px_cd_271.drop 40).take 40) = true := by decide +kernel
theorem px_ck_271_2 : px_chk px_m_271 ((px_cd_271.drop 80).take 40) = true := by decide +kernel
theorem px_ck_271_3 : px_chk px_m_271 ((px_cd_271.drop 120).take 40) = true := by decide +kernel
theorem px_ck_271 : px_chk px_m_271 px_cd_271 = true := px_chk_cut 40 0 _ _ px_ck_271_0 (px_chk_cut 40 40 _ _ px_ck_271_1 (px_chk_cut 40 80 _ _ px_ck_271_2 (px_chk_cut 40 120 _ _ px_ck_271_3 (px_chk_end _ _ 160 (by decide +kernel)))))
theorem px_ck_272_0 : px_chk px_m_272 ((px_cd_272.drop 0).take 40) = true := by decide +kernel
theorem px_ck_272_1 : px_chk px_m_272 ((px_cd_272.drop 40).take 40) = true := by decide +kernel
theorem px_ck_272 : px_chk px_m_272 px_cd_272 = true := px_chk_cut 40 0 _ _ px_ck_272_0 (px_chk_cut 40 40 _ _ px_ck_272_1 (px_chk_end _ _ 80 (by decide +kernel)))
theorem px_ck_273_0 : px_chk px_m_273 ((px_cd_273.drop 0).take 40) = true := by decide +kernel
theorem px_ck_273_1 : px_chk px_m_273 ((px_cd_273.drop 40).take 40) = true := by decide +kernel
theorem px_ck_273 : px_chk px_m_273 px_cd_273 = true := px_chk_cut 40 0 _ _ px_ck_273_0 (px_chk_cut 40 40 _ _ px_ck_273_1 (px_chk_end _ _ 80 (by decide +kernel)))
theorem px_ck_274_0 : px_chk px_m_274 ((px_cd_274.drop 0).take 40) = true := by decide +kernel
theorem px_ck_274_1 : px_chk px_m_274 ((px_cd_274.drop 40).take 40) = true := by decide +kernel
theorem px_ck_274_2 : px_chk px_m_274 ((px_cd_274.drop 80).take 40) = true := by decide +kernel
theorem px_ck_274_3 : px_chk px_m_274 ((px_cd_274.drop 120).take 40) = true := by decide +kernel
theorem px_ck_274 : px_chk px_m_274 px_cd_274 = true := px_chk_cut 40 0 _ _ px_ck_274_0 (px_chk_cut 40 40 _ _ px_ck_274_1 (px_chk_cut 40 80 _ _ px_ck_274_2 (px_chk_cut 40 120 _ _ px_ck_274_3 (px_chk_end _ _ 160 (by decide +kernel)))))
theorem px_ck_275_0 : px_chk px_m_275 ((px_cd_275.drop 0).take 40) = true := by decide +kernel
theorem px_ck_275_1 : px_chk px_m_275 ((px_cd_275.drop 40).take 40) = true := by decide +kernel
theorem px_ck_275_2 : px_chk px_m_275 ((px_cd_275.drop 80).take 40) = true := by decide +kernel
theorem px_ck_275 : px_chk px_m_275 px_cd_275 = true := px_chk_cut 40 0 _ _ px_ck_275_0 (px_chk_cut 40 40 _ _ px_ck_275_1 (px_chk_cut 40 80 _ _ px_ck_275_2 (px_chk_end _ _ 120 (by decide +kernel))))
theorem px_ck_276 : px_chk px_m_276 px_cd_276 = true := by decide +kernel
theorem px_ck_277 : px_chk px_m_277 px_cd_277 = true := by decide +kernel
theorem px_ck_278 : px_chk px_m_278 px_cd_278 = true := by decide +kernel
theorem px_ck_279 : px_chk px_m_279 px_cd_279 = true := by decide +kernel
theorem px_ck_280 : px_chk px_m_280 px_cd_280 = true := by decide +kernel
theorem px_ck_281 : px_chk px_m_281 px_cd_281 = true := by decide +kernel
theorem px_ck_282 : px_chk px_m_282 px_cd_282 = true := by decide +kernel
theorem px_ck_283_0 : px_chk px_m_283 ((px_cd_283.drop 0).take 40) = true := by decide +kernel
theorem px_ck_283_1 : px_chk px_m_283 ((px_cd_283.drop 40).take 40) = true := by decide +kernel
theorem px_ck_283 : px_chk px_m_283 px_cd_283 = true := px_chk_cut 40 0 _ _ px_ck_283_0 (px_chk_cut 40 40 _ _ px_ck_283_1 (px_chk_end _ _ 80 (by decide +kernel)))
theorem px_ck_284 : px_chk px_m_284 px_cd_284 = true := by decide +kernel
theorem px_ck_285 : px_chk px_m_285 px_cd_285 = true := by decide +kernel
theorem px_ck_286 : px_chk px_m_286 px_cd_286 = true := by decide +kernel
theorem px_ck_287 : px_chk px_m_287 px_cd_287 = true := by decide +kernel
theorem px_ck_288_0 : px_chk px_m_288 ((px_cd_288.drop 0).take 40) = true := by decide +kernel
theorem px_ck_288_1 : px_chk px_m_288 ((px_cd_288.drop 40).take 40) = true := by decide +kernel
theorem px_ck_288 : px_chk px_m_288 px_cd_288 = true := px_chk_cut 40 0 _ _ px_ck_288_0 (px_chk_cut 40 40 _ _ px_ck_288_1 (px_chk_end _ _ 80 (by decide +kernel)))
theorem px_ck_289 : px_chk px_m_289 px_cd_289 = true := by decide +kernel
theorem px_ck_290_0 : px_chk px_m_290 ((px_cd_290.drop 0).take 40) = true := by decide +kernel
theorem px_ck_290_1 : px_chk px_m_290 ((px_cd_290.drop 40).take 40) = true := by decide +kernel
theorem px_ck_290 : px_chk px_m_290 px_cd_290 = true := px_chk_cut 40 0 _ _ px_ck_290_0 (px_chk_cut 40 40 _ _ px_ck_290_1 (px_chk_end _ _ 80 (by decide +kernel)))
theorem px_ck_291_0 : px_chk px_m_291 ((px_cd_291.drop 0).take 40) = true := by decide +kernel
theorem px_ck_291_1 : px_chk px_m_291 ((px_cd_291.drop 40).take 40) = true := by decide +kernel
theorem px_ck_291_2 : px_chk px_m_291 ((px_cd_291.drop 80).take 40) = true := by decide +kernel
theorem px_ck_291 : px_chk px_m_291 px_cd_291 = true := px_chk_cut 40 0 _ _ px_ck_291_0 (px_chk_cut 40 40 _ _ px_ck_291_1 (px_chk_cut 40 80 _ _ px_ck_291_2 (px_chk_end _ _ 120 (by decide +kernel))))
theorem px_ck_292 : px_chk px_m_292 px_cd_292 = true := by decide +kernel
theorem px_ck_293_0 : px_chk px_m_293 ((px_cd_293.drop 0).take 40) = true := by decide +kernel
theorem px_ck_293_1 : px_chk px_m_293 ((px_cd_293.drop 40).take 40) = true := by decide +kernel
theorem px_ck_293_2 : px_chk px_m_293 ((px_cd_293.drop 80).take 40) = true := by decide +kernel
theorem px_ck_293 : px_chk px_m_293 px_cd_293 = true := px_chk_cut 40 0 _ _ px_ck_293_0 (px_chk_cut 40 40 _ _ px_ck_293_1 (px_chk_cut 40 80 _ _ px_ck_293_2 (px_chk_end _ _ 120 (by decide +kernel))))
theorem px_ck_294_0 : px_chk px_m_294 ((px_cd_294.drop 0).take 40) = true := by decide +kernel
theorem px_ck_294_1 : px_chk px_m_294 ((px_cd_294.drop 40).take 40) = true := by decide +kernel
theorem px_ck_294 : px_chk px_m_294 px_cd_294 = true := px_chk_cut 40 0 _ _ px_ck_294_0 (px_chk_cut 40 40 _ _ px_ck_294_1 (px_chk_end _ _ 80 (by decide +kernel)))
theorem px_ck_295_0 : px_chk px_m_295 ((px_cd_295.drop 0).take 40) = true := by decide +kernel
theorem px_ck_295_1 : px_chk px_m_295 ((px_cd_295.drop 40).take 40) = true := by decide +kernel
theorem px_ck_295 : px_chk px_m_295 px_cd_295 = true := px_chk_cut 40 0 _ _ px_ck_295_0 (px_chk_cut 40 40 _ _ px_ck_295_1 (px_chk_end _ _ 80 (by decide +kernel)))
theorem px_ck_296 : px_chk px_m_296 px_cd_296 = true := by decide +kernel
theorem px_ck_297 : px_chk px_m_297 px_cd_297 = true := by decide +kernel
theorem px_ck_298_0 : px_chk px_m_298 ((px_cd_298.drop 0).take 40) = true := by decide +kernel
theorem px_ck_298_1 : px_chk px_m_298 ((px_cd_298.drop 40).take 40) = true := by decide +kernel
theorem px_ck_298_2 : px_chk px_m_298 ((px_cd_298.drop 80).take 40) = true := by decide +kernel
theorem px_ck_298_3 : px_chk px_m_298 ((px_cd_298.drop 120).take 40) = true := by decide +kernel
theorem px_ck_298 : px_chk px_m_298 px_cd_298 = true := px_chk_cut 40 0 _ _ px_ck_298_0 (px_chk_cut 40 40 _ _ px_ck_298_1 (px_chk_cut 40 80 _ _ px_ck_298_2 (px_chk_cut 40 120 _ _ px_ck_298_3 (px_chk_end _ _ 160 (by decide +kernel)))))
theorem px_ck_299 : px_chk px_m_299 px_cd_299 = true := by decide +kernel
theorem px_ck_300 : px_chk px_m_300 px_cd_300 = true := by decide +kernel
theorem px_ck_301 : px_chk px_m_301 px_cd_301 = true := by decide +kernel
theorem px_ck_302 : px_chk px_m_302 px_cd_302 = true := by decide +kernel
theorem px_ck_303 : px_chk px_m_303 px_cd_303 = true := by decide +kernel
theorem px_ck_304 : px_chk px_m_304 px_cd_304 = true := by decide +kernel
theorem px_ck_305 : px_chk px_m_305 px_cd_305 = true := by decide +kernel
theorem px_ck_306 : px_chk px_m_306 px_cd_306 = true := by decide +kernel
theorem px_ck_307 : px_chk px_m_307 px_cd_307 = true := by decide +kernel
theorem px_ck_308 : px_chk px_m_308 px_cd_308 = true := by decide +kernel
theorem px_PRD_ok : ∀ q ∈ px_PRD, px_chk q.1 q.2 = true := List.forall_mem_cons.mpr ⟨px_ck_240, List.forall_mem_cons.mpr ⟨px_ck_241, List.forall_mem_cons.mpr ⟨px_ck_242, List.forall_mem_cons.mpr ⟨px_ck_243, List.forall_mem_cons.mpr ⟨px_ck_244, List.forall_mem_cons.mpr ⟨px_ck_245, List.forall_mem_cons.mpr ⟨px_ck_246, List.forall_mem_cons.mpr ⟨px_ck_247, List.forall_mem_cons.mpr ⟨px_ck_248, List.forall_mem_cons.mpr ⟨px_ck_249, List.forall_mem_cons.mpr ⟨px_ck_250, List.forall_mem_cons.mpr ⟨px_ck_251, List.forall_mem_cons.mpr ⟨px_ck_252, List.forall_mem_cons.mpr ⟨px_ck_253, List.forall_mem_cons.mpr ⟨px_ck_254, List.forall_mem_cons.mpr ⟨px_ck_255, List.forall_mem_cons.mpr ⟨px_ck_256, List.forall_mem_cons.mpr ⟨px_ck_257, List.forall_mem_cons.mpr ⟨px_ck_258, List.forall_mem_cons.mpr ⟨px_ck_259, List.forall_mem_cons.mpr ⟨px_ck_260, List.forall_mem_cons.mpr ⟨px_ck_261, List.forall_mem_cons.mpr ⟨px_ck_262, List.forall_mem_cons.mpr ⟨px_ck_263, List.forall_mem_cons.mpr ⟨px_ck_264, List.forall_mem_cons.mpr ⟨px_ck_265, List.forall_mem_cons.mpr ⟨px_ck_266, List.forall_mem_cons.mpr ⟨px_ck_267, List.forall_mem_cons.mpr ⟨px_ck_268, List.forall_mem_cons.mpr ⟨px_ck_269, List.forall_mem_cons.mpr ⟨px_ck_270, List.forall_mem_cons.mpr ⟨px_ck_271, List.forall_mem_cons.mpr ⟨px_ck_272, List.forall_mem_cons.mpr ⟨px_ck_273, List.forall_mem_cons.mpr ⟨px_ck_274, List.forall_mem_cons.mpr ⟨px_ck_275, List.forall_mem_cons.mpr ⟨px_ck_276, List.forall_mem_cons.mpr ⟨px_ck_277, List.forall_mem_cons.mpr ⟨px_ck_278, List.forall_mem_cons.mpr ⟨px_ck_279, List.forall_mem_cons.mpr ⟨px_ck_280, List.forall_mem_cons.mpr ⟨px_ck_281, List.forall_mem_cons.mpr ⟨px_ck_282, List.forall_mem_cons.mpr ⟨px_ck_283, List.forall_mem_cons.mpr ⟨px_ck_284, List.forall_mem_cons.mpr ⟨px_ck_285, List.forall_mem_cons.mpr ⟨px_ck_286, List.forall_mem_cons.mpr ⟨px_ck_287, List.forall_mem_cons.mpr ⟨px_ck_288, List.forall_mem_cons.mpr ⟨px_ck_289, List.forall_mem_cons.mpr ⟨px_ck_290, List.forall_mem_cons.mpr ⟨px_ck_291, List.forall_mem_cons.mpr ⟨px_ck_292, List.forall_mem_cons.mpr ⟨px_ck_293, List.forall_mem_cons.mpr ⟨px_ck_294, List.forall_mem_cons.mpr ⟨px_ck_295, List.forall_mem_cons.mpr ⟨px_ck_296, List.forall_mem_cons.mpr ⟨px_ck_297, List.forall_mem_cons.mpr ⟨px_ck_298, List.forall_mem_cons.mpr ⟨px_ck_299, List.forall_mem_cons.mpr ⟨px_ck_300, List.forall_mem_cons.mpr ⟨px_ck_301, List.forall_mem_cons.mpr ⟨px_ck_302, List.forall_mem_cons.mpr ⟨px_ck_303, List.forall_mem_cons.mpr ⟨px_ck_304, List.forall_mem_cons.mpr ⟨px_ck_305, List.forall_mem_cons.mpr ⟨px_ck_306, List.forall_mem_cons.mpr ⟨px_ck_307, List.forall_mem_cons.mpr ⟨px_ck_308, fun _ h => absurd h List.not_mem_nil⟩⟩⟩⟩⟩⟩⟩⟩⟩⟩⟩⟩⟩⟩⟩⟩⟩⟩⟩⟩⟩⟩⟩⟩⟩⟩⟩⟩⟩⟩⟩⟩⟩⟩⟩⟩⟩⟩⟩⟩⟩⟩⟩⟩⟩⟩⟩⟩⟩⟩⟩⟩⟩⟩⟩⟩⟩⟩⟩⟩⟩⟩⟩⟩⟩⟩⟩⟩⟩
