/-! the law: its cases one by one, its loop -/
theorem px_x32 (x : Int32) : px_in32 x.toInt := ⟨x.le_toInt, x.toInt_lt⟩
theorem px_b01 (x : Int32) : (if x = 0 then (0 : Int) else 1) = 0 ∨ (if x = 0 then (0 : Int) else 1) = 1 := by
  split
  · exact Or.inl rfl
  · exact Or.inr rfl
def TS : List Nat := [208, 271, 304, 327, 360, 393, 406, 429, 462, 485, 498, 531, 564, 577, 610, 633, 666, 689, 702, 735, 768, 811, 834, 857, 890, 939, 972, 995, 1028, 1061, 1094, 1137, 1206, 1239, 1262, 1285, 1338, 1371, 1404, 1437]
theorem tsw_309 : ∃ len, decode code 33 = .ok (.tableswitch 1437 0 39 #[175, 238, 271, 294, 327, 360, 373, 396, 429, 452, 465, 498, 531, 544, 577, 600, 633, 656, 669, 702, 735, 778, 801, 824, 857, 906, 939, 962, 995, 1028, 1061, 1104, 1173, 1206, 1229, 1252, 1305, 1338, 1371, 1404], len) ∧ px_rchk px_m_309 33 (.tableswitch 1437 0 39 #[175, 238, 271, 294, 327, 360, 373, 396, 429, 452, 465, 498, 531, 544, 577, 600, 633, 656, 669, 702, 735, 778, 801, 824, 857, 906, 939, 962, 995, 1028, 1061, 1104, 1173, 1206, 1229, 1252, 1305, 1338, 1371, 1404]) (1470 :: TS) = true := by
  have he : px_find px_cd_309 33 = some (208, [], .tableswitch 1437 0 39 #[175, 238, 271, 294, 327, 360, 373, 396, 429, 452, 465, 498, 531, 544, 577, 600, 633, 656, 669, 702, 735, 778, 801, 824, 857, 906, 939, 962, 995, 1028, 1061, 1104, 1173, 1206, 1229, 1252, 1305, 1338, 1371, 1404], 1470 :: TS) := by rfl
  obtain ⟨q, ln, g1, g2, g3, g4, g5⟩ := px_at_spec ((at_309 33).trans he)
  cases mt_309.symm.trans g1
  exact ⟨ln, g2, g5⟩
theorem lc_0 : lca 208 [(1, false), (2, false), (3, false), (4, false), (5, false)] 113 178 = true := by decide +kernel
theorem lo_0 (xs : Nat → Int32) (i : Nat) : opO 113 178 (([(1, false), (2, false), (3, false), (4, false), (5, false)] : List (Nat × Bool)).map (lav xs i)) := by
  show opO 113 178 [((0 : Nat), (xs (i + 1)).toInt), ((0 : Nat), (xs (i + 2)).toInt), ((0 : Nat), (xs (i + 3)).toInt), ((0 : Nat), (xs (i + 4)).toInt), ((0 : Nat), (xs (i + 5)).toInt)]
  exact op_feed _ _ _ _ _ ⟨px_x32 _, px_x32 _, px_x32 _, px_x32 _, px_x32 _⟩
theorem lc_1 : lca 271 [(1, false), (2, false)] 114 223 = true := by decide +kernel
theorem lo_1 (xs : Nat → Int32) (i : Nat) : opO 114 223 (([(1, false), (2, false)] : List (Nat × Bool)).map (lav xs i)) := by
  show opO 114 223 [((0 : Nat), (xs (i + 1)).toInt), ((0 : Nat), (xs (i + 2)).toInt)]
  exact op_write _ _
theorem lc_2 : lca 304 [(1, false)] 115 226 = true := by decide +kernel
theorem lo_2 (xs : Nat → Int32) (i : Nat) : opO 115 226 (([(1, false)] : List (Nat × Bool)).map (lav xs i)) := by
  show opO 115 226 [((0 : Nat), (xs (i + 1)).toInt)]
  exact op_remove _
theorem lc_3 : lca 327 [(1, false), (2, false)] 116 232 = true := by decide +kernel
theorem lo_3 (xs : Nat → Int32) (i : Nat) : opO 116 232 (([(1, false), (2, false)] : List (Nat × Bool)).map (lav xs i)) := by
  show opO 116 232 [((0 : Nat), (xs (i + 1)).toInt), ((0 : Nat), (xs (i + 2)).toInt)]
  exact op_move _ _
theorem lc_4 : lca 360 [(1, false), (2, false)] 117 233 = true := by decide +kernel
theorem lo_4 (xs : Nat → Int32) (i : Nat) : opO 117 233 (([(1, false), (2, false)] : List (Nat × Bool)).map (lav xs i)) := by
  show opO 117 233 [((0 : Nat), (xs (i + 1)).toInt), ((0 : Nat), (xs (i + 2)).toInt)]
  exact op_copy _ _
theorem lc_5 : lca 393 [] 120 235 = true := by decide +kernel
theorem lo_5 (xs : Nat → Int32) (i : Nat) : opO 120 235 (([] : List (Nat × Bool)).map (lav xs i)) := by
  show opO 120 235 []
  exact op_commit
theorem lc_6 : lca 406 [(1, false)] 123 237 = true := by decide +kernel
theorem lo_6 (xs : Nat → Int32) (i : Nat) : opO 123 237 (([(1, false)] : List (Nat × Bool)).map (lav xs i)) := by
  show opO 123 237 [((0 : Nat), (xs (i + 1)).toInt)]
  exact op_rebuild _
theorem lc_7 : lca 429 [(1, false), (2, false)] 124 245 = true := by decide +kernel
theorem lo_7 (xs : Nat → Int32) (i : Nat) : opO 124 245 (([(1, false), (2, false)] : List (Nat × Bool)).map (lav xs i)) := by
  show opO 124 245 [((0 : Nat), (xs (i + 1)).toInt), ((0 : Nat), (xs (i + 2)).toInt)]
  exact op_join _ _
theorem lc_8 : lca 462 [(1, false)] 125 248 = true := by decide +kernel
theorem lo_8 (xs : Nat → Int32) (i : Nat) : opO 125 248 (([(1, false)] : List (Nat × Bool)).map (lav xs i)) := by
  show opO 125 248 [((0 : Nat), (xs (i + 1)).toInt)]
  exact op_drop _
theorem lc_9 : lca 485 [] 132 250 = true := by decide +kernel
theorem lo_9 (xs : Nat → Int32) (i : Nat) : opO 132 250 (([] : List (Nat × Bool)).map (lav xs i)) := by
  show opO 132 250 []
  exact op_pack
theorem lc_10 : lca 498 [(1, false), (2, false)] 133 254 = true := by decide +kernel
theorem lo_10 (xs : Nat → Int32) (i : Nat) : opO 133 254 (([(1, false), (2, false)] : List (Nat × Bool)).map (lav xs i)) := by
  show opO 133 254 [((0 : Nat), (xs (i + 1)).toInt), ((0 : Nat), (xs (i + 2)).toInt)]
  exact op_spoil _ _
theorem lc_11 : lca 531 [(1, false), (2, false)] 134 256 = true := by decide +kernel
theorem lo_11 (xs : Nat → Int32) (i : Nat) : opO 134 256 (([(1, false), (2, false)] : List (Nat × Bool)).map (lav xs i)) := by
  show opO 134 256 [((0 : Nat), (xs (i + 1)).toInt), ((0 : Nat), (xs (i + 2)).toInt)]
  exact op_mend _ _
theorem lc_12 : lca 564 [] 135 258 = true := by decide +kernel
theorem lo_12 (xs : Nat → Int32) (i : Nat) : opO 135 258 (([] : List (Nat × Bool)).map (lav xs i)) := by
  show opO 135 258 []
  exact op_cure
theorem lc_13 : lca 577 [(1, false), (2, false)] 140 262 = true := by decide +kernel
theorem lo_13 (xs : Nat → Int32) (i : Nat) : opO 140 262 (([(1, false), (2, false)] : List (Nat × Bool)).map (lav xs i)) := by
  show opO 140 262 [((0 : Nat), (xs (i + 1)).toInt), ((0 : Nat), (xs (i + 2)).toInt)]
  exact op_risk _ _
theorem lc_14 : lca 610 [(1, false)] 141 263 = true := by decide +kernel
theorem lo_14 (xs : Nat → Int32) (i : Nat) : opO 141 263 (([(1, false)] : List (Nat × Bool)).map (lav xs i)) := by
  show opO 141 263 [((0 : Nat), (xs (i + 1)).toInt)]
  exact op_weakest _
theorem lc_15 : lca 633 [(1, false), (2, false)] 142 266 = true := by decide +kernel
theorem lo_15 (xs : Nat → Int32) (i : Nat) : opO 142 266 (([(1, false), (2, false)] : List (Nat × Bool)).map (lav xs i)) := by
  show opO 142 266 [((0 : Nat), (xs (i + 1)).toInt), ((0 : Nat), (xs (i + 2)).toInt)]
  exact op_drops _ _
theorem lc_16 : lca 666 [(1, false)] 127 249 = true := by decide +kernel
theorem lo_16 (xs : Nat → Int32) (i : Nat) : opO 127 249 (([(1, false)] : List (Nat × Bool)).map (lav xs i)) := by
  show opO 127 249 [((0 : Nat), (xs (i + 1)).toInt)]
  exact op_thin _
theorem lc_17 : lca 689 [] 143 269 = true := by decide +kernel
theorem lo_17 (xs : Nat → Int32) (i : Nat) : opO 143 269 (([] : List (Nat × Bool)).map (lav xs i)) := by
  show opO 143 269 []
  exact op_thrift
theorem lc_18 : lca 702 [(1, false), (2, false)] 144 270 = true := by decide +kernel
theorem lo_18 (xs : Nat → Int32) (i : Nat) : opO 144 270 (([(1, false), (2, false)] : List (Nat × Bool)).map (lav xs i)) := by
  show opO 144 270 [((0 : Nat), (xs (i + 1)).toInt), ((0 : Nat), (xs (i + 2)).toInt)]
  exact op_pieces _ _
theorem lc_19 : lca 735 [(1, false), (2, false)] 146 272 = true := by decide +kernel
theorem lo_19 (xs : Nat → Int32) (i : Nat) : opO 146 272 (([(1, false), (2, false)] : List (Nat × Bool)).map (lav xs i)) := by
  show opO 146 272 [((0 : Nat), (xs (i + 1)).toInt), ((0 : Nat), (xs (i + 2)).toInt)]
  exact op_fetch _ _
theorem lc_20 : lca 768 [(1, false), (2, false), (3, false)] 149 275 = true := by decide +kernel
theorem lo_20 (xs : Nat → Int32) (i : Nat) : opO 149 275 (([(1, false), (2, false), (3, false)] : List (Nat × Bool)).map (lav xs i)) := by
  show opO 149 275 [((0 : Nat), (xs (i + 1)).toInt), ((0 : Nat), (xs (i + 2)).toInt), ((0 : Nat), (xs (i + 3)).toInt)]
  exact op_like _ _ _
theorem lc_21 : lca 811 [(1, false)] 154 288 = true := by decide +kernel
theorem lo_21 (xs : Nat → Int32) (i : Nat) : opO 154 288 (([(1, false)] : List (Nat × Bool)).map (lav xs i)) := by
  show opO 154 288 [((0 : Nat), (xs (i + 1)).toInt)]
  exact op_count _
theorem lc_22 : lca 834 [(1, false)] 157 289 = true := by decide +kernel
theorem lo_22 (xs : Nat → Int32) (i : Nat) : opO 157 289 (([(1, false)] : List (Nat × Bool)).map (lav xs i)) := by
  show opO 157 289 [((0 : Nat), (xs (i + 1)).toInt)]
  exact op_edition _
theorem lc_23 : lca 857 [(1, false), (2, false)] 158 290 = true := by decide +kernel
theorem lo_23 (xs : Nat → Int32) (i : Nat) : opO 158 290 (([(1, false), (2, false)] : List (Nat × Bool)).map (lav xs i)) := by
  show opO 158 290 [((0 : Nat), (xs (i + 1)).toInt), ((0 : Nat), (xs (i + 2)).toInt)]
  exact op_of _ _
theorem lc_24 : lca 890 [(1, false), (2, true)] 128 276 = true := by decide +kernel
theorem lo_24 (xs : Nat → Int32) (i : Nat) : opO 128 276 (([(1, false), (2, true)] : List (Nat × Bool)).map (lav xs i)) := by
  show opO 128 276 [((0 : Nat), (xs (i + 1)).toInt), ((0 : Nat), if xs (i + 2) = 0 then (0 : Int) else 1)]
  exact op_seal _ _ (px_b01 _)
theorem lc_25 : lca 939 [(1, false), (2, false)] 129 279 = true := by decide +kernel
theorem lo_25 (xs : Nat → Int32) (i : Nat) : opO 129 279 (([(1, false), (2, false)] : List (Nat × Bool)).map (lav xs i)) := by
  show opO 129 279 [((0 : Nat), (xs (i + 1)).toInt), ((0 : Nat), (xs (i + 2)).toInt)]
  exact op_name _ _
theorem lc_26 : lca 972 [(1, false)] 130 280 = true := by decide +kernel
theorem lo_26 (xs : Nat → Int32) (i : Nat) : opO 130 280 (([(1, false)] : List (Nat × Bool)).map (lav xs i)) := by
  show opO 130 280 [((0 : Nat), (xs (i + 1)).toInt)]
  exact op_named _
theorem lc_27 : lca 995 [(1, false), (2, false)] 131 281 = true := by decide +kernel
theorem lo_27 (xs : Nat → Int32) (i : Nat) : opO 131 281 (([(1, false), (2, false)] : List (Nat × Bool)).map (lav xs i)) := by
  show opO 131 281 [((0 : Nat), (xs (i + 1)).toInt), ((0 : Nat), (xs (i + 2)).toInt)]
  exact op_nameByte _ _
theorem lc_28 : lca 1028 [(1, false), (2, false)] 153 291 = true := by decide +kernel
theorem lo_28 (xs : Nat → Int32) (i : Nat) : opO 153 291 (([(1, false), (2, false)] : List (Nat × Bool)).map (lav xs i)) := by
  show opO 153 291 [((0 : Nat), (xs (i + 1)).toInt), ((0 : Nat), (xs (i + 2)).toInt)]
  exact op_came _ _
theorem lc_29 : lca 1061 [(1, false), (2, false)] 150 273 = true := by decide +kernel
theorem lo_29 (xs : Nat → Int32) (i : Nat) : opO 150 273 (([(1, false), (2, false)] : List (Nat × Bool)).map (lav xs i)) := by
  show opO 150 273 [((0 : Nat), (xs (i + 1)).toInt), ((0 : Nat), (xs (i + 2)).toInt)]
  exact op_weigh _ _
theorem lc_30 : lca 1094 [(1, false), (2, false), (3, false)] 160 293 = true := by decide +kernel
theorem lo_30 (xs : Nat → Int32) (i : Nat) : opO 160 293 (([(1, false), (2, false), (3, false)] : List (Nat × Bool)).map (lav xs i)) := by
  show opO 160 293 [((0 : Nat), (xs (i + 1)).toInt), ((0 : Nat), (xs (i + 2)).toInt), ((0 : Nat), (xs (i + 3)).toInt)]
  exact op_file _ _ _
theorem lc_31 : lca 1137 [(1, false), (2, false), (3, true), (4, false)] 162 294 = true := by decide +kernel
theorem lo_31 (xs : Nat → Int32) (i : Nat) : opO 162 294 (([(1, false), (2, false), (3, true), (4, false)] : List (Nat × Bool)).map (lav xs i)) := by
  show opO 162 294 [((0 : Nat), (xs (i + 1)).toInt), ((0 : Nat), (xs (i + 2)).toInt), ((0 : Nat), if xs (i + 3) = 0 then (0 : Int) else 1), ((0 : Nat), (xs (i + 4)).toInt)]
  exact op_at _ _ _ _ (px_b01 _)
theorem lc_32 : lca 1206 [(1, false), (2, false)] 145 295 = true := by decide +kernel
theorem lo_32 (xs : Nat → Int32) (i : Nat) : opO 145 295 (([(1, false), (2, false)] : List (Nat × Bool)).map (lav xs i)) := by
  show opO 145 295 [((0 : Nat), (xs (i + 1)).toInt), ((0 : Nat), (xs (i + 2)).toInt)]
  exact op_content _ _
theorem lc_33 : lca 1239 [(1, false)] 138 252 = true := by decide +kernel
theorem lo_33 (xs : Nat → Int32) (i : Nat) : opO 138 252 (([(1, false)] : List (Nat × Bool)).map (lav xs i)) := by
  show opO 138 252 [((0 : Nat), (xs (i + 1)).toInt)]
  exact op_row _
theorem lc_34 : lca 1262 [(1, false)] 139 253 = true := by decide +kernel
theorem lo_34 (xs : Nat → Int32) (i : Nat) : opO 139 253 (([(1, false)] : List (Nat × Bool)).map (lav xs i)) := by
  show opO 139 253 [((0 : Nat), (xs (i + 1)).toInt)]
  exact op_owner _
theorem lc_35 : lca 1285 [(1, false), (2, false), (3, false), (4, false)] 164 298 = true := by decide +kernel
theorem lo_35 (xs : Nat → Int32) (i : Nat) : opO 164 298 (([(1, false), (2, false), (3, false), (4, false)] : List (Nat × Bool)).map (lav xs i)) := by
  show opO 164 298 [((0 : Nat), (xs (i + 1)).toInt), ((0 : Nat), (xs (i + 2)).toInt), ((0 : Nat), (xs (i + 3)).toInt), ((0 : Nat), (xs (i + 4)).toInt)]
  exact op_change _ _ _ _
theorem lc_36 : lca 1338 [(1, false), (2, false)] 165 240 = true := by decide +kernel
theorem lo_36 (xs : Nat → Int32) (i : Nat) : opO 165 240 (([(1, false), (2, false)] : List (Nat × Bool)).map (lav xs i)) := by
  show opO 165 240 [((0 : Nat), (xs (i + 1)).toInt), ((0 : Nat), (xs (i + 2)).toInt)]
  exact op_common _ _
theorem lc_37 : lca 1371 [(1, false), (2, false)] 166 283 = true := by decide +kernel
theorem lo_37 (xs : Nat → Int32) (i : Nat) : opO 166 283 (([(1, false), (2, false)] : List (Nat × Bool)).map (lav xs i)) := by
  show opO 166 283 [((0 : Nat), (xs (i + 1)).toInt), ((0 : Nat), (xs (i + 2)).toInt)]
  exact op_touched _ _
theorem lc_38 : lca 1404 [(1, false), (2, false)] 168 303 = true := by decide +kernel
theorem lo_38 (xs : Nat → Int32) (i : Nat) : opO 168 303 (([(1, false), (2, false)] : List (Nat × Bool)).map (lav xs i)) := by
  show opO 168 303 [((0 : Nat), (xs (i + 1)).toInt), ((0 : Nat), (xs (i + 2)).toInt)]
  exact op_told _ _
theorem lc_39 : lca 1437 [(1, false), (2, false)] 151 305 = true := by decide +kernel
theorem lo_39 (xs : Nat → Int32) (i : Nat) : opO 151 305 (([(1, false), (2, false)] : List (Nat × Bool)).map (lav xs i)) := by
  show opO 151 305 [((0 : Nat), (xs (i + 1)).toInt), ((0 : Nat), (xs (i + 2)).toInt)]
  exact op_since _ _
