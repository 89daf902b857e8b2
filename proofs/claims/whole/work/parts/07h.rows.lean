/-! instructions, by program (wip/whole/gen_rows.py) -/
section S17
variable {sc : Nat × (Nat → Int32)} {h : TH} {Q : Option TV → TH → Prop} {st ls : List TV} {l0 l1 l2 l3 l4 l5 l6 l7 l8 l9 l10 l11 l12 l13 l14 : TV} {x y j : Int32} {u w : Int64} {o a : Nat} {r : Option Nat} {v s0 s1 s2 s3 : TV} {p0 p1 p2 p3 p4 : Int32} {q0 q1 q2 q3 : Int64} {n0 n1 n2 n3 : Option Nat}

theorem mB_L_law : mB iL_law = cL_law := rfl
theorem mO_L_law : mO iL_law = 12 := rfl
theorem rL_law_0 : tA sc iL_law 0 ls st h Q = oz (tnew h (.inr (10, tdf 10)) 11) (fun h' => tA sc iL_law 3 ls (vR (some h.2.1) :: st) h' Q) := (tA_hp mB_L_law dL_law_0 (fun _ _ _ _ => rfl) (fun _ _ _ => rfl) rfl (fun _ _ => rfl) rfl).trans (oz_map _ _ _)
theorem rL_law_3 : tA sc iL_law 3 ls (vR r :: st) h Q = tA sc iL_law 4 ls (vR r :: vR r :: st) h Q := tA_pure mB_L_law dL_law_3 rfl
theorem rL_law_4 : tA sc iL_law 4 ls [vR (some o), s0] h Q = tA sc iX10_init 0 [vR (some o)] [] h (fun v h1 => tA sc iL_law 7 ls (tpu v [s0]) h1 Q) := tA_cI mB_L_law mO_L_law dL_law_4 cT_12_9 rfl (Nat.le_of_ble_eq_true rfl) rfl rfl rfl
theorem rL_law_7 : tA sc iL_law 7 [l0, l1, l2, l3] (vR r :: st) h Q = tA sc iL_law 8 [tclr l0, vR r, l2, l3] st h Q := tA_pure mB_L_law dL_law_7 rfl
theorem rL_law_8 : tA sc iL_law 8 ls st h Q = oz (tnew h (.inr (11, tdf 11)) 53) (fun h' => tA sc iL_law 11 ls (vR (some h.2.1) :: st) h' Q) := (tA_hp mB_L_law dL_law_8 (fun _ _ _ _ => rfl) (fun _ _ _ => rfl) rfl (fun _ _ => rfl) rfl).trans (oz_map _ _ _)
theorem rL_law_11 : tA sc iL_law 11 ls (vR r :: st) h Q = tA sc iL_law 12 ls (vR r :: vR r :: st) h Q := tA_pure mB_L_law dL_law_11 rfl
theorem rL_law_12 : tA sc iL_law 12 ls [vR (some o), s0] h Q = tA sc iX11_init 0 [vR (some o), vU] [] h (fun v h1 => tA sc iL_law 15 ls (tpu v [s0]) h1 Q) := tA_cI mB_L_law mO_L_law dL_law_12 cT_12_12 rfl (Nat.le_of_ble_eq_true rfl) rfl rfl rfl
theorem rL_law_15 : tA sc iL_law 15 [l0, l1, l2, l3] (vR r :: st) h Q = tA sc iL_law 16 [l0, tclr l1, vR r, l3] st h Q := tA_pure mB_L_law dL_law_15 rfl
theorem rL_law_16 : tA sc iL_law 16 ls st h Q = tA sc iL_law 17 ls (vI (0) :: st) h Q := tA_pure mB_L_law dL_law_16 rfl
theorem rL_law_17 : tA sc iL_law 17 [l0, l1, l2, l3] (vI x :: st) h Q = tA sc iL_law 18 [l0, l1, tclr l2, vI x] st h Q := tA_pure mB_L_law dL_law_17 rfl
theorem rL_law_18 : tA sc iL_law 18 [l0, l1, l2, vI x] st h Q = tA sc iL_law 19 [l0, l1, l2, vI x] (vI x :: st) h Q := tA_pure mB_L_law dL_law_18 rfl
theorem rL_law_19 : tA sc iL_law 19 [vR r, l1, l2, l3] st h Q = tA sc iL_law 20 [vR r, l1, l2, l3] (vR r :: st) h Q := tA_pure mB_L_law dL_law_19 rfl
theorem rL_law_20 : tA sc iL_law 20 ls (vR (some a) :: st) h Q = oz (tlen sc h a) (fun v => tA sc iL_law 21 ls (vI v :: st) h Q) := tA_alen mB_L_law dL_law_20
theorem rL_law_21 : tA sc iL_law 21 ls st h Q = tA sc iL_law 22 ls (vI (5) :: st) h Q := tA_pure mB_L_law dL_law_21 rfl
theorem rL_law_22 : tA sc iL_law 22 ls (vI y :: vI x :: st) h Q = tA sc iL_law 23 ls (vI (x - y) :: st) h Q := tA_pure mB_L_law dL_law_22 rfl
theorem rL_law_23 : tA sc iL_law 23 ls (vI y :: vI x :: st) h Q = (if y < x then tA sc iL_law 1552 ls st h Q else tA sc iL_law 26 ls st h Q) := tA_if mB_L_law dL_law_23 (fun _ _ _ _ => rfl) rfl
theorem rL_law_26 : tA sc iL_law 26 [vR r, l1, l2, l3] st h Q = tA sc iL_law 27 [vR r, l1, l2, l3] (vR r :: st) h Q := tA_pure mB_L_law dL_law_26 rfl
theorem rL_law_27 : tA sc iL_law 27 [l0, l1, l2, vI x] st h Q = tA sc iL_law 28 [l0, l1, l2, vI x] (vI x :: st) h Q := tA_pure mB_L_law dL_law_27 rfl
theorem rL_law_28 : tA sc iL_law 28 ls (vI j :: vR (some a) :: st) h Q = oz (tald sc h 0 a j) (fun v => tA sc iL_law 29 ls (vI v :: st) h Q) := tA_iald mB_L_law dL_law_28
theorem rL_law_29 : tA sc iL_law 29 ls st h Q = tA sc iL_law 31 ls (vI (63) :: st) h Q := tA_pure mB_L_law dL_law_29 rfl
theorem rL_law_31 : tA sc iL_law 31 ls (vI y :: vI x :: st) h Q = tA sc iL_law 32 ls (vI (x &&& y) :: st) h Q := tA_pure mB_L_law dL_law_31 rfl
theorem rL_law_32 : tA sc iL_law 32 ls (vI x :: st) h Q = tA sc iL_law (tswp x 0 [216, 279, 292, 325, 368, 401, 434, 467, 500, 533, 576, 609, 652, 685, 718, 741, 754, 777, 820, 864, 898, 921, 955, 979, 1012, 1025, 1038, 1061, 1084, 1117, 1160, 1173, 1226, 1269, 1312, 1355, 1398, 1431, 1474, 1497, 1520, 1533] 1546) ls st h Q := tA_sw mB_L_law dL_law_32 rfl rfl rfl
theorem rL_law_216 : tA sc iL_law 216 [l0, vR r, l2, l3] st h Q = tA sc iL_law 217 [l0, vR r, l2, l3] (vR r :: st) h Q := tA_pure mB_L_law dL_law_216 rfl
theorem rL_law_217 : tA sc iL_law 217 [vR r, l1, l2, l3] st h Q = tA sc iL_law 218 [vR r, l1, l2, l3] (vR r :: st) h Q := tA_pure mB_L_law dL_law_217 rfl
theorem rL_law_218 : tA sc iL_law 218 [l0, l1, l2, vI x] st h Q = tA sc iL_law 219 [l0, l1, l2, vI x] (vI x :: st) h Q := tA_pure mB_L_law dL_law_218 rfl
theorem rL_law_219 : tA sc iL_law 219 ls st h Q = tA sc iL_law 220 ls (vI (1) :: st) h Q := tA_pure mB_L_law dL_law_219 rfl
theorem rL_law_220 : tA sc iL_law 220 ls (vI y :: vI x :: st) h Q = tA sc iL_law 221 ls (vI (x + y) :: st) h Q := tA_pure mB_L_law dL_law_220 rfl
theorem rL_law_221 : tA sc iL_law 221 ls (vI j :: vR (some a) :: st) h Q = oz (tald sc h 0 a j) (fun v => tA sc iL_law 222 ls (vI v :: st) h Q) := tA_iald mB_L_law dL_law_221
theorem rL_law_222 : tA sc iL_law 222 ls (vI x :: st) h Q = tA sc iL_law 223 ls (vL x.toInt64 :: st) h Q := tA_pure mB_L_law dL_law_222 rfl
theorem rL_law_223 : tA sc iL_law 223 ls st h Q = tA sc iL_law 225 ls (vI (32) :: st) h Q := tA_pure mB_L_law dL_law_223 rfl
theorem rL_law_225 : tA sc iL_law 225 ls (vI y :: vL u :: st) h Q = tA sc iL_law 226 ls (vL (u <<< (y.toInt64 &&& 63)) :: st) h Q := tA_pure mB_L_law dL_law_225 rfl
theorem rL_law_226 : tA sc iL_law 226 [vR r, l1, l2, l3] st h Q = tA sc iL_law 227 [vR r, l1, l2, l3] (vR r :: st) h Q := tA_pure mB_L_law dL_law_226 rfl
theorem rL_law_227 : tA sc iL_law 227 [l0, l1, l2, vI x] st h Q = tA sc iL_law 228 [l0, l1, l2, vI x] (vI x :: st) h Q := tA_pure mB_L_law dL_law_227 rfl
theorem rL_law_228 : tA sc iL_law 228 ls st h Q = tA sc iL_law 229 ls (vI (2) :: st) h Q := tA_pure mB_L_law dL_law_228 rfl
theorem rL_law_229 : tA sc iL_law 229 ls (vI y :: vI x :: st) h Q = tA sc iL_law 230 ls (vI (x + y) :: st) h Q := tA_pure mB_L_law dL_law_229 rfl
theorem rL_law_230 : tA sc iL_law 230 ls (vI j :: vR (some a) :: st) h Q = oz (tald sc h 0 a j) (fun v => tA sc iL_law 231 ls (vI v :: st) h Q) := tA_iald mB_L_law dL_law_230
theorem rL_law_231 : tA sc iL_law 231 ls (vI x :: st) h Q = tA sc iL_law 232 ls (vL x.toInt64 :: st) h Q := tA_pure mB_L_law dL_law_231 rfl
theorem rL_law_232 : tA sc iL_law 232 ls st h Q = tA sc iL_law 235 ls (vL (4294967295) :: st) h Q := tA_pure mB_L_law dL_law_232 rfl
theorem rL_law_235 : tA sc iL_law 235 ls (vL w :: vL u :: st) h Q = tA sc iL_law 236 ls (vL (u &&& w) :: st) h Q := tA_pure mB_L_law dL_law_235 rfl
theorem rL_law_236 : tA sc iL_law 236 ls (vL w :: vL u :: st) h Q = tA sc iL_law 237 ls (vL (u ||| w) :: st) h Q := tA_pure mB_L_law dL_law_236 rfl
theorem rL_law_237 : tA sc iL_law 237 [vR r, l1, l2, l3] st h Q = tA sc iL_law 238 [vR r, l1, l2, l3] (vR r :: st) h Q := tA_pure mB_L_law dL_law_237 rfl
theorem rL_law_238 : tA sc iL_law 238 [l0, l1, l2, vI x] st h Q = tA sc iL_law 239 [l0, l1, l2, vI x] (vI x :: st) h Q := tA_pure mB_L_law dL_law_238 rfl
theorem rL_law_239 : tA sc iL_law 239 ls st h Q = tA sc iL_law 240 ls (vI (3) :: st) h Q := tA_pure mB_L_law dL_law_239 rfl
theorem rL_law_240 : tA sc iL_law 240 ls (vI y :: vI x :: st) h Q = tA sc iL_law 241 ls (vI (x + y) :: st) h Q := tA_pure mB_L_law dL_law_240 rfl
theorem rL_law_241 : tA sc iL_law 241 ls (vI j :: vR (some a) :: st) h Q = oz (tald sc h 0 a j) (fun v => tA sc iL_law 242 ls (vI v :: st) h Q) := tA_iald mB_L_law dL_law_241
theorem rL_law_242 (hci : tcl h o = some 10) : tA sc iL_law 242 ls [vI p1, vL q0, vR (some o)] h Q = tA sc iX10_feed 0 [vR (some o), vL q0, vU, vI p1, vU] [] h (fun v h1 => tA sc iL_law 245 ls (tpu v []) h1 Q) := tA_cV mB_L_law mO_L_law dL_law_242 cT_12_15 rfl (Nat.le_of_ble_eq_true rfl) rfl rfl rfl hci
theorem rL_law_245 : tA sc iL_law 245 [l0, l1, vR r, l3] st h Q = tA sc iL_law 246 [l0, l1, vR r, l3] (vR r :: st) h Q := tA_pure mB_L_law dL_law_245 rfl
theorem rL_law_246 : tA sc iL_law 246 [vR r, l1, l2, l3] st h Q = tA sc iL_law 247 [vR r, l1, l2, l3] (vR r :: st) h Q := tA_pure mB_L_law dL_law_246 rfl
theorem rL_law_247 : tA sc iL_law 247 [l0, l1, l2, vI x] st h Q = tA sc iL_law 248 [l0, l1, l2, vI x] (vI x :: st) h Q := tA_pure mB_L_law dL_law_247 rfl
theorem rL_law_248 : tA sc iL_law 248 ls st h Q = tA sc iL_law 249 ls (vI (1) :: st) h Q := tA_pure mB_L_law dL_law_248 rfl
theorem rL_law_249 : tA sc iL_law 249 ls (vI y :: vI x :: st) h Q = tA sc iL_law 250 ls (vI (x + y) :: st) h Q := tA_pure mB_L_law dL_law_249 rfl
theorem rL_law_250 : tA sc iL_law 250 ls (vI j :: vR (some a) :: st) h Q = oz (tald sc h 0 a j) (fun v => tA sc iL_law 251 ls (vI v :: st) h Q) := tA_iald mB_L_law dL_law_250
theorem rL_law_251 : tA sc iL_law 251 ls (vI x :: st) h Q = tA sc iL_law 252 ls (vL x.toInt64 :: st) h Q := tA_pure mB_L_law dL_law_251 rfl
theorem rL_law_252 : tA sc iL_law 252 ls st h Q = tA sc iL_law 254 ls (vI (32) :: st) h Q := tA_pure mB_L_law dL_law_252 rfl
theorem rL_law_254 : tA sc iL_law 254 ls (vI y :: vL u :: st) h Q = tA sc iL_law 255 ls (vL (u <<< (y.toInt64 &&& 63)) :: st) h Q := tA_pure mB_L_law dL_law_254 rfl
theorem rL_law_255 : tA sc iL_law 255 [vR r, l1, l2, l3] st h Q = tA sc iL_law 256 [vR r, l1, l2, l3] (vR r :: st) h Q := tA_pure mB_L_law dL_law_255 rfl
theorem rL_law_256 : tA sc iL_law 256 [l0, l1, l2, vI x] st h Q = tA sc iL_law 257 [l0, l1, l2, vI x] (vI x :: st) h Q := tA_pure mB_L_law dL_law_256 rfl
theorem rL_law_257 : tA sc iL_law 257 ls st h Q = tA sc iL_law 258 ls (vI (2) :: st) h Q := tA_pure mB_L_law dL_law_257 rfl
theorem rL_law_258 : tA sc iL_law 258 ls (vI y :: vI x :: st) h Q = tA sc iL_law 259 ls (vI (x + y) :: st) h Q := tA_pure mB_L_law dL_law_258 rfl
theorem rL_law_259 : tA sc iL_law 259 ls (vI j :: vR (some a) :: st) h Q = oz (tald sc h 0 a j) (fun v => tA sc iL_law 260 ls (vI v :: st) h Q) := tA_iald mB_L_law dL_law_259
theorem rL_law_260 : tA sc iL_law 260 ls (vI x :: st) h Q = tA sc iL_law 261 ls (vL x.toInt64 :: st) h Q := tA_pure mB_L_law dL_law_260 rfl
theorem rL_law_261 : tA sc iL_law 261 ls st h Q = tA sc iL_law 264 ls (vL (4294967295) :: st) h Q := tA_pure mB_L_law dL_law_261 rfl
theorem rL_law_264 : tA sc iL_law 264 ls (vL w :: vL u :: st) h Q = tA sc iL_law 265 ls (vL (u &&& w) :: st) h Q := tA_pure mB_L_law dL_law_264 rfl
theorem rL_law_265 : tA sc iL_law 265 ls (vL w :: vL u :: st) h Q = tA sc iL_law 266 ls (vL (u ||| w) :: st) h Q := tA_pure mB_L_law dL_law_265 rfl
theorem rL_law_266 : tA sc iL_law 266 [vR r, l1, l2, l3] st h Q = tA sc iL_law 267 [vR r, l1, l2, l3] (vR r :: st) h Q := tA_pure mB_L_law dL_law_266 rfl
theorem rL_law_267 : tA sc iL_law 267 [l0, l1, l2, vI x] st h Q = tA sc iL_law 268 [l0, l1, l2, vI x] (vI x :: st) h Q := tA_pure mB_L_law dL_law_267 rfl
theorem rL_law_268 : tA sc iL_law 268 ls st h Q = tA sc iL_law 269 ls (vI (3) :: st) h Q := tA_pure mB_L_law dL_law_268 rfl
theorem rL_law_269 : tA sc iL_law 269 ls (vI y :: vI x :: st) h Q = tA sc iL_law 270 ls (vI (x + y) :: st) h Q := tA_pure mB_L_law dL_law_269 rfl
theorem rL_law_270 : tA sc iL_law 270 ls (vI j :: vR (some a) :: st) h Q = oz (tald sc h 0 a j) (fun v => tA sc iL_law 271 ls (vI v :: st) h Q) := tA_iald mB_L_law dL_law_270
theorem rL_law_271 (hci : tcl h o = some 11) : tA sc iL_law 271 ls [vI p1, vL q0, vR (some o), s0] h Q = tA sc iX11_feed 0 [vR (some o), vL q0, vU, vI p1, vU] [] h (fun v h1 => tA sc iL_law 274 ls (tpu v [s0]) h1 Q) := tA_cV mB_L_law mO_L_law dL_law_271 cT_12_19 rfl (Nat.le_of_ble_eq_true rfl) rfl rfl rfl hci
theorem rL_law_274 : tA sc iL_law 274 ls (vI y :: vI x :: st) h Q = (if x = y then tA sc iL_law 1546 ls st h Q else tA sc iL_law 277 ls st h Q) := tA_if mB_L_law dL_law_274 (fun _ _ _ _ => rfl) rfl
theorem rL_law_277 : tA sc iL_law 277 ls st h Q = tA sc iL_law 278 ls (vI (0) :: st) h Q := tA_pure mB_L_law dL_law_277 rfl
theorem rL_law_278 : tA sc iL_law 278 ls [vI x] h Q = ((x = 0 ∨ x = 1) ∧ Q (some (vI x)) h) := tA_retz mB_L_law dL_law_278 rfl
theorem rL_law_279 : tA sc iL_law 279 [l0, vR r, l2, l3] st h Q = tA sc iL_law 280 [l0, vR r, l2, l3] (vR r :: st) h Q := tA_pure mB_L_law dL_law_279 rfl
theorem rL_law_280 (hci : tcl h o = some 10) : tA sc iL_law 280 ls [vR (some o)] h Q = tA sc iX10_clerk 0 [vR (some o), vU] [] h (fun v h1 => tA sc iL_law 283 ls (tpu v []) h1 Q) := tA_cV mB_L_law mO_L_law dL_law_280 cT_12_20 rfl (Nat.le_of_ble_eq_true rfl) rfl rfl rfl hci
theorem rL_law_283 : tA sc iL_law 283 [l0, l1, vR r, l3] st h Q = tA sc iL_law 284 [l0, l1, vR r, l3] (vR r :: st) h Q := tA_pure mB_L_law dL_law_283 rfl
theorem rL_law_284 (hci : tcl h o = some 11) : tA sc iL_law 284 ls [vR (some o), s0] h Q = tA sc iX11_clerk 0 [vR (some o), vU] [] h (fun v h1 => tA sc iL_law 287 ls (tpu v [s0]) h1 Q) := tA_cV mB_L_law mO_L_law dL_law_284 cT_12_24 rfl (Nat.le_of_ble_eq_true rfl) rfl rfl rfl hci
theorem rL_law_287 : tA sc iL_law 287 ls (vI y :: vI x :: st) h Q = (if x = y then tA sc iL_law 1546 ls st h Q else tA sc iL_law 290 ls st h Q) := tA_if mB_L_law dL_law_287 (fun _ _ _ _ => rfl) rfl
theorem rL_law_290 : tA sc iL_law 290 ls st h Q = tA sc iL_law 291 ls (vI (0) :: st) h Q := tA_pure mB_L_law dL_law_290 rfl
theorem rL_law_291 : tA sc iL_law 291 ls [vI x] h Q = ((x = 0 ∨ x = 1) ∧ Q (some (vI x)) h) := tA_retz mB_L_law dL_law_291 rfl
theorem rL_law_292 : tA sc iL_law 292 [l0, vR r, l2, l3] st h Q = tA sc iL_law 293 [l0, vR r, l2, l3] (vR r :: st) h Q := tA_pure mB_L_law dL_law_292 rfl
theorem rL_law_293 : tA sc iL_law 293 [vR r, l1, l2, l3] st h Q = tA sc iL_law 294 [vR r, l1, l2, l3] (vR r :: st) h Q := tA_pure mB_L_law dL_law_293 rfl
theorem rL_law_294 : tA sc iL_law 294 [l0, l1, l2, vI x] st h Q = tA sc iL_law 295 [l0, l1, l2, vI x] (vI x :: st) h Q := tA_pure mB_L_law dL_law_294 rfl
theorem rL_law_295 : tA sc iL_law 295 ls st h Q = tA sc iL_law 296 ls (vI (1) :: st) h Q := tA_pure mB_L_law dL_law_295 rfl
theorem rL_law_296 : tA sc iL_law 296 ls (vI y :: vI x :: st) h Q = tA sc iL_law 297 ls (vI (x + y) :: st) h Q := tA_pure mB_L_law dL_law_296 rfl
theorem rL_law_297 : tA sc iL_law 297 ls (vI j :: vR (some a) :: st) h Q = oz (tald sc h 0 a j) (fun v => tA sc iL_law 298 ls (vI v :: st) h Q) := tA_iald mB_L_law dL_law_297
theorem rL_law_298 : tA sc iL_law 298 [vR r, l1, l2, l3] st h Q = tA sc iL_law 299 [vR r, l1, l2, l3] (vR r :: st) h Q := tA_pure mB_L_law dL_law_298 rfl
theorem rL_law_299 : tA sc iL_law 299 [l0, l1, l2, vI x] st h Q = tA sc iL_law 300 [l0, l1, l2, vI x] (vI x :: st) h Q := tA_pure mB_L_law dL_law_299 rfl
theorem rL_law_300 : tA sc iL_law 300 ls st h Q = tA sc iL_law 301 ls (vI (2) :: st) h Q := tA_pure mB_L_law dL_law_300 rfl
theorem rL_law_301 : tA sc iL_law 301 ls (vI y :: vI x :: st) h Q = tA sc iL_law 302 ls (vI (x + y) :: st) h Q := tA_pure mB_L_law dL_law_301 rfl
theorem rL_law_302 : tA sc iL_law 302 ls (vI j :: vR (some a) :: st) h Q = oz (tald sc h 0 a j) (fun v => tA sc iL_law 303 ls (vI v :: st) h Q) := tA_iald mB_L_law dL_law_302
theorem rL_law_303 (hci : tcl h o = some 10) : tA sc iL_law 303 ls [vI p1, vI p0, vR (some o)] h Q = tA sc iX10_worth 0 [vR (some o), vI p0, vI p1, vU] [] h (fun v h1 => tA sc iL_law 306 ls (tpu v []) h1 Q) := tA_cV mB_L_law mO_L_law dL_law_303 cT_12_25 rfl (Nat.le_of_ble_eq_true rfl) rfl rfl rfl hci
theorem rL_law_306 : tA sc iL_law 306 [l0, l1, vR r, l3] st h Q = tA sc iL_law 307 [l0, l1, vR r, l3] (vR r :: st) h Q := tA_pure mB_L_law dL_law_306 rfl
theorem rL_law_307 : tA sc iL_law 307 [vR r, l1, l2, l3] st h Q = tA sc iL_law 308 [vR r, l1, l2, l3] (vR r :: st) h Q := tA_pure mB_L_law dL_law_307 rfl
theorem rL_law_308 : tA sc iL_law 308 [l0, l1, l2, vI x] st h Q = tA sc iL_law 309 [l0, l1, l2, vI x] (vI x :: st) h Q := tA_pure mB_L_law dL_law_308 rfl
theorem rL_law_309 : tA sc iL_law 309 ls st h Q = tA sc iL_law 310 ls (vI (1) :: st) h Q := tA_pure mB_L_law dL_law_309 rfl
theorem rL_law_310 : tA sc iL_law 310 ls (vI y :: vI x :: st) h Q = tA sc iL_law 311 ls (vI (x + y) :: st) h Q := tA_pure mB_L_law dL_law_310 rfl
theorem rL_law_311 : tA sc iL_law 311 ls (vI j :: vR (some a) :: st) h Q = oz (tald sc h 0 a j) (fun v => tA sc iL_law 312 ls (vI v :: st) h Q) := tA_iald mB_L_law dL_law_311
theorem rL_law_312 : tA sc iL_law 312 [vR r, l1, l2, l3] st h Q = tA sc iL_law 313 [vR r, l1, l2, l3] (vR r :: st) h Q := tA_pure mB_L_law dL_law_312 rfl
theorem rL_law_313 : tA sc iL_law 313 [l0, l1, l2, vI x] st h Q = tA sc iL_law 314 [l0, l1, l2, vI x] (vI x :: st) h Q := tA_pure mB_L_law dL_law_313 rfl
theorem rL_law_314 : tA sc iL_law 314 ls st h Q = tA sc iL_law 315 ls (vI (2) :: st) h Q := tA_pure mB_L_law dL_law_314 rfl
theorem rL_law_315 : tA sc iL_law 315 ls (vI y :: vI x :: st) h Q = tA sc iL_law 316 ls (vI (x + y) :: st) h Q := tA_pure mB_L_law dL_law_315 rfl
theorem rL_law_316 : tA sc iL_law 316 ls (vI j :: vR (some a) :: st) h Q = oz (tald sc h 0 a j) (fun v => tA sc iL_law 317 ls (vI v :: st) h Q) := tA_iald mB_L_law dL_law_316
theorem rL_law_317 (hci : tcl h o = some 11) : tA sc iL_law 317 ls [vI p1, vI p0, vR (some o), s0] h Q = tA sc iX11_worth 0 [vR (some o), vI p0, vI p1, vU] [] h (fun v h1 => tA sc iL_law 320 ls (tpu v [s0]) h1 Q) := tA_cV mB_L_law mO_L_law dL_law_317 cT_12_29 rfl (Nat.le_of_ble_eq_true rfl) rfl rfl rfl hci
theorem rL_law_320 : tA sc iL_law 320 ls (vI y :: vI x :: st) h Q = (if x = y then tA sc iL_law 1546 ls st h Q else tA sc iL_law 323 ls st h Q) := tA_if mB_L_law dL_law_320 (fun _ _ _ _ => rfl) rfl
theorem rL_law_323 : tA sc iL_law 323 ls st h Q = tA sc iL_law 324 ls (vI (0) :: st) h Q := tA_pure mB_L_law dL_law_323 rfl
theorem rL_law_324 : tA sc iL_law 324 ls [vI x] h Q = ((x = 0 ∨ x = 1) ∧ Q (some (vI x)) h) := tA_retz mB_L_law dL_law_324 rfl
theorem rL_law_325 : tA sc iL_law 325 [l0, vR r, l2, l3] st h Q = tA sc iL_law 326 [l0, vR r, l2, l3] (vR r :: st) h Q := tA_pure mB_L_law dL_law_325 rfl
theorem rL_law_326 : tA sc iL_law 326 [vR r, l1, l2, l3] st h Q = tA sc iL_law 327 [vR r, l1, l2, l3] (vR r :: st) h Q := tA_pure mB_L_law dL_law_326 rfl
theorem rL_law_327 : tA sc iL_law 327 [l0, l1, l2, vI x] st h Q = tA sc iL_law 328 [l0, l1, l2, vI x] (vI x :: st) h Q := tA_pure mB_L_law dL_law_327 rfl
theorem rL_law_328 : tA sc iL_law 328 ls st h Q = tA sc iL_law 329 ls (vI (1) :: st) h Q := tA_pure mB_L_law dL_law_328 rfl
theorem rL_law_329 : tA sc iL_law 329 ls (vI y :: vI x :: st) h Q = tA sc iL_law 330 ls (vI (x + y) :: st) h Q := tA_pure mB_L_law dL_law_329 rfl
theorem rL_law_330 : tA sc iL_law 330 ls (vI j :: vR (some a) :: st) h Q = oz (tald sc h 0 a j) (fun v => tA sc iL_law 331 ls (vI v :: st) h Q) := tA_iald mB_L_law dL_law_330
theorem rL_law_331 : tA sc iL_law 331 [vR r, l1, l2, l3] st h Q = tA sc iL_law 332 [vR r, l1, l2, l3] (vR r :: st) h Q := tA_pure mB_L_law dL_law_331 rfl
theorem rL_law_332 : tA sc iL_law 332 [l0, l1, l2, vI x] st h Q = tA sc iL_law 333 [l0, l1, l2, vI x] (vI x :: st) h Q := tA_pure mB_L_law dL_law_332 rfl
theorem rL_law_333 : tA sc iL_law 333 ls st h Q = tA sc iL_law 334 ls (vI (2) :: st) h Q := tA_pure mB_L_law dL_law_333 rfl
theorem rL_law_334 : tA sc iL_law 334 ls (vI y :: vI x :: st) h Q = tA sc iL_law 335 ls (vI (x + y) :: st) h Q := tA_pure mB_L_law dL_law_334 rfl
theorem rL_law_335 : tA sc iL_law 335 ls (vI j :: vR (some a) :: st) h Q = oz (tald sc h 0 a j) (fun v => tA sc iL_law 336 ls (vI v :: st) h Q) := tA_iald mB_L_law dL_law_335
theorem rL_law_336 : tA sc iL_law 336 [vR r, l1, l2, l3] st h Q = tA sc iL_law 337 [vR r, l1, l2, l3] (vR r :: st) h Q := tA_pure mB_L_law dL_law_336 rfl
theorem rL_law_337 : tA sc iL_law 337 [l0, l1, l2, vI x] st h Q = tA sc iL_law 338 [l0, l1, l2, vI x] (vI x :: st) h Q := tA_pure mB_L_law dL_law_337 rfl
theorem rL_law_338 : tA sc iL_law 338 ls st h Q = tA sc iL_law 339 ls (vI (3) :: st) h Q := tA_pure mB_L_law dL_law_338 rfl
theorem rL_law_339 : tA sc iL_law 339 ls (vI y :: vI x :: st) h Q = tA sc iL_law 340 ls (vI (x + y) :: st) h Q := tA_pure mB_L_law dL_law_339 rfl
theorem rL_law_340 : tA sc iL_law 340 ls (vI j :: vR (some a) :: st) h Q = oz (tald sc h 0 a j) (fun v => tA sc iL_law 341 ls (vI v :: st) h Q) := tA_iald mB_L_law dL_law_340
theorem rL_law_341 (hci : tcl h o = some 10) : tA sc iL_law 341 ls [vI p2, vI p1, vI p0, vR (some o)] h Q = tA sc iX10_weigh 0 [vR (some o), vI p0, vI p1, vI p2, vU, vU] [] h (fun v h1 => tA sc iL_law 344 ls (tpu v []) h1 Q) := tA_cV mB_L_law mO_L_law dL_law_341 cT_12_30 rfl (Nat.le_of_ble_eq_true rfl) rfl rfl rfl hci
theorem rL_law_344 : tA sc iL_law 344 [l0, l1, vR r, l3] st h Q = tA sc iL_law 345 [l0, l1, vR r, l3] (vR r :: st) h Q := tA_pure mB_L_law dL_law_344 rfl
theorem rL_law_345 : tA sc iL_law 345 [vR r, l1, l2, l3] st h Q = tA sc iL_law 346 [vR r, l1, l2, l3] (vR r :: st) h Q := tA_pure mB_L_law dL_law_345 rfl
theorem rL_law_346 : tA sc iL_law 346 [l0, l1, l2, vI x] st h Q = tA sc iL_law 347 [l0, l1, l2, vI x] (vI x :: st) h Q := tA_pure mB_L_law dL_law_346 rfl
theorem rL_law_347 : tA sc iL_law 347 ls st h Q = tA sc iL_law 348 ls (vI (1) :: st) h Q := tA_pure mB_L_law dL_law_347 rfl
theorem rL_law_348 : tA sc iL_law 348 ls (vI y :: vI x :: st) h Q = tA sc iL_law 349 ls (vI (x + y) :: st) h Q := tA_pure mB_L_law dL_law_348 rfl
theorem rL_law_349 : tA sc iL_law 349 ls (vI j :: vR (some a) :: st) h Q = oz (tald sc h 0 a j) (fun v => tA sc iL_law 350 ls (vI v :: st) h Q) := tA_iald mB_L_law dL_law_349
theorem rL_law_350 : tA sc iL_law 350 [vR r, l1, l2, l3] st h Q = tA sc iL_law 351 [vR r, l1, l2, l3] (vR r :: st) h Q := tA_pure mB_L_law dL_law_350 rfl
theorem rL_law_351 : tA sc iL_law 351 [l0, l1, l2, vI x] st h Q = tA sc iL_law 352 [l0, l1, l2, vI x] (vI x :: st) h Q := tA_pure mB_L_law dL_law_351 rfl
theorem rL_law_352 : tA sc iL_law 352 ls st h Q = tA sc iL_law 353 ls (vI (2) :: st) h Q := tA_pure mB_L_law dL_law_352 rfl
theorem rL_law_353 : tA sc iL_law 353 ls (vI y :: vI x :: st) h Q = tA sc iL_law 354 ls (vI (x + y) :: st) h Q := tA_pure mB_L_law dL_law_353 rfl
theorem rL_law_354 : tA sc iL_law 354 ls (vI j :: vR (some a) :: st) h Q = oz (tald sc h 0 a j) (fun v => tA sc iL_law 355 ls (vI v :: st) h Q) := tA_iald mB_L_law dL_law_354
theorem rL_law_355 : tA sc iL_law 355 [vR r, l1, l2, l3] st h Q = tA sc iL_law 356 [vR r, l1, l2, l3] (vR r :: st) h Q := tA_pure mB_L_law dL_law_355 rfl
theorem rL_law_356 : tA sc iL_law 356 [l0, l1, l2, vI x] st h Q = tA sc iL_law 357 [l0, l1, l2, vI x] (vI x :: st) h Q := tA_pure mB_L_law dL_law_356 rfl
theorem rL_law_357 : tA sc iL_law 357 ls st h Q = tA sc iL_law 358 ls (vI (3) :: st) h Q := tA_pure mB_L_law dL_law_357 rfl
theorem rL_law_358 : tA sc iL_law 358 ls (vI y :: vI x :: st) h Q = tA sc iL_law 359 ls (vI (x + y) :: st) h Q := tA_pure mB_L_law dL_law_358 rfl
theorem rL_law_359 : tA sc iL_law 359 ls (vI j :: vR (some a) :: st) h Q = oz (tald sc h 0 a j) (fun v => tA sc iL_law 360 ls (vI v :: st) h Q) := tA_iald mB_L_law dL_law_359
theorem rL_law_360 (hci : tcl h o = some 11) : tA sc iL_law 360 ls [vI p2, vI p1, vI p0, vR (some o), s0] h Q = tA sc iX11_weigh 0 [vR (some o), vI p0, vI p1, vI p2, vU] [] h (fun v h1 => tA sc iL_law 363 ls (tpu v [s0]) h1 Q) := tA_cV mB_L_law mO_L_law dL_law_360 cT_12_34 rfl (Nat.le_of_ble_eq_true rfl) rfl rfl rfl hci
theorem rL_law_363 : tA sc iL_law 363 ls (vI y :: vI x :: st) h Q = (if x = y then tA sc iL_law 1546 ls st h Q else tA sc iL_law 366 ls st h Q) := tA_if mB_L_law dL_law_363 (fun _ _ _ _ => rfl) rfl
theorem rL_law_366 : tA sc iL_law 366 ls st h Q = tA sc iL_law 367 ls (vI (0) :: st) h Q := tA_pure mB_L_law dL_law_366 rfl
theorem rL_law_367 : tA sc iL_law 367 ls [vI x] h Q = ((x = 0 ∨ x = 1) ∧ Q (some (vI x)) h) := tA_retz mB_L_law dL_law_367 rfl
theorem rL_law_368 : tA sc iL_law 368 [l0, vR r, l2, l3] st h Q = tA sc iL_law 369 [l0, vR r, l2, l3] (vR r :: st) h Q := tA_pure mB_L_law dL_law_368 rfl
theorem rL_law_369 : tA sc iL_law 369 [vR r, l1, l2, l3] st h Q = tA sc iL_law 370 [vR r, l1, l2, l3] (vR r :: st) h Q := tA_pure mB_L_law dL_law_369 rfl
theorem rL_law_370 : tA sc iL_law 370 [l0, l1, l2, vI x] st h Q = tA sc iL_law 371 [l0, l1, l2, vI x] (vI x :: st) h Q := tA_pure mB_L_law dL_law_370 rfl
theorem rL_law_371 : tA sc iL_law 371 ls st h Q = tA sc iL_law 372 ls (vI (1) :: st) h Q := tA_pure mB_L_law dL_law_371 rfl
theorem rL_law_372 : tA sc iL_law 372 ls (vI y :: vI x :: st) h Q = tA sc iL_law 373 ls (vI (x + y) :: st) h Q := tA_pure mB_L_law dL_law_372 rfl
theorem rL_law_373 : tA sc iL_law 373 ls (vI j :: vR (some a) :: st) h Q = oz (tald sc h 0 a j) (fun v => tA sc iL_law 374 ls (vI v :: st) h Q) := tA_iald mB_L_law dL_law_373
theorem rL_law_374 : tA sc iL_law 374 [vR r, l1, l2, l3] st h Q = tA sc iL_law 375 [vR r, l1, l2, l3] (vR r :: st) h Q := tA_pure mB_L_law dL_law_374 rfl
theorem rL_law_375 : tA sc iL_law 375 [l0, l1, l2, vI x] st h Q = tA sc iL_law 376 [l0, l1, l2, vI x] (vI x :: st) h Q := tA_pure mB_L_law dL_law_375 rfl
theorem rL_law_376 : tA sc iL_law 376 ls st h Q = tA sc iL_law 377 ls (vI (2) :: st) h Q := tA_pure mB_L_law dL_law_376 rfl
theorem rL_law_377 : tA sc iL_law 377 ls (vI y :: vI x :: st) h Q = tA sc iL_law 378 ls (vI (x + y) :: st) h Q := tA_pure mB_L_law dL_law_377 rfl
theorem rL_law_378 : tA sc iL_law 378 ls (vI j :: vR (some a) :: st) h Q = oz (tald sc h 0 a j) (fun v => tA sc iL_law 379 ls (vI v :: st) h Q) := tA_iald mB_L_law dL_law_378
theorem rL_law_379 (hci : tcl h o = some 10) : tA sc iL_law 379 ls [vI p1, vI p0, vR (some o)] h Q = tA sc iX10_sign 0 [vR (some o), vI p0, vI p1, vU] [] h (fun v h1 => tA sc iL_law 382 ls (tpu v []) h1 Q) := tA_cV mB_L_law mO_L_law dL_law_379 cT_12_35 rfl (Nat.le_of_ble_eq_true rfl) rfl rfl rfl hci
theorem rL_law_382 : tA sc iL_law 382 [l0, l1, vR r, l3] st h Q = tA sc iL_law 383 [l0, l1, vR r, l3] (vR r :: st) h Q := tA_pure mB_L_law dL_law_382 rfl
theorem rL_law_383 : tA sc iL_law 383 [vR r, l1, l2, l3] st h Q = tA sc iL_law 384 [vR r, l1, l2, l3] (vR r :: st) h Q := tA_pure mB_L_law dL_law_383 rfl
theorem rL_law_384 : tA sc iL_law 384 [l0, l1, l2, vI x] st h Q = tA sc iL_law 385 [l0, l1, l2, vI x] (vI x :: st) h Q := tA_pure mB_L_law dL_law_384 rfl
theorem rL_law_385 : tA sc iL_law 385 ls st h Q = tA sc iL_law 386 ls (vI (1) :: st) h Q := tA_pure mB_L_law dL_law_385 rfl
theorem rL_law_386 : tA sc iL_law 386 ls (vI y :: vI x :: st) h Q = tA sc iL_law 387 ls (vI (x + y) :: st) h Q := tA_pure mB_L_law dL_law_386 rfl
theorem rL_law_387 : tA sc iL_law 387 ls (vI j :: vR (some a) :: st) h Q = oz (tald sc h 0 a j) (fun v => tA sc iL_law 388 ls (vI v :: st) h Q) := tA_iald mB_L_law dL_law_387
theorem rL_law_388 : tA sc iL_law 388 [vR r, l1, l2, l3] st h Q = tA sc iL_law 389 [vR r, l1, l2, l3] (vR r :: st) h Q := tA_pure mB_L_law dL_law_388 rfl
theorem rL_law_389 : tA sc iL_law 389 [l0, l1, l2, vI x] st h Q = tA sc iL_law 390 [l0, l1, l2, vI x] (vI x :: st) h Q := tA_pure mB_L_law dL_law_389 rfl
theorem rL_law_390 : tA sc iL_law 390 ls st h Q = tA sc iL_law 391 ls (vI (2) :: st) h Q := tA_pure mB_L_law dL_law_390 rfl
theorem rL_law_391 : tA sc iL_law 391 ls (vI y :: vI x :: st) h Q = tA sc iL_law 392 ls (vI (x + y) :: st) h Q := tA_pure mB_L_law dL_law_391 rfl
theorem rL_law_392 : tA sc iL_law 392 ls (vI j :: vR (some a) :: st) h Q = oz (tald sc h 0 a j) (fun v => tA sc iL_law 393 ls (vI v :: st) h Q) := tA_iald mB_L_law dL_law_392
theorem rL_law_393 (hci : tcl h o = some 11) : tA sc iL_law 393 ls [vI p1, vI p0, vR (some o), s0] h Q = tA sc iX11_sign 0 [vR (some o), vI p0, vI p1, vU] [] h (fun v h1 => tA sc iL_law 396 ls (tpu v [s0]) h1 Q) := tA_cV mB_L_law mO_L_law dL_law_393 cT_12_38 rfl (Nat.le_of_ble_eq_true rfl) rfl rfl rfl hci
theorem rL_law_396 : tA sc iL_law 396 ls (vI y :: vI x :: st) h Q = (if x = y then tA sc iL_law 1546 ls st h Q else tA sc iL_law 399 ls st h Q) := tA_if mB_L_law dL_law_396 (fun _ _ _ _ => rfl) rfl
theorem rL_law_399 : tA sc iL_law 399 ls st h Q = tA sc iL_law 400 ls (vI (0) :: st) h Q := tA_pure mB_L_law dL_law_399 rfl
theorem rL_law_400 : tA sc iL_law 400 ls [vI x] h Q = ((x = 0 ∨ x = 1) ∧ Q (some (vI x)) h) := tA_retz mB_L_law dL_law_400 rfl
theorem rL_law_401 : tA sc iL_law 401 [l0, vR r, l2, l3] st h Q = tA sc iL_law 402 [l0, vR r, l2, l3] (vR r :: st) h Q := tA_pure mB_L_law dL_law_401 rfl
theorem rL_law_402 : tA sc iL_law 402 [vR r, l1, l2, l3] st h Q = tA sc iL_law 403 [vR r, l1, l2, l3] (vR r :: st) h Q := tA_pure mB_L_law dL_law_402 rfl
theorem rL_law_403 : tA sc iL_law 403 [l0, l1, l2, vI x] st h Q = tA sc iL_law 404 [l0, l1, l2, vI x] (vI x :: st) h Q := tA_pure mB_L_law dL_law_403 rfl
theorem rL_law_404 : tA sc iL_law 404 ls st h Q = tA sc iL_law 405 ls (vI (1) :: st) h Q := tA_pure mB_L_law dL_law_404 rfl
theorem rL_law_405 : tA sc iL_law 405 ls (vI y :: vI x :: st) h Q = tA sc iL_law 406 ls (vI (x + y) :: st) h Q := tA_pure mB_L_law dL_law_405 rfl
theorem rL_law_406 : tA sc iL_law 406 ls (vI j :: vR (some a) :: st) h Q = oz (tald sc h 0 a j) (fun v => tA sc iL_law 407 ls (vI v :: st) h Q) := tA_iald mB_L_law dL_law_406
theorem rL_law_407 : tA sc iL_law 407 [vR r, l1, l2, l3] st h Q = tA sc iL_law 408 [vR r, l1, l2, l3] (vR r :: st) h Q := tA_pure mB_L_law dL_law_407 rfl
theorem rL_law_408 : tA sc iL_law 408 [l0, l1, l2, vI x] st h Q = tA sc iL_law 409 [l0, l1, l2, vI x] (vI x :: st) h Q := tA_pure mB_L_law dL_law_408 rfl
theorem rL_law_409 : tA sc iL_law 409 ls st h Q = tA sc iL_law 410 ls (vI (2) :: st) h Q := tA_pure mB_L_law dL_law_409 rfl
theorem rL_law_410 : tA sc iL_law 410 ls (vI y :: vI x :: st) h Q = tA sc iL_law 411 ls (vI (x + y) :: st) h Q := tA_pure mB_L_law dL_law_410 rfl
theorem rL_law_411 : tA sc iL_law 411 ls (vI j :: vR (some a) :: st) h Q = oz (tald sc h 0 a j) (fun v => tA sc iL_law 412 ls (vI v :: st) h Q) := tA_iald mB_L_law dL_law_411
theorem rL_law_412 (hci : tcl h o = some 10) : tA sc iL_law 412 ls [vI p1, vI p0, vR (some o)] h Q = tA sc iX10_dayOf 0 [vR (some o), vI p0, vI p1] [] h (fun v h1 => tA sc iL_law 415 ls (tpu v []) h1 Q) := tA_cV mB_L_law mO_L_law dL_law_412 cT_12_39 rfl (Nat.le_of_ble_eq_true rfl) rfl rfl rfl hci
theorem rL_law_415 : tA sc iL_law 415 [l0, l1, vR r, l3] st h Q = tA sc iL_law 416 [l0, l1, vR r, l3] (vR r :: st) h Q := tA_pure mB_L_law dL_law_415 rfl
theorem rL_law_416 : tA sc iL_law 416 [vR r, l1, l2, l3] st h Q = tA sc iL_law 417 [vR r, l1, l2, l3] (vR r :: st) h Q := tA_pure mB_L_law dL_law_416 rfl
theorem rL_law_417 : tA sc iL_law 417 [l0, l1, l2, vI x] st h Q = tA sc iL_law 418 [l0, l1, l2, vI x] (vI x :: st) h Q := tA_pure mB_L_law dL_law_417 rfl
theorem rL_law_418 : tA sc iL_law 418 ls st h Q = tA sc iL_law 419 ls (vI (1) :: st) h Q := tA_pure mB_L_law dL_law_418 rfl
theorem rL_law_419 : tA sc iL_law 419 ls (vI y :: vI x :: st) h Q = tA sc iL_law 420 ls (vI (x + y) :: st) h Q := tA_pure mB_L_law dL_law_419 rfl
theorem rL_law_420 : tA sc iL_law 420 ls (vI j :: vR (some a) :: st) h Q = oz (tald sc h 0 a j) (fun v => tA sc iL_law 421 ls (vI v :: st) h Q) := tA_iald mB_L_law dL_law_420
theorem rL_law_421 : tA sc iL_law 421 [vR r, l1, l2, l3] st h Q = tA sc iL_law 422 [vR r, l1, l2, l3] (vR r :: st) h Q := tA_pure mB_L_law dL_law_421 rfl
theorem rL_law_422 : tA sc iL_law 422 [l0, l1, l2, vI x] st h Q = tA sc iL_law 423 [l0, l1, l2, vI x] (vI x :: st) h Q := tA_pure mB_L_law dL_law_422 rfl
theorem rL_law_423 : tA sc iL_law 423 ls st h Q = tA sc iL_law 424 ls (vI (2) :: st) h Q := tA_pure mB_L_law dL_law_423 rfl
theorem rL_law_424 : tA sc iL_law 424 ls (vI y :: vI x :: st) h Q = tA sc iL_law 425 ls (vI (x + y) :: st) h Q := tA_pure mB_L_law dL_law_424 rfl
theorem rL_law_425 : tA sc iL_law 425 ls (vI j :: vR (some a) :: st) h Q = oz (tald sc h 0 a j) (fun v => tA sc iL_law 426 ls (vI v :: st) h Q) := tA_iald mB_L_law dL_law_425
theorem rL_law_426 (hci : tcl h o = some 11) : tA sc iL_law 426 ls [vI p1, vI p0, vR (some o), s0] h Q = tA sc iX11_dayOf 0 [vR (some o), vI p0, vI p1] [] h (fun v h1 => tA sc iL_law 429 ls (tpu v [s0]) h1 Q) := tA_cV mB_L_law mO_L_law dL_law_426 cT_12_42 rfl (Nat.le_of_ble_eq_true rfl) rfl rfl rfl hci
theorem rL_law_429 : tA sc iL_law 429 ls (vI y :: vI x :: st) h Q = (if x = y then tA sc iL_law 1546 ls st h Q else tA sc iL_law 432 ls st h Q) := tA_if mB_L_law dL_law_429 (fun _ _ _ _ => rfl) rfl
theorem rL_law_432 : tA sc iL_law 432 ls st h Q = tA sc iL_law 433 ls (vI (0) :: st) h Q := tA_pure mB_L_law dL_law_432 rfl
theorem rL_law_433 : tA sc iL_law 433 ls [vI x] h Q = ((x = 0 ∨ x = 1) ∧ Q (some (vI x)) h) := tA_retz mB_L_law dL_law_433 rfl
theorem rL_law_434 : tA sc iL_law 434 [l0, vR r, l2, l3] st h Q = tA sc iL_law 435 [l0, vR r, l2, l3] (vR r :: st) h Q := tA_pure mB_L_law dL_law_434 rfl
theorem rL_law_435 : tA sc iL_law 435 [vR r, l1, l2, l3] st h Q = tA sc iL_law 436 [vR r, l1, l2, l3] (vR r :: st) h Q := tA_pure mB_L_law dL_law_435 rfl
theorem rL_law_436 : tA sc iL_law 436 [l0, l1, l2, vI x] st h Q = tA sc iL_law 437 [l0, l1, l2, vI x] (vI x :: st) h Q := tA_pure mB_L_law dL_law_436 rfl
theorem rL_law_437 : tA sc iL_law 437 ls st h Q = tA sc iL_law 438 ls (vI (1) :: st) h Q := tA_pure mB_L_law dL_law_437 rfl
theorem rL_law_438 : tA sc iL_law 438 ls (vI y :: vI x :: st) h Q = tA sc iL_law 439 ls (vI (x + y) :: st) h Q := tA_pure mB_L_law dL_law_438 rfl
theorem rL_law_439 : tA sc iL_law 439 ls (vI j :: vR (some a) :: st) h Q = oz (tald sc h 0 a j) (fun v => tA sc iL_law 440 ls (vI v :: st) h Q) := tA_iald mB_L_law dL_law_439
theorem rL_law_440 : tA sc iL_law 440 [vR r, l1, l2, l3] st h Q = tA sc iL_law 441 [vR r, l1, l2, l3] (vR r :: st) h Q := tA_pure mB_L_law dL_law_440 rfl
theorem rL_law_441 : tA sc iL_law 441 [l0, l1, l2, vI x] st h Q = tA sc iL_law 442 [l0, l1, l2, vI x] (vI x :: st) h Q := tA_pure mB_L_law dL_law_441 rfl
theorem rL_law_442 : tA sc iL_law 442 ls st h Q = tA sc iL_law 443 ls (vI (2) :: st) h Q := tA_pure mB_L_law dL_law_442 rfl
theorem rL_law_443 : tA sc iL_law 443 ls (vI y :: vI x :: st) h Q = tA sc iL_law 444 ls (vI (x + y) :: st) h Q := tA_pure mB_L_law dL_law_443 rfl
theorem rL_law_444 : tA sc iL_law 444 ls (vI j :: vR (some a) :: st) h Q = oz (tald sc h 0 a j) (fun v => tA sc iL_law 445 ls (vI v :: st) h Q) := tA_iald mB_L_law dL_law_444
theorem rL_law_445 (hci : tcl h o = some 10) : tA sc iL_law 445 ls [vI p1, vI p0, vR (some o)] h Q = tA sc iX10_set 0 [vR (some o), vI p0, vI p1, vU] [] h (fun v h1 => tA sc iL_law 448 ls (tpu v []) h1 Q) := tA_cV mB_L_law mO_L_law dL_law_445 cT_12_43 rfl (Nat.le_of_ble_eq_true rfl) rfl rfl rfl hci
theorem rL_law_448 : tA sc iL_law 448 [l0, l1, vR r, l3] st h Q = tA sc iL_law 449 [l0, l1, vR r, l3] (vR r :: st) h Q := tA_pure mB_L_law dL_law_448 rfl
theorem rL_law_449 : tA sc iL_law 449 [vR r, l1, l2, l3] st h Q = tA sc iL_law 450 [vR r, l1, l2, l3] (vR r :: st) h Q := tA_pure mB_L_law dL_law_449 rfl
theorem rL_law_450 : tA sc iL_law 450 [l0, l1, l2, vI x] st h Q = tA sc iL_law 451 [l0, l1, l2, vI x] (vI x :: st) h Q := tA_pure mB_L_law dL_law_450 rfl
theorem rL_law_451 : tA sc iL_law 451 ls st h Q = tA sc iL_law 452 ls (vI (1) :: st) h Q := tA_pure mB_L_law dL_law_451 rfl
theorem rL_law_452 : tA sc iL_law 452 ls (vI y :: vI x :: st) h Q = tA sc iL_law 453 ls (vI (x + y) :: st) h Q := tA_pure mB_L_law dL_law_452 rfl
theorem rL_law_453 : tA sc iL_law 453 ls (vI j :: vR (some a) :: st) h Q = oz (tald sc h 0 a j) (fun v => tA sc iL_law 454 ls (vI v :: st) h Q) := tA_iald mB_L_law dL_law_453
theorem rL_law_454 : tA sc iL_law 454 [vR r, l1, l2, l3] st h Q = tA sc iL_law 455 [vR r, l1, l2, l3] (vR r :: st) h Q := tA_pure mB_L_law dL_law_454 rfl
theorem rL_law_455 : tA sc iL_law 455 [l0, l1, l2, vI x] st h Q = tA sc iL_law 456 [l0, l1, l2, vI x] (vI x :: st) h Q := tA_pure mB_L_law dL_law_455 rfl
theorem rL_law_456 : tA sc iL_law 456 ls st h Q = tA sc iL_law 457 ls (vI (2) :: st) h Q := tA_pure mB_L_law dL_law_456 rfl
theorem rL_law_457 : tA sc iL_law 457 ls (vI y :: vI x :: st) h Q = tA sc iL_law 458 ls (vI (x + y) :: st) h Q := tA_pure mB_L_law dL_law_457 rfl
theorem rL_law_458 : tA sc iL_law 458 ls (vI j :: vR (some a) :: st) h Q = oz (tald sc h 0 a j) (fun v => tA sc iL_law 459 ls (vI v :: st) h Q) := tA_iald mB_L_law dL_law_458
theorem rL_law_459 (hci : tcl h o = some 11) : tA sc iL_law 459 ls [vI p1, vI p0, vR (some o), s0] h Q = tA sc iX11_set 0 [vR (some o), vI p0, vI p1, vU, vU] [] h (fun v h1 => tA sc iL_law 462 ls (tpu v [s0]) h1 Q) := tA_cV mB_L_law mO_L_law dL_law_459 cT_12_46 rfl (Nat.le_of_ble_eq_true rfl) rfl rfl rfl hci
theorem rL_law_462 : tA sc iL_law 462 ls (vI y :: vI x :: st) h Q = (if x = y then tA sc iL_law 1546 ls st h Q else tA sc iL_law 465 ls st h Q) := tA_if mB_L_law dL_law_462 (fun _ _ _ _ => rfl) rfl
theorem rL_law_465 : tA sc iL_law 465 ls st h Q = tA sc iL_law 466 ls (vI (0) :: st) h Q := tA_pure mB_L_law dL_law_465 rfl
theorem rL_law_466 : tA sc iL_law 466 ls [vI x] h Q = ((x = 0 ∨ x = 1) ∧ Q (some (vI x)) h) := tA_retz mB_L_law dL_law_466 rfl
theorem rL_law_467 : tA sc iL_law 467 [l0, vR r, l2, l3] st h Q = tA sc iL_law 468 [l0, vR r, l2, l3] (vR r :: st) h Q := tA_pure mB_L_law dL_law_467 rfl
theorem rL_law_468 : tA sc iL_law 468 [vR r, l1, l2, l3] st h Q = tA sc iL_law 469 [vR r, l1, l2, l3] (vR r :: st) h Q := tA_pure mB_L_law dL_law_468 rfl
theorem rL_law_469 : tA sc iL_law 469 [l0, l1, l2, vI x] st h Q = tA sc iL_law 470 [l0, l1, l2, vI x] (vI x :: st) h Q := tA_pure mB_L_law dL_law_469 rfl
theorem rL_law_470 : tA sc iL_law 470 ls st h Q = tA sc iL_law 471 ls (vI (1) :: st) h Q := tA_pure mB_L_law dL_law_470 rfl
theorem rL_law_471 : tA sc iL_law 471 ls (vI y :: vI x :: st) h Q = tA sc iL_law 472 ls (vI (x + y) :: st) h Q := tA_pure mB_L_law dL_law_471 rfl
theorem rL_law_472 : tA sc iL_law 472 ls (vI j :: vR (some a) :: st) h Q = oz (tald sc h 0 a j) (fun v => tA sc iL_law 473 ls (vI v :: st) h Q) := tA_iald mB_L_law dL_law_472
theorem rL_law_473 : tA sc iL_law 473 [vR r, l1, l2, l3] st h Q = tA sc iL_law 474 [vR r, l1, l2, l3] (vR r :: st) h Q := tA_pure mB_L_law dL_law_473 rfl
theorem rL_law_474 : tA sc iL_law 474 [l0, l1, l2, vI x] st h Q = tA sc iL_law 475 [l0, l1, l2, vI x] (vI x :: st) h Q := tA_pure mB_L_law dL_law_474 rfl
theorem rL_law_475 : tA sc iL_law 475 ls st h Q = tA sc iL_law 476 ls (vI (2) :: st) h Q := tA_pure mB_L_law dL_law_475 rfl
theorem rL_law_476 : tA sc iL_law 476 ls (vI y :: vI x :: st) h Q = tA sc iL_law 477 ls (vI (x + y) :: st) h Q := tA_pure mB_L_law dL_law_476 rfl
theorem rL_law_477 : tA sc iL_law 477 ls (vI j :: vR (some a) :: st) h Q = oz (tald sc h 0 a j) (fun v => tA sc iL_law 478 ls (vI v :: st) h Q) := tA_iald mB_L_law dL_law_477
theorem rL_law_478 (hci : tcl h o = some 10) : tA sc iL_law 478 ls [vI p1, vI p0, vR (some o)] h Q = tA sc iX10_sayer 0 [vR (some o), vI p0, vI p1] [] h (fun v h1 => tA sc iL_law 481 ls (tpu v []) h1 Q) := tA_cV mB_L_law mO_L_law dL_law_478 cT_12_47 rfl (Nat.le_of_ble_eq_true rfl) rfl rfl rfl hci
theorem rL_law_481 : tA sc iL_law 481 [l0, l1, vR r, l3] st h Q = tA sc iL_law 482 [l0, l1, vR r, l3] (vR r :: st) h Q := tA_pure mB_L_law dL_law_481 rfl
theorem rL_law_482 : tA sc iL_law 482 [vR r, l1, l2, l3] st h Q = tA sc iL_law 483 [vR r, l1, l2, l3] (vR r :: st) h Q := tA_pure mB_L_law dL_law_482 rfl
theorem rL_law_483 : tA sc iL_law 483 [l0, l1, l2, vI x] st h Q = tA sc iL_law 484 [l0, l1, l2, vI x] (vI x :: st) h Q := tA_pure mB_L_law dL_law_483 rfl
theorem rL_law_484 : tA sc iL_law 484 ls st h Q = tA sc iL_law 485 ls (vI (1) :: st) h Q := tA_pure mB_L_law dL_law_484 rfl
theorem rL_law_485 : tA sc iL_law 485 ls (vI y :: vI x :: st) h Q = tA sc iL_law 486 ls (vI (x + y) :: st) h Q := tA_pure mB_L_law dL_law_485 rfl
theorem rL_law_486 : tA sc iL_law 486 ls (vI j :: vR (some a) :: st) h Q = oz (tald sc h 0 a j) (fun v => tA sc iL_law 487 ls (vI v :: st) h Q) := tA_iald mB_L_law dL_law_486
theorem rL_law_487 : tA sc iL_law 487 [vR r, l1, l2, l3] st h Q = tA sc iL_law 488 [vR r, l1, l2, l3] (vR r :: st) h Q := tA_pure mB_L_law dL_law_487 rfl
theorem rL_law_488 : tA sc iL_law 488 [l0, l1, l2, vI x] st h Q = tA sc iL_law 489 [l0, l1, l2, vI x] (vI x :: st) h Q := tA_pure mB_L_law dL_law_488 rfl
theorem rL_law_489 : tA sc iL_law 489 ls st h Q = tA sc iL_law 490 ls (vI (2) :: st) h Q := tA_pure mB_L_law dL_law_489 rfl
theorem rL_law_490 : tA sc iL_law 490 ls (vI y :: vI x :: st) h Q = tA sc iL_law 491 ls (vI (x + y) :: st) h Q := tA_pure mB_L_law dL_law_490 rfl
theorem rL_law_491 : tA sc iL_law 491 ls (vI j :: vR (some a) :: st) h Q = oz (tald sc h 0 a j) (fun v => tA sc iL_law 492 ls (vI v :: st) h Q) := tA_iald mB_L_law dL_law_491
theorem rL_law_492 (hci : tcl h o = some 11) : tA sc iL_law 492 ls [vI p1, vI p0, vR (some o), s0] h Q = tA sc iX11_sayer 0 [vR (some o), vI p0, vI p1] [] h (fun v h1 => tA sc iL_law 495 ls (tpu v [s0]) h1 Q) := tA_cV mB_L_law mO_L_law dL_law_492 cT_12_50 rfl (Nat.le_of_ble_eq_true rfl) rfl rfl rfl hci
theorem rL_law_495 : tA sc iL_law 495 ls (vI y :: vI x :: st) h Q = (if x = y then tA sc iL_law 1546 ls st h Q else tA sc iL_law 498 ls st h Q) := tA_if mB_L_law dL_law_495 (fun _ _ _ _ => rfl) rfl
theorem rL_law_498 : tA sc iL_law 498 ls st h Q = tA sc iL_law 499 ls (vI (0) :: st) h Q := tA_pure mB_L_law dL_law_498 rfl
theorem rL_law_499 : tA sc iL_law 499 ls [vI x] h Q = ((x = 0 ∨ x = 1) ∧ Q (some (vI x)) h) := tA_retz mB_L_law dL_law_499 rfl
theorem rL_law_500 : tA sc iL_law 500 [l0, vR r, l2, l3] st h Q = tA sc iL_law 501 [l0, vR r, l2, l3] (vR r :: st) h Q := tA_pure mB_L_law dL_law_500 rfl
theorem rL_law_501 : tA sc iL_law 501 [vR r, l1, l2, l3] st h Q = tA sc iL_law 502 [vR r, l1, l2, l3] (vR r :: st) h Q := tA_pure mB_L_law dL_law_501 rfl
theorem rL_law_502 : tA sc iL_law 502 [l0, l1, l2, vI x] st h Q = tA sc iL_law 503 [l0, l1, l2, vI x] (vI x :: st) h Q := tA_pure mB_L_law dL_law_502 rfl
theorem rL_law_503 : tA sc iL_law 503 ls st h Q = tA sc iL_law 504 ls (vI (1) :: st) h Q := tA_pure mB_L_law dL_law_503 rfl
theorem rL_law_504 : tA sc iL_law 504 ls (vI y :: vI x :: st) h Q = tA sc iL_law 505 ls (vI (x + y) :: st) h Q := tA_pure mB_L_law dL_law_504 rfl
theorem rL_law_505 : tA sc iL_law 505 ls (vI j :: vR (some a) :: st) h Q = oz (tald sc h 0 a j) (fun v => tA sc iL_law 506 ls (vI v :: st) h Q) := tA_iald mB_L_law dL_law_505
theorem rL_law_506 : tA sc iL_law 506 [vR r, l1, l2, l3] st h Q = tA sc iL_law 507 [vR r, l1, l2, l3] (vR r :: st) h Q := tA_pure mB_L_law dL_law_506 rfl
theorem rL_law_507 : tA sc iL_law 507 [l0, l1, l2, vI x] st h Q = tA sc iL_law 508 [l0, l1, l2, vI x] (vI x :: st) h Q := tA_pure mB_L_law dL_law_507 rfl
theorem rL_law_508 : tA sc iL_law 508 ls st h Q = tA sc iL_law 509 ls (vI (2) :: st) h Q := tA_pure mB_L_law dL_law_508 rfl
theorem rL_law_509 : tA sc iL_law 509 ls (vI y :: vI x :: st) h Q = tA sc iL_law 510 ls (vI (x + y) :: st) h Q := tA_pure mB_L_law dL_law_509 rfl
theorem rL_law_510 : tA sc iL_law 510 ls (vI j :: vR (some a) :: st) h Q = oz (tald sc h 0 a j) (fun v => tA sc iL_law 511 ls (vI v :: st) h Q) := tA_iald mB_L_law dL_law_510
theorem rL_law_511 (hci : tcl h o = some 10) : tA sc iL_law 511 ls [vI p1, vI p0, vR (some o)] h Q = tA sc iX10_sayerOf 0 [vR (some o), vI p0, vI p1, vU] [] h (fun v h1 => tA sc iL_law 514 ls (tpu v []) h1 Q) := tA_cV mB_L_law mO_L_law dL_law_511 cT_12_51 rfl (Nat.le_of_ble_eq_true rfl) rfl rfl rfl hci
theorem rL_law_514 : tA sc iL_law 514 [l0, l1, vR r, l3] st h Q = tA sc iL_law 515 [l0, l1, vR r, l3] (vR r :: st) h Q := tA_pure mB_L_law dL_law_514 rfl
theorem rL_law_515 : tA sc iL_law 515 [vR r, l1, l2, l3] st h Q = tA sc iL_law 516 [vR r, l1, l2, l3] (vR r :: st) h Q := tA_pure mB_L_law dL_law_515 rfl
theorem rL_law_516 : tA sc iL_law 516 [l0, l1, l2, vI x] st h Q = tA sc iL_law 517 [l0, l1, l2, vI x] (vI x :: st) h Q := tA_pure mB_L_law dL_law_516 rfl
theorem rL_law_517 : tA sc iL_law 517 ls st h Q = tA sc iL_law 518 ls (vI (1) :: st) h Q := tA_pure mB_L_law dL_law_517 rfl
theorem rL_law_518 : tA sc iL_law 518 ls (vI y :: vI x :: st) h Q = tA sc iL_law 519 ls (vI (x + y) :: st) h Q := tA_pure mB_L_law dL_law_518 rfl
theorem rL_law_519 : tA sc iL_law 519 ls (vI j :: vR (some a) :: st) h Q = oz (tald sc h 0 a j) (fun v => tA sc iL_law 520 ls (vI v :: st) h Q) := tA_iald mB_L_law dL_law_519
theorem rL_law_520 : tA sc iL_law 520 [vR r, l1, l2, l3] st h Q = tA sc iL_law 521 [vR r, l1, l2, l3] (vR r :: st) h Q := tA_pure mB_L_law dL_law_520 rfl
theorem rL_law_521 : tA sc iL_law 521 [l0, l1, l2, vI x] st h Q = tA sc iL_law 522 [l0, l1, l2, vI x] (vI x :: st) h Q := tA_pure mB_L_law dL_law_521 rfl
theorem rL_law_522 : tA sc iL_law 522 ls st h Q = tA sc iL_law 523 ls (vI (2) :: st) h Q := tA_pure mB_L_law dL_law_522 rfl
theorem rL_law_523 : tA sc iL_law 523 ls (vI y :: vI x :: st) h Q = tA sc iL_law 524 ls (vI (x + y) :: st) h Q := tA_pure mB_L_law dL_law_523 rfl
theorem rL_law_524 : tA sc iL_law 524 ls (vI j :: vR (some a) :: st) h Q = oz (tald sc h 0 a j) (fun v => tA sc iL_law 525 ls (vI v :: st) h Q) := tA_iald mB_L_law dL_law_524
theorem rL_law_525 (hci : tcl h o = some 11) : tA sc iL_law 525 ls [vI p1, vI p0, vR (some o), s0] h Q = tA sc iX11_sayerOf 0 [vR (some o), vI p0, vI p1, vU, vU] [] h (fun v h1 => tA sc iL_law 528 ls (tpu v [s0]) h1 Q) := tA_cV mB_L_law mO_L_law dL_law_525 cT_12_54 rfl (Nat.le_of_ble_eq_true rfl) rfl rfl rfl hci
theorem rL_law_528 : tA sc iL_law 528 ls (vI y :: vI x :: st) h Q = (if x = y then tA sc iL_law 1546 ls st h Q else tA sc iL_law 531 ls st h Q) := tA_if mB_L_law dL_law_528 (fun _ _ _ _ => rfl) rfl
theorem rL_law_531 : tA sc iL_law 531 ls st h Q = tA sc iL_law 532 ls (vI (0) :: st) h Q := tA_pure mB_L_law dL_law_531 rfl
theorem rL_law_532 : tA sc iL_law 532 ls [vI x] h Q = ((x = 0 ∨ x = 1) ∧ Q (some (vI x)) h) := tA_retz mB_L_law dL_law_532 rfl
theorem rL_law_533 : tA sc iL_law 533 [l0, vR r, l2, l3] st h Q = tA sc iL_law 534 [l0, vR r, l2, l3] (vR r :: st) h Q := tA_pure mB_L_law dL_law_533 rfl
theorem rL_law_534 : tA sc iL_law 534 [vR r, l1, l2, l3] st h Q = tA sc iL_law 535 [vR r, l1, l2, l3] (vR r :: st) h Q := tA_pure mB_L_law dL_law_534 rfl
theorem rL_law_535 : tA sc iL_law 535 [l0, l1, l2, vI x] st h Q = tA sc iL_law 536 [l0, l1, l2, vI x] (vI x :: st) h Q := tA_pure mB_L_law dL_law_535 rfl
theorem rL_law_536 : tA sc iL_law 536 ls st h Q = tA sc iL_law 537 ls (vI (1) :: st) h Q := tA_pure mB_L_law dL_law_536 rfl
theorem rL_law_537 : tA sc iL_law 537 ls (vI y :: vI x :: st) h Q = tA sc iL_law 538 ls (vI (x + y) :: st) h Q := tA_pure mB_L_law dL_law_537 rfl
theorem rL_law_538 : tA sc iL_law 538 ls (vI j :: vR (some a) :: st) h Q = oz (tald sc h 0 a j) (fun v => tA sc iL_law 539 ls (vI v :: st) h Q) := tA_iald mB_L_law dL_law_538
theorem rL_law_539 : tA sc iL_law 539 [vR r, l1, l2, l3] st h Q = tA sc iL_law 540 [vR r, l1, l2, l3] (vR r :: st) h Q := tA_pure mB_L_law dL_law_539 rfl
theorem rL_law_540 : tA sc iL_law 540 [l0, l1, l2, vI x] st h Q = tA sc iL_law 541 [l0, l1, l2, vI x] (vI x :: st) h Q := tA_pure mB_L_law dL_law_540 rfl
theorem rL_law_541 : tA sc iL_law 541 ls st h Q = tA sc iL_law 542 ls (vI (2) :: st) h Q := tA_pure mB_L_law dL_law_541 rfl
theorem rL_law_542 : tA sc iL_law 542 ls (vI y :: vI x :: st) h Q = tA sc iL_law 543 ls (vI (x + y) :: st) h Q := tA_pure mB_L_law dL_law_542 rfl
theorem rL_law_543 : tA sc iL_law 543 ls (vI j :: vR (some a) :: st) h Q = oz (tald sc h 0 a j) (fun v => tA sc iL_law 544 ls (vI v :: st) h Q) := tA_iald mB_L_law dL_law_543
theorem rL_law_544 : tA sc iL_law 544 [vR r, l1, l2, l3] st h Q = tA sc iL_law 545 [vR r, l1, l2, l3] (vR r :: st) h Q := tA_pure mB_L_law dL_law_544 rfl
theorem rL_law_545 : tA sc iL_law 545 [l0, l1, l2, vI x] st h Q = tA sc iL_law 546 [l0, l1, l2, vI x] (vI x :: st) h Q := tA_pure mB_L_law dL_law_545 rfl
theorem rL_law_546 : tA sc iL_law 546 ls st h Q = tA sc iL_law 547 ls (vI (3) :: st) h Q := tA_pure mB_L_law dL_law_546 rfl
theorem rL_law_547 : tA sc iL_law 547 ls (vI y :: vI x :: st) h Q = tA sc iL_law 548 ls (vI (x + y) :: st) h Q := tA_pure mB_L_law dL_law_547 rfl
theorem rL_law_548 : tA sc iL_law 548 ls (vI j :: vR (some a) :: st) h Q = oz (tald sc h 0 a j) (fun v => tA sc iL_law 549 ls (vI v :: st) h Q) := tA_iald mB_L_law dL_law_548
theorem rL_law_549 (hci : tcl h o = some 10) : tA sc iL_law 549 ls [vI p2, vI p1, vI p0, vR (some o)] h Q = tA sc iX10_mind 0 [vR (some o), vI p0, vI p1, vI p2, vU] [] h (fun v h1 => tA sc iL_law 552 ls (tpu v []) h1 Q) := tA_cV mB_L_law mO_L_law dL_law_549 cT_12_55 rfl (Nat.le_of_ble_eq_true rfl) rfl rfl rfl hci
theorem rL_law_552 : tA sc iL_law 552 [l0, l1, vR r, l3] st h Q = tA sc iL_law 553 [l0, l1, vR r, l3] (vR r :: st) h Q := tA_pure mB_L_law dL_law_552 rfl
theorem rL_law_553 : tA sc iL_law 553 [vR r, l1, l2, l3] st h Q = tA sc iL_law 554 [vR r, l1, l2, l3] (vR r :: st) h Q := tA_pure mB_L_law dL_law_553 rfl
theorem rL_law_554 : tA sc iL_law 554 [l0, l1, l2, vI x] st h Q = tA sc iL_law 555 [l0, l1, l2, vI x] (vI x :: st) h Q := tA_pure mB_L_law dL_law_554 rfl
theorem rL_law_555 : tA sc iL_law 555 ls st h Q = tA sc iL_law 556 ls (vI (1) :: st) h Q := tA_pure mB_L_law dL_law_555 rfl
theorem rL_law_556 : tA sc iL_law 556 ls (vI y :: vI x :: st) h Q = tA sc iL_law 557 ls (vI (x + y) :: st) h Q := tA_pure mB_L_law dL_law_556 rfl
theorem rL_law_557 : tA sc iL_law 557 ls (vI j :: vR (some a) :: st) h Q = oz (tald sc h 0 a j) (fun v => tA sc iL_law 558 ls (vI v :: st) h Q) := tA_iald mB_L_law dL_law_557
theorem rL_law_558 : tA sc iL_law 558 [vR r, l1, l2, l3] st h Q = tA sc iL_law 559 [vR r, l1, l2, l3] (vR r :: st) h Q := tA_pure mB_L_law dL_law_558 rfl
theorem rL_law_559 : tA sc iL_law 559 [l0, l1, l2, vI x] st h Q = tA sc iL_law 560 [l0, l1, l2, vI x] (vI x :: st) h Q := tA_pure mB_L_law dL_law_559 rfl
theorem rL_law_560 : tA sc iL_law 560 ls st h Q = tA sc iL_law 561 ls (vI (2) :: st) h Q := tA_pure mB_L_law dL_law_560 rfl
theorem rL_law_561 : tA sc iL_law 561 ls (vI y :: vI x :: st) h Q = tA sc iL_law 562 ls (vI (x + y) :: st) h Q := tA_pure mB_L_law dL_law_561 rfl
theorem rL_law_562 : tA sc iL_law 562 ls (vI j :: vR (some a) :: st) h Q = oz (tald sc h 0 a j) (fun v => tA sc iL_law 563 ls (vI v :: st) h Q) := tA_iald mB_L_law dL_law_562
theorem rL_law_563 : tA sc iL_law 563 [vR r, l1, l2, l3] st h Q = tA sc iL_law 564 [vR r, l1, l2, l3] (vR r :: st) h Q := tA_pure mB_L_law dL_law_563 rfl
theorem rL_law_564 : tA sc iL_law 564 [l0, l1, l2, vI x] st h Q = tA sc iL_law 565 [l0, l1, l2, vI x] (vI x :: st) h Q := tA_pure mB_L_law dL_law_564 rfl
theorem rL_law_565 : tA sc iL_law 565 ls st h Q = tA sc iL_law 566 ls (vI (3) :: st) h Q := tA_pure mB_L_law dL_law_565 rfl
theorem rL_law_566 : tA sc iL_law 566 ls (vI y :: vI x :: st) h Q = tA sc iL_law 567 ls (vI (x + y) :: st) h Q := tA_pure mB_L_law dL_law_566 rfl
theorem rL_law_567 : tA sc iL_law 567 ls (vI j :: vR (some a) :: st) h Q = oz (tald sc h 0 a j) (fun v => tA sc iL_law 568 ls (vI v :: st) h Q) := tA_iald mB_L_law dL_law_567
theorem rL_law_568 (hci : tcl h o = some 11) : tA sc iL_law 568 ls [vI p2, vI p1, vI p0, vR (some o), s0] h Q = tA sc iX11_mind 0 [vR (some o), vI p0, vI p1, vI p2, vU] [] h (fun v h1 => tA sc iL_law 571 ls (tpu v [s0]) h1 Q) := tA_cV mB_L_law mO_L_law dL_law_568 cT_12_58 rfl (Nat.le_of_ble_eq_true rfl) rfl rfl rfl hci
theorem rL_law_571 : tA sc iL_law 571 ls (vI y :: vI x :: st) h Q = (if x = y then tA sc iL_law 1546 ls st h Q else tA sc iL_law 574 ls st h Q) := tA_if mB_L_law dL_law_571 (fun _ _ _ _ => rfl) rfl
theorem rL_law_574 : tA sc iL_law 574 ls st h Q = tA sc iL_law 575 ls (vI (0) :: st) h Q := tA_pure mB_L_law dL_law_574 rfl
theorem rL_law_575 : tA sc iL_law 575 ls [vI x] h Q = ((x = 0 ∨ x = 1) ∧ Q (some (vI x)) h) := tA_retz mB_L_law dL_law_575 rfl
theorem rL_law_576 : tA sc iL_law 576 [l0, vR r, l2, l3] st h Q = tA sc iL_law 577 [l0, vR r, l2, l3] (vR r :: st) h Q := tA_pure mB_L_law dL_law_576 rfl
theorem rL_law_577 : tA sc iL_law 577 [vR r, l1, l2, l3] st h Q = tA sc iL_law 578 [vR r, l1, l2, l3] (vR r :: st) h Q := tA_pure mB_L_law dL_law_577 rfl
theorem rL_law_578 : tA sc iL_law 578 [l0, l1, l2, vI x] st h Q = tA sc iL_law 579 [l0, l1, l2, vI x] (vI x :: st) h Q := tA_pure mB_L_law dL_law_578 rfl
theorem rL_law_579 : tA sc iL_law 579 ls st h Q = tA sc iL_law 580 ls (vI (1) :: st) h Q := tA_pure mB_L_law dL_law_579 rfl
theorem rL_law_580 : tA sc iL_law 580 ls (vI y :: vI x :: st) h Q = tA sc iL_law 581 ls (vI (x + y) :: st) h Q := tA_pure mB_L_law dL_law_580 rfl
theorem rL_law_581 : tA sc iL_law 581 ls (vI j :: vR (some a) :: st) h Q = oz (tald sc h 0 a j) (fun v => tA sc iL_law 582 ls (vI v :: st) h Q) := tA_iald mB_L_law dL_law_581
theorem rL_law_582 : tA sc iL_law 582 [vR r, l1, l2, l3] st h Q = tA sc iL_law 583 [vR r, l1, l2, l3] (vR r :: st) h Q := tA_pure mB_L_law dL_law_582 rfl
theorem rL_law_583 : tA sc iL_law 583 [l0, l1, l2, vI x] st h Q = tA sc iL_law 584 [l0, l1, l2, vI x] (vI x :: st) h Q := tA_pure mB_L_law dL_law_583 rfl
theorem rL_law_584 : tA sc iL_law 584 ls st h Q = tA sc iL_law 585 ls (vI (2) :: st) h Q := tA_pure mB_L_law dL_law_584 rfl
theorem rL_law_585 : tA sc iL_law 585 ls (vI y :: vI x :: st) h Q = tA sc iL_law 586 ls (vI (x + y) :: st) h Q := tA_pure mB_L_law dL_law_585 rfl
theorem rL_law_586 : tA sc iL_law 586 ls (vI j :: vR (some a) :: st) h Q = oz (tald sc h 0 a j) (fun v => tA sc iL_law 587 ls (vI v :: st) h Q) := tA_iald mB_L_law dL_law_586
theorem rL_law_587 (hci : tcl h o = some 10) : tA sc iL_law 587 ls [vI p1, vI p0, vR (some o)] h Q = tA sc iX10_purse 0 [vR (some o), vI p0, vI p1, vU] [] h (fun v h1 => tA sc iL_law 590 ls (tpu v []) h1 Q) := tA_cV mB_L_law mO_L_law dL_law_587 cT_12_59 rfl (Nat.le_of_ble_eq_true rfl) rfl rfl rfl hci
theorem rL_law_590 : tA sc iL_law 590 [l0, l1, vR r, l3] st h Q = tA sc iL_law 591 [l0, l1, vR r, l3] (vR r :: st) h Q := tA_pure mB_L_law dL_law_590 rfl
theorem rL_law_591 : tA sc iL_law 591 [vR r, l1, l2, l3] st h Q = tA sc iL_law 592 [vR r, l1, l2, l3] (vR r :: st) h Q := tA_pure mB_L_law dL_law_591 rfl
theorem rL_law_592 : tA sc iL_law 592 [l0, l1, l2, vI x] st h Q = tA sc iL_law 593 [l0, l1, l2, vI x] (vI x :: st) h Q := tA_pure mB_L_law dL_law_592 rfl
theorem rL_law_593 : tA sc iL_law 593 ls st h Q = tA sc iL_law 594 ls (vI (1) :: st) h Q := tA_pure mB_L_law dL_law_593 rfl
theorem rL_law_594 : tA sc iL_law 594 ls (vI y :: vI x :: st) h Q = tA sc iL_law 595 ls (vI (x + y) :: st) h Q := tA_pure mB_L_law dL_law_594 rfl
theorem rL_law_595 : tA sc iL_law 595 ls (vI j :: vR (some a) :: st) h Q = oz (tald sc h 0 a j) (fun v => tA sc iL_law 596 ls (vI v :: st) h Q) := tA_iald mB_L_law dL_law_595
theorem rL_law_596 : tA sc iL_law 596 [vR r, l1, l2, l3] st h Q = tA sc iL_law 597 [vR r, l1, l2, l3] (vR r :: st) h Q := tA_pure mB_L_law dL_law_596 rfl
theorem rL_law_597 : tA sc iL_law 597 [l0, l1, l2, vI x] st h Q = tA sc iL_law 598 [l0, l1, l2, vI x] (vI x :: st) h Q := tA_pure mB_L_law dL_law_597 rfl
theorem rL_law_598 : tA sc iL_law 598 ls st h Q = tA sc iL_law 599 ls (vI (2) :: st) h Q := tA_pure mB_L_law dL_law_598 rfl
theorem rL_law_599 : tA sc iL_law 599 ls (vI y :: vI x :: st) h Q = tA sc iL_law 600 ls (vI (x + y) :: st) h Q := tA_pure mB_L_law dL_law_599 rfl
theorem rL_law_600 : tA sc iL_law 600 ls (vI j :: vR (some a) :: st) h Q = oz (tald sc h 0 a j) (fun v => tA sc iL_law 601 ls (vI v :: st) h Q) := tA_iald mB_L_law dL_law_600
theorem rL_law_601 (hci : tcl h o = some 11) : tA sc iL_law 601 ls [vI p1, vI p0, vR (some o), s0] h Q = tA sc iX11_purse 0 [vR (some o), vI p0, vI p1, vU] [] h (fun v h1 => tA sc iL_law 604 ls (tpu v [s0]) h1 Q) := tA_cV mB_L_law mO_L_law dL_law_601 cT_12_62 rfl (Nat.le_of_ble_eq_true rfl) rfl rfl rfl hci
theorem rL_law_604 : tA sc iL_law 604 ls (vI y :: vI x :: st) h Q = (if x = y then tA sc iL_law 1546 ls st h Q else tA sc iL_law 607 ls st h Q) := tA_if mB_L_law dL_law_604 (fun _ _ _ _ => rfl) rfl
theorem rL_law_607 : tA sc iL_law 607 ls st h Q = tA sc iL_law 608 ls (vI (0) :: st) h Q := tA_pure mB_L_law dL_law_607 rfl
theorem rL_law_608 : tA sc iL_law 608 ls [vI x] h Q = ((x = 0 ∨ x = 1) ∧ Q (some (vI x)) h) := tA_retz mB_L_law dL_law_608 rfl
theorem rL_law_609 : tA sc iL_law 609 [l0, vR r, l2, l3] st h Q = tA sc iL_law 610 [l0, vR r, l2, l3] (vR r :: st) h Q := tA_pure mB_L_law dL_law_609 rfl
theorem rL_law_610 : tA sc iL_law 610 [vR r, l1, l2, l3] st h Q = tA sc iL_law 611 [vR r, l1, l2, l3] (vR r :: st) h Q := tA_pure mB_L_law dL_law_610 rfl
theorem rL_law_611 : tA sc iL_law 611 [l0, l1, l2, vI x] st h Q = tA sc iL_law 612 [l0, l1, l2, vI x] (vI x :: st) h Q := tA_pure mB_L_law dL_law_611 rfl
theorem rL_law_612 : tA sc iL_law 612 ls st h Q = tA sc iL_law 613 ls (vI (1) :: st) h Q := tA_pure mB_L_law dL_law_612 rfl
theorem rL_law_613 : tA sc iL_law 613 ls (vI y :: vI x :: st) h Q = tA sc iL_law 614 ls (vI (x + y) :: st) h Q := tA_pure mB_L_law dL_law_613 rfl
theorem rL_law_614 : tA sc iL_law 614 ls (vI j :: vR (some a) :: st) h Q = oz (tald sc h 0 a j) (fun v => tA sc iL_law 615 ls (vI v :: st) h Q) := tA_iald mB_L_law dL_law_614
theorem rL_law_615 : tA sc iL_law 615 [vR r, l1, l2, l3] st h Q = tA sc iL_law 616 [vR r, l1, l2, l3] (vR r :: st) h Q := tA_pure mB_L_law dL_law_615 rfl
theorem rL_law_616 : tA sc iL_law 616 [l0, l1, l2, vI x] st h Q = tA sc iL_law 617 [l0, l1, l2, vI x] (vI x :: st) h Q := tA_pure mB_L_law dL_law_616 rfl
theorem rL_law_617 : tA sc iL_law 617 ls st h Q = tA sc iL_law 618 ls (vI (2) :: st) h Q := tA_pure mB_L_law dL_law_617 rfl
theorem rL_law_618 : tA sc iL_law 618 ls (vI y :: vI x :: st) h Q = tA sc iL_law 619 ls (vI (x + y) :: st) h Q := tA_pure mB_L_law dL_law_618 rfl
theorem rL_law_619 : tA sc iL_law 619 ls (vI j :: vR (some a) :: st) h Q = oz (tald sc h 0 a j) (fun v => tA sc iL_law 620 ls (vI v :: st) h Q) := tA_iald mB_L_law dL_law_619
theorem rL_law_620 : tA sc iL_law 620 [vR r, l1, l2, l3] st h Q = tA sc iL_law 621 [vR r, l1, l2, l3] (vR r :: st) h Q := tA_pure mB_L_law dL_law_620 rfl
theorem rL_law_621 : tA sc iL_law 621 [l0, l1, l2, vI x] st h Q = tA sc iL_law 622 [l0, l1, l2, vI x] (vI x :: st) h Q := tA_pure mB_L_law dL_law_621 rfl
theorem rL_law_622 : tA sc iL_law 622 ls st h Q = tA sc iL_law 623 ls (vI (3) :: st) h Q := tA_pure mB_L_law dL_law_622 rfl
theorem rL_law_623 : tA sc iL_law 623 ls (vI y :: vI x :: st) h Q = tA sc iL_law 624 ls (vI (x + y) :: st) h Q := tA_pure mB_L_law dL_law_623 rfl
theorem rL_law_624 : tA sc iL_law 624 ls (vI j :: vR (some a) :: st) h Q = oz (tald sc h 0 a j) (fun v => tA sc iL_law 625 ls (vI v :: st) h Q) := tA_iald mB_L_law dL_law_624
theorem rL_law_625 (hci : tcl h o = some 10) : tA sc iL_law 625 ls [vI p2, vI p1, vI p0, vR (some o)] h Q = tA sc iX10_say 0 [vR (some o), vI p0, vI p1, vI p2] [] h (fun v h1 => tA sc iL_law 628 ls (tpu v []) h1 Q) := tA_cV mB_L_law mO_L_law dL_law_625 cT_12_63 rfl (Nat.le_of_ble_eq_true rfl) rfl rfl rfl hci
theorem rL_law_628 : tA sc iL_law 628 [l0, l1, vR r, l3] st h Q = tA sc iL_law 629 [l0, l1, vR r, l3] (vR r :: st) h Q := tA_pure mB_L_law dL_law_628 rfl
theorem rL_law_629 : tA sc iL_law 629 [vR r, l1, l2, l3] st h Q = tA sc iL_law 630 [vR r, l1, l2, l3] (vR r :: st) h Q := tA_pure mB_L_law dL_law_629 rfl
theorem rL_law_630 : tA sc iL_law 630 [l0, l1, l2, vI x] st h Q = tA sc iL_law 631 [l0, l1, l2, vI x] (vI x :: st) h Q := tA_pure mB_L_law dL_law_630 rfl
theorem rL_law_631 : tA sc iL_law 631 ls st h Q = tA sc iL_law 632 ls (vI (1) :: st) h Q := tA_pure mB_L_law dL_law_631 rfl
theorem rL_law_632 : tA sc iL_law 632 ls (vI y :: vI x :: st) h Q = tA sc iL_law 633 ls (vI (x + y) :: st) h Q := tA_pure mB_L_law dL_law_632 rfl
theorem rL_law_633 : tA sc iL_law 633 ls (vI j :: vR (some a) :: st) h Q = oz (tald sc h 0 a j) (fun v => tA sc iL_law 634 ls (vI v :: st) h Q) := tA_iald mB_L_law dL_law_633
theorem rL_law_634 : tA sc iL_law 634 [vR r, l1, l2, l3] st h Q = tA sc iL_law 635 [vR r, l1, l2, l3] (vR r :: st) h Q := tA_pure mB_L_law dL_law_634 rfl
theorem rL_law_635 : tA sc iL_law 635 [l0, l1, l2, vI x] st h Q = tA sc iL_law 636 [l0, l1, l2, vI x] (vI x :: st) h Q := tA_pure mB_L_law dL_law_635 rfl
theorem rL_law_636 : tA sc iL_law 636 ls st h Q = tA sc iL_law 637 ls (vI (2) :: st) h Q := tA_pure mB_L_law dL_law_636 rfl
theorem rL_law_637 : tA sc iL_law 637 ls (vI y :: vI x :: st) h Q = tA sc iL_law 638 ls (vI (x + y) :: st) h Q := tA_pure mB_L_law dL_law_637 rfl
theorem rL_law_638 : tA sc iL_law 638 ls (vI j :: vR (some a) :: st) h Q = oz (tald sc h 0 a j) (fun v => tA sc iL_law 639 ls (vI v :: st) h Q) := tA_iald mB_L_law dL_law_638
theorem rL_law_639 : tA sc iL_law 639 [vR r, l1, l2, l3] st h Q = tA sc iL_law 640 [vR r, l1, l2, l3] (vR r :: st) h Q := tA_pure mB_L_law dL_law_639 rfl
theorem rL_law_640 : tA sc iL_law 640 [l0, l1, l2, vI x] st h Q = tA sc iL_law 641 [l0, l1, l2, vI x] (vI x :: st) h Q := tA_pure mB_L_law dL_law_640 rfl
theorem rL_law_641 : tA sc iL_law 641 ls st h Q = tA sc iL_law 642 ls (vI (3) :: st) h Q := tA_pure mB_L_law dL_law_641 rfl
theorem rL_law_642 : tA sc iL_law 642 ls (vI y :: vI x :: st) h Q = tA sc iL_law 643 ls (vI (x + y) :: st) h Q := tA_pure mB_L_law dL_law_642 rfl
theorem rL_law_643 : tA sc iL_law 643 ls (vI j :: vR (some a) :: st) h Q = oz (tald sc h 0 a j) (fun v => tA sc iL_law 644 ls (vI v :: st) h Q) := tA_iald mB_L_law dL_law_643
theorem rL_law_644 (hci : tcl h o = some 11) : tA sc iL_law 644 ls [vI p2, vI p1, vI p0, vR (some o), s0] h Q = tA sc iX11_say 0 [vR (some o), vI p0, vI p1, vI p2] [] h (fun v h1 => tA sc iL_law 647 ls (tpu v [s0]) h1 Q) := tA_cV mB_L_law mO_L_law dL_law_644 cT_12_66 rfl (Nat.le_of_ble_eq_true rfl) rfl rfl rfl hci
theorem rL_law_647 : tA sc iL_law 647 ls (vI y :: vI x :: st) h Q = (if x = y then tA sc iL_law 1546 ls st h Q else tA sc iL_law 650 ls st h Q) := tA_if mB_L_law dL_law_647 (fun _ _ _ _ => rfl) rfl
theorem rL_law_650 : tA sc iL_law 650 ls st h Q = tA sc iL_law 651 ls (vI (0) :: st) h Q := tA_pure mB_L_law dL_law_650 rfl
theorem rL_law_651 : tA sc iL_law 651 ls [vI x] h Q = ((x = 0 ∨ x = 1) ∧ Q (some (vI x)) h) := tA_retz mB_L_law dL_law_651 rfl
theorem rL_law_652 : tA sc iL_law 652 [l0, vR r, l2, l3] st h Q = tA sc iL_law 653 [l0, vR r, l2, l3] (vR r :: st) h Q := tA_pure mB_L_law dL_law_652 rfl
theorem rL_law_653 : tA sc iL_law 653 [vR r, l1, l2, l3] st h Q = tA sc iL_law 654 [vR r, l1, l2, l3] (vR r :: st) h Q := tA_pure mB_L_law dL_law_653 rfl
theorem rL_law_654 : tA sc iL_law 654 [l0, l1, l2, vI x] st h Q = tA sc iL_law 655 [l0, l1, l2, vI x] (vI x :: st) h Q := tA_pure mB_L_law dL_law_654 rfl
theorem rL_law_655 : tA sc iL_law 655 ls st h Q = tA sc iL_law 656 ls (vI (1) :: st) h Q := tA_pure mB_L_law dL_law_655 rfl
theorem rL_law_656 : tA sc iL_law 656 ls (vI y :: vI x :: st) h Q = tA sc iL_law 657 ls (vI (x + y) :: st) h Q := tA_pure mB_L_law dL_law_656 rfl
theorem rL_law_657 : tA sc iL_law 657 ls (vI j :: vR (some a) :: st) h Q = oz (tald sc h 0 a j) (fun v => tA sc iL_law 658 ls (vI v :: st) h Q) := tA_iald mB_L_law dL_law_657
theorem rL_law_658 : tA sc iL_law 658 [vR r, l1, l2, l3] st h Q = tA sc iL_law 659 [vR r, l1, l2, l3] (vR r :: st) h Q := tA_pure mB_L_law dL_law_658 rfl
theorem rL_law_659 : tA sc iL_law 659 [l0, l1, l2, vI x] st h Q = tA sc iL_law 660 [l0, l1, l2, vI x] (vI x :: st) h Q := tA_pure mB_L_law dL_law_659 rfl
theorem rL_law_660 : tA sc iL_law 660 ls st h Q = tA sc iL_law 661 ls (vI (2) :: st) h Q := tA_pure mB_L_law dL_law_660 rfl
theorem rL_law_661 : tA sc iL_law 661 ls (vI y :: vI x :: st) h Q = tA sc iL_law 662 ls (vI (x + y) :: st) h Q := tA_pure mB_L_law dL_law_661 rfl
theorem rL_law_662 : tA sc iL_law 662 ls (vI j :: vR (some a) :: st) h Q = oz (tald sc h 0 a j) (fun v => tA sc iL_law 663 ls (vI v :: st) h Q) := tA_iald mB_L_law dL_law_662
theorem rL_law_663 (hci : tcl h o = some 10) : tA sc iL_law 663 ls [vI p1, vI p0, vR (some o)] h Q = tA sc iX10_sayingOf 0 [vR (some o), vI p0, vI p1] [] h (fun v h1 => tA sc iL_law 666 ls (tpu v []) h1 Q) := tA_cV mB_L_law mO_L_law dL_law_663 cT_12_67 rfl (Nat.le_of_ble_eq_true rfl) rfl rfl rfl hci
theorem rL_law_666 : tA sc iL_law 666 [l0, l1, vR r, l3] st h Q = tA sc iL_law 667 [l0, l1, vR r, l3] (vR r :: st) h Q := tA_pure mB_L_law dL_law_666 rfl
theorem rL_law_667 : tA sc iL_law 667 [vR r, l1, l2, l3] st h Q = tA sc iL_law 668 [vR r, l1, l2, l3] (vR r :: st) h Q := tA_pure mB_L_law dL_law_667 rfl
theorem rL_law_668 : tA sc iL_law 668 [l0, l1, l2, vI x] st h Q = tA sc iL_law 669 [l0, l1, l2, vI x] (vI x :: st) h Q := tA_pure mB_L_law dL_law_668 rfl
theorem rL_law_669 : tA sc iL_law 669 ls st h Q = tA sc iL_law 670 ls (vI (1) :: st) h Q := tA_pure mB_L_law dL_law_669 rfl
theorem rL_law_670 : tA sc iL_law 670 ls (vI y :: vI x :: st) h Q = tA sc iL_law 671 ls (vI (x + y) :: st) h Q := tA_pure mB_L_law dL_law_670 rfl
theorem rL_law_671 : tA sc iL_law 671 ls (vI j :: vR (some a) :: st) h Q = oz (tald sc h 0 a j) (fun v => tA sc iL_law 672 ls (vI v :: st) h Q) := tA_iald mB_L_law dL_law_671
theorem rL_law_672 : tA sc iL_law 672 [vR r, l1, l2, l3] st h Q = tA sc iL_law 673 [vR r, l1, l2, l3] (vR r :: st) h Q := tA_pure mB_L_law dL_law_672 rfl
theorem rL_law_673 : tA sc iL_law 673 [l0, l1, l2, vI x] st h Q = tA sc iL_law 674 [l0, l1, l2, vI x] (vI x :: st) h Q := tA_pure mB_L_law dL_law_673 rfl
theorem rL_law_674 : tA sc iL_law 674 ls st h Q = tA sc iL_law 675 ls (vI (2) :: st) h Q := tA_pure mB_L_law dL_law_674 rfl
theorem rL_law_675 : tA sc iL_law 675 ls (vI y :: vI x :: st) h Q = tA sc iL_law 676 ls (vI (x + y) :: st) h Q := tA_pure mB_L_law dL_law_675 rfl
theorem rL_law_676 : tA sc iL_law 676 ls (vI j :: vR (some a) :: st) h Q = oz (tald sc h 0 a j) (fun v => tA sc iL_law 677 ls (vI v :: st) h Q) := tA_iald mB_L_law dL_law_676
theorem rL_law_677 (hci : tcl h o = some 11) : tA sc iL_law 677 ls [vI p1, vI p0, vR (some o), s0] h Q = tA sc iX11_sayingOf 0 [vR (some o), vI p0, vI p1] [] h (fun v h1 => tA sc iL_law 680 ls (tpu v [s0]) h1 Q) := tA_cV mB_L_law mO_L_law dL_law_677 cT_12_70 rfl (Nat.le_of_ble_eq_true rfl) rfl rfl rfl hci
theorem rL_law_680 : tA sc iL_law 680 ls (vI y :: vI x :: st) h Q = (if x = y then tA sc iL_law 1546 ls st h Q else tA sc iL_law 683 ls st h Q) := tA_if mB_L_law dL_law_680 (fun _ _ _ _ => rfl) rfl
theorem rL_law_683 : tA sc iL_law 683 ls st h Q = tA sc iL_law 684 ls (vI (0) :: st) h Q := tA_pure mB_L_law dL_law_683 rfl
theorem rL_law_684 : tA sc iL_law 684 ls [vI x] h Q = ((x = 0 ∨ x = 1) ∧ Q (some (vI x)) h) := tA_retz mB_L_law dL_law_684 rfl
theorem rL_law_685 : tA sc iL_law 685 [l0, vR r, l2, l3] st h Q = tA sc iL_law 686 [l0, vR r, l2, l3] (vR r :: st) h Q := tA_pure mB_L_law dL_law_685 rfl
theorem rL_law_686 : tA sc iL_law 686 [vR r, l1, l2, l3] st h Q = tA sc iL_law 687 [vR r, l1, l2, l3] (vR r :: st) h Q := tA_pure mB_L_law dL_law_686 rfl
theorem rL_law_687 : tA sc iL_law 687 [l0, l1, l2, vI x] st h Q = tA sc iL_law 688 [l0, l1, l2, vI x] (vI x :: st) h Q := tA_pure mB_L_law dL_law_687 rfl
theorem rL_law_688 : tA sc iL_law 688 ls st h Q = tA sc iL_law 689 ls (vI (1) :: st) h Q := tA_pure mB_L_law dL_law_688 rfl
theorem rL_law_689 : tA sc iL_law 689 ls (vI y :: vI x :: st) h Q = tA sc iL_law 690 ls (vI (x + y) :: st) h Q := tA_pure mB_L_law dL_law_689 rfl
theorem rL_law_690 : tA sc iL_law 690 ls (vI j :: vR (some a) :: st) h Q = oz (tald sc h 0 a j) (fun v => tA sc iL_law 691 ls (vI v :: st) h Q) := tA_iald mB_L_law dL_law_690
theorem rL_law_691 : tA sc iL_law 691 [vR r, l1, l2, l3] st h Q = tA sc iL_law 692 [vR r, l1, l2, l3] (vR r :: st) h Q := tA_pure mB_L_law dL_law_691 rfl
theorem rL_law_692 : tA sc iL_law 692 [l0, l1, l2, vI x] st h Q = tA sc iL_law 693 [l0, l1, l2, vI x] (vI x :: st) h Q := tA_pure mB_L_law dL_law_692 rfl
theorem rL_law_693 : tA sc iL_law 693 ls st h Q = tA sc iL_law 694 ls (vI (2) :: st) h Q := tA_pure mB_L_law dL_law_693 rfl
theorem rL_law_694 : tA sc iL_law 694 ls (vI y :: vI x :: st) h Q = tA sc iL_law 695 ls (vI (x + y) :: st) h Q := tA_pure mB_L_law dL_law_694 rfl
theorem rL_law_695 : tA sc iL_law 695 ls (vI j :: vR (some a) :: st) h Q = oz (tald sc h 0 a j) (fun v => tA sc iL_law 696 ls (vI v :: st) h Q) := tA_iald mB_L_law dL_law_695
theorem rL_law_696 (hci : tcl h o = some 10) : tA sc iL_law 696 ls [vI p1, vI p0, vR (some o)] h Q = tA sc iX10_would 0 [vR (some o), vI p0, vI p1, vU, vU] [] h (fun v h1 => tA sc iL_law 699 ls (tpu v []) h1 Q) := tA_cV mB_L_law mO_L_law dL_law_696 cT_12_71 rfl (Nat.le_of_ble_eq_true rfl) rfl rfl rfl hci
theorem rL_law_699 : tA sc iL_law 699 [l0, l1, vR r, l3] st h Q = tA sc iL_law 700 [l0, l1, vR r, l3] (vR r :: st) h Q := tA_pure mB_L_law dL_law_699 rfl
theorem rL_law_700 : tA sc iL_law 700 [vR r, l1, l2, l3] st h Q = tA sc iL_law 701 [vR r, l1, l2, l3] (vR r :: st) h Q := tA_pure mB_L_law dL_law_700 rfl
theorem rL_law_701 : tA sc iL_law 701 [l0, l1, l2, vI x] st h Q = tA sc iL_law 702 [l0, l1, l2, vI x] (vI x :: st) h Q := tA_pure mB_L_law dL_law_701 rfl
theorem rL_law_702 : tA sc iL_law 702 ls st h Q = tA sc iL_law 703 ls (vI (1) :: st) h Q := tA_pure mB_L_law dL_law_702 rfl
theorem rL_law_703 : tA sc iL_law 703 ls (vI y :: vI x :: st) h Q = tA sc iL_law 704 ls (vI (x + y) :: st) h Q := tA_pure mB_L_law dL_law_703 rfl
theorem rL_law_704 : tA sc iL_law 704 ls (vI j :: vR (some a) :: st) h Q = oz (tald sc h 0 a j) (fun v => tA sc iL_law 705 ls (vI v :: st) h Q) := tA_iald mB_L_law dL_law_704
theorem rL_law_705 : tA sc iL_law 705 [vR r, l1, l2, l3] st h Q = tA sc iL_law 706 [vR r, l1, l2, l3] (vR r :: st) h Q := tA_pure mB_L_law dL_law_705 rfl
theorem rL_law_706 : tA sc iL_law 706 [l0, l1, l2, vI x] st h Q = tA sc iL_law 707 [l0, l1, l2, vI x] (vI x :: st) h Q := tA_pure mB_L_law dL_law_706 rfl
theorem rL_law_707 : tA sc iL_law 707 ls st h Q = tA sc iL_law 708 ls (vI (2) :: st) h Q := tA_pure mB_L_law dL_law_707 rfl
theorem rL_law_708 : tA sc iL_law 708 ls (vI y :: vI x :: st) h Q = tA sc iL_law 709 ls (vI (x + y) :: st) h Q := tA_pure mB_L_law dL_law_708 rfl
theorem rL_law_709 : tA sc iL_law 709 ls (vI j :: vR (some a) :: st) h Q = oz (tald sc h 0 a j) (fun v => tA sc iL_law 710 ls (vI v :: st) h Q) := tA_iald mB_L_law dL_law_709
theorem rL_law_710 (hci : tcl h o = some 11) : tA sc iL_law 710 ls [vI p1, vI p0, vR (some o), s0] h Q = tA sc iX11_would 0 [vR (some o), vI p0, vI p1] [] h (fun v h1 => tA sc iL_law 713 ls (tpu v [s0]) h1 Q) := tA_cV mB_L_law mO_L_law dL_law_710 cT_12_74 rfl (Nat.le_of_ble_eq_true rfl) rfl rfl rfl hci
theorem rL_law_713 : tA sc iL_law 713 ls (vI y :: vI x :: st) h Q = (if x = y then tA sc iL_law 1546 ls st h Q else tA sc iL_law 716 ls st h Q) := tA_if mB_L_law dL_law_713 (fun _ _ _ _ => rfl) rfl
theorem rL_law_716 : tA sc iL_law 716 ls st h Q = tA sc iL_law 717 ls (vI (0) :: st) h Q := tA_pure mB_L_law dL_law_716 rfl
theorem rL_law_717 : tA sc iL_law 717 ls [vI x] h Q = ((x = 0 ∨ x = 1) ∧ Q (some (vI x)) h) := tA_retz mB_L_law dL_law_717 rfl
theorem rL_law_718 : tA sc iL_law 718 [l0, vR r, l2, l3] st h Q = tA sc iL_law 719 [l0, vR r, l2, l3] (vR r :: st) h Q := tA_pure mB_L_law dL_law_718 rfl
theorem rL_law_719 : tA sc iL_law 719 [vR r, l1, l2, l3] st h Q = tA sc iL_law 720 [vR r, l1, l2, l3] (vR r :: st) h Q := tA_pure mB_L_law dL_law_719 rfl
theorem rL_law_720 : tA sc iL_law 720 [l0, l1, l2, vI x] st h Q = tA sc iL_law 721 [l0, l1, l2, vI x] (vI x :: st) h Q := tA_pure mB_L_law dL_law_720 rfl
theorem rL_law_721 : tA sc iL_law 721 ls st h Q = tA sc iL_law 722 ls (vI (1) :: st) h Q := tA_pure mB_L_law dL_law_721 rfl
theorem rL_law_722 : tA sc iL_law 722 ls (vI y :: vI x :: st) h Q = tA sc iL_law 723 ls (vI (x + y) :: st) h Q := tA_pure mB_L_law dL_law_722 rfl
theorem rL_law_723 : tA sc iL_law 723 ls (vI j :: vR (some a) :: st) h Q = oz (tald sc h 0 a j) (fun v => tA sc iL_law 724 ls (vI v :: st) h Q) := tA_iald mB_L_law dL_law_723
theorem rL_law_724 (hci : tcl h o = some 10) : tA sc iL_law 724 ls [vI p0, vR (some o)] h Q = tA sc iX10_morning 0 [vR (some o), vI p0, vU] [] h (fun v h1 => tA sc iL_law 727 ls (tpu v []) h1 Q) := tA_cV mB_L_law mO_L_law dL_law_724 cT_12_75 rfl (Nat.le_of_ble_eq_true rfl) rfl rfl rfl hci
theorem rL_law_727 : tA sc iL_law 727 [l0, l1, vR r, l3] st h Q = tA sc iL_law 728 [l0, l1, vR r, l3] (vR r :: st) h Q := tA_pure mB_L_law dL_law_727 rfl
theorem rL_law_728 : tA sc iL_law 728 [vR r, l1, l2, l3] st h Q = tA sc iL_law 729 [vR r, l1, l2, l3] (vR r :: st) h Q := tA_pure mB_L_law dL_law_728 rfl
theorem rL_law_729 : tA sc iL_law 729 [l0, l1, l2, vI x] st h Q = tA sc iL_law 730 [l0, l1, l2, vI x] (vI x :: st) h Q := tA_pure mB_L_law dL_law_729 rfl
theorem rL_law_730 : tA sc iL_law 730 ls st h Q = tA sc iL_law 731 ls (vI (1) :: st) h Q := tA_pure mB_L_law dL_law_730 rfl
theorem rL_law_731 : tA sc iL_law 731 ls (vI y :: vI x :: st) h Q = tA sc iL_law 732 ls (vI (x + y) :: st) h Q := tA_pure mB_L_law dL_law_731 rfl
theorem rL_law_732 : tA sc iL_law 732 ls (vI j :: vR (some a) :: st) h Q = oz (tald sc h 0 a j) (fun v => tA sc iL_law 733 ls (vI v :: st) h Q) := tA_iald mB_L_law dL_law_732
theorem rL_law_733 (hci : tcl h o = some 11) : tA sc iL_law 733 ls [vI p0, vR (some o), s0] h Q = tA sc iX11_morning 0 [vR (some o), vI p0, vU] [] h (fun v h1 => tA sc iL_law 736 ls (tpu v [s0]) h1 Q) := tA_cV mB_L_law mO_L_law dL_law_733 cT_12_79 rfl (Nat.le_of_ble_eq_true rfl) rfl rfl rfl hci
theorem rL_law_736 : tA sc iL_law 736 ls (vI y :: vI x :: st) h Q = (if x = y then tA sc iL_law 1546 ls st h Q else tA sc iL_law 739 ls st h Q) := tA_if mB_L_law dL_law_736 (fun _ _ _ _ => rfl) rfl
theorem rL_law_739 : tA sc iL_law 739 ls st h Q = tA sc iL_law 740 ls (vI (0) :: st) h Q := tA_pure mB_L_law dL_law_739 rfl
theorem rL_law_740 : tA sc iL_law 740 ls [vI x] h Q = ((x = 0 ∨ x = 1) ∧ Q (some (vI x)) h) := tA_retz mB_L_law dL_law_740 rfl
theorem rL_law_741 : tA sc iL_law 741 [l0, vR r, l2, l3] st h Q = tA sc iL_law 742 [l0, vR r, l2, l3] (vR r :: st) h Q := tA_pure mB_L_law dL_law_741 rfl
theorem rL_law_742 (hci : tcl h o = some 10) : tA sc iL_law 742 ls [vR (some o)] h Q = tA sc iX10_now 0 [vR (some o)] [] h (fun v h1 => tA sc iL_law 745 ls (tpu v []) h1 Q) := tA_cV mB_L_law mO_L_law dL_law_742 cT_12_80 rfl (Nat.le_of_ble_eq_true rfl) rfl rfl rfl hci
theorem rL_law_745 : tA sc iL_law 745 [l0, l1, vR r, l3] st h Q = tA sc iL_law 746 [l0, l1, vR r, l3] (vR r :: st) h Q := tA_pure mB_L_law dL_law_745 rfl
theorem rL_law_746 (hci : tcl h o = some 11) : tA sc iL_law 746 ls [vR (some o), s0] h Q = tA sc iX11_now 0 [vR (some o)] [] h (fun v h1 => tA sc iL_law 749 ls (tpu v [s0]) h1 Q) := tA_cV mB_L_law mO_L_law dL_law_746 cT_12_83 rfl (Nat.le_of_ble_eq_true rfl) rfl rfl rfl hci
theorem rL_law_749 : tA sc iL_law 749 ls (vI y :: vI x :: st) h Q = (if x = y then tA sc iL_law 1546 ls st h Q else tA sc iL_law 752 ls st h Q) := tA_if mB_L_law dL_law_749 (fun _ _ _ _ => rfl) rfl
theorem rL_law_752 : tA sc iL_law 752 ls st h Q = tA sc iL_law 753 ls (vI (0) :: st) h Q := tA_pure mB_L_law dL_law_752 rfl
theorem rL_law_753 : tA sc iL_law 753 ls [vI x] h Q = ((x = 0 ∨ x = 1) ∧ Q (some (vI x)) h) := tA_retz mB_L_law dL_law_753 rfl
theorem rL_law_754 : tA sc iL_law 754 [l0, vR r, l2, l3] st h Q = tA sc iL_law 755 [l0, vR r, l2, l3] (vR r :: st) h Q := tA_pure mB_L_law dL_law_754 rfl
theorem rL_law_755 : tA sc iL_law 755 [vR r, l1, l2, l3] st h Q = tA sc iL_law 756 [vR r, l1, l2, l3] (vR r :: st) h Q := tA_pure mB_L_law dL_law_755 rfl
theorem rL_law_756 : tA sc iL_law 756 [l0, l1, l2, vI x] st h Q = tA sc iL_law 757 [l0, l1, l2, vI x] (vI x :: st) h Q := tA_pure mB_L_law dL_law_756 rfl
theorem rL_law_757 : tA sc iL_law 757 ls st h Q = tA sc iL_law 758 ls (vI (1) :: st) h Q := tA_pure mB_L_law dL_law_757 rfl
theorem rL_law_758 : tA sc iL_law 758 ls (vI y :: vI x :: st) h Q = tA sc iL_law 759 ls (vI (x + y) :: st) h Q := tA_pure mB_L_law dL_law_758 rfl
theorem rL_law_759 : tA sc iL_law 759 ls (vI j :: vR (some a) :: st) h Q = oz (tald sc h 0 a j) (fun v => tA sc iL_law 760 ls (vI v :: st) h Q) := tA_iald mB_L_law dL_law_759
theorem rL_law_760 (hci : tcl h o = some 10) : tA sc iL_law 760 ls [vI p0, vR (some o)] h Q = tA sc iX10_owner 0 [vR (some o), vI p0, vU] [] h (fun v h1 => tA sc iL_law 763 ls (tpu v []) h1 Q) := tA_cV mB_L_law mO_L_law dL_law_760 cT_12_84 rfl (Nat.le_of_ble_eq_true rfl) rfl rfl rfl hci
theorem rL_law_763 : tA sc iL_law 763 [l0, l1, vR r, l3] st h Q = tA sc iL_law 764 [l0, l1, vR r, l3] (vR r :: st) h Q := tA_pure mB_L_law dL_law_763 rfl
theorem rL_law_764 : tA sc iL_law 764 [vR r, l1, l2, l3] st h Q = tA sc iL_law 765 [vR r, l1, l2, l3] (vR r :: st) h Q := tA_pure mB_L_law dL_law_764 rfl
theorem rL_law_765 : tA sc iL_law 765 [l0, l1, l2, vI x] st h Q = tA sc iL_law 766 [l0, l1, l2, vI x] (vI x :: st) h Q := tA_pure mB_L_law dL_law_765 rfl
theorem rL_law_766 : tA sc iL_law 766 ls st h Q = tA sc iL_law 767 ls (vI (1) :: st) h Q := tA_pure mB_L_law dL_law_766 rfl
theorem rL_law_767 : tA sc iL_law 767 ls (vI y :: vI x :: st) h Q = tA sc iL_law 768 ls (vI (x + y) :: st) h Q := tA_pure mB_L_law dL_law_767 rfl
theorem rL_law_768 : tA sc iL_law 768 ls (vI j :: vR (some a) :: st) h Q = oz (tald sc h 0 a j) (fun v => tA sc iL_law 769 ls (vI v :: st) h Q) := tA_iald mB_L_law dL_law_768
theorem rL_law_769 (hci : tcl h o = some 11) : tA sc iL_law 769 ls [vI p0, vR (some o), s0] h Q = tA sc iX11_owner 0 [vR (some o), vI p0, vU, vU] [] h (fun v h1 => tA sc iL_law 772 ls (tpu v [s0]) h1 Q) := tA_cV mB_L_law mO_L_law dL_law_769 cT_12_87 rfl (Nat.le_of_ble_eq_true rfl) rfl rfl rfl hci
theorem rL_law_772 : tA sc iL_law 772 ls (vI y :: vI x :: st) h Q = (if x = y then tA sc iL_law 1546 ls st h Q else tA sc iL_law 775 ls st h Q) := tA_if mB_L_law dL_law_772 (fun _ _ _ _ => rfl) rfl
theorem rL_law_775 : tA sc iL_law 775 ls st h Q = tA sc iL_law 776 ls (vI (0) :: st) h Q := tA_pure mB_L_law dL_law_775 rfl
theorem rL_law_776 : tA sc iL_law 776 ls [vI x] h Q = ((x = 0 ∨ x = 1) ∧ Q (some (vI x)) h) := tA_retz mB_L_law dL_law_776 rfl
theorem rL_law_777 : tA sc iL_law 777 [l0, vR r, l2, l3] st h Q = tA sc iL_law 778 [l0, vR r, l2, l3] (vR r :: st) h Q := tA_pure mB_L_law dL_law_777 rfl
theorem rL_law_778 : tA sc iL_law 778 [vR r, l1, l2, l3] st h Q = tA sc iL_law 779 [vR r, l1, l2, l3] (vR r :: st) h Q := tA_pure mB_L_law dL_law_778 rfl
theorem rL_law_779 : tA sc iL_law 779 [l0, l1, l2, vI x] st h Q = tA sc iL_law 780 [l0, l1, l2, vI x] (vI x :: st) h Q := tA_pure mB_L_law dL_law_779 rfl
theorem rL_law_780 : tA sc iL_law 780 ls st h Q = tA sc iL_law 781 ls (vI (1) :: st) h Q := tA_pure mB_L_law dL_law_780 rfl
theorem rL_law_781 : tA sc iL_law 781 ls (vI y :: vI x :: st) h Q = tA sc iL_law 782 ls (vI (x + y) :: st) h Q := tA_pure mB_L_law dL_law_781 rfl
theorem rL_law_782 : tA sc iL_law 782 ls (vI j :: vR (some a) :: st) h Q = oz (tald sc h 0 a j) (fun v => tA sc iL_law 783 ls (vI v :: st) h Q) := tA_iald mB_L_law dL_law_782
theorem rL_law_783 : tA sc iL_law 783 [vR r, l1, l2, l3] st h Q = tA sc iL_law 784 [vR r, l1, l2, l3] (vR r :: st) h Q := tA_pure mB_L_law dL_law_783 rfl
theorem rL_law_784 : tA sc iL_law 784 [l0, l1, l2, vI x] st h Q = tA sc iL_law 785 [l0, l1, l2, vI x] (vI x :: st) h Q := tA_pure mB_L_law dL_law_784 rfl
theorem rL_law_785 : tA sc iL_law 785 ls st h Q = tA sc iL_law 786 ls (vI (2) :: st) h Q := tA_pure mB_L_law dL_law_785 rfl
theorem rL_law_786 : tA sc iL_law 786 ls (vI y :: vI x :: st) h Q = tA sc iL_law 787 ls (vI (x + y) :: st) h Q := tA_pure mB_L_law dL_law_786 rfl
theorem rL_law_787 : tA sc iL_law 787 ls (vI j :: vR (some a) :: st) h Q = oz (tald sc h 0 a j) (fun v => tA sc iL_law 788 ls (vI v :: st) h Q) := tA_iald mB_L_law dL_law_787
theorem rL_law_788 : tA sc iL_law 788 [vR r, l1, l2, l3] st h Q = tA sc iL_law 789 [vR r, l1, l2, l3] (vR r :: st) h Q := tA_pure mB_L_law dL_law_788 rfl
theorem rL_law_789 : tA sc iL_law 789 [l0, l1, l2, vI x] st h Q = tA sc iL_law 790 [l0, l1, l2, vI x] (vI x :: st) h Q := tA_pure mB_L_law dL_law_789 rfl
theorem rL_law_790 : tA sc iL_law 790 ls st h Q = tA sc iL_law 791 ls (vI (3) :: st) h Q := tA_pure mB_L_law dL_law_790 rfl
theorem rL_law_791 : tA sc iL_law 791 ls (vI y :: vI x :: st) h Q = tA sc iL_law 792 ls (vI (x + y) :: st) h Q := tA_pure mB_L_law dL_law_791 rfl
theorem rL_law_792 : tA sc iL_law 792 ls (vI j :: vR (some a) :: st) h Q = oz (tald sc h 0 a j) (fun v => tA sc iL_law 793 ls (vI v :: st) h Q) := tA_iald mB_L_law dL_law_792
theorem rL_law_793 (hci : tcl h o = some 10) : tA sc iL_law 793 ls [vI p2, vI p1, vI p0, vR (some o)] h Q = tA sc iX10_odds 0 [vR (some o), vI p0, vI p1, vI p2] [] h (fun v h1 => tA sc iL_law 796 ls (tpu v []) h1 Q) := tA_cV mB_L_law mO_L_law dL_law_793 cT_12_88 rfl (Nat.le_of_ble_eq_true rfl) rfl rfl rfl hci
theorem rL_law_796 : tA sc iL_law 796 [l0, l1, vR r, l3] st h Q = tA sc iL_law 797 [l0, l1, vR r, l3] (vR r :: st) h Q := tA_pure mB_L_law dL_law_796 rfl
theorem rL_law_797 : tA sc iL_law 797 [vR r, l1, l2, l3] st h Q = tA sc iL_law 798 [vR r, l1, l2, l3] (vR r :: st) h Q := tA_pure mB_L_law dL_law_797 rfl
theorem rL_law_798 : tA sc iL_law 798 [l0, l1, l2, vI x] st h Q = tA sc iL_law 799 [l0, l1, l2, vI x] (vI x :: st) h Q := tA_pure mB_L_law dL_law_798 rfl
theorem rL_law_799 : tA sc iL_law 799 ls st h Q = tA sc iL_law 800 ls (vI (1) :: st) h Q := tA_pure mB_L_law dL_law_799 rfl
theorem rL_law_800 : tA sc iL_law 800 ls (vI y :: vI x :: st) h Q = tA sc iL_law 801 ls (vI (x + y) :: st) h Q := tA_pure mB_L_law dL_law_800 rfl
theorem rL_law_801 : tA sc iL_law 801 ls (vI j :: vR (some a) :: st) h Q = oz (tald sc h 0 a j) (fun v => tA sc iL_law 802 ls (vI v :: st) h Q) := tA_iald mB_L_law dL_law_801
theorem rL_law_802 : tA sc iL_law 802 [vR r, l1, l2, l3] st h Q = tA sc iL_law 803 [vR r, l1, l2, l3] (vR r :: st) h Q := tA_pure mB_L_law dL_law_802 rfl
theorem rL_law_803 : tA sc iL_law 803 [l0, l1, l2, vI x] st h Q = tA sc iL_law 804 [l0, l1, l2, vI x] (vI x :: st) h Q := tA_pure mB_L_law dL_law_803 rfl
theorem rL_law_804 : tA sc iL_law 804 ls st h Q = tA sc iL_law 805 ls (vI (2) :: st) h Q := tA_pure mB_L_law dL_law_804 rfl
theorem rL_law_805 : tA sc iL_law 805 ls (vI y :: vI x :: st) h Q = tA sc iL_law 806 ls (vI (x + y) :: st) h Q := tA_pure mB_L_law dL_law_805 rfl
theorem rL_law_806 : tA sc iL_law 806 ls (vI j :: vR (some a) :: st) h Q = oz (tald sc h 0 a j) (fun v => tA sc iL_law 807 ls (vI v :: st) h Q) := tA_iald mB_L_law dL_law_806
theorem rL_law_807 : tA sc iL_law 807 [vR r, l1, l2, l3] st h Q = tA sc iL_law 808 [vR r, l1, l2, l3] (vR r :: st) h Q := tA_pure mB_L_law dL_law_807 rfl
theorem rL_law_808 : tA sc iL_law 808 [l0, l1, l2, vI x] st h Q = tA sc iL_law 809 [l0, l1, l2, vI x] (vI x :: st) h Q := tA_pure mB_L_law dL_law_808 rfl
theorem rL_law_809 : tA sc iL_law 809 ls st h Q = tA sc iL_law 810 ls (vI (3) :: st) h Q := tA_pure mB_L_law dL_law_809 rfl
theorem rL_law_810 : tA sc iL_law 810 ls (vI y :: vI x :: st) h Q = tA sc iL_law 811 ls (vI (x + y) :: st) h Q := tA_pure mB_L_law dL_law_810 rfl
theorem rL_law_811 : tA sc iL_law 811 ls (vI j :: vR (some a) :: st) h Q = oz (tald sc h 0 a j) (fun v => tA sc iL_law 812 ls (vI v :: st) h Q) := tA_iald mB_L_law dL_law_811
theorem rL_law_812 (hci : tcl h o = some 11) : tA sc iL_law 812 ls [vI p2, vI p1, vI p0, vR (some o), s0] h Q = tA sc iX11_odds 0 [vR (some o), vI p0, vI p1, vI p2] [] h (fun v h1 => tA sc iL_law 815 ls (tpu v [s0]) h1 Q) := tA_cV mB_L_law mO_L_law dL_law_812 cT_12_91 rfl (Nat.le_of_ble_eq_true rfl) rfl rfl rfl hci
theorem rL_law_815 : tA sc iL_law 815 ls (vI y :: vI x :: st) h Q = (if x = y then tA sc iL_law 1546 ls st h Q else tA sc iL_law 818 ls st h Q) := tA_if mB_L_law dL_law_815 (fun _ _ _ _ => rfl) rfl
theorem rL_law_818 : tA sc iL_law 818 ls st h Q = tA sc iL_law 819 ls (vI (0) :: st) h Q := tA_pure mB_L_law dL_law_818 rfl
theorem rL_law_819 : tA sc iL_law 819 ls [vI x] h Q = ((x = 0 ∨ x = 1) ∧ Q (some (vI x)) h) := tA_retz mB_L_law dL_law_819 rfl
theorem rL_law_820 : tA sc iL_law 820 [l0, vR r, l2, l3] st h Q = tA sc iL_law 821 [l0, vR r, l2, l3] (vR r :: st) h Q := tA_pure mB_L_law dL_law_820 rfl
theorem rL_law_821 : tA sc iL_law 821 [vR r, l1, l2, l3] st h Q = tA sc iL_law 822 [vR r, l1, l2, l3] (vR r :: st) h Q := tA_pure mB_L_law dL_law_821 rfl
theorem rL_law_822 : tA sc iL_law 822 [l0, l1, l2, vI x] st h Q = tA sc iL_law 823 [l0, l1, l2, vI x] (vI x :: st) h Q := tA_pure mB_L_law dL_law_822 rfl
theorem rL_law_823 : tA sc iL_law 823 ls st h Q = tA sc iL_law 824 ls (vI (1) :: st) h Q := tA_pure mB_L_law dL_law_823 rfl
theorem rL_law_824 : tA sc iL_law 824 ls (vI y :: vI x :: st) h Q = tA sc iL_law 825 ls (vI (x + y) :: st) h Q := tA_pure mB_L_law dL_law_824 rfl
theorem rL_law_825 : tA sc iL_law 825 ls (vI j :: vR (some a) :: st) h Q = oz (tald sc h 0 a j) (fun v => tA sc iL_law 826 ls (vI v :: st) h Q) := tA_iald mB_L_law dL_law_825
theorem rL_law_826 : tA sc iL_law 826 [vR r, l1, l2, l3] st h Q = tA sc iL_law 827 [vR r, l1, l2, l3] (vR r :: st) h Q := tA_pure mB_L_law dL_law_826 rfl
theorem rL_law_827 : tA sc iL_law 827 [l0, l1, l2, vI x] st h Q = tA sc iL_law 828 [l0, l1, l2, vI x] (vI x :: st) h Q := tA_pure mB_L_law dL_law_827 rfl
theorem rL_law_828 : tA sc iL_law 828 ls st h Q = tA sc iL_law 829 ls (vI (2) :: st) h Q := tA_pure mB_L_law dL_law_828 rfl
theorem rL_law_829 : tA sc iL_law 829 ls (vI y :: vI x :: st) h Q = tA sc iL_law 830 ls (vI (x + y) :: st) h Q := tA_pure mB_L_law dL_law_829 rfl
theorem rL_law_830 : tA sc iL_law 830 ls (vI j :: vR (some a) :: st) h Q = oz (tald sc h 0 a j) (fun v => tA sc iL_law 831 ls (vI v :: st) h Q) := tA_iald mB_L_law dL_law_830
theorem rL_law_831 : tA sc iL_law 831 [vR r, l1, l2, l3] st h Q = tA sc iL_law 832 [vR r, l1, l2, l3] (vR r :: st) h Q := tA_pure mB_L_law dL_law_831 rfl
theorem rL_law_832 : tA sc iL_law 832 [l0, l1, l2, vI x] st h Q = tA sc iL_law 833 [l0, l1, l2, vI x] (vI x :: st) h Q := tA_pure mB_L_law dL_law_832 rfl
theorem rL_law_833 : tA sc iL_law 833 ls st h Q = tA sc iL_law 834 ls (vI (3) :: st) h Q := tA_pure mB_L_law dL_law_833 rfl
theorem rL_law_834 : tA sc iL_law 834 ls (vI y :: vI x :: st) h Q = tA sc iL_law 835 ls (vI (x + y) :: st) h Q := tA_pure mB_L_law dL_law_834 rfl
theorem rL_law_835 : tA sc iL_law 835 ls (vI j :: vR (some a) :: st) h Q = oz (tald sc h 0 a j) (fun v => tA sc iL_law 836 ls (vI v :: st) h Q) := tA_iald mB_L_law dL_law_835
theorem rL_law_836 (hci : tcl h o = some 10) : tA sc iL_law 836 ls [vI p2, vI p1, vI p0, vR (some o)] h Q = tA sc iX10_gain 0 [vR (some o), vI p0, vI p1, vI p2] [] h (fun v h1 => tA sc iL_law 839 ls (tpu v []) h1 Q) := tA_cV mB_L_law mO_L_law dL_law_836 cT_12_92 rfl (Nat.le_of_ble_eq_true rfl) rfl rfl rfl hci
theorem rL_law_839 : tA sc iL_law 839 [l0, l1, vR r, l3] st h Q = tA sc iL_law 840 [l0, l1, vR r, l3] (vR r :: st) h Q := tA_pure mB_L_law dL_law_839 rfl
theorem rL_law_840 : tA sc iL_law 840 [vR r, l1, l2, l3] st h Q = tA sc iL_law 841 [vR r, l1, l2, l3] (vR r :: st) h Q := tA_pure mB_L_law dL_law_840 rfl
theorem rL_law_841 : tA sc iL_law 841 [l0, l1, l2, vI x] st h Q = tA sc iL_law 842 [l0, l1, l2, vI x] (vI x :: st) h Q := tA_pure mB_L_law dL_law_841 rfl
theorem rL_law_842 : tA sc iL_law 842 ls st h Q = tA sc iL_law 843 ls (vI (1) :: st) h Q := tA_pure mB_L_law dL_law_842 rfl
theorem rL_law_843 : tA sc iL_law 843 ls (vI y :: vI x :: st) h Q = tA sc iL_law 844 ls (vI (x + y) :: st) h Q := tA_pure mB_L_law dL_law_843 rfl
theorem rL_law_844 : tA sc iL_law 844 ls (vI j :: vR (some a) :: st) h Q = oz (tald sc h 0 a j) (fun v => tA sc iL_law 845 ls (vI v :: st) h Q) := tA_iald mB_L_law dL_law_844
theorem rL_law_845 : tA sc iL_law 845 [vR r, l1, l2, l3] st h Q = tA sc iL_law 846 [vR r, l1, l2, l3] (vR r :: st) h Q := tA_pure mB_L_law dL_law_845 rfl
theorem rL_law_846 : tA sc iL_law 846 [l0, l1, l2, vI x] st h Q = tA sc iL_law 847 [l0, l1, l2, vI x] (vI x :: st) h Q := tA_pure mB_L_law dL_law_846 rfl
theorem rL_law_847 : tA sc iL_law 847 ls st h Q = tA sc iL_law 848 ls (vI (2) :: st) h Q := tA_pure mB_L_law dL_law_847 rfl
theorem rL_law_848 : tA sc iL_law 848 ls (vI y :: vI x :: st) h Q = tA sc iL_law 849 ls (vI (x + y) :: st) h Q := tA_pure mB_L_law dL_law_848 rfl
theorem rL_law_849 : tA sc iL_law 849 ls (vI j :: vR (some a) :: st) h Q = oz (tald sc h 0 a j) (fun v => tA sc iL_law 850 ls (vI v :: st) h Q) := tA_iald mB_L_law dL_law_849
theorem rL_law_850 : tA sc iL_law 850 [vR r, l1, l2, l3] st h Q = tA sc iL_law 851 [vR r, l1, l2, l3] (vR r :: st) h Q := tA_pure mB_L_law dL_law_850 rfl
theorem rL_law_851 : tA sc iL_law 851 [l0, l1, l2, vI x] st h Q = tA sc iL_law 852 [l0, l1, l2, vI x] (vI x :: st) h Q := tA_pure mB_L_law dL_law_851 rfl
theorem rL_law_852 : tA sc iL_law 852 ls st h Q = tA sc iL_law 853 ls (vI (3) :: st) h Q := tA_pure mB_L_law dL_law_852 rfl
theorem rL_law_853 : tA sc iL_law 853 ls (vI y :: vI x :: st) h Q = tA sc iL_law 854 ls (vI (x + y) :: st) h Q := tA_pure mB_L_law dL_law_853 rfl
theorem rL_law_854 : tA sc iL_law 854 ls (vI j :: vR (some a) :: st) h Q = oz (tald sc h 0 a j) (fun v => tA sc iL_law 855 ls (vI v :: st) h Q) := tA_iald mB_L_law dL_law_854
theorem rL_law_855 (hci : tcl h o = some 11) : tA sc iL_law 855 ls [vI p2, vI p1, vI p0, vR (some o), s0] h Q = tA sc iX11_gain 0 [vR (some o), vI p0, vI p1, vI p2] [] h (fun v h1 => tA sc iL_law 858 ls (tpu v [s0]) h1 Q) := tA_cV mB_L_law mO_L_law dL_law_855 cT_12_96 rfl (Nat.le_of_ble_eq_true rfl) rfl rfl rfl hci
theorem rL_law_858 : tA sc iL_law 858 ls (vL w :: vL u :: st) h Q = tA sc iL_law 859 ls (vI (lg_cmp u w) :: st) h Q := tA_pure mB_L_law dL_law_858 rfl
theorem rL_law_859 : tA sc iL_law 859 ls (vI x :: st) h Q = (if x = 0 then tA sc iL_law 1546 ls st h Q else tA sc iL_law 862 ls st h Q) := tA_if mB_L_law dL_law_859 (fun _ _ _ _ => rfl) rfl
theorem rL_law_862 : tA sc iL_law 862 ls st h Q = tA sc iL_law 863 ls (vI (0) :: st) h Q := tA_pure mB_L_law dL_law_862 rfl
theorem rL_law_863 : tA sc iL_law 863 ls [vI x] h Q = ((x = 0 ∨ x = 1) ∧ Q (some (vI x)) h) := tA_retz mB_L_law dL_law_863 rfl
theorem rL_law_864 : tA sc iL_law 864 [l0, vR r, l2, l3] st h Q = tA sc iL_law 865 [l0, vR r, l2, l3] (vR r :: st) h Q := tA_pure mB_L_law dL_law_864 rfl
theorem rL_law_865 : tA sc iL_law 865 [vR r, l1, l2, l3] st h Q = tA sc iL_law 866 [vR r, l1, l2, l3] (vR r :: st) h Q := tA_pure mB_L_law dL_law_865 rfl
theorem rL_law_866 : tA sc iL_law 866 [l0, l1, l2, vI x] st h Q = tA sc iL_law 867 [l0, l1, l2, vI x] (vI x :: st) h Q := tA_pure mB_L_law dL_law_866 rfl
theorem rL_law_867 : tA sc iL_law 867 ls st h Q = tA sc iL_law 868 ls (vI (1) :: st) h Q := tA_pure mB_L_law dL_law_867 rfl
theorem rL_law_868 : tA sc iL_law 868 ls (vI y :: vI x :: st) h Q = tA sc iL_law 869 ls (vI (x + y) :: st) h Q := tA_pure mB_L_law dL_law_868 rfl
theorem rL_law_869 : tA sc iL_law 869 ls (vI j :: vR (some a) :: st) h Q = oz (tald sc h 0 a j) (fun v => tA sc iL_law 870 ls (vI v :: st) h Q) := tA_iald mB_L_law dL_law_869
theorem rL_law_870 : tA sc iL_law 870 [vR r, l1, l2, l3] st h Q = tA sc iL_law 871 [vR r, l1, l2, l3] (vR r :: st) h Q := tA_pure mB_L_law dL_law_870 rfl
theorem rL_law_871 : tA sc iL_law 871 [l0, l1, l2, vI x] st h Q = tA sc iL_law 872 [l0, l1, l2, vI x] (vI x :: st) h Q := tA_pure mB_L_law dL_law_871 rfl
theorem rL_law_872 : tA sc iL_law 872 ls st h Q = tA sc iL_law 873 ls (vI (2) :: st) h Q := tA_pure mB_L_law dL_law_872 rfl
theorem rL_law_873 : tA sc iL_law 873 ls (vI y :: vI x :: st) h Q = tA sc iL_law 874 ls (vI (x + y) :: st) h Q := tA_pure mB_L_law dL_law_873 rfl
theorem rL_law_874 : tA sc iL_law 874 ls (vI j :: vR (some a) :: st) h Q = oz (tald sc h 0 a j) (fun v => tA sc iL_law 875 ls (vI v :: st) h Q) := tA_iald mB_L_law dL_law_874
theorem rL_law_875 (hci : tcl h o = some 10) : tA sc iL_law 875 ls [vI p1, vI p0, vR (some o)] h Q = tA sc iX10_waited 0 [vR (some o), vI p0, vI p1, vU, vU, vU, vU] [] h (fun v h1 => tA sc iL_law 878 ls (tpu v []) h1 Q) := tA_cV mB_L_law mO_L_law dL_law_875 cT_12_97 rfl (Nat.le_of_ble_eq_true rfl) rfl rfl rfl hci
theorem rL_law_878 : tA sc iL_law 878 [l0, l1, vR r, l3] st h Q = tA sc iL_law 879 [l0, l1, vR r, l3] (vR r :: st) h Q := tA_pure mB_L_law dL_law_878 rfl
theorem rL_law_879 : tA sc iL_law 879 [vR r, l1, l2, l3] st h Q = tA sc iL_law 880 [vR r, l1, l2, l3] (vR r :: st) h Q := tA_pure mB_L_law dL_law_879 rfl
theorem rL_law_880 : tA sc iL_law 880 [l0, l1, l2, vI x] st h Q = tA sc iL_law 881 [l0, l1, l2, vI x] (vI x :: st) h Q := tA_pure mB_L_law dL_law_880 rfl
theorem rL_law_881 : tA sc iL_law 881 ls st h Q = tA sc iL_law 882 ls (vI (1) :: st) h Q := tA_pure mB_L_law dL_law_881 rfl
theorem rL_law_882 : tA sc iL_law 882 ls (vI y :: vI x :: st) h Q = tA sc iL_law 883 ls (vI (x + y) :: st) h Q := tA_pure mB_L_law dL_law_882 rfl
theorem rL_law_883 : tA sc iL_law 883 ls (vI j :: vR (some a) :: st) h Q = oz (tald sc h 0 a j) (fun v => tA sc iL_law 884 ls (vI v :: st) h Q) := tA_iald mB_L_law dL_law_883
theorem rL_law_884 : tA sc iL_law 884 [vR r, l1, l2, l3] st h Q = tA sc iL_law 885 [vR r, l1, l2, l3] (vR r :: st) h Q := tA_pure mB_L_law dL_law_884 rfl
theorem rL_law_885 : tA sc iL_law 885 [l0, l1, l2, vI x] st h Q = tA sc iL_law 886 [l0, l1, l2, vI x] (vI x :: st) h Q := tA_pure mB_L_law dL_law_885 rfl
theorem rL_law_886 : tA sc iL_law 886 ls st h Q = tA sc iL_law 887 ls (vI (2) :: st) h Q := tA_pure mB_L_law dL_law_886 rfl
theorem rL_law_887 : tA sc iL_law 887 ls (vI y :: vI x :: st) h Q = tA sc iL_law 888 ls (vI (x + y) :: st) h Q := tA_pure mB_L_law dL_law_887 rfl
theorem rL_law_888 : tA sc iL_law 888 ls (vI j :: vR (some a) :: st) h Q = oz (tald sc h 0 a j) (fun v => tA sc iL_law 889 ls (vI v :: st) h Q) := tA_iald mB_L_law dL_law_888
theorem rL_law_889 (hci : tcl h o = some 11) : tA sc iL_law 889 ls [vI p1, vI p0, vR (some o), s0] h Q = tA sc iX11_waited 0 [vR (some o), vI p0, vI p1, vU, vU, vU] [] h (fun v h1 => tA sc iL_law 892 ls (tpu v [s0]) h1 Q) := tA_cV mB_L_law mO_L_law dL_law_889 cT_12_101 rfl (Nat.le_of_ble_eq_true rfl) rfl rfl rfl hci
theorem rL_law_892 : tA sc iL_law 892 ls (vL w :: vL u :: st) h Q = tA sc iL_law 893 ls (vI (lg_cmp u w) :: st) h Q := tA_pure mB_L_law dL_law_892 rfl
theorem rL_law_893 : tA sc iL_law 893 ls (vI x :: st) h Q = (if x = 0 then tA sc iL_law 1546 ls st h Q else tA sc iL_law 896 ls st h Q) := tA_if mB_L_law dL_law_893 (fun _ _ _ _ => rfl) rfl
theorem rL_law_896 : tA sc iL_law 896 ls st h Q = tA sc iL_law 897 ls (vI (0) :: st) h Q := tA_pure mB_L_law dL_law_896 rfl
theorem rL_law_897 : tA sc iL_law 897 ls [vI x] h Q = ((x = 0 ∨ x = 1) ∧ Q (some (vI x)) h) := tA_retz mB_L_law dL_law_897 rfl
theorem rL_law_898 : tA sc iL_law 898 [l0, vR r, l2, l3] st h Q = tA sc iL_law 899 [l0, vR r, l2, l3] (vR r :: st) h Q := tA_pure mB_L_law dL_law_898 rfl
theorem rL_law_899 : tA sc iL_law 899 [vR r, l1, l2, l3] st h Q = tA sc iL_law 900 [vR r, l1, l2, l3] (vR r :: st) h Q := tA_pure mB_L_law dL_law_899 rfl
theorem rL_law_900 : tA sc iL_law 900 [l0, l1, l2, vI x] st h Q = tA sc iL_law 901 [l0, l1, l2, vI x] (vI x :: st) h Q := tA_pure mB_L_law dL_law_900 rfl
theorem rL_law_901 : tA sc iL_law 901 ls st h Q = tA sc iL_law 902 ls (vI (1) :: st) h Q := tA_pure mB_L_law dL_law_901 rfl
theorem rL_law_902 : tA sc iL_law 902 ls (vI y :: vI x :: st) h Q = tA sc iL_law 903 ls (vI (x + y) :: st) h Q := tA_pure mB_L_law dL_law_902 rfl
theorem rL_law_903 : tA sc iL_law 903 ls (vI j :: vR (some a) :: st) h Q = oz (tald sc h 0 a j) (fun v => tA sc iL_law 904 ls (vI v :: st) h Q) := tA_iald mB_L_law dL_law_903
theorem rL_law_904 (hci : tcl h o = some 10) : tA sc iL_law 904 ls [vI p0, vR (some o)] h Q = tA sc iX10_best 0 [vR (some o), vI p0, vU] [] h (fun v h1 => tA sc iL_law 907 ls (tpu v []) h1 Q) := tA_cV mB_L_law mO_L_law dL_law_904 cT_12_102 rfl (Nat.le_of_ble_eq_true rfl) rfl rfl rfl hci
theorem rL_law_907 : tA sc iL_law 907 [l0, l1, vR r, l3] st h Q = tA sc iL_law 908 [l0, l1, vR r, l3] (vR r :: st) h Q := tA_pure mB_L_law dL_law_907 rfl
theorem rL_law_908 : tA sc iL_law 908 [vR r, l1, l2, l3] st h Q = tA sc iL_law 909 [vR r, l1, l2, l3] (vR r :: st) h Q := tA_pure mB_L_law dL_law_908 rfl
theorem rL_law_909 : tA sc iL_law 909 [l0, l1, l2, vI x] st h Q = tA sc iL_law 910 [l0, l1, l2, vI x] (vI x :: st) h Q := tA_pure mB_L_law dL_law_909 rfl
theorem rL_law_910 : tA sc iL_law 910 ls st h Q = tA sc iL_law 911 ls (vI (1) :: st) h Q := tA_pure mB_L_law dL_law_910 rfl
theorem rL_law_911 : tA sc iL_law 911 ls (vI y :: vI x :: st) h Q = tA sc iL_law 912 ls (vI (x + y) :: st) h Q := tA_pure mB_L_law dL_law_911 rfl
theorem rL_law_912 : tA sc iL_law 912 ls (vI j :: vR (some a) :: st) h Q = oz (tald sc h 0 a j) (fun v => tA sc iL_law 913 ls (vI v :: st) h Q) := tA_iald mB_L_law dL_law_912
theorem rL_law_913 (hci : tcl h o = some 11) : tA sc iL_law 913 ls [vI p0, vR (some o), s0] h Q = tA sc iX11_best 0 [vR (some o), vI p0, vU, vU, vU, vU, vU, vU, vU, vU, vU] [] h (fun v h1 => tA sc iL_law 916 ls (tpu v [s0]) h1 Q) := tA_cV mB_L_law mO_L_law dL_law_913 cT_12_105 rfl (Nat.le_of_ble_eq_true rfl) rfl rfl rfl hci
theorem rL_law_916 : tA sc iL_law 916 ls (vI y :: vI x :: st) h Q = (if x = y then tA sc iL_law 1546 ls st h Q else tA sc iL_law 919 ls st h Q) := tA_if mB_L_law dL_law_916 (fun _ _ _ _ => rfl) rfl
theorem rL_law_919 : tA sc iL_law 919 ls st h Q = tA sc iL_law 920 ls (vI (0) :: st) h Q := tA_pure mB_L_law dL_law_919 rfl
theorem rL_law_920 : tA sc iL_law 920 ls [vI x] h Q = ((x = 0 ∨ x = 1) ∧ Q (some (vI x)) h) := tA_retz mB_L_law dL_law_920 rfl
theorem rL_law_921 : tA sc iL_law 921 [l0, vR r, l2, l3] st h Q = tA sc iL_law 922 [l0, vR r, l2, l3] (vR r :: st) h Q := tA_pure mB_L_law dL_law_921 rfl
theorem rL_law_922 : tA sc iL_law 922 [vR r, l1, l2, l3] st h Q = tA sc iL_law 923 [vR r, l1, l2, l3] (vR r :: st) h Q := tA_pure mB_L_law dL_law_922 rfl
theorem rL_law_923 : tA sc iL_law 923 [l0, l1, l2, vI x] st h Q = tA sc iL_law 924 [l0, l1, l2, vI x] (vI x :: st) h Q := tA_pure mB_L_law dL_law_923 rfl
theorem rL_law_924 : tA sc iL_law 924 ls st h Q = tA sc iL_law 925 ls (vI (1) :: st) h Q := tA_pure mB_L_law dL_law_924 rfl
theorem rL_law_925 : tA sc iL_law 925 ls (vI y :: vI x :: st) h Q = tA sc iL_law 926 ls (vI (x + y) :: st) h Q := tA_pure mB_L_law dL_law_925 rfl
theorem rL_law_926 : tA sc iL_law 926 ls (vI j :: vR (some a) :: st) h Q = oz (tald sc h 0 a j) (fun v => tA sc iL_law 927 ls (vI v :: st) h Q) := tA_iald mB_L_law dL_law_926
theorem rL_law_927 : tA sc iL_law 927 [vR r, l1, l2, l3] st h Q = tA sc iL_law 928 [vR r, l1, l2, l3] (vR r :: st) h Q := tA_pure mB_L_law dL_law_927 rfl
theorem rL_law_928 : tA sc iL_law 928 [l0, l1, l2, vI x] st h Q = tA sc iL_law 929 [l0, l1, l2, vI x] (vI x :: st) h Q := tA_pure mB_L_law dL_law_928 rfl
theorem rL_law_929 : tA sc iL_law 929 ls st h Q = tA sc iL_law 930 ls (vI (2) :: st) h Q := tA_pure mB_L_law dL_law_929 rfl
theorem rL_law_930 : tA sc iL_law 930 ls (vI y :: vI x :: st) h Q = tA sc iL_law 931 ls (vI (x + y) :: st) h Q := tA_pure mB_L_law dL_law_930 rfl
theorem rL_law_931 : tA sc iL_law 931 ls (vI j :: vR (some a) :: st) h Q = oz (tald sc h 0 a j) (fun v => tA sc iL_law 932 ls (vI v :: st) h Q) := tA_iald mB_L_law dL_law_931
theorem rL_law_932 (hci : tcl h o = some 10) : tA sc iL_law 932 ls [vI p1, vI p0, vR (some o)] h Q = tA sc iX10_whole 0 [vR (some o), vI p0, vI p1, vU, vU, vU] [] h (fun v h1 => tA sc iL_law 935 ls (tpu v []) h1 Q) := tA_cV mB_L_law mO_L_law dL_law_932 cT_12_106 rfl (Nat.le_of_ble_eq_true rfl) rfl rfl rfl hci
theorem rL_law_935 : tA sc iL_law 935 [l0, l1, vR r, l3] st h Q = tA sc iL_law 936 [l0, l1, vR r, l3] (vR r :: st) h Q := tA_pure mB_L_law dL_law_935 rfl
theorem rL_law_936 : tA sc iL_law 936 [vR r, l1, l2, l3] st h Q = tA sc iL_law 937 [vR r, l1, l2, l3] (vR r :: st) h Q := tA_pure mB_L_law dL_law_936 rfl
theorem rL_law_937 : tA sc iL_law 937 [l0, l1, l2, vI x] st h Q = tA sc iL_law 938 [l0, l1, l2, vI x] (vI x :: st) h Q := tA_pure mB_L_law dL_law_937 rfl
theorem rL_law_938 : tA sc iL_law 938 ls st h Q = tA sc iL_law 939 ls (vI (1) :: st) h Q := tA_pure mB_L_law dL_law_938 rfl
theorem rL_law_939 : tA sc iL_law 939 ls (vI y :: vI x :: st) h Q = tA sc iL_law 940 ls (vI (x + y) :: st) h Q := tA_pure mB_L_law dL_law_939 rfl
theorem rL_law_940 : tA sc iL_law 940 ls (vI j :: vR (some a) :: st) h Q = oz (tald sc h 0 a j) (fun v => tA sc iL_law 941 ls (vI v :: st) h Q) := tA_iald mB_L_law dL_law_940
theorem rL_law_941 : tA sc iL_law 941 [vR r, l1, l2, l3] st h Q = tA sc iL_law 942 [vR r, l1, l2, l3] (vR r :: st) h Q := tA_pure mB_L_law dL_law_941 rfl
theorem rL_law_942 : tA sc iL_law 942 [l0, l1, l2, vI x] st h Q = tA sc iL_law 943 [l0, l1, l2, vI x] (vI x :: st) h Q := tA_pure mB_L_law dL_law_942 rfl
theorem rL_law_943 : tA sc iL_law 943 ls st h Q = tA sc iL_law 944 ls (vI (2) :: st) h Q := tA_pure mB_L_law dL_law_943 rfl
theorem rL_law_944 : tA sc iL_law 944 ls (vI y :: vI x :: st) h Q = tA sc iL_law 945 ls (vI (x + y) :: st) h Q := tA_pure mB_L_law dL_law_944 rfl
theorem rL_law_945 : tA sc iL_law 945 ls (vI j :: vR (some a) :: st) h Q = oz (tald sc h 0 a j) (fun v => tA sc iL_law 946 ls (vI v :: st) h Q) := tA_iald mB_L_law dL_law_945
theorem rL_law_946 (hci : tcl h o = some 11) : tA sc iL_law 946 ls [vI p1, vI p0, vR (some o), s0] h Q = tA sc iX11_whole 0 [vR (some o), vI p0, vI p1, vU, vU, vU] [] h (fun v h1 => tA sc iL_law 949 ls (tpu v [s0]) h1 Q) := tA_cV mB_L_law mO_L_law dL_law_946 cT_12_109 rfl (Nat.le_of_ble_eq_true rfl) rfl rfl rfl hci
theorem rL_law_949 : tA sc iL_law 949 ls (vL w :: vL u :: st) h Q = tA sc iL_law 950 ls (vI (lg_cmp u w) :: st) h Q := tA_pure mB_L_law dL_law_949 rfl
theorem rL_law_950 : tA sc iL_law 950 ls (vI x :: st) h Q = (if x = 0 then tA sc iL_law 1546 ls st h Q else tA sc iL_law 953 ls st h Q) := tA_if mB_L_law dL_law_950 (fun _ _ _ _ => rfl) rfl
theorem rL_law_953 : tA sc iL_law 953 ls st h Q = tA sc iL_law 954 ls (vI (0) :: st) h Q := tA_pure mB_L_law dL_law_953 rfl
theorem rL_law_954 : tA sc iL_law 954 ls [vI x] h Q = ((x = 0 ∨ x = 1) ∧ Q (some (vI x)) h) := tA_retz mB_L_law dL_law_954 rfl
theorem rL_law_955 : tA sc iL_law 955 [l0, vR r, l2, l3] st h Q = tA sc iL_law 956 [l0, vR r, l2, l3] (vR r :: st) h Q := tA_pure mB_L_law dL_law_955 rfl
theorem rL_law_956 : tA sc iL_law 956 [vR r, l1, l2, l3] st h Q = tA sc iL_law 957 [vR r, l1, l2, l3] (vR r :: st) h Q := tA_pure mB_L_law dL_law_956 rfl
theorem rL_law_957 : tA sc iL_law 957 [l0, l1, l2, vI x] st h Q = tA sc iL_law 958 [l0, l1, l2, vI x] (vI x :: st) h Q := tA_pure mB_L_law dL_law_957 rfl
theorem rL_law_958 : tA sc iL_law 958 ls st h Q = tA sc iL_law 959 ls (vI (1) :: st) h Q := tA_pure mB_L_law dL_law_958 rfl
theorem rL_law_959 : tA sc iL_law 959 ls (vI y :: vI x :: st) h Q = tA sc iL_law 960 ls (vI (x + y) :: st) h Q := tA_pure mB_L_law dL_law_959 rfl
theorem rL_law_960 : tA sc iL_law 960 ls (vI j :: vR (some a) :: st) h Q = oz (tald sc h 0 a j) (fun v => tA sc iL_law 961 ls (vI v :: st) h Q) := tA_iald mB_L_law dL_law_960
theorem rL_law_961 (hci : tcl h o = some 10) : tA sc iL_law 961 ls [vI p0, vR (some o)] h Q = tA sc iX10_owed 0 [vR (some o), vI p0, vU, vU, vU] [] h (fun v h1 => tA sc iL_law 964 ls (tpu v []) h1 Q) := tA_cV mB_L_law mO_L_law dL_law_961 cT_12_110 rfl (Nat.le_of_ble_eq_true rfl) rfl rfl rfl hci
theorem rL_law_964 : tA sc iL_law 964 [l0, l1, vR r, l3] st h Q = tA sc iL_law 965 [l0, l1, vR r, l3] (vR r :: st) h Q := tA_pure mB_L_law dL_law_964 rfl
theorem rL_law_965 : tA sc iL_law 965 [vR r, l1, l2, l3] st h Q = tA sc iL_law 966 [vR r, l1, l2, l3] (vR r :: st) h Q := tA_pure mB_L_law dL_law_965 rfl
theorem rL_law_966 : tA sc iL_law 966 [l0, l1, l2, vI x] st h Q = tA sc iL_law 967 [l0, l1, l2, vI x] (vI x :: st) h Q := tA_pure mB_L_law dL_law_966 rfl
theorem rL_law_967 : tA sc iL_law 967 ls st h Q = tA sc iL_law 968 ls (vI (1) :: st) h Q := tA_pure mB_L_law dL_law_967 rfl
theorem rL_law_968 : tA sc iL_law 968 ls (vI y :: vI x :: st) h Q = tA sc iL_law 969 ls (vI (x + y) :: st) h Q := tA_pure mB_L_law dL_law_968 rfl
theorem rL_law_969 : tA sc iL_law 969 ls (vI j :: vR (some a) :: st) h Q = oz (tald sc h 0 a j) (fun v => tA sc iL_law 970 ls (vI v :: st) h Q) := tA_iald mB_L_law dL_law_969
theorem rL_law_970 (hci : tcl h o = some 11) : tA sc iL_law 970 ls [vI p0, vR (some o), s0] h Q = tA sc iX11_owed 0 [vR (some o), vI p0, vU, vU, vU, vU, vU, vU] [] h (fun v h1 => tA sc iL_law 973 ls (tpu v [s0]) h1 Q) := tA_cV mB_L_law mO_L_law dL_law_970 cT_12_114 rfl (Nat.le_of_ble_eq_true rfl) rfl rfl rfl hci
theorem rL_law_973 : tA sc iL_law 973 ls (vL w :: vL u :: st) h Q = tA sc iL_law 974 ls (vI (lg_cmp u w) :: st) h Q := tA_pure mB_L_law dL_law_973 rfl
theorem rL_law_974 : tA sc iL_law 974 ls (vI x :: st) h Q = (if x = 0 then tA sc iL_law 1546 ls st h Q else tA sc iL_law 977 ls st h Q) := tA_if mB_L_law dL_law_974 (fun _ _ _ _ => rfl) rfl
theorem rL_law_977 : tA sc iL_law 977 ls st h Q = tA sc iL_law 978 ls (vI (0) :: st) h Q := tA_pure mB_L_law dL_law_977 rfl
theorem rL_law_978 : tA sc iL_law 978 ls [vI x] h Q = ((x = 0 ∨ x = 1) ∧ Q (some (vI x)) h) := tA_retz mB_L_law dL_law_978 rfl
theorem rL_law_979 : tA sc iL_law 979 [l0, vR r, l2, l3] st h Q = tA sc iL_law 980 [l0, vR r, l2, l3] (vR r :: st) h Q := tA_pure mB_L_law dL_law_979 rfl
theorem rL_law_980 : tA sc iL_law 980 [vR r, l1, l2, l3] st h Q = tA sc iL_law 981 [vR r, l1, l2, l3] (vR r :: st) h Q := tA_pure mB_L_law dL_law_980 rfl
theorem rL_law_981 : tA sc iL_law 981 [l0, l1, l2, vI x] st h Q = tA sc iL_law 982 [l0, l1, l2, vI x] (vI x :: st) h Q := tA_pure mB_L_law dL_law_981 rfl
theorem rL_law_982 : tA sc iL_law 982 ls st h Q = tA sc iL_law 983 ls (vI (1) :: st) h Q := tA_pure mB_L_law dL_law_982 rfl
theorem rL_law_983 : tA sc iL_law 983 ls (vI y :: vI x :: st) h Q = tA sc iL_law 984 ls (vI (x + y) :: st) h Q := tA_pure mB_L_law dL_law_983 rfl
theorem rL_law_984 : tA sc iL_law 984 ls (vI j :: vR (some a) :: st) h Q = oz (tald sc h 0 a j) (fun v => tA sc iL_law 985 ls (vI v :: st) h Q) := tA_iald mB_L_law dL_law_984
theorem rL_law_985 : tA sc iL_law 985 [vR r, l1, l2, l3] st h Q = tA sc iL_law 986 [vR r, l1, l2, l3] (vR r :: st) h Q := tA_pure mB_L_law dL_law_985 rfl
theorem rL_law_986 : tA sc iL_law 986 [l0, l1, l2, vI x] st h Q = tA sc iL_law 987 [l0, l1, l2, vI x] (vI x :: st) h Q := tA_pure mB_L_law dL_law_986 rfl
theorem rL_law_987 : tA sc iL_law 987 ls st h Q = tA sc iL_law 988 ls (vI (2) :: st) h Q := tA_pure mB_L_law dL_law_987 rfl
theorem rL_law_988 : tA sc iL_law 988 ls (vI y :: vI x :: st) h Q = tA sc iL_law 989 ls (vI (x + y) :: st) h Q := tA_pure mB_L_law dL_law_988 rfl
theorem rL_law_989 : tA sc iL_law 989 ls (vI j :: vR (some a) :: st) h Q = oz (tald sc h 0 a j) (fun v => tA sc iL_law 990 ls (vI v :: st) h Q) := tA_iald mB_L_law dL_law_989
theorem rL_law_990 (hci : tcl h o = some 10) : tA sc iL_law 990 ls [vI p1, vI p0, vR (some o)] h Q = tA sc iX10_believed 0 [vR (some o), vI p0, vI p1, vU] [] h (fun v h1 => tA sc iL_law 993 ls (tpu v []) h1 Q) := tA_cV mB_L_law mO_L_law dL_law_990 cT_12_115 rfl (Nat.le_of_ble_eq_true rfl) rfl rfl rfl hci
theorem rL_law_993 : tA sc iL_law 993 [l0, l1, vR r, l3] st h Q = tA sc iL_law 994 [l0, l1, vR r, l3] (vR r :: st) h Q := tA_pure mB_L_law dL_law_993 rfl
theorem rL_law_994 : tA sc iL_law 994 [vR r, l1, l2, l3] st h Q = tA sc iL_law 995 [vR r, l1, l2, l3] (vR r :: st) h Q := tA_pure mB_L_law dL_law_994 rfl
theorem rL_law_995 : tA sc iL_law 995 [l0, l1, l2, vI x] st h Q = tA sc iL_law 996 [l0, l1, l2, vI x] (vI x :: st) h Q := tA_pure mB_L_law dL_law_995 rfl
theorem rL_law_996 : tA sc iL_law 996 ls st h Q = tA sc iL_law 997 ls (vI (1) :: st) h Q := tA_pure mB_L_law dL_law_996 rfl
theorem rL_law_997 : tA sc iL_law 997 ls (vI y :: vI x :: st) h Q = tA sc iL_law 998 ls (vI (x + y) :: st) h Q := tA_pure mB_L_law dL_law_997 rfl
theorem rL_law_998 : tA sc iL_law 998 ls (vI j :: vR (some a) :: st) h Q = oz (tald sc h 0 a j) (fun v => tA sc iL_law 999 ls (vI v :: st) h Q) := tA_iald mB_L_law dL_law_998
theorem rL_law_999 : tA sc iL_law 999 [vR r, l1, l2, l3] st h Q = tA sc iL_law 1000 [vR r, l1, l2, l3] (vR r :: st) h Q := tA_pure mB_L_law dL_law_999 rfl
theorem rL_law_1000 : tA sc iL_law 1000 [l0, l1, l2, vI x] st h Q = tA sc iL_law 1001 [l0, l1, l2, vI x] (vI x :: st) h Q := tA_pure mB_L_law dL_law_1000 rfl
theorem rL_law_1001 : tA sc iL_law 1001 ls st h Q = tA sc iL_law 1002 ls (vI (2) :: st) h Q := tA_pure mB_L_law dL_law_1001 rfl
theorem rL_law_1002 : tA sc iL_law 1002 ls (vI y :: vI x :: st) h Q = tA sc iL_law 1003 ls (vI (x + y) :: st) h Q := tA_pure mB_L_law dL_law_1002 rfl
theorem rL_law_1003 : tA sc iL_law 1003 ls (vI j :: vR (some a) :: st) h Q = oz (tald sc h 0 a j) (fun v => tA sc iL_law 1004 ls (vI v :: st) h Q) := tA_iald mB_L_law dL_law_1003
theorem rL_law_1004 (hci : tcl h o = some 11) : tA sc iL_law 1004 ls [vI p1, vI p0, vR (some o), s0] h Q = tA sc iX11_believed 0 [vR (some o), vI p0, vI p1] [] h (fun v h1 => tA sc iL_law 1007 ls (tpu v [s0]) h1 Q) := tA_cV mB_L_law mO_L_law dL_law_1004 cT_12_118 rfl (Nat.le_of_ble_eq_true rfl) rfl rfl rfl hci
theorem rL_law_1007 : tA sc iL_law 1007 ls (vI y :: vI x :: st) h Q = (if x = y then tA sc iL_law 1546 ls st h Q else tA sc iL_law 1010 ls st h Q) := tA_if mB_L_law dL_law_1007 (fun _ _ _ _ => rfl) rfl
theorem rL_law_1010 : tA sc iL_law 1010 ls st h Q = tA sc iL_law 1011 ls (vI (0) :: st) h Q := tA_pure mB_L_law dL_law_1010 rfl
theorem rL_law_1011 : tA sc iL_law 1011 ls [vI x] h Q = ((x = 0 ∨ x = 1) ∧ Q (some (vI x)) h) := tA_retz mB_L_law dL_law_1011 rfl
theorem rL_law_1012 : tA sc iL_law 1012 [l0, vR r, l2, l3] st h Q = tA sc iL_law 1013 [l0, vR r, l2, l3] (vR r :: st) h Q := tA_pure mB_L_law dL_law_1012 rfl
theorem rL_law_1013 (hci : tcl h o = some 10) : tA sc iL_law 1013 ls [vR (some o)] h Q = tA sc iX10_whom 0 [vR (some o), vU, vU, vU, vU, vU, vU] [] h (fun v h1 => tA sc iL_law 1016 ls (tpu v []) h1 Q) := tA_cV mB_L_law mO_L_law dL_law_1013 cT_12_119 rfl (Nat.le_of_ble_eq_true rfl) rfl rfl rfl hci
theorem rL_law_1016 : tA sc iL_law 1016 [l0, l1, vR r, l3] st h Q = tA sc iL_law 1017 [l0, l1, vR r, l3] (vR r :: st) h Q := tA_pure mB_L_law dL_law_1016 rfl
theorem rL_law_1017 (hci : tcl h o = some 11) : tA sc iL_law 1017 ls [vR (some o), s0] h Q = tA sc iX11_whom 0 [vR (some o), vU, vU, vU, vU] [] h (fun v h1 => tA sc iL_law 1020 ls (tpu v [s0]) h1 Q) := tA_cV mB_L_law mO_L_law dL_law_1017 cT_12_122 rfl (Nat.le_of_ble_eq_true rfl) rfl rfl rfl hci
theorem rL_law_1020 : tA sc iL_law 1020 ls (vI y :: vI x :: st) h Q = (if x = y then tA sc iL_law 1546 ls st h Q else tA sc iL_law 1023 ls st h Q) := tA_if mB_L_law dL_law_1020 (fun _ _ _ _ => rfl) rfl
theorem rL_law_1023 : tA sc iL_law 1023 ls st h Q = tA sc iL_law 1024 ls (vI (0) :: st) h Q := tA_pure mB_L_law dL_law_1023 rfl
theorem rL_law_1024 : tA sc iL_law 1024 ls [vI x] h Q = ((x = 0 ∨ x = 1) ∧ Q (some (vI x)) h) := tA_retz mB_L_law dL_law_1024 rfl
theorem rL_law_1025 : tA sc iL_law 1025 [l0, vR r, l2, l3] st h Q = tA sc iL_law 1026 [l0, vR r, l2, l3] (vR r :: st) h Q := tA_pure mB_L_law dL_law_1025 rfl
theorem rL_law_1026 (hci : tcl h o = some 10) : tA sc iL_law 1026 ls [vR (some o)] h Q = tA sc iX10_open 0 [vR (some o), vU, vU] [] h (fun v h1 => tA sc iL_law 1029 ls (tpu v []) h1 Q) := tA_cV mB_L_law mO_L_law dL_law_1026 cT_12_123 rfl (Nat.le_of_ble_eq_true rfl) rfl rfl rfl hci
theorem rL_law_1029 : tA sc iL_law 1029 [l0, l1, vR r, l3] st h Q = tA sc iL_law 1030 [l0, l1, vR r, l3] (vR r :: st) h Q := tA_pure mB_L_law dL_law_1029 rfl
theorem rL_law_1030 (hci : tcl h o = some 11) : tA sc iL_law 1030 ls [vR (some o), s0] h Q = tA sc iX11_open 0 [vR (some o), vU, vU] [] h (fun v h1 => tA sc iL_law 1033 ls (tpu v [s0]) h1 Q) := tA_cV mB_L_law mO_L_law dL_law_1030 cT_12_126 rfl (Nat.le_of_ble_eq_true rfl) rfl rfl rfl hci
theorem rL_law_1033 : tA sc iL_law 1033 ls (vI y :: vI x :: st) h Q = (if x = y then tA sc iL_law 1546 ls st h Q else tA sc iL_law 1036 ls st h Q) := tA_if mB_L_law dL_law_1033 (fun _ _ _ _ => rfl) rfl
theorem rL_law_1036 : tA sc iL_law 1036 ls st h Q = tA sc iL_law 1037 ls (vI (0) :: st) h Q := tA_pure mB_L_law dL_law_1036 rfl
theorem rL_law_1037 : tA sc iL_law 1037 ls [vI x] h Q = ((x = 0 ∨ x = 1) ∧ Q (some (vI x)) h) := tA_retz mB_L_law dL_law_1037 rfl
theorem rL_law_1038 : tA sc iL_law 1038 [l0, vR r, l2, l3] st h Q = tA sc iL_law 1039 [l0, vR r, l2, l3] (vR r :: st) h Q := tA_pure mB_L_law dL_law_1038 rfl
theorem rL_law_1039 : tA sc iL_law 1039 [vR r, l1, l2, l3] st h Q = tA sc iL_law 1040 [vR r, l1, l2, l3] (vR r :: st) h Q := tA_pure mB_L_law dL_law_1039 rfl
theorem rL_law_1040 : tA sc iL_law 1040 [l0, l1, l2, vI x] st h Q = tA sc iL_law 1041 [l0, l1, l2, vI x] (vI x :: st) h Q := tA_pure mB_L_law dL_law_1040 rfl
theorem rL_law_1041 : tA sc iL_law 1041 ls st h Q = tA sc iL_law 1042 ls (vI (1) :: st) h Q := tA_pure mB_L_law dL_law_1041 rfl
theorem rL_law_1042 : tA sc iL_law 1042 ls (vI y :: vI x :: st) h Q = tA sc iL_law 1043 ls (vI (x + y) :: st) h Q := tA_pure mB_L_law dL_law_1042 rfl
theorem rL_law_1043 : tA sc iL_law 1043 ls (vI j :: vR (some a) :: st) h Q = oz (tald sc h 0 a j) (fun v => tA sc iL_law 1044 ls (vI v :: st) h Q) := tA_iald mB_L_law dL_law_1043
theorem rL_law_1044 (hci : tcl h o = some 10) : tA sc iL_law 1044 ls [vI p0, vR (some o)] h Q = tA sc iX10_seed 0 [vR (some o), vI p0, vU] [] h (fun v h1 => tA sc iL_law 1047 ls (tpu v []) h1 Q) := tA_cV mB_L_law mO_L_law dL_law_1044 cT_12_127 rfl (Nat.le_of_ble_eq_true rfl) rfl rfl rfl hci
theorem rL_law_1047 : tA sc iL_law 1047 [l0, l1, vR r, l3] st h Q = tA sc iL_law 1048 [l0, l1, vR r, l3] (vR r :: st) h Q := tA_pure mB_L_law dL_law_1047 rfl
theorem rL_law_1048 : tA sc iL_law 1048 [vR r, l1, l2, l3] st h Q = tA sc iL_law 1049 [vR r, l1, l2, l3] (vR r :: st) h Q := tA_pure mB_L_law dL_law_1048 rfl
theorem rL_law_1049 : tA sc iL_law 1049 [l0, l1, l2, vI x] st h Q = tA sc iL_law 1050 [l0, l1, l2, vI x] (vI x :: st) h Q := tA_pure mB_L_law dL_law_1049 rfl
theorem rL_law_1050 : tA sc iL_law 1050 ls st h Q = tA sc iL_law 1051 ls (vI (1) :: st) h Q := tA_pure mB_L_law dL_law_1050 rfl
theorem rL_law_1051 : tA sc iL_law 1051 ls (vI y :: vI x :: st) h Q = tA sc iL_law 1052 ls (vI (x + y) :: st) h Q := tA_pure mB_L_law dL_law_1051 rfl
theorem rL_law_1052 : tA sc iL_law 1052 ls (vI j :: vR (some a) :: st) h Q = oz (tald sc h 0 a j) (fun v => tA sc iL_law 1053 ls (vI v :: st) h Q) := tA_iald mB_L_law dL_law_1052
theorem rL_law_1053 (hci : tcl h o = some 11) : tA sc iL_law 1053 ls [vI p0, vR (some o), s0] h Q = tA sc iX11_seed 0 [vR (some o), vI p0, vU] [] h (fun v h1 => tA sc iL_law 1056 ls (tpu v [s0]) h1 Q) := tA_cV mB_L_law mO_L_law dL_law_1053 cT_12_130 rfl (Nat.le_of_ble_eq_true rfl) rfl rfl rfl hci
theorem rL_law_1056 : tA sc iL_law 1056 ls (vI y :: vI x :: st) h Q = (if x = y then tA sc iL_law 1546 ls st h Q else tA sc iL_law 1059 ls st h Q) := tA_if mB_L_law dL_law_1056 (fun _ _ _ _ => rfl) rfl
theorem rL_law_1059 : tA sc iL_law 1059 ls st h Q = tA sc iL_law 1060 ls (vI (0) :: st) h Q := tA_pure mB_L_law dL_law_1059 rfl
theorem rL_law_1060 : tA sc iL_law 1060 ls [vI x] h Q = ((x = 0 ∨ x = 1) ∧ Q (some (vI x)) h) := tA_retz mB_L_law dL_law_1060 rfl
theorem rL_law_1061 : tA sc iL_law 1061 [l0, vR r, l2, l3] st h Q = tA sc iL_law 1062 [l0, vR r, l2, l3] (vR r :: st) h Q := tA_pure mB_L_law dL_law_1061 rfl
theorem rL_law_1062 : tA sc iL_law 1062 [vR r, l1, l2, l3] st h Q = tA sc iL_law 1063 [vR r, l1, l2, l3] (vR r :: st) h Q := tA_pure mB_L_law dL_law_1062 rfl
theorem rL_law_1063 : tA sc iL_law 1063 [l0, l1, l2, vI x] st h Q = tA sc iL_law 1064 [l0, l1, l2, vI x] (vI x :: st) h Q := tA_pure mB_L_law dL_law_1063 rfl
theorem rL_law_1064 : tA sc iL_law 1064 ls st h Q = tA sc iL_law 1065 ls (vI (1) :: st) h Q := tA_pure mB_L_law dL_law_1064 rfl
theorem rL_law_1065 : tA sc iL_law 1065 ls (vI y :: vI x :: st) h Q = tA sc iL_law 1066 ls (vI (x + y) :: st) h Q := tA_pure mB_L_law dL_law_1065 rfl
theorem rL_law_1066 : tA sc iL_law 1066 ls (vI j :: vR (some a) :: st) h Q = oz (tald sc h 0 a j) (fun v => tA sc iL_law 1067 ls (vI v :: st) h Q) := tA_iald mB_L_law dL_law_1066
theorem rL_law_1067 (hci : tcl h o = some 10) : tA sc iL_law 1067 ls [vI p0, vR (some o)] h Q = tA sc iX10_prove 0 [vR (some o), vI p0, vU, vU] [] h (fun v h1 => tA sc iL_law 1070 ls (tpu v []) h1 Q) := tA_cV mB_L_law mO_L_law dL_law_1067 cT_12_131 rfl (Nat.le_of_ble_eq_true rfl) rfl rfl rfl hci
theorem rL_law_1070 : tA sc iL_law 1070 [l0, l1, vR r, l3] st h Q = tA sc iL_law 1071 [l0, l1, vR r, l3] (vR r :: st) h Q := tA_pure mB_L_law dL_law_1070 rfl
theorem rL_law_1071 : tA sc iL_law 1071 [vR r, l1, l2, l3] st h Q = tA sc iL_law 1072 [vR r, l1, l2, l3] (vR r :: st) h Q := tA_pure mB_L_law dL_law_1071 rfl
theorem rL_law_1072 : tA sc iL_law 1072 [l0, l1, l2, vI x] st h Q = tA sc iL_law 1073 [l0, l1, l2, vI x] (vI x :: st) h Q := tA_pure mB_L_law dL_law_1072 rfl
theorem rL_law_1073 : tA sc iL_law 1073 ls st h Q = tA sc iL_law 1074 ls (vI (1) :: st) h Q := tA_pure mB_L_law dL_law_1073 rfl
theorem rL_law_1074 : tA sc iL_law 1074 ls (vI y :: vI x :: st) h Q = tA sc iL_law 1075 ls (vI (x + y) :: st) h Q := tA_pure mB_L_law dL_law_1074 rfl
theorem rL_law_1075 : tA sc iL_law 1075 ls (vI j :: vR (some a) :: st) h Q = oz (tald sc h 0 a j) (fun v => tA sc iL_law 1076 ls (vI v :: st) h Q) := tA_iald mB_L_law dL_law_1075
theorem rL_law_1076 (hci : tcl h o = some 11) : tA sc iL_law 1076 ls [vI p0, vR (some o), s0] h Q = tA sc iX11_prove 0 [vR (some o), vI p0, vU] [] h (fun v h1 => tA sc iL_law 1079 ls (tpu v [s0]) h1 Q) := tA_cV mB_L_law mO_L_law dL_law_1076 cT_12_134 rfl (Nat.le_of_ble_eq_true rfl) rfl rfl rfl hci
theorem rL_law_1079 : tA sc iL_law 1079 ls (vI y :: vI x :: st) h Q = (if x = y then tA sc iL_law 1546 ls st h Q else tA sc iL_law 1082 ls st h Q) := tA_if mB_L_law dL_law_1079 (fun _ _ _ _ => rfl) rfl
theorem rL_law_1082 : tA sc iL_law 1082 ls st h Q = tA sc iL_law 1083 ls (vI (0) :: st) h Q := tA_pure mB_L_law dL_law_1082 rfl
theorem rL_law_1083 : tA sc iL_law 1083 ls [vI x] h Q = ((x = 0 ∨ x = 1) ∧ Q (some (vI x)) h) := tA_retz mB_L_law dL_law_1083 rfl
theorem rL_law_1084 : tA sc iL_law 1084 [l0, vR r, l2, l3] st h Q = tA sc iL_law 1085 [l0, vR r, l2, l3] (vR r :: st) h Q := tA_pure mB_L_law dL_law_1084 rfl
theorem rL_law_1085 : tA sc iL_law 1085 [vR r, l1, l2, l3] st h Q = tA sc iL_law 1086 [vR r, l1, l2, l3] (vR r :: st) h Q := tA_pure mB_L_law dL_law_1085 rfl
theorem rL_law_1086 : tA sc iL_law 1086 [l0, l1, l2, vI x] st h Q = tA sc iL_law 1087 [l0, l1, l2, vI x] (vI x :: st) h Q := tA_pure mB_L_law dL_law_1086 rfl
theorem rL_law_1087 : tA sc iL_law 1087 ls st h Q = tA sc iL_law 1088 ls (vI (1) :: st) h Q := tA_pure mB_L_law dL_law_1087 rfl
theorem rL_law_1088 : tA sc iL_law 1088 ls (vI y :: vI x :: st) h Q = tA sc iL_law 1089 ls (vI (x + y) :: st) h Q := tA_pure mB_L_law dL_law_1088 rfl
theorem rL_law_1089 : tA sc iL_law 1089 ls (vI j :: vR (some a) :: st) h Q = oz (tald sc h 0 a j) (fun v => tA sc iL_law 1090 ls (vI v :: st) h Q) := tA_iald mB_L_law dL_law_1089
theorem rL_law_1090 : tA sc iL_law 1090 [vR r, l1, l2, l3] st h Q = tA sc iL_law 1091 [vR r, l1, l2, l3] (vR r :: st) h Q := tA_pure mB_L_law dL_law_1090 rfl
theorem rL_law_1091 : tA sc iL_law 1091 [l0, l1, l2, vI x] st h Q = tA sc iL_law 1092 [l0, l1, l2, vI x] (vI x :: st) h Q := tA_pure mB_L_law dL_law_1091 rfl
theorem rL_law_1092 : tA sc iL_law 1092 ls st h Q = tA sc iL_law 1093 ls (vI (2) :: st) h Q := tA_pure mB_L_law dL_law_1092 rfl
theorem rL_law_1093 : tA sc iL_law 1093 ls (vI y :: vI x :: st) h Q = tA sc iL_law 1094 ls (vI (x + y) :: st) h Q := tA_pure mB_L_law dL_law_1093 rfl
theorem rL_law_1094 : tA sc iL_law 1094 ls (vI j :: vR (some a) :: st) h Q = oz (tald sc h 0 a j) (fun v => tA sc iL_law 1095 ls (vI v :: st) h Q) := tA_iald mB_L_law dL_law_1094
theorem rL_law_1095 (hci : tcl h o = some 10) : tA sc iL_law 1095 ls [vI p1, vI p0, vR (some o)] h Q = tA sc iX10_row 0 [vR (some o), vI p0, vI p1] [] h (fun v h1 => tA sc iL_law 1098 ls (tpu v []) h1 Q) := tA_cV mB_L_law mO_L_law dL_law_1095 cT_12_135 rfl (Nat.le_of_ble_eq_true rfl) rfl rfl rfl hci
theorem rL_law_1098 : tA sc iL_law 1098 [l0, l1, vR r, l3] st h Q = tA sc iL_law 1099 [l0, l1, vR r, l3] (vR r :: st) h Q := tA_pure mB_L_law dL_law_1098 rfl
theorem rL_law_1099 : tA sc iL_law 1099 [vR r, l1, l2, l3] st h Q = tA sc iL_law 1100 [vR r, l1, l2, l3] (vR r :: st) h Q := tA_pure mB_L_law dL_law_1099 rfl
theorem rL_law_1100 : tA sc iL_law 1100 [l0, l1, l2, vI x] st h Q = tA sc iL_law 1101 [l0, l1, l2, vI x] (vI x :: st) h Q := tA_pure mB_L_law dL_law_1100 rfl
theorem rL_law_1101 : tA sc iL_law 1101 ls st h Q = tA sc iL_law 1102 ls (vI (1) :: st) h Q := tA_pure mB_L_law dL_law_1101 rfl
theorem rL_law_1102 : tA sc iL_law 1102 ls (vI y :: vI x :: st) h Q = tA sc iL_law 1103 ls (vI (x + y) :: st) h Q := tA_pure mB_L_law dL_law_1102 rfl
theorem rL_law_1103 : tA sc iL_law 1103 ls (vI j :: vR (some a) :: st) h Q = oz (tald sc h 0 a j) (fun v => tA sc iL_law 1104 ls (vI v :: st) h Q) := tA_iald mB_L_law dL_law_1103
theorem rL_law_1104 : tA sc iL_law 1104 [vR r, l1, l2, l3] st h Q = tA sc iL_law 1105 [vR r, l1, l2, l3] (vR r :: st) h Q := tA_pure mB_L_law dL_law_1104 rfl
theorem rL_law_1105 : tA sc iL_law 1105 [l0, l1, l2, vI x] st h Q = tA sc iL_law 1106 [l0, l1, l2, vI x] (vI x :: st) h Q := tA_pure mB_L_law dL_law_1105 rfl
theorem rL_law_1106 : tA sc iL_law 1106 ls st h Q = tA sc iL_law 1107 ls (vI (2) :: st) h Q := tA_pure mB_L_law dL_law_1106 rfl
theorem rL_law_1107 : tA sc iL_law 1107 ls (vI y :: vI x :: st) h Q = tA sc iL_law 1108 ls (vI (x + y) :: st) h Q := tA_pure mB_L_law dL_law_1107 rfl
theorem rL_law_1108 : tA sc iL_law 1108 ls (vI j :: vR (some a) :: st) h Q = oz (tald sc h 0 a j) (fun v => tA sc iL_law 1109 ls (vI v :: st) h Q) := tA_iald mB_L_law dL_law_1108
theorem rL_law_1109 (hci : tcl h o = some 11) : tA sc iL_law 1109 ls [vI p1, vI p0, vR (some o), s0] h Q = tA sc iX11_row 0 [vR (some o), vI p0, vI p1] [] h (fun v h1 => tA sc iL_law 1112 ls (tpu v [s0]) h1 Q) := tA_cV mB_L_law mO_L_law dL_law_1109 cT_12_138 rfl (Nat.le_of_ble_eq_true rfl) rfl rfl rfl hci
theorem rL_law_1112 : tA sc iL_law 1112 ls (vI y :: vI x :: st) h Q = (if x = y then tA sc iL_law 1546 ls st h Q else tA sc iL_law 1115 ls st h Q) := tA_if mB_L_law dL_law_1112 (fun _ _ _ _ => rfl) rfl
theorem rL_law_1115 : tA sc iL_law 1115 ls st h Q = tA sc iL_law 1116 ls (vI (0) :: st) h Q := tA_pure mB_L_law dL_law_1115 rfl
theorem rL_law_1116 : tA sc iL_law 1116 ls [vI x] h Q = ((x = 0 ∨ x = 1) ∧ Q (some (vI x)) h) := tA_retz mB_L_law dL_law_1116 rfl
theorem rL_law_1117 : tA sc iL_law 1117 [l0, vR r, l2, l3] st h Q = tA sc iL_law 1118 [l0, vR r, l2, l3] (vR r :: st) h Q := tA_pure mB_L_law dL_law_1117 rfl
theorem rL_law_1118 : tA sc iL_law 1118 [vR r, l1, l2, l3] st h Q = tA sc iL_law 1119 [vR r, l1, l2, l3] (vR r :: st) h Q := tA_pure mB_L_law dL_law_1118 rfl
theorem rL_law_1119 : tA sc iL_law 1119 [l0, l1, l2, vI x] st h Q = tA sc iL_law 1120 [l0, l1, l2, vI x] (vI x :: st) h Q := tA_pure mB_L_law dL_law_1119 rfl
theorem rL_law_1120 : tA sc iL_law 1120 ls st h Q = tA sc iL_law 1121 ls (vI (1) :: st) h Q := tA_pure mB_L_law dL_law_1120 rfl
theorem rL_law_1121 : tA sc iL_law 1121 ls (vI y :: vI x :: st) h Q = tA sc iL_law 1122 ls (vI (x + y) :: st) h Q := tA_pure mB_L_law dL_law_1121 rfl
theorem rL_law_1122 : tA sc iL_law 1122 ls (vI j :: vR (some a) :: st) h Q = oz (tald sc h 0 a j) (fun v => tA sc iL_law 1123 ls (vI v :: st) h Q) := tA_iald mB_L_law dL_law_1122
theorem rL_law_1123 : tA sc iL_law 1123 [vR r, l1, l2, l3] st h Q = tA sc iL_law 1124 [vR r, l1, l2, l3] (vR r :: st) h Q := tA_pure mB_L_law dL_law_1123 rfl
theorem rL_law_1124 : tA sc iL_law 1124 [l0, l1, l2, vI x] st h Q = tA sc iL_law 1125 [l0, l1, l2, vI x] (vI x :: st) h Q := tA_pure mB_L_law dL_law_1124 rfl
theorem rL_law_1125 : tA sc iL_law 1125 ls st h Q = tA sc iL_law 1126 ls (vI (2) :: st) h Q := tA_pure mB_L_law dL_law_1125 rfl
theorem rL_law_1126 : tA sc iL_law 1126 ls (vI y :: vI x :: st) h Q = tA sc iL_law 1127 ls (vI (x + y) :: st) h Q := tA_pure mB_L_law dL_law_1126 rfl
theorem rL_law_1127 : tA sc iL_law 1127 ls (vI j :: vR (some a) :: st) h Q = oz (tald sc h 0 a j) (fun v => tA sc iL_law 1128 ls (vI v :: st) h Q) := tA_iald mB_L_law dL_law_1127
theorem rL_law_1128 : tA sc iL_law 1128 [vR r, l1, l2, l3] st h Q = tA sc iL_law 1129 [vR r, l1, l2, l3] (vR r :: st) h Q := tA_pure mB_L_law dL_law_1128 rfl
theorem rL_law_1129 : tA sc iL_law 1129 [l0, l1, l2, vI x] st h Q = tA sc iL_law 1130 [l0, l1, l2, vI x] (vI x :: st) h Q := tA_pure mB_L_law dL_law_1129 rfl
theorem rL_law_1130 : tA sc iL_law 1130 ls st h Q = tA sc iL_law 1131 ls (vI (3) :: st) h Q := tA_pure mB_L_law dL_law_1130 rfl
theorem rL_law_1131 : tA sc iL_law 1131 ls (vI y :: vI x :: st) h Q = tA sc iL_law 1132 ls (vI (x + y) :: st) h Q := tA_pure mB_L_law dL_law_1131 rfl
theorem rL_law_1132 : tA sc iL_law 1132 ls (vI j :: vR (some a) :: st) h Q = oz (tald sc h 0 a j) (fun v => tA sc iL_law 1133 ls (vI v :: st) h Q) := tA_iald mB_L_law dL_law_1132
theorem rL_law_1133 (hci : tcl h o = some 10) : tA sc iL_law 1133 ls [vI p2, vI p1, vI p0, vR (some o)] h Q = tA sc iX10_alterRow 0 [vR (some o), vI p0, vI p1, vI p2, vU] [] h (fun v h1 => tA sc iL_law 1136 ls (tpu v []) h1 Q) := tA_cV mB_L_law mO_L_law dL_law_1133 cT_12_139 rfl (Nat.le_of_ble_eq_true rfl) rfl rfl rfl hci
theorem rL_law_1136 : tA sc iL_law 1136 [l0, l1, vR r, l3] st h Q = tA sc iL_law 1137 [l0, l1, vR r, l3] (vR r :: st) h Q := tA_pure mB_L_law dL_law_1136 rfl
theorem rL_law_1137 : tA sc iL_law 1137 [vR r, l1, l2, l3] st h Q = tA sc iL_law 1138 [vR r, l1, l2, l3] (vR r :: st) h Q := tA_pure mB_L_law dL_law_1137 rfl
theorem rL_law_1138 : tA sc iL_law 1138 [l0, l1, l2, vI x] st h Q = tA sc iL_law 1139 [l0, l1, l2, vI x] (vI x :: st) h Q := tA_pure mB_L_law dL_law_1138 rfl
theorem rL_law_1139 : tA sc iL_law 1139 ls st h Q = tA sc iL_law 1140 ls (vI (1) :: st) h Q := tA_pure mB_L_law dL_law_1139 rfl
theorem rL_law_1140 : tA sc iL_law 1140 ls (vI y :: vI x :: st) h Q = tA sc iL_law 1141 ls (vI (x + y) :: st) h Q := tA_pure mB_L_law dL_law_1140 rfl
theorem rL_law_1141 : tA sc iL_law 1141 ls (vI j :: vR (some a) :: st) h Q = oz (tald sc h 0 a j) (fun v => tA sc iL_law 1142 ls (vI v :: st) h Q) := tA_iald mB_L_law dL_law_1141
theorem rL_law_1142 : tA sc iL_law 1142 [vR r, l1, l2, l3] st h Q = tA sc iL_law 1143 [vR r, l1, l2, l3] (vR r :: st) h Q := tA_pure mB_L_law dL_law_1142 rfl
theorem rL_law_1143 : tA sc iL_law 1143 [l0, l1, l2, vI x] st h Q = tA sc iL_law 1144 [l0, l1, l2, vI x] (vI x :: st) h Q := tA_pure mB_L_law dL_law_1143 rfl
theorem rL_law_1144 : tA sc iL_law 1144 ls st h Q = tA sc iL_law 1145 ls (vI (2) :: st) h Q := tA_pure mB_L_law dL_law_1144 rfl
theorem rL_law_1145 : tA sc iL_law 1145 ls (vI y :: vI x :: st) h Q = tA sc iL_law 1146 ls (vI (x + y) :: st) h Q := tA_pure mB_L_law dL_law_1145 rfl
theorem rL_law_1146 : tA sc iL_law 1146 ls (vI j :: vR (some a) :: st) h Q = oz (tald sc h 0 a j) (fun v => tA sc iL_law 1147 ls (vI v :: st) h Q) := tA_iald mB_L_law dL_law_1146
theorem rL_law_1147 : tA sc iL_law 1147 [vR r, l1, l2, l3] st h Q = tA sc iL_law 1148 [vR r, l1, l2, l3] (vR r :: st) h Q := tA_pure mB_L_law dL_law_1147 rfl
theorem rL_law_1148 : tA sc iL_law 1148 [l0, l1, l2, vI x] st h Q = tA sc iL_law 1149 [l0, l1, l2, vI x] (vI x :: st) h Q := tA_pure mB_L_law dL_law_1148 rfl
theorem rL_law_1149 : tA sc iL_law 1149 ls st h Q = tA sc iL_law 1150 ls (vI (3) :: st) h Q := tA_pure mB_L_law dL_law_1149 rfl
theorem rL_law_1150 : tA sc iL_law 1150 ls (vI y :: vI x :: st) h Q = tA sc iL_law 1151 ls (vI (x + y) :: st) h Q := tA_pure mB_L_law dL_law_1150 rfl
theorem rL_law_1151 : tA sc iL_law 1151 ls (vI j :: vR (some a) :: st) h Q = oz (tald sc h 0 a j) (fun v => tA sc iL_law 1152 ls (vI v :: st) h Q) := tA_iald mB_L_law dL_law_1151
theorem rL_law_1152 (hci : tcl h o = some 11) : tA sc iL_law 1152 ls [vI p2, vI p1, vI p0, vR (some o), s0] h Q = tA sc iX11_alterRow 0 [vR (some o), vI p0, vI p1, vI p2, vU] [] h (fun v h1 => tA sc iL_law 1155 ls (tpu v [s0]) h1 Q) := tA_cV mB_L_law mO_L_law dL_law_1152 cT_12_142 rfl (Nat.le_of_ble_eq_true rfl) rfl rfl rfl hci
theorem rL_law_1155 : tA sc iL_law 1155 ls (vI y :: vI x :: st) h Q = (if x = y then tA sc iL_law 1546 ls st h Q else tA sc iL_law 1158 ls st h Q) := tA_if mB_L_law dL_law_1155 (fun _ _ _ _ => rfl) rfl
theorem rL_law_1158 : tA sc iL_law 1158 ls st h Q = tA sc iL_law 1159 ls (vI (0) :: st) h Q := tA_pure mB_L_law dL_law_1158 rfl
theorem rL_law_1159 : tA sc iL_law 1159 ls [vI x] h Q = ((x = 0 ∨ x = 1) ∧ Q (some (vI x)) h) := tA_retz mB_L_law dL_law_1159 rfl
theorem rL_law_1160 : tA sc iL_law 1160 [l0, vR r, l2, l3] st h Q = tA sc iL_law 1161 [l0, vR r, l2, l3] (vR r :: st) h Q := tA_pure mB_L_law dL_law_1160 rfl
theorem rL_law_1161 (hci : tcl h o = some 10) : tA sc iL_law 1161 ls [vR (some o)] h Q = tA sc iX10_judge 0 [vR (some o), vU, vU] [] h (fun v h1 => tA sc iL_law 1164 ls (tpu v []) h1 Q) := tA_cV mB_L_law mO_L_law dL_law_1161 cT_12_143 rfl (Nat.le_of_ble_eq_true rfl) rfl rfl rfl hci
theorem rL_law_1164 : tA sc iL_law 1164 [l0, l1, vR r, l3] st h Q = tA sc iL_law 1165 [l0, l1, vR r, l3] (vR r :: st) h Q := tA_pure mB_L_law dL_law_1164 rfl
theorem rL_law_1165 (hci : tcl h o = some 11) : tA sc iL_law 1165 ls [vR (some o), s0] h Q = tA sc iX11_judge 0 [vR (some o), vU, vU, vU] [] h (fun v h1 => tA sc iL_law 1168 ls (tpu v [s0]) h1 Q) := tA_cV mB_L_law mO_L_law dL_law_1165 cT_12_146 rfl (Nat.le_of_ble_eq_true rfl) rfl rfl rfl hci
theorem rL_law_1168 : tA sc iL_law 1168 ls (vI y :: vI x :: st) h Q = (if x = y then tA sc iL_law 1546 ls st h Q else tA sc iL_law 1171 ls st h Q) := tA_if mB_L_law dL_law_1168 (fun _ _ _ _ => rfl) rfl
theorem rL_law_1171 : tA sc iL_law 1171 ls st h Q = tA sc iL_law 1172 ls (vI (0) :: st) h Q := tA_pure mB_L_law dL_law_1171 rfl
theorem rL_law_1172 : tA sc iL_law 1172 ls [vI x] h Q = ((x = 0 ∨ x = 1) ∧ Q (some (vI x)) h) := tA_retz mB_L_law dL_law_1172 rfl
theorem rL_law_1173 : tA sc iL_law 1173 [l0, vR r, l2, l3] st h Q = tA sc iL_law 1174 [l0, vR r, l2, l3] (vR r :: st) h Q := tA_pure mB_L_law dL_law_1173 rfl
theorem rL_law_1174 : tA sc iL_law 1174 [vR r, l1, l2, l3] st h Q = tA sc iL_law 1175 [vR r, l1, l2, l3] (vR r :: st) h Q := tA_pure mB_L_law dL_law_1174 rfl
theorem rL_law_1175 : tA sc iL_law 1175 [l0, l1, l2, vI x] st h Q = tA sc iL_law 1176 [l0, l1, l2, vI x] (vI x :: st) h Q := tA_pure mB_L_law dL_law_1175 rfl
theorem rL_law_1176 : tA sc iL_law 1176 ls st h Q = tA sc iL_law 1177 ls (vI (1) :: st) h Q := tA_pure mB_L_law dL_law_1176 rfl
theorem rL_law_1177 : tA sc iL_law 1177 ls (vI y :: vI x :: st) h Q = tA sc iL_law 1178 ls (vI (x + y) :: st) h Q := tA_pure mB_L_law dL_law_1177 rfl
theorem rL_law_1178 : tA sc iL_law 1178 ls (vI j :: vR (some a) :: st) h Q = oz (tald sc h 0 a j) (fun v => tA sc iL_law 1179 ls (vI v :: st) h Q) := tA_iald mB_L_law dL_law_1178
theorem rL_law_1179 : tA sc iL_law 1179 [vR r, l1, l2, l3] st h Q = tA sc iL_law 1180 [vR r, l1, l2, l3] (vR r :: st) h Q := tA_pure mB_L_law dL_law_1179 rfl
theorem rL_law_1180 : tA sc iL_law 1180 [l0, l1, l2, vI x] st h Q = tA sc iL_law 1181 [l0, l1, l2, vI x] (vI x :: st) h Q := tA_pure mB_L_law dL_law_1180 rfl
theorem rL_law_1181 : tA sc iL_law 1181 ls st h Q = tA sc iL_law 1182 ls (vI (2) :: st) h Q := tA_pure mB_L_law dL_law_1181 rfl
theorem rL_law_1182 : tA sc iL_law 1182 ls (vI y :: vI x :: st) h Q = tA sc iL_law 1183 ls (vI (x + y) :: st) h Q := tA_pure mB_L_law dL_law_1182 rfl
theorem rL_law_1183 : tA sc iL_law 1183 ls (vI j :: vR (some a) :: st) h Q = oz (tald sc h 0 a j) (fun v => tA sc iL_law 1184 ls (vI v :: st) h Q) := tA_iald mB_L_law dL_law_1183
theorem rL_law_1184 : tA sc iL_law 1184 [vR r, l1, l2, l3] st h Q = tA sc iL_law 1185 [vR r, l1, l2, l3] (vR r :: st) h Q := tA_pure mB_L_law dL_law_1184 rfl
theorem rL_law_1185 : tA sc iL_law 1185 [l0, l1, l2, vI x] st h Q = tA sc iL_law 1186 [l0, l1, l2, vI x] (vI x :: st) h Q := tA_pure mB_L_law dL_law_1185 rfl
theorem rL_law_1186 : tA sc iL_law 1186 ls st h Q = tA sc iL_law 1187 ls (vI (3) :: st) h Q := tA_pure mB_L_law dL_law_1186 rfl
theorem rL_law_1187 : tA sc iL_law 1187 ls (vI y :: vI x :: st) h Q = tA sc iL_law 1188 ls (vI (x + y) :: st) h Q := tA_pure mB_L_law dL_law_1187 rfl
theorem rL_law_1188 : tA sc iL_law 1188 ls (vI j :: vR (some a) :: st) h Q = oz (tald sc h 0 a j) (fun v => tA sc iL_law 1189 ls (vI v :: st) h Q) := tA_iald mB_L_law dL_law_1188
theorem rL_law_1189 : tA sc iL_law 1189 [vR r, l1, l2, l3] st h Q = tA sc iL_law 1190 [vR r, l1, l2, l3] (vR r :: st) h Q := tA_pure mB_L_law dL_law_1189 rfl
theorem rL_law_1190 : tA sc iL_law 1190 [l0, l1, l2, vI x] st h Q = tA sc iL_law 1191 [l0, l1, l2, vI x] (vI x :: st) h Q := tA_pure mB_L_law dL_law_1190 rfl
theorem rL_law_1191 : tA sc iL_law 1191 ls st h Q = tA sc iL_law 1192 ls (vI (4) :: st) h Q := tA_pure mB_L_law dL_law_1191 rfl
theorem rL_law_1192 : tA sc iL_law 1192 ls (vI y :: vI x :: st) h Q = tA sc iL_law 1193 ls (vI (x + y) :: st) h Q := tA_pure mB_L_law dL_law_1192 rfl
theorem rL_law_1193 : tA sc iL_law 1193 ls (vI j :: vR (some a) :: st) h Q = oz (tald sc h 0 a j) (fun v => tA sc iL_law 1194 ls (vI v :: st) h Q) := tA_iald mB_L_law dL_law_1193
theorem rL_law_1194 (hci : tcl h o = some 10) : tA sc iL_law 1194 ls [vI p3, vI p2, vI p1, vI p0, vR (some o)] h Q = tA sc iX10_worths 0 [vR (some o), vI p0, vI p1, vI p2, vI p3, vU, vU, vU] [] h (fun v h1 => tA sc iL_law 1197 ls (tpu v []) h1 Q) := tA_cV mB_L_law mO_L_law dL_law_1194 cT_12_147 rfl (Nat.le_of_ble_eq_true rfl) rfl rfl rfl hci
theorem rL_law_1197 : tA sc iL_law 1197 [l0, l1, vR r, l3] st h Q = tA sc iL_law 1198 [l0, l1, vR r, l3] (vR r :: st) h Q := tA_pure mB_L_law dL_law_1197 rfl
theorem rL_law_1198 : tA sc iL_law 1198 [vR r, l1, l2, l3] st h Q = tA sc iL_law 1199 [vR r, l1, l2, l3] (vR r :: st) h Q := tA_pure mB_L_law dL_law_1198 rfl
theorem rL_law_1199 : tA sc iL_law 1199 [l0, l1, l2, vI x] st h Q = tA sc iL_law 1200 [l0, l1, l2, vI x] (vI x :: st) h Q := tA_pure mB_L_law dL_law_1199 rfl
theorem rL_law_1200 : tA sc iL_law 1200 ls st h Q = tA sc iL_law 1201 ls (vI (1) :: st) h Q := tA_pure mB_L_law dL_law_1200 rfl
theorem rL_law_1201 : tA sc iL_law 1201 ls (vI y :: vI x :: st) h Q = tA sc iL_law 1202 ls (vI (x + y) :: st) h Q := tA_pure mB_L_law dL_law_1201 rfl
theorem rL_law_1202 : tA sc iL_law 1202 ls (vI j :: vR (some a) :: st) h Q = oz (tald sc h 0 a j) (fun v => tA sc iL_law 1203 ls (vI v :: st) h Q) := tA_iald mB_L_law dL_law_1202
theorem rL_law_1203 : tA sc iL_law 1203 [vR r, l1, l2, l3] st h Q = tA sc iL_law 1204 [vR r, l1, l2, l3] (vR r :: st) h Q := tA_pure mB_L_law dL_law_1203 rfl
theorem rL_law_1204 : tA sc iL_law 1204 [l0, l1, l2, vI x] st h Q = tA sc iL_law 1205 [l0, l1, l2, vI x] (vI x :: st) h Q := tA_pure mB_L_law dL_law_1204 rfl
theorem rL_law_1205 : tA sc iL_law 1205 ls st h Q = tA sc iL_law 1206 ls (vI (2) :: st) h Q := tA_pure mB_L_law dL_law_1205 rfl
theorem rL_law_1206 : tA sc iL_law 1206 ls (vI y :: vI x :: st) h Q = tA sc iL_law 1207 ls (vI (x + y) :: st) h Q := tA_pure mB_L_law dL_law_1206 rfl
theorem rL_law_1207 : tA sc iL_law 1207 ls (vI j :: vR (some a) :: st) h Q = oz (tald sc h 0 a j) (fun v => tA sc iL_law 1208 ls (vI v :: st) h Q) := tA_iald mB_L_law dL_law_1207
theorem rL_law_1208 : tA sc iL_law 1208 [vR r, l1, l2, l3] st h Q = tA sc iL_law 1209 [vR r, l1, l2, l3] (vR r :: st) h Q := tA_pure mB_L_law dL_law_1208 rfl
theorem rL_law_1209 : tA sc iL_law 1209 [l0, l1, l2, vI x] st h Q = tA sc iL_law 1210 [l0, l1, l2, vI x] (vI x :: st) h Q := tA_pure mB_L_law dL_law_1209 rfl
theorem rL_law_1210 : tA sc iL_law 1210 ls st h Q = tA sc iL_law 1211 ls (vI (3) :: st) h Q := tA_pure mB_L_law dL_law_1210 rfl
theorem rL_law_1211 : tA sc iL_law 1211 ls (vI y :: vI x :: st) h Q = tA sc iL_law 1212 ls (vI (x + y) :: st) h Q := tA_pure mB_L_law dL_law_1211 rfl
theorem rL_law_1212 : tA sc iL_law 1212 ls (vI j :: vR (some a) :: st) h Q = oz (tald sc h 0 a j) (fun v => tA sc iL_law 1213 ls (vI v :: st) h Q) := tA_iald mB_L_law dL_law_1212
theorem rL_law_1213 : tA sc iL_law 1213 [vR r, l1, l2, l3] st h Q = tA sc iL_law 1214 [vR r, l1, l2, l3] (vR r :: st) h Q := tA_pure mB_L_law dL_law_1213 rfl
theorem rL_law_1214 : tA sc iL_law 1214 [l0, l1, l2, vI x] st h Q = tA sc iL_law 1215 [l0, l1, l2, vI x] (vI x :: st) h Q := tA_pure mB_L_law dL_law_1214 rfl
theorem rL_law_1215 : tA sc iL_law 1215 ls st h Q = tA sc iL_law 1216 ls (vI (4) :: st) h Q := tA_pure mB_L_law dL_law_1215 rfl
theorem rL_law_1216 : tA sc iL_law 1216 ls (vI y :: vI x :: st) h Q = tA sc iL_law 1217 ls (vI (x + y) :: st) h Q := tA_pure mB_L_law dL_law_1216 rfl
theorem rL_law_1217 : tA sc iL_law 1217 ls (vI j :: vR (some a) :: st) h Q = oz (tald sc h 0 a j) (fun v => tA sc iL_law 1218 ls (vI v :: st) h Q) := tA_iald mB_L_law dL_law_1217
theorem rL_law_1218 (hci : tcl h o = some 11) : tA sc iL_law 1218 ls [vI p3, vI p2, vI p1, vI p0, vR (some o), s0] h Q = tA sc iX11_worths 0 [vR (some o), vI p0, vI p1, vI p2, vI p3, vU, vU, vU, vU] [] h (fun v h1 => tA sc iL_law 1221 ls (tpu v [s0]) h1 Q) := tA_cV mB_L_law mO_L_law dL_law_1218 cT_12_151 rfl (Nat.le_of_ble_eq_true rfl) rfl rfl rfl hci
theorem rL_law_1221 : tA sc iL_law 1221 ls (vI y :: vI x :: st) h Q = (if x = y then tA sc iL_law 1546 ls st h Q else tA sc iL_law 1224 ls st h Q) := tA_if mB_L_law dL_law_1221 (fun _ _ _ _ => rfl) rfl
theorem rL_law_1224 : tA sc iL_law 1224 ls st h Q = tA sc iL_law 1225 ls (vI (0) :: st) h Q := tA_pure mB_L_law dL_law_1224 rfl
theorem rL_law_1225 : tA sc iL_law 1225 ls [vI x] h Q = ((x = 0 ∨ x = 1) ∧ Q (some (vI x)) h) := tA_retz mB_L_law dL_law_1225 rfl
theorem rL_law_1226 : tA sc iL_law 1226 [l0, vR r, l2, l3] st h Q = tA sc iL_law 1227 [l0, vR r, l2, l3] (vR r :: st) h Q := tA_pure mB_L_law dL_law_1226 rfl
theorem rL_law_1227 : tA sc iL_law 1227 [vR r, l1, l2, l3] st h Q = tA sc iL_law 1228 [vR r, l1, l2, l3] (vR r :: st) h Q := tA_pure mB_L_law dL_law_1227 rfl
theorem rL_law_1228 : tA sc iL_law 1228 [l0, l1, l2, vI x] st h Q = tA sc iL_law 1229 [l0, l1, l2, vI x] (vI x :: st) h Q := tA_pure mB_L_law dL_law_1228 rfl
theorem rL_law_1229 : tA sc iL_law 1229 ls st h Q = tA sc iL_law 1230 ls (vI (1) :: st) h Q := tA_pure mB_L_law dL_law_1229 rfl
theorem rL_law_1230 : tA sc iL_law 1230 ls (vI y :: vI x :: st) h Q = tA sc iL_law 1231 ls (vI (x + y) :: st) h Q := tA_pure mB_L_law dL_law_1230 rfl
theorem rL_law_1231 : tA sc iL_law 1231 ls (vI j :: vR (some a) :: st) h Q = oz (tald sc h 0 a j) (fun v => tA sc iL_law 1232 ls (vI v :: st) h Q) := tA_iald mB_L_law dL_law_1231
theorem rL_law_1232 : tA sc iL_law 1232 [vR r, l1, l2, l3] st h Q = tA sc iL_law 1233 [vR r, l1, l2, l3] (vR r :: st) h Q := tA_pure mB_L_law dL_law_1232 rfl
theorem rL_law_1233 : tA sc iL_law 1233 [l0, l1, l2, vI x] st h Q = tA sc iL_law 1234 [l0, l1, l2, vI x] (vI x :: st) h Q := tA_pure mB_L_law dL_law_1233 rfl
theorem rL_law_1234 : tA sc iL_law 1234 ls st h Q = tA sc iL_law 1235 ls (vI (2) :: st) h Q := tA_pure mB_L_law dL_law_1234 rfl
theorem rL_law_1235 : tA sc iL_law 1235 ls (vI y :: vI x :: st) h Q = tA sc iL_law 1236 ls (vI (x + y) :: st) h Q := tA_pure mB_L_law dL_law_1235 rfl
theorem rL_law_1236 : tA sc iL_law 1236 ls (vI j :: vR (some a) :: st) h Q = oz (tald sc h 0 a j) (fun v => tA sc iL_law 1237 ls (vI v :: st) h Q) := tA_iald mB_L_law dL_law_1236
theorem rL_law_1237 : tA sc iL_law 1237 [vR r, l1, l2, l3] st h Q = tA sc iL_law 1238 [vR r, l1, l2, l3] (vR r :: st) h Q := tA_pure mB_L_law dL_law_1237 rfl
theorem rL_law_1238 : tA sc iL_law 1238 [l0, l1, l2, vI x] st h Q = tA sc iL_law 1239 [l0, l1, l2, vI x] (vI x :: st) h Q := tA_pure mB_L_law dL_law_1238 rfl
theorem rL_law_1239 : tA sc iL_law 1239 ls st h Q = tA sc iL_law 1240 ls (vI (3) :: st) h Q := tA_pure mB_L_law dL_law_1239 rfl
theorem rL_law_1240 : tA sc iL_law 1240 ls (vI y :: vI x :: st) h Q = tA sc iL_law 1241 ls (vI (x + y) :: st) h Q := tA_pure mB_L_law dL_law_1240 rfl
theorem rL_law_1241 : tA sc iL_law 1241 ls (vI j :: vR (some a) :: st) h Q = oz (tald sc h 0 a j) (fun v => tA sc iL_law 1242 ls (vI v :: st) h Q) := tA_iald mB_L_law dL_law_1241
theorem rL_law_1242 (hci : tcl h o = some 10) : tA sc iL_law 1242 ls [vI p2, vI p1, vI p0, vR (some o)] h Q = tA sc iX10_sheet 0 [vR (some o), vI p0, vI p1, vI p2] [] h (fun v h1 => tA sc iL_law 1245 ls (tpu v []) h1 Q) := tA_cV mB_L_law mO_L_law dL_law_1242 cT_12_152 rfl (Nat.le_of_ble_eq_true rfl) rfl rfl rfl hci
theorem rL_law_1245 : tA sc iL_law 1245 [l0, l1, vR r, l3] st h Q = tA sc iL_law 1246 [l0, l1, vR r, l3] (vR r :: st) h Q := tA_pure mB_L_law dL_law_1245 rfl
theorem rL_law_1246 : tA sc iL_law 1246 [vR r, l1, l2, l3] st h Q = tA sc iL_law 1247 [vR r, l1, l2, l3] (vR r :: st) h Q := tA_pure mB_L_law dL_law_1246 rfl
theorem rL_law_1247 : tA sc iL_law 1247 [l0, l1, l2, vI x] st h Q = tA sc iL_law 1248 [l0, l1, l2, vI x] (vI x :: st) h Q := tA_pure mB_L_law dL_law_1247 rfl
theorem rL_law_1248 : tA sc iL_law 1248 ls st h Q = tA sc iL_law 1249 ls (vI (1) :: st) h Q := tA_pure mB_L_law dL_law_1248 rfl
theorem rL_law_1249 : tA sc iL_law 1249 ls (vI y :: vI x :: st) h Q = tA sc iL_law 1250 ls (vI (x + y) :: st) h Q := tA_pure mB_L_law dL_law_1249 rfl
theorem rL_law_1250 : tA sc iL_law 1250 ls (vI j :: vR (some a) :: st) h Q = oz (tald sc h 0 a j) (fun v => tA sc iL_law 1251 ls (vI v :: st) h Q) := tA_iald mB_L_law dL_law_1250
theorem rL_law_1251 : tA sc iL_law 1251 [vR r, l1, l2, l3] st h Q = tA sc iL_law 1252 [vR r, l1, l2, l3] (vR r :: st) h Q := tA_pure mB_L_law dL_law_1251 rfl
theorem rL_law_1252 : tA sc iL_law 1252 [l0, l1, l2, vI x] st h Q = tA sc iL_law 1253 [l0, l1, l2, vI x] (vI x :: st) h Q := tA_pure mB_L_law dL_law_1252 rfl
theorem rL_law_1253 : tA sc iL_law 1253 ls st h Q = tA sc iL_law 1254 ls (vI (2) :: st) h Q := tA_pure mB_L_law dL_law_1253 rfl
theorem rL_law_1254 : tA sc iL_law 1254 ls (vI y :: vI x :: st) h Q = tA sc iL_law 1255 ls (vI (x + y) :: st) h Q := tA_pure mB_L_law dL_law_1254 rfl
theorem rL_law_1255 : tA sc iL_law 1255 ls (vI j :: vR (some a) :: st) h Q = oz (tald sc h 0 a j) (fun v => tA sc iL_law 1256 ls (vI v :: st) h Q) := tA_iald mB_L_law dL_law_1255
theorem rL_law_1256 : tA sc iL_law 1256 [vR r, l1, l2, l3] st h Q = tA sc iL_law 1257 [vR r, l1, l2, l3] (vR r :: st) h Q := tA_pure mB_L_law dL_law_1256 rfl
theorem rL_law_1257 : tA sc iL_law 1257 [l0, l1, l2, vI x] st h Q = tA sc iL_law 1258 [l0, l1, l2, vI x] (vI x :: st) h Q := tA_pure mB_L_law dL_law_1257 rfl
theorem rL_law_1258 : tA sc iL_law 1258 ls st h Q = tA sc iL_law 1259 ls (vI (3) :: st) h Q := tA_pure mB_L_law dL_law_1258 rfl
theorem rL_law_1259 : tA sc iL_law 1259 ls (vI y :: vI x :: st) h Q = tA sc iL_law 1260 ls (vI (x + y) :: st) h Q := tA_pure mB_L_law dL_law_1259 rfl
theorem rL_law_1260 : tA sc iL_law 1260 ls (vI j :: vR (some a) :: st) h Q = oz (tald sc h 0 a j) (fun v => tA sc iL_law 1261 ls (vI v :: st) h Q) := tA_iald mB_L_law dL_law_1260
theorem rL_law_1261 (hci : tcl h o = some 11) : tA sc iL_law 1261 ls [vI p2, vI p1, vI p0, vR (some o), s0] h Q = tA sc iX11_sheet 0 [vR (some o), vI p0, vI p1, vI p2, vU] [] h (fun v h1 => tA sc iL_law 1264 ls (tpu v [s0]) h1 Q) := tA_cV mB_L_law mO_L_law dL_law_1261 cT_12_155 rfl (Nat.le_of_ble_eq_true rfl) rfl rfl rfl hci
theorem rL_law_1264 : tA sc iL_law 1264 ls (vI y :: vI x :: st) h Q = (if x = y then tA sc iL_law 1546 ls st h Q else tA sc iL_law 1267 ls st h Q) := tA_if mB_L_law dL_law_1264 (fun _ _ _ _ => rfl) rfl
theorem rL_law_1267 : tA sc iL_law 1267 ls st h Q = tA sc iL_law 1268 ls (vI (0) :: st) h Q := tA_pure mB_L_law dL_law_1267 rfl
theorem rL_law_1268 : tA sc iL_law 1268 ls [vI x] h Q = ((x = 0 ∨ x = 1) ∧ Q (some (vI x)) h) := tA_retz mB_L_law dL_law_1268 rfl
theorem rL_law_1269 : tA sc iL_law 1269 [l0, vR r, l2, l3] st h Q = tA sc iL_law 1270 [l0, vR r, l2, l3] (vR r :: st) h Q := tA_pure mB_L_law dL_law_1269 rfl
theorem rL_law_1270 : tA sc iL_law 1270 [vR r, l1, l2, l3] st h Q = tA sc iL_law 1271 [vR r, l1, l2, l3] (vR r :: st) h Q := tA_pure mB_L_law dL_law_1270 rfl
theorem rL_law_1271 : tA sc iL_law 1271 [l0, l1, l2, vI x] st h Q = tA sc iL_law 1272 [l0, l1, l2, vI x] (vI x :: st) h Q := tA_pure mB_L_law dL_law_1271 rfl
theorem rL_law_1272 : tA sc iL_law 1272 ls st h Q = tA sc iL_law 1273 ls (vI (1) :: st) h Q := tA_pure mB_L_law dL_law_1272 rfl
theorem rL_law_1273 : tA sc iL_law 1273 ls (vI y :: vI x :: st) h Q = tA sc iL_law 1274 ls (vI (x + y) :: st) h Q := tA_pure mB_L_law dL_law_1273 rfl
theorem rL_law_1274 : tA sc iL_law 1274 ls (vI j :: vR (some a) :: st) h Q = oz (tald sc h 0 a j) (fun v => tA sc iL_law 1275 ls (vI v :: st) h Q) := tA_iald mB_L_law dL_law_1274
theorem rL_law_1275 : tA sc iL_law 1275 [vR r, l1, l2, l3] st h Q = tA sc iL_law 1276 [vR r, l1, l2, l3] (vR r :: st) h Q := tA_pure mB_L_law dL_law_1275 rfl
theorem rL_law_1276 : tA sc iL_law 1276 [l0, l1, l2, vI x] st h Q = tA sc iL_law 1277 [l0, l1, l2, vI x] (vI x :: st) h Q := tA_pure mB_L_law dL_law_1276 rfl
theorem rL_law_1277 : tA sc iL_law 1277 ls st h Q = tA sc iL_law 1278 ls (vI (2) :: st) h Q := tA_pure mB_L_law dL_law_1277 rfl
theorem rL_law_1278 : tA sc iL_law 1278 ls (vI y :: vI x :: st) h Q = tA sc iL_law 1279 ls (vI (x + y) :: st) h Q := tA_pure mB_L_law dL_law_1278 rfl
theorem rL_law_1279 : tA sc iL_law 1279 ls (vI j :: vR (some a) :: st) h Q = oz (tald sc h 0 a j) (fun v => tA sc iL_law 1280 ls (vI v :: st) h Q) := tA_iald mB_L_law dL_law_1279
theorem rL_law_1280 : tA sc iL_law 1280 [vR r, l1, l2, l3] st h Q = tA sc iL_law 1281 [vR r, l1, l2, l3] (vR r :: st) h Q := tA_pure mB_L_law dL_law_1280 rfl
theorem rL_law_1281 : tA sc iL_law 1281 [l0, l1, l2, vI x] st h Q = tA sc iL_law 1282 [l0, l1, l2, vI x] (vI x :: st) h Q := tA_pure mB_L_law dL_law_1281 rfl
theorem rL_law_1282 : tA sc iL_law 1282 ls st h Q = tA sc iL_law 1283 ls (vI (3) :: st) h Q := tA_pure mB_L_law dL_law_1282 rfl
theorem rL_law_1283 : tA sc iL_law 1283 ls (vI y :: vI x :: st) h Q = tA sc iL_law 1284 ls (vI (x + y) :: st) h Q := tA_pure mB_L_law dL_law_1283 rfl
theorem rL_law_1284 : tA sc iL_law 1284 ls (vI j :: vR (some a) :: st) h Q = oz (tald sc h 0 a j) (fun v => tA sc iL_law 1285 ls (vI v :: st) h Q) := tA_iald mB_L_law dL_law_1284
theorem rL_law_1285 (hci : tcl h o = some 10) : tA sc iL_law 1285 ls [vI p2, vI p1, vI p0, vR (some o)] h Q = tA sc iX10_put 0 [vR (some o), vI p0, vI p1, vI p2, vU] [] h (fun v h1 => tA sc iL_law 1288 ls (tpu v []) h1 Q) := tA_cV mB_L_law mO_L_law dL_law_1285 cT_12_156 rfl (Nat.le_of_ble_eq_true rfl) rfl rfl rfl hci
theorem rL_law_1288 : tA sc iL_law 1288 [l0, l1, vR r, l3] st h Q = tA sc iL_law 1289 [l0, l1, vR r, l3] (vR r :: st) h Q := tA_pure mB_L_law dL_law_1288 rfl
theorem rL_law_1289 : tA sc iL_law 1289 [vR r, l1, l2, l3] st h Q = tA sc iL_law 1290 [vR r, l1, l2, l3] (vR r :: st) h Q := tA_pure mB_L_law dL_law_1289 rfl
theorem rL_law_1290 : tA sc iL_law 1290 [l0, l1, l2, vI x] st h Q = tA sc iL_law 1291 [l0, l1, l2, vI x] (vI x :: st) h Q := tA_pure mB_L_law dL_law_1290 rfl
theorem rL_law_1291 : tA sc iL_law 1291 ls st h Q = tA sc iL_law 1292 ls (vI (1) :: st) h Q := tA_pure mB_L_law dL_law_1291 rfl
theorem rL_law_1292 : tA sc iL_law 1292 ls (vI y :: vI x :: st) h Q = tA sc iL_law 1293 ls (vI (x + y) :: st) h Q := tA_pure mB_L_law dL_law_1292 rfl
theorem rL_law_1293 : tA sc iL_law 1293 ls (vI j :: vR (some a) :: st) h Q = oz (tald sc h 0 a j) (fun v => tA sc iL_law 1294 ls (vI v :: st) h Q) := tA_iald mB_L_law dL_law_1293
theorem rL_law_1294 : tA sc iL_law 1294 [vR r, l1, l2, l3] st h Q = tA sc iL_law 1295 [vR r, l1, l2, l3] (vR r :: st) h Q := tA_pure mB_L_law dL_law_1294 rfl
theorem rL_law_1295 : tA sc iL_law 1295 [l0, l1, l2, vI x] st h Q = tA sc iL_law 1296 [l0, l1, l2, vI x] (vI x :: st) h Q := tA_pure mB_L_law dL_law_1295 rfl
theorem rL_law_1296 : tA sc iL_law 1296 ls st h Q = tA sc iL_law 1297 ls (vI (2) :: st) h Q := tA_pure mB_L_law dL_law_1296 rfl
theorem rL_law_1297 : tA sc iL_law 1297 ls (vI y :: vI x :: st) h Q = tA sc iL_law 1298 ls (vI (x + y) :: st) h Q := tA_pure mB_L_law dL_law_1297 rfl
theorem rL_law_1298 : tA sc iL_law 1298 ls (vI j :: vR (some a) :: st) h Q = oz (tald sc h 0 a j) (fun v => tA sc iL_law 1299 ls (vI v :: st) h Q) := tA_iald mB_L_law dL_law_1298
theorem rL_law_1299 : tA sc iL_law 1299 [vR r, l1, l2, l3] st h Q = tA sc iL_law 1300 [vR r, l1, l2, l3] (vR r :: st) h Q := tA_pure mB_L_law dL_law_1299 rfl
theorem rL_law_1300 : tA sc iL_law 1300 [l0, l1, l2, vI x] st h Q = tA sc iL_law 1301 [l0, l1, l2, vI x] (vI x :: st) h Q := tA_pure mB_L_law dL_law_1300 rfl
theorem rL_law_1301 : tA sc iL_law 1301 ls st h Q = tA sc iL_law 1302 ls (vI (3) :: st) h Q := tA_pure mB_L_law dL_law_1301 rfl
theorem rL_law_1302 : tA sc iL_law 1302 ls (vI y :: vI x :: st) h Q = tA sc iL_law 1303 ls (vI (x + y) :: st) h Q := tA_pure mB_L_law dL_law_1302 rfl
theorem rL_law_1303 : tA sc iL_law 1303 ls (vI j :: vR (some a) :: st) h Q = oz (tald sc h 0 a j) (fun v => tA sc iL_law 1304 ls (vI v :: st) h Q) := tA_iald mB_L_law dL_law_1303
theorem rL_law_1304 (hci : tcl h o = some 11) : tA sc iL_law 1304 ls [vI p2, vI p1, vI p0, vR (some o), s0] h Q = tA sc iX11_put 0 [vR (some o), vI p0, vI p1, vI p2] [] h (fun v h1 => tA sc iL_law 1307 ls (tpu v [s0]) h1 Q) := tA_cV mB_L_law mO_L_law dL_law_1304 cT_12_159 rfl (Nat.le_of_ble_eq_true rfl) rfl rfl rfl hci
theorem rL_law_1307 : tA sc iL_law 1307 ls (vI y :: vI x :: st) h Q = (if x = y then tA sc iL_law 1546 ls st h Q else tA sc iL_law 1310 ls st h Q) := tA_if mB_L_law dL_law_1307 (fun _ _ _ _ => rfl) rfl
theorem rL_law_1310 : tA sc iL_law 1310 ls st h Q = tA sc iL_law 1311 ls (vI (0) :: st) h Q := tA_pure mB_L_law dL_law_1310 rfl
theorem rL_law_1311 : tA sc iL_law 1311 ls [vI x] h Q = ((x = 0 ∨ x = 1) ∧ Q (some (vI x)) h) := tA_retz mB_L_law dL_law_1311 rfl
theorem rL_law_1312 : tA sc iL_law 1312 [l0, vR r, l2, l3] st h Q = tA sc iL_law 1313 [l0, vR r, l2, l3] (vR r :: st) h Q := tA_pure mB_L_law dL_law_1312 rfl
theorem rL_law_1313 : tA sc iL_law 1313 [vR r, l1, l2, l3] st h Q = tA sc iL_law 1314 [vR r, l1, l2, l3] (vR r :: st) h Q := tA_pure mB_L_law dL_law_1313 rfl
theorem rL_law_1314 : tA sc iL_law 1314 [l0, l1, l2, vI x] st h Q = tA sc iL_law 1315 [l0, l1, l2, vI x] (vI x :: st) h Q := tA_pure mB_L_law dL_law_1314 rfl
theorem rL_law_1315 : tA sc iL_law 1315 ls st h Q = tA sc iL_law 1316 ls (vI (1) :: st) h Q := tA_pure mB_L_law dL_law_1315 rfl
theorem rL_law_1316 : tA sc iL_law 1316 ls (vI y :: vI x :: st) h Q = tA sc iL_law 1317 ls (vI (x + y) :: st) h Q := tA_pure mB_L_law dL_law_1316 rfl
theorem rL_law_1317 : tA sc iL_law 1317 ls (vI j :: vR (some a) :: st) h Q = oz (tald sc h 0 a j) (fun v => tA sc iL_law 1318 ls (vI v :: st) h Q) := tA_iald mB_L_law dL_law_1317
theorem rL_law_1318 : tA sc iL_law 1318 [vR r, l1, l2, l3] st h Q = tA sc iL_law 1319 [vR r, l1, l2, l3] (vR r :: st) h Q := tA_pure mB_L_law dL_law_1318 rfl
theorem rL_law_1319 : tA sc iL_law 1319 [l0, l1, l2, vI x] st h Q = tA sc iL_law 1320 [l0, l1, l2, vI x] (vI x :: st) h Q := tA_pure mB_L_law dL_law_1319 rfl
theorem rL_law_1320 : tA sc iL_law 1320 ls st h Q = tA sc iL_law 1321 ls (vI (2) :: st) h Q := tA_pure mB_L_law dL_law_1320 rfl
theorem rL_law_1321 : tA sc iL_law 1321 ls (vI y :: vI x :: st) h Q = tA sc iL_law 1322 ls (vI (x + y) :: st) h Q := tA_pure mB_L_law dL_law_1321 rfl
theorem rL_law_1322 : tA sc iL_law 1322 ls (vI j :: vR (some a) :: st) h Q = oz (tald sc h 0 a j) (fun v => tA sc iL_law 1323 ls (vI v :: st) h Q) := tA_iald mB_L_law dL_law_1322
theorem rL_law_1323 : tA sc iL_law 1323 [vR r, l1, l2, l3] st h Q = tA sc iL_law 1324 [vR r, l1, l2, l3] (vR r :: st) h Q := tA_pure mB_L_law dL_law_1323 rfl
theorem rL_law_1324 : tA sc iL_law 1324 [l0, l1, l2, vI x] st h Q = tA sc iL_law 1325 [l0, l1, l2, vI x] (vI x :: st) h Q := tA_pure mB_L_law dL_law_1324 rfl
theorem rL_law_1325 : tA sc iL_law 1325 ls st h Q = tA sc iL_law 1326 ls (vI (3) :: st) h Q := tA_pure mB_L_law dL_law_1325 rfl
theorem rL_law_1326 : tA sc iL_law 1326 ls (vI y :: vI x :: st) h Q = tA sc iL_law 1327 ls (vI (x + y) :: st) h Q := tA_pure mB_L_law dL_law_1326 rfl
theorem rL_law_1327 : tA sc iL_law 1327 ls (vI j :: vR (some a) :: st) h Q = oz (tald sc h 0 a j) (fun v => tA sc iL_law 1328 ls (vI v :: st) h Q) := tA_iald mB_L_law dL_law_1327
theorem rL_law_1328 (hci : tcl h o = some 10) : tA sc iL_law 1328 ls [vI p2, vI p1, vI p0, vR (some o)] h Q = tA sc iX10_item 0 [vR (some o), vI p0, vI p1, vI p2, vU] [] h (fun v h1 => tA sc iL_law 1331 ls (tpu v []) h1 Q) := tA_cV mB_L_law mO_L_law dL_law_1328 cT_12_160 rfl (Nat.le_of_ble_eq_true rfl) rfl rfl rfl hci
theorem rL_law_1331 : tA sc iL_law 1331 [l0, l1, vR r, l3] st h Q = tA sc iL_law 1332 [l0, l1, vR r, l3] (vR r :: st) h Q := tA_pure mB_L_law dL_law_1331 rfl
theorem rL_law_1332 : tA sc iL_law 1332 [vR r, l1, l2, l3] st h Q = tA sc iL_law 1333 [vR r, l1, l2, l3] (vR r :: st) h Q := tA_pure mB_L_law dL_law_1332 rfl
theorem rL_law_1333 : tA sc iL_law 1333 [l0, l1, l2, vI x] st h Q = tA sc iL_law 1334 [l0, l1, l2, vI x] (vI x :: st) h Q := tA_pure mB_L_law dL_law_1333 rfl
theorem rL_law_1334 : tA sc iL_law 1334 ls st h Q = tA sc iL_law 1335 ls (vI (1) :: st) h Q := tA_pure mB_L_law dL_law_1334 rfl
theorem rL_law_1335 : tA sc iL_law 1335 ls (vI y :: vI x :: st) h Q = tA sc iL_law 1336 ls (vI (x + y) :: st) h Q := tA_pure mB_L_law dL_law_1335 rfl
theorem rL_law_1336 : tA sc iL_law 1336 ls (vI j :: vR (some a) :: st) h Q = oz (tald sc h 0 a j) (fun v => tA sc iL_law 1337 ls (vI v :: st) h Q) := tA_iald mB_L_law dL_law_1336
theorem rL_law_1337 : tA sc iL_law 1337 [vR r, l1, l2, l3] st h Q = tA sc iL_law 1338 [vR r, l1, l2, l3] (vR r :: st) h Q := tA_pure mB_L_law dL_law_1337 rfl
theorem rL_law_1338 : tA sc iL_law 1338 [l0, l1, l2, vI x] st h Q = tA sc iL_law 1339 [l0, l1, l2, vI x] (vI x :: st) h Q := tA_pure mB_L_law dL_law_1338 rfl
theorem rL_law_1339 : tA sc iL_law 1339 ls st h Q = tA sc iL_law 1340 ls (vI (2) :: st) h Q := tA_pure mB_L_law dL_law_1339 rfl
theorem rL_law_1340 : tA sc iL_law 1340 ls (vI y :: vI x :: st) h Q = tA sc iL_law 1341 ls (vI (x + y) :: st) h Q := tA_pure mB_L_law dL_law_1340 rfl
theorem rL_law_1341 : tA sc iL_law 1341 ls (vI j :: vR (some a) :: st) h Q = oz (tald sc h 0 a j) (fun v => tA sc iL_law 1342 ls (vI v :: st) h Q) := tA_iald mB_L_law dL_law_1341
theorem rL_law_1342 : tA sc iL_law 1342 [vR r, l1, l2, l3] st h Q = tA sc iL_law 1343 [vR r, l1, l2, l3] (vR r :: st) h Q := tA_pure mB_L_law dL_law_1342 rfl
theorem rL_law_1343 : tA sc iL_law 1343 [l0, l1, l2, vI x] st h Q = tA sc iL_law 1344 [l0, l1, l2, vI x] (vI x :: st) h Q := tA_pure mB_L_law dL_law_1343 rfl
theorem rL_law_1344 : tA sc iL_law 1344 ls st h Q = tA sc iL_law 1345 ls (vI (3) :: st) h Q := tA_pure mB_L_law dL_law_1344 rfl
theorem rL_law_1345 : tA sc iL_law 1345 ls (vI y :: vI x :: st) h Q = tA sc iL_law 1346 ls (vI (x + y) :: st) h Q := tA_pure mB_L_law dL_law_1345 rfl
theorem rL_law_1346 : tA sc iL_law 1346 ls (vI j :: vR (some a) :: st) h Q = oz (tald sc h 0 a j) (fun v => tA sc iL_law 1347 ls (vI v :: st) h Q) := tA_iald mB_L_law dL_law_1346
theorem rL_law_1347 (hci : tcl h o = some 11) : tA sc iL_law 1347 ls [vI p2, vI p1, vI p0, vR (some o), s0] h Q = tA sc iX11_item 0 [vR (some o), vI p0, vI p1, vI p2, vU] [] h (fun v h1 => tA sc iL_law 1350 ls (tpu v [s0]) h1 Q) := tA_cV mB_L_law mO_L_law dL_law_1347 cT_12_163 rfl (Nat.le_of_ble_eq_true rfl) rfl rfl rfl hci
theorem rL_law_1350 : tA sc iL_law 1350 ls (vI y :: vI x :: st) h Q = (if x = y then tA sc iL_law 1546 ls st h Q else tA sc iL_law 1353 ls st h Q) := tA_if mB_L_law dL_law_1350 (fun _ _ _ _ => rfl) rfl
theorem rL_law_1353 : tA sc iL_law 1353 ls st h Q = tA sc iL_law 1354 ls (vI (0) :: st) h Q := tA_pure mB_L_law dL_law_1353 rfl
theorem rL_law_1354 : tA sc iL_law 1354 ls [vI x] h Q = ((x = 0 ∨ x = 1) ∧ Q (some (vI x)) h) := tA_retz mB_L_law dL_law_1354 rfl
theorem rL_law_1355 : tA sc iL_law 1355 [l0, vR r, l2, l3] st h Q = tA sc iL_law 1356 [l0, vR r, l2, l3] (vR r :: st) h Q := tA_pure mB_L_law dL_law_1355 rfl
theorem rL_law_1356 : tA sc iL_law 1356 [vR r, l1, l2, l3] st h Q = tA sc iL_law 1357 [vR r, l1, l2, l3] (vR r :: st) h Q := tA_pure mB_L_law dL_law_1356 rfl
theorem rL_law_1357 : tA sc iL_law 1357 [l0, l1, l2, vI x] st h Q = tA sc iL_law 1358 [l0, l1, l2, vI x] (vI x :: st) h Q := tA_pure mB_L_law dL_law_1357 rfl
theorem rL_law_1358 : tA sc iL_law 1358 ls st h Q = tA sc iL_law 1359 ls (vI (1) :: st) h Q := tA_pure mB_L_law dL_law_1358 rfl
theorem rL_law_1359 : tA sc iL_law 1359 ls (vI y :: vI x :: st) h Q = tA sc iL_law 1360 ls (vI (x + y) :: st) h Q := tA_pure mB_L_law dL_law_1359 rfl
theorem rL_law_1360 : tA sc iL_law 1360 ls (vI j :: vR (some a) :: st) h Q = oz (tald sc h 0 a j) (fun v => tA sc iL_law 1361 ls (vI v :: st) h Q) := tA_iald mB_L_law dL_law_1360
theorem rL_law_1361 : tA sc iL_law 1361 [vR r, l1, l2, l3] st h Q = tA sc iL_law 1362 [vR r, l1, l2, l3] (vR r :: st) h Q := tA_pure mB_L_law dL_law_1361 rfl
theorem rL_law_1362 : tA sc iL_law 1362 [l0, l1, l2, vI x] st h Q = tA sc iL_law 1363 [l0, l1, l2, vI x] (vI x :: st) h Q := tA_pure mB_L_law dL_law_1362 rfl
theorem rL_law_1363 : tA sc iL_law 1363 ls st h Q = tA sc iL_law 1364 ls (vI (2) :: st) h Q := tA_pure mB_L_law dL_law_1363 rfl
theorem rL_law_1364 : tA sc iL_law 1364 ls (vI y :: vI x :: st) h Q = tA sc iL_law 1365 ls (vI (x + y) :: st) h Q := tA_pure mB_L_law dL_law_1364 rfl
theorem rL_law_1365 : tA sc iL_law 1365 ls (vI j :: vR (some a) :: st) h Q = oz (tald sc h 0 a j) (fun v => tA sc iL_law 1366 ls (vI v :: st) h Q) := tA_iald mB_L_law dL_law_1365
theorem rL_law_1366 : tA sc iL_law 1366 [vR r, l1, l2, l3] st h Q = tA sc iL_law 1367 [vR r, l1, l2, l3] (vR r :: st) h Q := tA_pure mB_L_law dL_law_1366 rfl
theorem rL_law_1367 : tA sc iL_law 1367 [l0, l1, l2, vI x] st h Q = tA sc iL_law 1368 [l0, l1, l2, vI x] (vI x :: st) h Q := tA_pure mB_L_law dL_law_1367 rfl
theorem rL_law_1368 : tA sc iL_law 1368 ls st h Q = tA sc iL_law 1369 ls (vI (3) :: st) h Q := tA_pure mB_L_law dL_law_1368 rfl
theorem rL_law_1369 : tA sc iL_law 1369 ls (vI y :: vI x :: st) h Q = tA sc iL_law 1370 ls (vI (x + y) :: st) h Q := tA_pure mB_L_law dL_law_1369 rfl
theorem rL_law_1370 : tA sc iL_law 1370 ls (vI j :: vR (some a) :: st) h Q = oz (tald sc h 0 a j) (fun v => tA sc iL_law 1371 ls (vI v :: st) h Q) := tA_iald mB_L_law dL_law_1370
theorem rL_law_1371 (hci : tcl h o = some 10) : tA sc iL_law 1371 ls [vI p2, vI p1, vI p0, vR (some o)] h Q = tA sc iX10_shelf 0 [vR (some o), vI p0, vI p1, vI p2] [] h (fun v h1 => tA sc iL_law 1374 ls (tpu v []) h1 Q) := tA_cV mB_L_law mO_L_law dL_law_1371 cT_12_164 rfl (Nat.le_of_ble_eq_true rfl) rfl rfl rfl hci
theorem rL_law_1374 : tA sc iL_law 1374 [l0, l1, vR r, l3] st h Q = tA sc iL_law 1375 [l0, l1, vR r, l3] (vR r :: st) h Q := tA_pure mB_L_law dL_law_1374 rfl
theorem rL_law_1375 : tA sc iL_law 1375 [vR r, l1, l2, l3] st h Q = tA sc iL_law 1376 [vR r, l1, l2, l3] (vR r :: st) h Q := tA_pure mB_L_law dL_law_1375 rfl
theorem rL_law_1376 : tA sc iL_law 1376 [l0, l1, l2, vI x] st h Q = tA sc iL_law 1377 [l0, l1, l2, vI x] (vI x :: st) h Q := tA_pure mB_L_law dL_law_1376 rfl
theorem rL_law_1377 : tA sc iL_law 1377 ls st h Q = tA sc iL_law 1378 ls (vI (1) :: st) h Q := tA_pure mB_L_law dL_law_1377 rfl
theorem rL_law_1378 : tA sc iL_law 1378 ls (vI y :: vI x :: st) h Q = tA sc iL_law 1379 ls (vI (x + y) :: st) h Q := tA_pure mB_L_law dL_law_1378 rfl
theorem rL_law_1379 : tA sc iL_law 1379 ls (vI j :: vR (some a) :: st) h Q = oz (tald sc h 0 a j) (fun v => tA sc iL_law 1380 ls (vI v :: st) h Q) := tA_iald mB_L_law dL_law_1379
theorem rL_law_1380 : tA sc iL_law 1380 [vR r, l1, l2, l3] st h Q = tA sc iL_law 1381 [vR r, l1, l2, l3] (vR r :: st) h Q := tA_pure mB_L_law dL_law_1380 rfl
theorem rL_law_1381 : tA sc iL_law 1381 [l0, l1, l2, vI x] st h Q = tA sc iL_law 1382 [l0, l1, l2, vI x] (vI x :: st) h Q := tA_pure mB_L_law dL_law_1381 rfl
theorem rL_law_1382 : tA sc iL_law 1382 ls st h Q = tA sc iL_law 1383 ls (vI (2) :: st) h Q := tA_pure mB_L_law dL_law_1382 rfl
theorem rL_law_1383 : tA sc iL_law 1383 ls (vI y :: vI x :: st) h Q = tA sc iL_law 1384 ls (vI (x + y) :: st) h Q := tA_pure mB_L_law dL_law_1383 rfl
theorem rL_law_1384 : tA sc iL_law 1384 ls (vI j :: vR (some a) :: st) h Q = oz (tald sc h 0 a j) (fun v => tA sc iL_law 1385 ls (vI v :: st) h Q) := tA_iald mB_L_law dL_law_1384
theorem rL_law_1385 : tA sc iL_law 1385 [vR r, l1, l2, l3] st h Q = tA sc iL_law 1386 [vR r, l1, l2, l3] (vR r :: st) h Q := tA_pure mB_L_law dL_law_1385 rfl
theorem rL_law_1386 : tA sc iL_law 1386 [l0, l1, l2, vI x] st h Q = tA sc iL_law 1387 [l0, l1, l2, vI x] (vI x :: st) h Q := tA_pure mB_L_law dL_law_1386 rfl
theorem rL_law_1387 : tA sc iL_law 1387 ls st h Q = tA sc iL_law 1388 ls (vI (3) :: st) h Q := tA_pure mB_L_law dL_law_1387 rfl
theorem rL_law_1388 : tA sc iL_law 1388 ls (vI y :: vI x :: st) h Q = tA sc iL_law 1389 ls (vI (x + y) :: st) h Q := tA_pure mB_L_law dL_law_1388 rfl
theorem rL_law_1389 : tA sc iL_law 1389 ls (vI j :: vR (some a) :: st) h Q = oz (tald sc h 0 a j) (fun v => tA sc iL_law 1390 ls (vI v :: st) h Q) := tA_iald mB_L_law dL_law_1389
theorem rL_law_1390 (hci : tcl h o = some 11) : tA sc iL_law 1390 ls [vI p2, vI p1, vI p0, vR (some o), s0] h Q = tA sc iX11_shelf 0 [vR (some o), vI p0, vI p1, vI p2] [] h (fun v h1 => tA sc iL_law 1393 ls (tpu v [s0]) h1 Q) := tA_cV mB_L_law mO_L_law dL_law_1390 cT_12_167 rfl (Nat.le_of_ble_eq_true rfl) rfl rfl rfl hci
theorem rL_law_1393 : tA sc iL_law 1393 ls (vI y :: vI x :: st) h Q = (if x = y then tA sc iL_law 1546 ls st h Q else tA sc iL_law 1396 ls st h Q) := tA_if mB_L_law dL_law_1393 (fun _ _ _ _ => rfl) rfl
theorem rL_law_1396 : tA sc iL_law 1396 ls st h Q = tA sc iL_law 1397 ls (vI (0) :: st) h Q := tA_pure mB_L_law dL_law_1396 rfl
theorem rL_law_1397 : tA sc iL_law 1397 ls [vI x] h Q = ((x = 0 ∨ x = 1) ∧ Q (some (vI x)) h) := tA_retz mB_L_law dL_law_1397 rfl
theorem rL_law_1398 : tA sc iL_law 1398 [l0, vR r, l2, l3] st h Q = tA sc iL_law 1399 [l0, vR r, l2, l3] (vR r :: st) h Q := tA_pure mB_L_law dL_law_1398 rfl
theorem rL_law_1399 : tA sc iL_law 1399 [vR r, l1, l2, l3] st h Q = tA sc iL_law 1400 [vR r, l1, l2, l3] (vR r :: st) h Q := tA_pure mB_L_law dL_law_1399 rfl
theorem rL_law_1400 : tA sc iL_law 1400 [l0, l1, l2, vI x] st h Q = tA sc iL_law 1401 [l0, l1, l2, vI x] (vI x :: st) h Q := tA_pure mB_L_law dL_law_1400 rfl
theorem rL_law_1401 : tA sc iL_law 1401 ls st h Q = tA sc iL_law 1402 ls (vI (1) :: st) h Q := tA_pure mB_L_law dL_law_1401 rfl
theorem rL_law_1402 : tA sc iL_law 1402 ls (vI y :: vI x :: st) h Q = tA sc iL_law 1403 ls (vI (x + y) :: st) h Q := tA_pure mB_L_law dL_law_1402 rfl
theorem rL_law_1403 : tA sc iL_law 1403 ls (vI j :: vR (some a) :: st) h Q = oz (tald sc h 0 a j) (fun v => tA sc iL_law 1404 ls (vI v :: st) h Q) := tA_iald mB_L_law dL_law_1403
theorem rL_law_1404 : tA sc iL_law 1404 [vR r, l1, l2, l3] st h Q = tA sc iL_law 1405 [vR r, l1, l2, l3] (vR r :: st) h Q := tA_pure mB_L_law dL_law_1404 rfl
theorem rL_law_1405 : tA sc iL_law 1405 [l0, l1, l2, vI x] st h Q = tA sc iL_law 1406 [l0, l1, l2, vI x] (vI x :: st) h Q := tA_pure mB_L_law dL_law_1405 rfl
theorem rL_law_1406 : tA sc iL_law 1406 ls st h Q = tA sc iL_law 1407 ls (vI (2) :: st) h Q := tA_pure mB_L_law dL_law_1406 rfl
theorem rL_law_1407 : tA sc iL_law 1407 ls (vI y :: vI x :: st) h Q = tA sc iL_law 1408 ls (vI (x + y) :: st) h Q := tA_pure mB_L_law dL_law_1407 rfl
theorem rL_law_1408 : tA sc iL_law 1408 ls (vI j :: vR (some a) :: st) h Q = oz (tald sc h 0 a j) (fun v => tA sc iL_law 1409 ls (vI v :: st) h Q) := tA_iald mB_L_law dL_law_1408
theorem rL_law_1409 (hci : tcl h o = some 10) : tA sc iL_law 1409 ls [vI p1, vI p0, vR (some o)] h Q = tA sc iX10_taken 0 [vR (some o), vI p0, vI p1, vU, vU, vU, vU] [] h (fun v h1 => tA sc iL_law 1412 ls (tpu v []) h1 Q) := tA_cV mB_L_law mO_L_law dL_law_1409 cT_12_168 rfl (Nat.le_of_ble_eq_true rfl) rfl rfl rfl hci
theorem rL_law_1412 : tA sc iL_law 1412 [l0, l1, vR r, l3] st h Q = tA sc iL_law 1413 [l0, l1, vR r, l3] (vR r :: st) h Q := tA_pure mB_L_law dL_law_1412 rfl
theorem rL_law_1413 : tA sc iL_law 1413 [vR r, l1, l2, l3] st h Q = tA sc iL_law 1414 [vR r, l1, l2, l3] (vR r :: st) h Q := tA_pure mB_L_law dL_law_1413 rfl
theorem rL_law_1414 : tA sc iL_law 1414 [l0, l1, l2, vI x] st h Q = tA sc iL_law 1415 [l0, l1, l2, vI x] (vI x :: st) h Q := tA_pure mB_L_law dL_law_1414 rfl
theorem rL_law_1415 : tA sc iL_law 1415 ls st h Q = tA sc iL_law 1416 ls (vI (1) :: st) h Q := tA_pure mB_L_law dL_law_1415 rfl
theorem rL_law_1416 : tA sc iL_law 1416 ls (vI y :: vI x :: st) h Q = tA sc iL_law 1417 ls (vI (x + y) :: st) h Q := tA_pure mB_L_law dL_law_1416 rfl
theorem rL_law_1417 : tA sc iL_law 1417 ls (vI j :: vR (some a) :: st) h Q = oz (tald sc h 0 a j) (fun v => tA sc iL_law 1418 ls (vI v :: st) h Q) := tA_iald mB_L_law dL_law_1417
theorem rL_law_1418 : tA sc iL_law 1418 [vR r, l1, l2, l3] st h Q = tA sc iL_law 1419 [vR r, l1, l2, l3] (vR r :: st) h Q := tA_pure mB_L_law dL_law_1418 rfl
theorem rL_law_1419 : tA sc iL_law 1419 [l0, l1, l2, vI x] st h Q = tA sc iL_law 1420 [l0, l1, l2, vI x] (vI x :: st) h Q := tA_pure mB_L_law dL_law_1419 rfl
theorem rL_law_1420 : tA sc iL_law 1420 ls st h Q = tA sc iL_law 1421 ls (vI (2) :: st) h Q := tA_pure mB_L_law dL_law_1420 rfl
theorem rL_law_1421 : tA sc iL_law 1421 ls (vI y :: vI x :: st) h Q = tA sc iL_law 1422 ls (vI (x + y) :: st) h Q := tA_pure mB_L_law dL_law_1421 rfl
theorem rL_law_1422 : tA sc iL_law 1422 ls (vI j :: vR (some a) :: st) h Q = oz (tald sc h 0 a j) (fun v => tA sc iL_law 1423 ls (vI v :: st) h Q) := tA_iald mB_L_law dL_law_1422
theorem rL_law_1423 (hci : tcl h o = some 11) : tA sc iL_law 1423 ls [vI p1, vI p0, vR (some o), s0] h Q = tA sc iX11_taken 0 [vR (some o), vI p0, vI p1, vU] [] h (fun v h1 => tA sc iL_law 1426 ls (tpu v [s0]) h1 Q) := tA_cV mB_L_law mO_L_law dL_law_1423 cT_12_171 rfl (Nat.le_of_ble_eq_true rfl) rfl rfl rfl hci
theorem rL_law_1426 : tA sc iL_law 1426 ls (vI y :: vI x :: st) h Q = (if x = y then tA sc iL_law 1546 ls st h Q else tA sc iL_law 1429 ls st h Q) := tA_if mB_L_law dL_law_1426 (fun _ _ _ _ => rfl) rfl
theorem rL_law_1429 : tA sc iL_law 1429 ls st h Q = tA sc iL_law 1430 ls (vI (0) :: st) h Q := tA_pure mB_L_law dL_law_1429 rfl
theorem rL_law_1430 : tA sc iL_law 1430 ls [vI x] h Q = ((x = 0 ∨ x = 1) ∧ Q (some (vI x)) h) := tA_retz mB_L_law dL_law_1430 rfl
theorem rL_law_1431 : tA sc iL_law 1431 [l0, vR r, l2, l3] st h Q = tA sc iL_law 1432 [l0, vR r, l2, l3] (vR r :: st) h Q := tA_pure mB_L_law dL_law_1431 rfl
theorem rL_law_1432 : tA sc iL_law 1432 [vR r, l1, l2, l3] st h Q = tA sc iL_law 1433 [vR r, l1, l2, l3] (vR r :: st) h Q := tA_pure mB_L_law dL_law_1432 rfl
theorem rL_law_1433 : tA sc iL_law 1433 [l0, l1, l2, vI x] st h Q = tA sc iL_law 1434 [l0, l1, l2, vI x] (vI x :: st) h Q := tA_pure mB_L_law dL_law_1433 rfl
theorem rL_law_1434 : tA sc iL_law 1434 ls st h Q = tA sc iL_law 1435 ls (vI (1) :: st) h Q := tA_pure mB_L_law dL_law_1434 rfl
theorem rL_law_1435 : tA sc iL_law 1435 ls (vI y :: vI x :: st) h Q = tA sc iL_law 1436 ls (vI (x + y) :: st) h Q := tA_pure mB_L_law dL_law_1435 rfl
theorem rL_law_1436 : tA sc iL_law 1436 ls (vI j :: vR (some a) :: st) h Q = oz (tald sc h 0 a j) (fun v => tA sc iL_law 1437 ls (vI v :: st) h Q) := tA_iald mB_L_law dL_law_1436
theorem rL_law_1437 : tA sc iL_law 1437 [vR r, l1, l2, l3] st h Q = tA sc iL_law 1438 [vR r, l1, l2, l3] (vR r :: st) h Q := tA_pure mB_L_law dL_law_1437 rfl
theorem rL_law_1438 : tA sc iL_law 1438 [l0, l1, l2, vI x] st h Q = tA sc iL_law 1439 [l0, l1, l2, vI x] (vI x :: st) h Q := tA_pure mB_L_law dL_law_1438 rfl
theorem rL_law_1439 : tA sc iL_law 1439 ls st h Q = tA sc iL_law 1440 ls (vI (2) :: st) h Q := tA_pure mB_L_law dL_law_1439 rfl
theorem rL_law_1440 : tA sc iL_law 1440 ls (vI y :: vI x :: st) h Q = tA sc iL_law 1441 ls (vI (x + y) :: st) h Q := tA_pure mB_L_law dL_law_1440 rfl
theorem rL_law_1441 : tA sc iL_law 1441 ls (vI j :: vR (some a) :: st) h Q = oz (tald sc h 0 a j) (fun v => tA sc iL_law 1442 ls (vI v :: st) h Q) := tA_iald mB_L_law dL_law_1441
theorem rL_law_1442 : tA sc iL_law 1442 [vR r, l1, l2, l3] st h Q = tA sc iL_law 1443 [vR r, l1, l2, l3] (vR r :: st) h Q := tA_pure mB_L_law dL_law_1442 rfl
theorem rL_law_1443 : tA sc iL_law 1443 [l0, l1, l2, vI x] st h Q = tA sc iL_law 1444 [l0, l1, l2, vI x] (vI x :: st) h Q := tA_pure mB_L_law dL_law_1443 rfl
theorem rL_law_1444 : tA sc iL_law 1444 ls st h Q = tA sc iL_law 1445 ls (vI (3) :: st) h Q := tA_pure mB_L_law dL_law_1444 rfl
theorem rL_law_1445 : tA sc iL_law 1445 ls (vI y :: vI x :: st) h Q = tA sc iL_law 1446 ls (vI (x + y) :: st) h Q := tA_pure mB_L_law dL_law_1445 rfl
theorem rL_law_1446 : tA sc iL_law 1446 ls (vI j :: vR (some a) :: st) h Q = oz (tald sc h 0 a j) (fun v => tA sc iL_law 1447 ls (vI v :: st) h Q) := tA_iald mB_L_law dL_law_1446
theorem rL_law_1447 (hci : tcl h o = some 10) : tA sc iL_law 1447 ls [vI p2, vI p1, vI p0, vR (some o)] h Q = tA sc iX10_act 0 [vR (some o), vI p0, vI p1, vI p2, vU, vU] [] h (fun v h1 => tA sc iL_law 1450 ls (tpu v []) h1 Q) := tA_cV mB_L_law mO_L_law dL_law_1447 cT_12_172 rfl (Nat.le_of_ble_eq_true rfl) rfl rfl rfl hci
theorem rL_law_1450 : tA sc iL_law 1450 [l0, l1, vR r, l3] st h Q = tA sc iL_law 1451 [l0, l1, vR r, l3] (vR r :: st) h Q := tA_pure mB_L_law dL_law_1450 rfl
theorem rL_law_1451 : tA sc iL_law 1451 [vR r, l1, l2, l3] st h Q = tA sc iL_law 1452 [vR r, l1, l2, l3] (vR r :: st) h Q := tA_pure mB_L_law dL_law_1451 rfl
theorem rL_law_1452 : tA sc iL_law 1452 [l0, l1, l2, vI x] st h Q = tA sc iL_law 1453 [l0, l1, l2, vI x] (vI x :: st) h Q := tA_pure mB_L_law dL_law_1452 rfl
theorem rL_law_1453 : tA sc iL_law 1453 ls st h Q = tA sc iL_law 1454 ls (vI (1) :: st) h Q := tA_pure mB_L_law dL_law_1453 rfl
theorem rL_law_1454 : tA sc iL_law 1454 ls (vI y :: vI x :: st) h Q = tA sc iL_law 1455 ls (vI (x + y) :: st) h Q := tA_pure mB_L_law dL_law_1454 rfl
theorem rL_law_1455 : tA sc iL_law 1455 ls (vI j :: vR (some a) :: st) h Q = oz (tald sc h 0 a j) (fun v => tA sc iL_law 1456 ls (vI v :: st) h Q) := tA_iald mB_L_law dL_law_1455
theorem rL_law_1456 : tA sc iL_law 1456 [vR r, l1, l2, l3] st h Q = tA sc iL_law 1457 [vR r, l1, l2, l3] (vR r :: st) h Q := tA_pure mB_L_law dL_law_1456 rfl
theorem rL_law_1457 : tA sc iL_law 1457 [l0, l1, l2, vI x] st h Q = tA sc iL_law 1458 [l0, l1, l2, vI x] (vI x :: st) h Q := tA_pure mB_L_law dL_law_1457 rfl
theorem rL_law_1458 : tA sc iL_law 1458 ls st h Q = tA sc iL_law 1459 ls (vI (2) :: st) h Q := tA_pure mB_L_law dL_law_1458 rfl
theorem rL_law_1459 : tA sc iL_law 1459 ls (vI y :: vI x :: st) h Q = tA sc iL_law 1460 ls (vI (x + y) :: st) h Q := tA_pure mB_L_law dL_law_1459 rfl
theorem rL_law_1460 : tA sc iL_law 1460 ls (vI j :: vR (some a) :: st) h Q = oz (tald sc h 0 a j) (fun v => tA sc iL_law 1461 ls (vI v :: st) h Q) := tA_iald mB_L_law dL_law_1460
theorem rL_law_1461 : tA sc iL_law 1461 [vR r, l1, l2, l3] st h Q = tA sc iL_law 1462 [vR r, l1, l2, l3] (vR r :: st) h Q := tA_pure mB_L_law dL_law_1461 rfl
theorem rL_law_1462 : tA sc iL_law 1462 [l0, l1, l2, vI x] st h Q = tA sc iL_law 1463 [l0, l1, l2, vI x] (vI x :: st) h Q := tA_pure mB_L_law dL_law_1462 rfl
theorem rL_law_1463 : tA sc iL_law 1463 ls st h Q = tA sc iL_law 1464 ls (vI (3) :: st) h Q := tA_pure mB_L_law dL_law_1463 rfl
theorem rL_law_1464 : tA sc iL_law 1464 ls (vI y :: vI x :: st) h Q = tA sc iL_law 1465 ls (vI (x + y) :: st) h Q := tA_pure mB_L_law dL_law_1464 rfl
theorem rL_law_1465 : tA sc iL_law 1465 ls (vI j :: vR (some a) :: st) h Q = oz (tald sc h 0 a j) (fun v => tA sc iL_law 1466 ls (vI v :: st) h Q) := tA_iald mB_L_law dL_law_1465
theorem rL_law_1466 (hci : tcl h o = some 11) : tA sc iL_law 1466 ls [vI p2, vI p1, vI p0, vR (some o), s0] h Q = tA sc iX11_act 0 [vR (some o), vI p0, vI p1, vI p2, vU, vU] [] h (fun v h1 => tA sc iL_law 1469 ls (tpu v [s0]) h1 Q) := tA_cV mB_L_law mO_L_law dL_law_1466 cT_12_175 rfl (Nat.le_of_ble_eq_true rfl) rfl rfl rfl hci
theorem rL_law_1469 : tA sc iL_law 1469 ls (vI y :: vI x :: st) h Q = (if x = y then tA sc iL_law 1546 ls st h Q else tA sc iL_law 1472 ls st h Q) := tA_if mB_L_law dL_law_1469 (fun _ _ _ _ => rfl) rfl
theorem rL_law_1472 : tA sc iL_law 1472 ls st h Q = tA sc iL_law 1473 ls (vI (0) :: st) h Q := tA_pure mB_L_law dL_law_1472 rfl
theorem rL_law_1473 : tA sc iL_law 1473 ls [vI x] h Q = ((x = 0 ∨ x = 1) ∧ Q (some (vI x)) h) := tA_retz mB_L_law dL_law_1473 rfl
theorem rL_law_1474 : tA sc iL_law 1474 [l0, vR r, l2, l3] st h Q = tA sc iL_law 1475 [l0, vR r, l2, l3] (vR r :: st) h Q := tA_pure mB_L_law dL_law_1474 rfl
theorem rL_law_1475 : tA sc iL_law 1475 [vR r, l1, l2, l3] st h Q = tA sc iL_law 1476 [vR r, l1, l2, l3] (vR r :: st) h Q := tA_pure mB_L_law dL_law_1475 rfl
theorem rL_law_1476 : tA sc iL_law 1476 [l0, l1, l2, vI x] st h Q = tA sc iL_law 1477 [l0, l1, l2, vI x] (vI x :: st) h Q := tA_pure mB_L_law dL_law_1476 rfl
theorem rL_law_1477 : tA sc iL_law 1477 ls st h Q = tA sc iL_law 1478 ls (vI (1) :: st) h Q := tA_pure mB_L_law dL_law_1477 rfl
theorem rL_law_1478 : tA sc iL_law 1478 ls (vI y :: vI x :: st) h Q = tA sc iL_law 1479 ls (vI (x + y) :: st) h Q := tA_pure mB_L_law dL_law_1478 rfl
theorem rL_law_1479 : tA sc iL_law 1479 ls (vI j :: vR (some a) :: st) h Q = oz (tald sc h 0 a j) (fun v => tA sc iL_law 1480 ls (vI v :: st) h Q) := tA_iald mB_L_law dL_law_1479
theorem rL_law_1480 (hci : tcl h o = some 10) : tA sc iL_law 1480 ls [vI p0, vR (some o)] h Q = tA sc iX10_trace 0 [vR (some o), vI p0] [] h (fun v h1 => tA sc iL_law 1483 ls (tpu v []) h1 Q) := tA_cV mB_L_law mO_L_law dL_law_1480 cT_12_176 rfl (Nat.le_of_ble_eq_true rfl) rfl rfl rfl hci
theorem rL_law_1483 : tA sc iL_law 1483 [l0, l1, vR r, l3] st h Q = tA sc iL_law 1484 [l0, l1, vR r, l3] (vR r :: st) h Q := tA_pure mB_L_law dL_law_1483 rfl
theorem rL_law_1484 : tA sc iL_law 1484 [vR r, l1, l2, l3] st h Q = tA sc iL_law 1485 [vR r, l1, l2, l3] (vR r :: st) h Q := tA_pure mB_L_law dL_law_1484 rfl
theorem rL_law_1485 : tA sc iL_law 1485 [l0, l1, l2, vI x] st h Q = tA sc iL_law 1486 [l0, l1, l2, vI x] (vI x :: st) h Q := tA_pure mB_L_law dL_law_1485 rfl
theorem rL_law_1486 : tA sc iL_law 1486 ls st h Q = tA sc iL_law 1487 ls (vI (1) :: st) h Q := tA_pure mB_L_law dL_law_1486 rfl
theorem rL_law_1487 : tA sc iL_law 1487 ls (vI y :: vI x :: st) h Q = tA sc iL_law 1488 ls (vI (x + y) :: st) h Q := tA_pure mB_L_law dL_law_1487 rfl
theorem rL_law_1488 : tA sc iL_law 1488 ls (vI j :: vR (some a) :: st) h Q = oz (tald sc h 0 a j) (fun v => tA sc iL_law 1489 ls (vI v :: st) h Q) := tA_iald mB_L_law dL_law_1488
theorem rL_law_1489 (hci : tcl h o = some 11) : tA sc iL_law 1489 ls [vI p0, vR (some o), s0] h Q = tA sc iX11_trace 0 [vR (some o), vI p0] [] h (fun v h1 => tA sc iL_law 1492 ls (tpu v [s0]) h1 Q) := tA_cV mB_L_law mO_L_law dL_law_1489 cT_12_179 rfl (Nat.le_of_ble_eq_true rfl) rfl rfl rfl hci
theorem rL_law_1492 : tA sc iL_law 1492 ls (vI y :: vI x :: st) h Q = (if x = y then tA sc iL_law 1546 ls st h Q else tA sc iL_law 1495 ls st h Q) := tA_if mB_L_law dL_law_1492 (fun _ _ _ _ => rfl) rfl
theorem rL_law_1495 : tA sc iL_law 1495 ls st h Q = tA sc iL_law 1496 ls (vI (0) :: st) h Q := tA_pure mB_L_law dL_law_1495 rfl
theorem rL_law_1496 : tA sc iL_law 1496 ls [vI x] h Q = ((x = 0 ∨ x = 1) ∧ Q (some (vI x)) h) := tA_retz mB_L_law dL_law_1496 rfl
theorem rL_law_1497 : tA sc iL_law 1497 [l0, vR r, l2, l3] st h Q = tA sc iL_law 1498 [l0, vR r, l2, l3] (vR r :: st) h Q := tA_pure mB_L_law dL_law_1497 rfl
theorem rL_law_1498 : tA sc iL_law 1498 [vR r, l1, l2, l3] st h Q = tA sc iL_law 1499 [vR r, l1, l2, l3] (vR r :: st) h Q := tA_pure mB_L_law dL_law_1498 rfl
theorem rL_law_1499 : tA sc iL_law 1499 [l0, l1, l2, vI x] st h Q = tA sc iL_law 1500 [l0, l1, l2, vI x] (vI x :: st) h Q := tA_pure mB_L_law dL_law_1499 rfl
theorem rL_law_1500 : tA sc iL_law 1500 ls st h Q = tA sc iL_law 1501 ls (vI (1) :: st) h Q := tA_pure mB_L_law dL_law_1500 rfl
theorem rL_law_1501 : tA sc iL_law 1501 ls (vI y :: vI x :: st) h Q = tA sc iL_law 1502 ls (vI (x + y) :: st) h Q := tA_pure mB_L_law dL_law_1501 rfl
theorem rL_law_1502 : tA sc iL_law 1502 ls (vI j :: vR (some a) :: st) h Q = oz (tald sc h 0 a j) (fun v => tA sc iL_law 1503 ls (vI v :: st) h Q) := tA_iald mB_L_law dL_law_1502
theorem rL_law_1503 (hci : tcl h o = some 10) : tA sc iL_law 1503 ls [vI p0, vR (some o)] h Q = tA sc iX10_many 0 [vR (some o), vI p0] [] h (fun v h1 => tA sc iL_law 1506 ls (tpu v []) h1 Q) := tA_cV mB_L_law mO_L_law dL_law_1503 cT_12_180 rfl (Nat.le_of_ble_eq_true rfl) rfl rfl rfl hci
theorem rL_law_1506 : tA sc iL_law 1506 [l0, l1, vR r, l3] st h Q = tA sc iL_law 1507 [l0, l1, vR r, l3] (vR r :: st) h Q := tA_pure mB_L_law dL_law_1506 rfl
theorem rL_law_1507 : tA sc iL_law 1507 [vR r, l1, l2, l3] st h Q = tA sc iL_law 1508 [vR r, l1, l2, l3] (vR r :: st) h Q := tA_pure mB_L_law dL_law_1507 rfl
theorem rL_law_1508 : tA sc iL_law 1508 [l0, l1, l2, vI x] st h Q = tA sc iL_law 1509 [l0, l1, l2, vI x] (vI x :: st) h Q := tA_pure mB_L_law dL_law_1508 rfl
theorem rL_law_1509 : tA sc iL_law 1509 ls st h Q = tA sc iL_law 1510 ls (vI (1) :: st) h Q := tA_pure mB_L_law dL_law_1509 rfl
theorem rL_law_1510 : tA sc iL_law 1510 ls (vI y :: vI x :: st) h Q = tA sc iL_law 1511 ls (vI (x + y) :: st) h Q := tA_pure mB_L_law dL_law_1510 rfl
theorem rL_law_1511 : tA sc iL_law 1511 ls (vI j :: vR (some a) :: st) h Q = oz (tald sc h 0 a j) (fun v => tA sc iL_law 1512 ls (vI v :: st) h Q) := tA_iald mB_L_law dL_law_1511
theorem rL_law_1512 (hci : tcl h o = some 11) : tA sc iL_law 1512 ls [vI p0, vR (some o), s0] h Q = tA sc iX11_many 0 [vR (some o), vI p0] [] h (fun v h1 => tA sc iL_law 1515 ls (tpu v [s0]) h1 Q) := tA_cV mB_L_law mO_L_law dL_law_1512 cT_12_183 rfl (Nat.le_of_ble_eq_true rfl) rfl rfl rfl hci
theorem rL_law_1515 : tA sc iL_law 1515 ls (vI y :: vI x :: st) h Q = (if x = y then tA sc iL_law 1546 ls st h Q else tA sc iL_law 1518 ls st h Q) := tA_if mB_L_law dL_law_1515 (fun _ _ _ _ => rfl) rfl
theorem rL_law_1518 : tA sc iL_law 1518 ls st h Q = tA sc iL_law 1519 ls (vI (0) :: st) h Q := tA_pure mB_L_law dL_law_1518 rfl
theorem rL_law_1519 : tA sc iL_law 1519 ls [vI x] h Q = ((x = 0 ∨ x = 1) ∧ Q (some (vI x)) h) := tA_retz mB_L_law dL_law_1519 rfl
theorem rL_law_1520 : tA sc iL_law 1520 [l0, vR r, l2, l3] st h Q = tA sc iL_law 1521 [l0, vR r, l2, l3] (vR r :: st) h Q := tA_pure mB_L_law dL_law_1520 rfl
theorem rL_law_1521 (hci : tcl h o = some 10) : tA sc iL_law 1521 ls [vR (some o)] h Q = tA sc iX10_keep 0 [vR (some o)] [] h (fun v h1 => tA sc iL_law 1524 ls (tpu v []) h1 Q) := tA_cV mB_L_law mO_L_law dL_law_1521 cT_12_184 rfl (Nat.le_of_ble_eq_true rfl) rfl rfl rfl hci
theorem rL_law_1524 : tA sc iL_law 1524 [l0, l1, vR r, l3] st h Q = tA sc iL_law 1525 [l0, l1, vR r, l3] (vR r :: st) h Q := tA_pure mB_L_law dL_law_1524 rfl
theorem rL_law_1525 (hci : tcl h o = some 11) : tA sc iL_law 1525 ls [vR (some o), s0] h Q = tA sc iX11_keep 0 [vR (some o)] [] h (fun v h1 => tA sc iL_law 1528 ls (tpu v [s0]) h1 Q) := tA_cV mB_L_law mO_L_law dL_law_1525 cT_12_187 rfl (Nat.le_of_ble_eq_true rfl) rfl rfl rfl hci
theorem rL_law_1528 : tA sc iL_law 1528 ls (vI y :: vI x :: st) h Q = (if x = y then tA sc iL_law 1546 ls st h Q else tA sc iL_law 1531 ls st h Q) := tA_if mB_L_law dL_law_1528 (fun _ _ _ _ => rfl) rfl
theorem rL_law_1531 : tA sc iL_law 1531 ls st h Q = tA sc iL_law 1532 ls (vI (0) :: st) h Q := tA_pure mB_L_law dL_law_1531 rfl
theorem rL_law_1532 : tA sc iL_law 1532 ls [vI x] h Q = ((x = 0 ∨ x = 1) ∧ Q (some (vI x)) h) := tA_retz mB_L_law dL_law_1532 rfl
theorem rL_law_1533 : tA sc iL_law 1533 [l0, vR r, l2, l3] st h Q = tA sc iL_law 1534 [l0, vR r, l2, l3] (vR r :: st) h Q := tA_pure mB_L_law dL_law_1533 rfl
theorem rL_law_1534 (hci : tcl h o = some 10) : tA sc iL_law 1534 ls [vR (some o)] h Q = tA sc iX10_again 0 [vR (some o)] [] h (fun v h1 => tA sc iL_law 1537 ls (tpu v []) h1 Q) := tA_cV mB_L_law mO_L_law dL_law_1534 cT_12_188 rfl (Nat.le_of_ble_eq_true rfl) rfl rfl rfl hci
theorem rL_law_1537 : tA sc iL_law 1537 [l0, l1, vR r, l3] st h Q = tA sc iL_law 1538 [l0, l1, vR r, l3] (vR r :: st) h Q := tA_pure mB_L_law dL_law_1537 rfl
theorem rL_law_1538 (hci : tcl h o = some 11) : tA sc iL_law 1538 ls [vR (some o), s0] h Q = tA sc iX11_again 0 [vR (some o)] [] h (fun v h1 => tA sc iL_law 1541 ls (tpu v [s0]) h1 Q) := tA_cV mB_L_law mO_L_law dL_law_1538 cT_12_191 rfl (Nat.le_of_ble_eq_true rfl) rfl rfl rfl hci
theorem rL_law_1541 : tA sc iL_law 1541 ls (vI y :: vI x :: st) h Q = (if x = y then tA sc iL_law 1546 ls st h Q else tA sc iL_law 1544 ls st h Q) := tA_if mB_L_law dL_law_1541 (fun _ _ _ _ => rfl) rfl
theorem rL_law_1544 : tA sc iL_law 1544 ls st h Q = tA sc iL_law 1545 ls (vI (0) :: st) h Q := tA_pure mB_L_law dL_law_1544 rfl
theorem rL_law_1545 : tA sc iL_law 1545 ls [vI x] h Q = ((x = 0 ∨ x = 1) ∧ Q (some (vI x)) h) := tA_retz mB_L_law dL_law_1545 rfl
theorem rL_law_1546 : tA sc iL_law 1546 [l0, l1, l2, vI x] st h Q = tA sc iL_law 1549 [l0, l1, tclr l2, vI (x + 5)] st h Q := tA_pure mB_L_law dL_law_1546 rfl
theorem rL_law_1549 : tA sc iL_law 1549 ls st h Q = tA sc iL_law 18 ls st h Q := tA_jump mB_L_law dL_law_1549 (fun _ _ _ _ => rfl) rfl
theorem rL_law_1552 : tA sc iL_law 1552 ls st h Q = tA sc iL_law 1553 ls (vI (1) :: st) h Q := tA_pure mB_L_law dL_law_1552 rfl
theorem rL_law_1553 : tA sc iL_law 1553 ls [vI x] h Q = ((x = 0 ∨ x = 1) ∧ Q (some (vI x)) h) := tA_retz mB_L_law dL_law_1553 rfl
end S17
