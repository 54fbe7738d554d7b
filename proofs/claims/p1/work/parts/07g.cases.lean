set_option maxHeartbeats 8000000 in
set_option maxRecDepth 100000 in
theorem law_c0 {p : Program} {l : Launch} {e : Env} {s : State} {m : MethodId} {below : List Frame} {meth : Method} {c : Code} {args : Array Value} {Q : State → Prop} {A : Nat → Prop} (hl9 : l.stackTraces = false) (G : nG) (x : Nat) (xq1 : Nat) (xq4 : Nat) (xq25 : Nat) (xq46 : Nat) (xq71 : Nat) (xq75 : Nat) (xq82 : Nat) (xq84 : Nat) (xq2 : Nat) (y : Nat) (yq1 : Nat) (yq2 : Nat) (yq3 : Nat) (yq4 : Nat) (yq5 : Nat) (yq6 : Nat) (yq7 : Nat) (yq8 : Nat) (yq9 : Nat) (yq10 : Nat) (yq11 : Nat) (yq12 : Nat) (yq13 : Nat) (yq14 : Nat) (yq15 : Nat) (yq16 : Nat) (o : Nat) (od : Nat) (b : Nat) (xs : Nat → Int32) (hx : p.tables.exec = Jvm.exec) (hb : c.code = cL_law) (hml : c.maxLocals = 9) (hown : s.vm.findClass RL = some m.cls) (hts : ∀ w ∈ wsL_law, w.before args s = true) (hX : va_X b 5 xs s s.heap) (hbl : b < s.heap.size) (hbA : ¬ A b) (hA : ∀ q : Nat, s.heap.size ≤ q → A q) (hK : va_K G.1 vwCl (n_ty G) s) (hE : n_ex A s s.heap) 
    (hend : ∀ (H : Heap) (locs : List Loc) (ls : Array Slot), va_S A s.heap H locs → lv_has ls 9 [(0, .ref b), (5, .int 0)] → W p l e room_1 s m args below meth c H locs 2000 60000 Q (F0 m 2342 ls []))
    (H : Heap) (locs : List Loc) (ls : Array Slot) (hP : va_P G.1 vwCl [(x, .inr (12, [.ref xq1, .ref xq4, .ref xq25, .ref xq46, .ref xq71, .ref xq75, .ref xq82, .ref xq84, .int 0])), (xq1, .inr (8, [.ref xq2, .int 0, .long 0, .int 0])), (xq2, eC G 60 (fun _ => 0)), (y, .inr (13, [.ref yq1, .ref yq2, .int 0, .ref yq3, .int 0, .int 0, .int 0, .ref yq4, .ref yq5, .int 0, .ref yq6, .int (-1), .ref yq7, .int 0, .ref yq8, .ref yq9, .ref yq10, .ref yq11, .int 0, .int 0, .int 0, .int 0, .ref yq12, .ref yq13, .ref yq14, .ref yq15, .ref yq16])), (yq4, eI G 60 (fun _ => 0)), (o, eJ G 1 (fun _ => 0))] H) (hD : va_D A [(x, .inr (12, [.ref xq1, .ref xq4, .ref xq25, .ref xq46, .ref xq71, .ref xq75, .ref xq82, .ref xq84, .int 0])), (xq1, .inr (8, [.ref xq2, .int 0, .long 0, .int 0])), (xq2, eC G 60 (fun _ => 0)), (y, .inr (13, [.ref yq1, .ref yq2, .int 0, .ref yq3, .int 0, .int 0, .int 0, .ref yq4, .ref yq5, .int 0, .ref yq6, .int (-1), .ref yq7, .int 0, .ref yq8, .ref yq9, .ref yq10, .ref yq11, .int 0, .int 0, .int 0, .int 0, .ref yq12, .ref yq13, .ref yq14, .ref yq15, .ref yq16])), (yq4, eI G 60 (fun _ => 0)), (o, eJ G 1 (fun _ => 0))]) (hS : va_S A s.heap H locs) (hl : lv_has ls 9 [(0, .ref b), (1, .ref x), (2, .ref y), (3, .ref o), (4, .ref od), (5, .int 0)]) : W p l e room_1 s m args below meth c H locs 609 18141 Q (F0 m 192 ls []) := by
  refine lv_aload_n hx hb dL_law_192 rfl (lv_at hl 1 rfl) ?_
  refine lv_aload_n hx hb dL_law_193 rfl (lv_at hl 0 rfl) ?_
  refine lv_iload hx hb dL_law_194 (lv_at hl 5 rfl) ?_
  refine lv_iconst (v := 1) hx hb dL_law_196 (by decide) ?_
  refine lv_iadd hx hb dL_law_197 ?_
  refine n_eqi (y := 1) (by decide) ?_
  refine va_sld hx hb hX hbl hbA hS (n_in (by decide)) dL_law_198 ?_
  refine n_eqi (y := xs 1) rfl ?_
  refine lv_i2c (v := (((xs 1).toUInt32 % 65536).toInt32)) hx hb dL_law_199 rfl ?_
  refine lv_aload_n hx hb dL_law_200 rfl (lv_at hl 3 rfl) ?_
  refine n_ci (wr := [(y, .inr (13, [.ref yq1, .ref yq2, .int 0, .ref yq3, .int 0, .int 0, .int 0, .ref yq4, .ref yq5, .int 0, .ref yq6, .int (-1), .ref yq7, .int 0, .ref yq8, .ref yq9, .ref yq10, .ref yq11, .int 0, .int 0, .int 0, .int 0, .ref yq12, .ref yq13, .ref yq14, .ref yq15, .ref yq16])), (yq4, eI G 60 (fun _ => 0))]) (vx_runSW (As := [.ref x, .int (((xs 1).toUInt32 % 65536).toInt32), .ref o]) (rest := []) ⟨hx, hb, hml, hown, hts⟩ (mL_feed l hl9 G x xq1 xq4 xq25 xq46 xq71 xq75 xq82 xq84 xq2 0 0 (fun _ => 0) (((xs 1).toUInt32 % 65536).toInt32) o (fun _ => 0) H.size) (vx_cwSW 3 hts gL_law_L_feed rfl rfl rfl (by decide +kernel) ⟨(Nat.le_of_ble_eq_true rfl), (Nat.le_of_ble_eq_true rfl)⟩) (n_prX hK hP hD hS hA [0, 1, 2, 5] rfl (by decide) hE) rfl rfl hl.1 rfl (lv_room (Nat.le_of_ble_eq_true rfl)) dL_law_201 ⟨(Nat.le_of_ble_eq_true rfl), (Nat.le_of_ble_eq_true rfl)⟩) hP hD hS hA [0, 1, 2, 5] [3, 4] rfl rfl (by decide) (by decide) (fun r_1 u_2 H locs hP hD hS hw => ?_)
  have hP : va_P G.1 vwCl [(y, .inr (13, [.ref yq1, .ref yq2, .int 0, .ref yq3, .int 0, .int 0, .int 0, .ref yq4, .ref yq5, .int 0, .ref yq6, .int (-1), .ref yq7, .int 0, .ref yq8, .ref yq9, .ref yq10, .ref yq11, .int 0, .int 0, .int 0, .int 0, .ref yq12, .ref yq13, .ref yq14, .ref yq15, .ref yq16])), (yq4, eI G 60 (fun _ => 0)), (o, eJ G 1 (vp_updL (fun _ => 0) ((0 : Int32).toNatClampNeg) ((1 : Int32).toInt64)))] H := hP
  have hD : va_D A [(y, .inr (13, [.ref yq1, .ref yq2, .int 0, .ref yq3, .int 0, .int 0, .int 0, .ref yq4, .ref yq5, .int 0, .ref yq6, .int (-1), .ref yq7, .int 0, .ref yq8, .ref yq9, .ref yq10, .ref yq11, .int 0, .int 0, .int 0, .int 0, .ref yq12, .ref yq13, .ref yq14, .ref yq15, .ref yq16])), (yq4, eI G 60 (fun _ => 0)), (o, eJ G 1 (vp_updL (fun _ => 0) ((0 : Int32).toNatClampNeg) ((1 : Int32).toInt64)))] := hD
  have hw : r_1 = 0 := hw
  subst hw
  refine lv_istore (lv' := [(6, .int 0), (0, .ref b), (1, .ref x), (2, .ref y), (3, .ref o), (4, .ref od), (5, .int 0)]) hx hb dL_law_204 hl (by decide) rfl (fun ls hl => ?_)
  refine lv_aload_n hx hb dL_law_206 rfl (lv_at hl 3 rfl) ?_
  refine lv_aload_n hx hb dL_law_207 rfl (lv_at hl 1 rfl) ?_
  refine lv_iload hx hb dL_law_208 (lv_at hl 6 rfl) ?_
  refine lv_iconst (v := 1) hx hb dL_law_210 (by decide) ?_
  refine lv_iadd hx hb dL_law_211 ?_
  refine n_eqi (y := 1) (by decide) ?_
  refine va_sld hx hb hX hbl hbA hS (n_in (by decide)) dL_law_212 ?_
  refine n_eqi (y := xs 1) rfl ?_
  refine lv_i2c (v := (((xs 1).toUInt32 % 65536).toInt32)) hx hb dL_law_213 rfl ?_
  refine n_ci (wr := [(o, eJ G 1 (vp_updL (fun _ => 0) ((0 : Int32).toNatClampNeg) ((1 : Int32).toInt64)))]) (va_runV (As := [.int (((xs 1).toUInt32 % 65536).toInt32)]) (rest := []) ⟨hx, hb, hml, hown, hts⟩ (mX12_feed l G y yq1 yq2 yq3 yq4 yq5 yq6 yq7 yq8 yq9 yq10 yq11 yq12 yq13 yq14 yq15 yq16 0 0 0 0 (-1) 0 0 0 0 0 (fun _ => 0) (((xs 1).toUInt32 % 65536).toInt32) H.size) (cwV 1 hts gL_law_X12_feed rfl rfl rfl (by decide +kernel) ⟨(Nat.le_of_ble_eq_true rfl), (Nat.le_of_ble_eq_true rfl)⟩) (n_prV (ci := 13) (q0 := 0) hK hP hD [0, 1] rfl (by decide) rfl rfl) rfl rfl hl.1 rfl (lv_room (Nat.le_of_ble_eq_true rfl)) dL_law_214 ⟨(Nat.le_of_ble_eq_true rfl), (Nat.le_of_ble_eq_true rfl)⟩) hP hD hS hA [0, 1] [2] rfl rfl (by decide) (by decide) (fun r_3 u_4 H locs hP hD hS hw => ?_)
  have hP : va_P G.1 vwCl [(o, eJ G 1 (vp_updL (fun _ => 0) ((0 : Int32).toNatClampNeg) ((1 : Int32).toInt64))), (y, .inr (13, [.ref yq1, .ref yq2, .int 0, .ref yq3, .int 0, .int 0, .int 1, .ref yq4, .ref yq5, .int 0, .ref yq6, .int (-1), .ref yq7, .int 0, .ref yq8, .ref yq9, .ref yq10, .ref yq11, .int 0, .int 0, .int 0, .int 0, .ref yq12, .ref yq13, .ref yq14, .ref yq15, .ref yq16]))] H := hP
  have hD : va_D A [(o, eJ G 1 (vp_updL (fun _ => 0) ((0 : Int32).toNatClampNeg) ((1 : Int32).toInt64))), (y, .inr (13, [.ref yq1, .ref yq2, .int 0, .ref yq3, .int 0, .int 0, .int 1, .ref yq4, .ref yq5, .int 0, .ref yq6, .int (-1), .ref yq7, .int 0, .ref yq8, .ref yq9, .ref yq10, .ref yq11, .int 0, .int 0, .int 0, .int 0, .ref yq12, .ref yq13, .ref yq14, .ref yq15, .ref yq16]))] := hD
  have hw : r_3 = 1 := hw
  subst hw
  refine lv_istore (lv' := [(7, .int 1), (6, .int 0), (0, .ref b), (1, .ref x), (2, .ref y), (3, .ref o), (4, .ref od), (5, .int 0)]) hx hb dL_law_217 hl (by decide) rfl (fun ls hl => ?_)
  refine lv_aload_n hx hb dL_law_219 rfl (lv_at hl 4 rfl) ?_
  refine n_ci (wr := [(o, eJ G 1 (vp_updL (fun _ => 0) ((0 : Int32).toNatClampNeg) ((1 : Int32).toInt64)))]) (va_runV (As := []) (rest := []) ⟨hx, hb, hml, hown, hts⟩ (mX12_thrown l G y yq1 yq2 yq3 yq4 yq5 yq6 yq7 yq8 yq9 yq10 yq11 yq12 yq13 yq14 yq15 yq16 0 0 0 1 0 (-1) 0 0 0 0 0 H.size) (cwV 0 hts gL_law_X12_thrown rfl rfl rfl (by decide +kernel) ⟨(Nat.le_of_ble_eq_true rfl), (Nat.le_of_ble_eq_true rfl)⟩) (n_prV (ci := 13) (q0 := 1) hK hP hD [1] rfl (by decide) rfl rfl) rfl rfl hl.1 rfl (lv_room (Nat.le_of_ble_eq_true rfl)) dL_law_220 ⟨(Nat.le_of_ble_eq_true rfl), (Nat.le_of_ble_eq_true rfl)⟩) hP hD hS hA [1] [0] rfl rfl (by decide) (by decide) (fun r_5 u_6 H locs hP hD hS hw => ?_)
  have hP : va_P G.1 vwCl [(o, eJ G 1 (vp_updL (fun _ => 0) ((0 : Int32).toNatClampNeg) ((1 : Int32).toInt64))), (y, .inr (13, [.ref yq1, .ref yq2, .int 0, .ref yq3, .int 0, .int 0, .int 1, .ref yq4, .ref yq5, .int 0, .ref yq6, .int (-1), .ref yq7, .int 0, .ref yq8, .ref yq9, .ref yq10, .ref yq11, .int 0, .int 0, .int 0, .int 0, .ref yq12, .ref yq13, .ref yq14, .ref yq15, .ref yq16]))] H := hP
  have hD : va_D A [(o, eJ G 1 (vp_updL (fun _ => 0) ((0 : Int32).toNatClampNeg) ((1 : Int32).toInt64))), (y, .inr (13, [.ref yq1, .ref yq2, .int 0, .ref yq3, .int 0, .int 0, .int 1, .ref yq4, .ref yq5, .int 0, .ref yq6, .int (-1), .ref yq7, .int 0, .ref yq8, .ref yq9, .ref yq10, .ref yq11, .int 0, .int 0, .int 0, .int 0, .ref yq12, .ref yq13, .ref yq14, .ref yq15, .ref yq16]))] := hD
  have hw : r_5 = 0 := hw
  subst hw
  refine lv_iload hx hb dL_law_223 (lv_at hl 1 rfl) ?_
  refine lv_icmp_eq (tgt := 230) hx hb dL_law_225 (by decide) (fun _ => ?_) (fun h9 => absurd (by decide) h9)
  refine lv_iload hx hb dL_law_230 (lv_at hl 1 rfl) ?_
  refine lv_if_ne (tgt := 247) hx hb dL_law_232 (by decide) (fun h9 => absurd (by decide) h9) (fun _ => ?_)
  refine lv_aload_n hx hb dL_law_235 rfl (lv_at hl 5 rfl) ?_
  refine lv_iconst (v := 0) hx hb dL_law_236 (by decide) ?_
  refine va_lald hx hb hK hP 0 2 rfl rfl (n_in (by decide)) dL_law_237 ?_
  refine n_eql (y := ((1 : Int32).toInt64)) pk_uLs ?_
  refine lv_iload hx hb dL_law_238 (lv_at hl 0 rfl) ?_
  refine lv_i2l (v := (1 : Int32).toInt64) hx hb dL_law_240 rfl ?_
  refine W.lcmp hx hb dL_law_241 ?_
  refine n_eqi (y := 0) (n_lg _) ?_
  refine lv_if_eq (tgt := 247) hx hb dL_law_242 (by decide) (fun _ => ?_) (fun h9 => absurd (by decide) h9)
  refine lv_goto (tgt := 2342) hx hb dL_law_247 (by decide) ?_
  refine W.widen (k := 2000) (n := 60000) (Nat.le_of_ble_eq_true rfl) (Nat.le_of_ble_eq_true rfl) ?_
  exact hend H locs ls hS (lv_sub hl [2, 7] rfl)

set_option maxHeartbeats 8000000 in
set_option maxRecDepth 100000 in
theorem law_c1 {p : Program} {l : Launch} {e : Env} {s : State} {m : MethodId} {below : List Frame} {meth : Method} {c : Code} {args : Array Value} {Q : State → Prop} {A : Nat → Prop} (hl9 : l.stackTraces = false) (G : nG) (x : Nat) (xq1 : Nat) (xq4 : Nat) (xq25 : Nat) (xq46 : Nat) (xq71 : Nat) (xq75 : Nat) (xq82 : Nat) (xq84 : Nat) (xq6 : Nat) (xq7 : Nat) (xq8 : Nat) (xq9 : Nat) (xq10 : Nat) (xq11 : Nat) (xf12 : Nat → Int32) (xf13 : Nat → Int32) (xf14 : Nat → Int32) (xq15 : Nat) (xq16 : Nat) (xq17 : Nat) (xq18 : Nat) (xq19 : Nat) (xq48 : Nat) (xf49 : Nat → Option Nat) (xq50 : Nat) (xq51 : Nat) (xq52 : Nat) (xq53 : Nat) (xq54 : Nat) (xq55 : Nat) (xq56 : Nat) (xf57 : Nat → Int32) (xf58 : Nat → Int32) (xf59 : Nat → Int32) (xq60 : Nat) (xq61 : Nat) (xq62 : Nat) (xq63 : Nat) (xq64 : Nat) (y : Nat) (yq1 : Nat) (yq2 : Nat) (yq3 : Nat) (yq4 : Nat) (yq5 : Nat) (yq6 : Nat) (yq7 : Nat) (yq8 : Nat) (yq9 : Nat) (yq10 : Nat) (yq11 : Nat) (yq12 : Nat) (yq13 : Nat) (yq14 : Nat) (yq15 : Nat) (yq16 : Nat) (yf90 : Nat → Int32) (o : Nat) (od : Nat) (b : Nat) (xs : Nat → Int32) (hx : p.tables.exec = Jvm.exec) (hb : c.code = cL_law) (hml : c.maxLocals = 9) (hown : s.vm.findClass RL = some m.cls) (hts : ∀ w ∈ wsL_law, w.before args s = true) (hX : va_X b 5 xs s s.heap) (hbl : b < s.heap.size) (hbA : ¬ A b) (hA : ∀ q : Nat, s.heap.size ≤ q → A q) (hK : va_K G.1 vwCl (n_ty G) s) (hE : n_ex A s s.heap) (hfa2 : nSnd xf14) (hfa3 : nFit xf13) (hfa4 : nFit xf14) (hfa15 : xf49 0 = some xq50) (hfa16 : nMod yf90)
    (hend : ∀ (H : Heap) (locs : List Loc) (ls : Array Slot), va_S A s.heap H locs → lv_has ls 9 [(0, .ref b), (5, .int 0)] → W p l e room_1 s m args below meth c H locs 2000 60000 Q (F0 m 2342 ls []))
    (H : Heap) (locs : List Loc) (ls : Array Slot) (hP : va_P G.1 vwCl [(x, .inr (12, [.ref xq1, .ref xq4, .ref xq25, .ref xq46, .ref xq71, .ref xq75, .ref xq82, .ref xq84, .int 0])), (xq4, .inr (5, [.ref xq6, .ref xq7, .ref xq8])), (xq6, .inr (2, [.ref xq9, .ref xq10, .ref xq11, .int 26])), (xq9, eI G 36 xf12), (xq10, eC G 36 xf13), (xq11, eC G 36 xf14), (xq7, .inr (9, [.ref xq15, .int 0])), (xq8, .inr (11, [.ref xq16, .ref xq17, .ref xq18, .ref xq19, .int 0])), (xq16, eI G 8 (fun _ => 0)), (xq17, eI G 8 (fun _ => 0)), (xq18, eI G 8 (fun _ => 0)), (xq19, eI G 8 (fun _ => 0)), (xq46, .inr (7, [.ref xq48, .int 0, .int 0])), (xq48, eR G 9 xf49), (xq50, .inr (5, [.ref xq51, .ref xq52, .ref xq53])), (xq51, .inr (2, [.ref xq54, .ref xq55, .ref xq56, .int 26])), (xq54, eI G 36 xf57), (xq55, eC G 36 xf58), (xq56, eC G 36 xf59), (xq52, .inr (9, [.ref xq60, .int 0])), (xq53, .inr (11, [.ref xq61, .ref xq62, .ref xq63, .ref xq64, .int 0])), (xq61, eI G 8 (fun _ => 0)), (xq62, eI G 8 (fun _ => 0)), (xq63, eI G 8 (fun _ => 0)), (xq64, eI G 8 (fun _ => 0)), (y, .inr (13, [.ref yq1, .ref yq2, .int 0, .ref yq3, .int 0, .int 0, .int 0, .ref yq4, .ref yq5, .int 0, .ref yq6, .int (-1), .ref yq7, .int 0, .ref yq8, .ref yq9, .ref yq10, .ref yq11, .int 0, .int 0, .int 0, .int 0, .ref yq12, .ref yq13, .ref yq14, .ref yq15, .ref yq16])), (yq1, eI G 1191 yf90), (yq3, eI G 9528 (fun _ => 0)), (o, eJ G 1 (fun _ => 0))] H) (hD : va_D A [(x, .inr (12, [.ref xq1, .ref xq4, .ref xq25, .ref xq46, .ref xq71, .ref xq75, .ref xq82, .ref xq84, .int 0])), (xq4, .inr (5, [.ref xq6, .ref xq7, .ref xq8])), (xq6, .inr (2, [.ref xq9, .ref xq10, .ref xq11, .int 26])), (xq9, eI G 36 xf12), (xq10, eC G 36 xf13), (xq11, eC G 36 xf14), (xq7, .inr (9, [.ref xq15, .int 0])), (xq8, .inr (11, [.ref xq16, .ref xq17, .ref xq18, .ref xq19, .int 0])), (xq16, eI G 8 (fun _ => 0)), (xq17, eI G 8 (fun _ => 0)), (xq18, eI G 8 (fun _ => 0)), (xq19, eI G 8 (fun _ => 0)), (xq46, .inr (7, [.ref xq48, .int 0, .int 0])), (xq48, eR G 9 xf49), (xq50, .inr (5, [.ref xq51, .ref xq52, .ref xq53])), (xq51, .inr (2, [.ref xq54, .ref xq55, .ref xq56, .int 26])), (xq54, eI G 36 xf57), (xq55, eC G 36 xf58), (xq56, eC G 36 xf59), (xq52, .inr (9, [.ref xq60, .int 0])), (xq53, .inr (11, [.ref xq61, .ref xq62, .ref xq63, .ref xq64, .int 0])), (xq61, eI G 8 (fun _ => 0)), (xq62, eI G 8 (fun _ => 0)), (xq63, eI G 8 (fun _ => 0)), (xq64, eI G 8 (fun _ => 0)), (y, .inr (13, [.ref yq1, .ref yq2, .int 0, .ref yq3, .int 0, .int 0, .int 0, .ref yq4, .ref yq5, .int 0, .ref yq6, .int (-1), .ref yq7, .int 0, .ref yq8, .ref yq9, .ref yq10, .ref yq11, .int 0, .int 0, .int 0, .int 0, .ref yq12, .ref yq13, .ref yq14, .ref yq15, .ref yq16])), (yq1, eI G 1191 yf90), (yq3, eI G 9528 (fun _ => 0)), (o, eJ G 1 (fun _ => 0))]) (hS : va_S A s.heap H locs) (hl : lv_has ls 9 [(0, .ref b), (1, .ref x), (2, .ref y), (3, .ref o), (4, .ref od), (5, .int 0)]) : W p l e room_1 s m args below meth c H locs 609 18141 Q (F0 m 250 ls []) := by
  refine lv_aload_n hx hb dL_law_250 rfl (lv_at hl 1 rfl) ?_
  refine lv_aload_n hx hb dL_law_251 rfl (lv_at hl 0 rfl) ?_
  refine lv_iload hx hb dL_law_252 (lv_at hl 5 rfl) ?_
  refine lv_iconst (v := 1) hx hb dL_law_254 (by decide) ?_
  refine lv_iadd hx hb dL_law_255 ?_
  refine n_eqi (y := 1) (by decide) ?_
  refine va_sld hx hb hX hbl hbA hS (n_in (by decide)) dL_law_256 ?_
  refine n_eqi (y := xs 1) rfl ?_
  refine lv_i2c (v := (((xs 1).toUInt32 % 65536).toInt32)) hx hb dL_law_257 rfl ?_
  refine lv_aload_n hx hb dL_law_258 rfl (lv_at hl 0 rfl) ?_
  refine lv_iload hx hb dL_law_259 (lv_at hl 5 rfl) ?_
  refine lv_iconst (v := 2) hx hb dL_law_261 (by decide) ?_
  refine lv_iadd hx hb dL_law_262 ?_
  refine n_eqi (y := 2) (by decide) ?_
  refine va_sld hx hb hX hbl hbA hS (n_in (by decide)) dL_law_263 ?_
  refine n_eqi (y := xs 2) rfl ?_
  refine lv_i2c (v := (((xs 2).toUInt32 % 65536).toInt32)) hx hb dL_law_264 rfl ?_
  refine lv_aload_n hx hb dL_law_265 rfl (lv_at hl 0 rfl) ?_
  refine lv_iload hx hb dL_law_266 (lv_at hl 5 rfl) ?_
  refine lv_iconst (v := 3) hx hb dL_law_268 (by decide) ?_
  refine lv_iadd hx hb dL_law_269 ?_
  refine n_eqi (y := 3) (by decide) ?_
  refine va_sld hx hb hX hbl hbA hS (n_in (by decide)) dL_law_270 ?_
  refine n_eqi (y := xs 3) rfl ?_
  refine lv_aload_n hx hb dL_law_271 rfl (lv_at hl 3 rfl) ?_
  refine n_ci (wr := [(y, .inr (13, [.ref yq1, .ref yq2, .int 0, .ref yq3, .int 0, .int 0, .int 0, .ref yq4, .ref yq5, .int 0, .ref yq6, .int (-1), .ref yq7, .int 0, .ref yq8, .ref yq9, .ref yq10, .ref yq11, .int 0, .int 0, .int 0, .int 0, .ref yq12, .ref yq13, .ref yq14, .ref yq15, .ref yq16])), (yq1, eI G 1191 yf90), (yq3, eI G 9528 (fun _ => 0))]) (vx_runSW (As := [.ref x, .int (((xs 1).toUInt32 % 65536).toInt32), .int (((xs 2).toUInt32 % 65536).toInt32), .int (xs 3), .ref o]) (rest := []) ⟨hx, hb, hml, hown, hts⟩ (mL_addLetter l hl9 G x xq1 xq4 xq25 xq46 xq71 xq75 xq82 xq84 xq48 xf49 xq50 xq51 xq54 xq55 xq56 xf57 xf58 xf59 xq52 xq60 xq53 xq61 xq62 xq63 xq64 (fun _ => 0) (fun _ => 0) (fun _ => 0) (fun _ => 0) xq6 xq7 xq8 xq9 xq10 xq11 xf12 xf13 xf14 xq15 xq16 xq17 xq18 xq19 (fun _ => 0) (fun _ => 0) (fun _ => 0) (fun _ => 0) (((xs 1).toUInt32 % 65536).toInt32) (((xs 2).toUInt32 % 65536).toInt32) (xs 3) o (fun _ => 0) H.size hfa3 hfa4 hfa15 hfa2) (vx_cwSW 5 hts gL_law_L_addLetter2 rfl rfl rfl (by decide +kernel) ⟨(Nat.le_of_ble_eq_true rfl), (Nat.le_of_ble_eq_true rfl)⟩) (n_prX hK hP hD hS hA [0, 12, 13, 14, 15, 16, 17, 18, 19, 20, 21, 22, 23, 24, 1, 2, 3, 4, 5, 6, 7, 8, 9, 10, 11, 28] rfl (by decide) hE) rfl rfl hl.1 rfl (lv_room (Nat.le_of_ble_eq_true rfl)) dL_law_272 ⟨(Nat.le_of_ble_eq_true rfl), (Nat.le_of_ble_eq_true rfl)⟩) hP hD hS hA [0, 12, 13, 14, 15, 16, 17, 18, 19, 20, 21, 22, 23, 24, 1, 2, 3, 4, 5, 6, 7, 8, 9, 10, 11, 28] [25, 26, 27] rfl rfl (by decide) (by decide) (fun r_1 f_2 H locs hP hD hS hw => ?_)
  have hP : va_P G.1 vwCl [(y, .inr (13, [.ref yq1, .ref yq2, .int 0, .ref yq3, .int 0, .int 0, .int 0, .ref yq4, .ref yq5, .int 0, .ref yq6, .int (-1), .ref yq7, .int 0, .ref yq8, .ref yq9, .ref yq10, .ref yq11, .int 0, .int 0, .int 0, .int 0, .ref yq12, .ref yq13, .ref yq14, .ref yq15, .ref yq16])), (yq1, eI G 1191 yf90), (yq3, eI G 9528 (fun _ => 0)), (o, eJ G 1 f_2)] H := hP
  have hD : va_D A [(y, .inr (13, [.ref yq1, .ref yq2, .int 0, .ref yq3, .int 0, .int 0, .int 0, .ref yq4, .ref yq5, .int 0, .ref yq6, .int (-1), .ref yq7, .int 0, .ref yq8, .ref yq9, .ref yq10, .ref yq11, .int 0, .int 0, .int 0, .int 0, .ref yq12, .ref yq13, .ref yq14, .ref yq15, .ref yq16])), (yq1, eI G 1191 yf90), (yq3, eI G 9528 (fun _ => 0)), (o, eJ G 1 f_2)] := hD
  obtain ⟨hw, hf_4⟩ := hw
  have hw : r_1 = (nkA (((xs 1).toUInt32 % 65536).toInt32) (((xs 2).toUInt32 % 65536).toInt32) (xs 3)) := hw
  subst hw
  try dsimp only
  have hf_4 : nkA (((xs 1).toUInt32 % 65536).toInt32) (((xs 2).toUInt32 % 65536).toInt32) (xs 3) = 0 → f_2 0 = (27 : Int32).toInt64 := hf_4
  refine lv_istore (lv' := [(6, .int (nkA (((xs 1).toUInt32 % 65536).toInt32) (((xs 2).toUInt32 % 65536).toInt32) (xs 3))), (0, .ref b), (1, .ref x), (2, .ref y), (3, .ref o), (4, .ref od), (5, .int 0)]) hx hb dL_law_275 hl (by decide) rfl (fun ls hl => ?_)
  refine lv_aload_n hx hb dL_law_277 rfl (lv_at hl 3 rfl) ?_
  refine lv_aload_n hx hb dL_law_278 rfl (lv_at hl 1 rfl) ?_
  refine lv_iload hx hb dL_law_279 (lv_at hl 6 rfl) ?_
  refine lv_iconst (v := 1) hx hb dL_law_281 (by decide) ?_
  refine lv_iadd hx hb dL_law_282 ?_
  refine n_eqi (y := 1) (by decide) ?_
  refine va_sld hx hb hX hbl hbA hS (n_in (by decide)) dL_law_283 ?_
  refine n_eqi (y := xs 1) rfl ?_
  refine lv_i2c (v := (((xs 1).toUInt32 % 65536).toInt32)) hx hb dL_law_284 rfl ?_
  refine lv_aload_n hx hb dL_law_285 rfl (lv_at hl 1 rfl) ?_
  refine lv_iload hx hb dL_law_286 (lv_at hl 6 rfl) ?_
  refine lv_iconst (v := 2) hx hb dL_law_288 (by decide) ?_
  refine lv_iadd hx hb dL_law_289 ?_
  refine n_eqi (y := 2) (by decide) ?_
  refine va_sld hx hb hX hbl hbA hS (n_in (by decide)) dL_law_290 ?_
  refine n_eqi (y := xs 2) rfl ?_
  refine lv_i2c (v := (((xs 2).toUInt32 % 65536).toInt32)) hx hb dL_law_291 rfl ?_
  refine lv_aload_n hx hb dL_law_292 rfl (lv_at hl 1 rfl) ?_
  refine lv_iload hx hb dL_law_293 (lv_at hl 6 rfl) ?_
  refine lv_iconst (v := 3) hx hb dL_law_295 (by decide) ?_
  refine lv_iadd hx hb dL_law_296 ?_
  refine n_eqi (y := 3) (by decide) ?_
  refine va_sld hx hb hX hbl hbA hS (n_in (by decide)) dL_law_297 ?_
  refine n_eqi (y := xs 3) rfl ?_
  refine n_ci (wr := [(o, eJ G 1 f_2)]) (va_runV (As := [.int (((xs 1).toUInt32 % 65536).toInt32), .int (((xs 2).toUInt32 % 65536).toInt32), .int (xs 3)]) (rest := []) ⟨hx, hb, hml, hown, hts⟩ (mX12_addLetter l G y yq1 yq2 yq3 yq4 yq5 yq6 yq7 yq8 yq9 yq10 yq11 yq12 yq13 yq14 yq15 yq16 0 0 0 0 (-1) 0 0 0 0 0 yf90 (fun _ => 0) (((xs 1).toUInt32 % 65536).toInt32) (((xs 2).toUInt32 % 65536).toInt32) (xs 3) H.size hfa16) (cwV 3 hts gL_law_X12_addLetter rfl rfl rfl (by decide +kernel) ⟨(Nat.le_of_ble_eq_true rfl), (Nat.le_of_ble_eq_true rfl)⟩) (n_prV (ci := 13) (q0 := 0) hK hP hD [0, 1, 2] rfl (by decide) rfl rfl) rfl rfl hl.1 rfl (lv_room (Nat.le_of_ble_eq_true rfl)) dL_law_298 ⟨(Nat.le_of_ble_eq_true rfl), (Nat.le_of_ble_eq_true rfl)⟩) hP hD hS hA [0, 1, 2] [3] rfl rfl (by decide) (by decide) (fun r_5 u_6 H locs hP hD hS hw => ?_)
  obtain ⟨k_7, k_8⟩ := u_6
  have hP : va_P G.1 vwCl [(o, eJ G 1 f_2), (y, .inr (13, [.ref yq1, .ref yq2, .int 0, .ref yq3, .int k_8, .int k_7, .int 0, .ref yq4, .ref yq5, .int 0, .ref yq6, .int (-1), .ref yq7, .int 0, .ref yq8, .ref yq9, .ref yq10, .ref yq11, .int 0, .int 0, .int 0, .int 0, .ref yq12, .ref yq13, .ref yq14, .ref yq15, .ref yq16]))] H := hP
  have hD : va_D A [(o, eJ G 1 f_2), (y, .inr (13, [.ref yq1, .ref yq2, .int 0, .ref yq3, .int k_8, .int k_7, .int 0, .ref yq4, .ref yq5, .int 0, .ref yq6, .int (-1), .ref yq7, .int 0, .ref yq8, .ref yq9, .ref yq10, .ref yq11, .int 0, .int 0, .int 0, .int 0, .ref yq12, .ref yq13, .ref yq14, .ref yq15, .ref yq16]))] := hD
  have hr_9 : (k_7 = nkA (((xs 1).toUInt32 % 65536).toInt32) (((xs 2).toUInt32 % 65536).toInt32) (xs 3) ∧ (k_7 = 0 → r_5 = 27)) := hw
  obtain ⟨hk_11, hv_10⟩ := hr_9
  subst hk_11
  refine lv_istore (lv' := [(7, .int r_5), (6, .int (nkA (((xs 1).toUInt32 % 65536).toInt32) (((xs 2).toUInt32 % 65536).toInt32) (xs 3))), (0, .ref b), (1, .ref x), (2, .ref y), (3, .ref o), (4, .ref od), (5, .int 0)]) hx hb dL_law_301 hl (by decide) rfl (fun ls hl => ?_)
  refine lv_aload_n hx hb dL_law_303 rfl (lv_at hl 4 rfl) ?_
  refine n_ci (wr := [(o, eJ G 1 f_2)]) (va_runV (As := []) (rest := []) ⟨hx, hb, hml, hown, hts⟩ (mX12_thrown l G y yq1 yq2 yq3 yq4 yq5 yq6 yq7 yq8 yq9 yq10 yq11 yq12 yq13 yq14 yq15 yq16 0 k_8 (nkA (((xs 1).toUInt32 % 65536).toInt32) (((xs 2).toUInt32 % 65536).toInt32) (xs 3)) 0 0 (-1) 0 0 0 0 0 H.size) (cwV 0 hts gL_law_X12_thrown rfl rfl rfl (by decide +kernel) ⟨(Nat.le_of_ble_eq_true rfl), (Nat.le_of_ble_eq_true rfl)⟩) (n_prV (ci := 13) (q0 := 1) hK hP hD [1] rfl (by decide) rfl rfl) rfl rfl hl.1 rfl (lv_room (Nat.le_of_ble_eq_true rfl)) dL_law_304 ⟨(Nat.le_of_ble_eq_true rfl), (Nat.le_of_ble_eq_true rfl)⟩) hP hD hS hA [1] [0] rfl rfl (by decide) (by decide) (fun r_12 u_13 H locs hP hD hS hw => ?_)
  have hP : va_P G.1 vwCl [(o, eJ G 1 f_2), (y, .inr (13, [.ref yq1, .ref yq2, .int 0, .ref yq3, .int k_8, .int (nkA (((xs 1).toUInt32 % 65536).toInt32) (((xs 2).toUInt32 % 65536).toInt32) (xs 3)), .int 0, .ref yq4, .ref yq5, .int 0, .ref yq6, .int (-1), .ref yq7, .int 0, .ref yq8, .ref yq9, .ref yq10, .ref yq11, .int 0, .int 0, .int 0, .int 0, .ref yq12, .ref yq13, .ref yq14, .ref yq15, .ref yq16]))] H := hP
  have hD : va_D A [(o, eJ G 1 f_2), (y, .inr (13, [.ref yq1, .ref yq2, .int 0, .ref yq3, .int k_8, .int (nkA (((xs 1).toUInt32 % 65536).toInt32) (((xs 2).toUInt32 % 65536).toInt32) (xs 3)), .int 0, .ref yq4, .ref yq5, .int 0, .ref yq6, .int (-1), .ref yq7, .int 0, .ref yq8, .ref yq9, .ref yq10, .ref yq11, .int 0, .int 0, .int 0, .int 0, .ref yq12, .ref yq13, .ref yq14, .ref yq15, .ref yq16]))] := hD
  have hw : r_12 = (nkA (((xs 1).toUInt32 % 65536).toInt32) (((xs 2).toUInt32 % 65536).toInt32) (xs 3)) := hw
  subst hw
  try dsimp only
  refine lv_iload hx hb dL_law_307 (lv_at hl 1 rfl) ?_
  refine lv_icmp_eq (tgt := 314) hx hb dL_law_309 (by decide) (fun _ => ?_) (fun h9 => absurd rfl h9)
  refine lv_iload hx hb dL_law_314 (lv_at hl 1 rfl) ?_
  refine lv_if_ne (tgt := 331) hx hb dL_law_316 (by decide) (fun c_316 => ?_) (fun c_316 => ?_)
  · skip
    refine lv_goto (tgt := 2342) hx hb dL_law_331 (by decide) ?_
    refine W.widen (k := 2000) (n := 60000) (Nat.le_of_ble_eq_true rfl) (Nat.le_of_ble_eq_true rfl) ?_
    exact hend H locs ls hS (lv_sub hl [2, 7] rfl)
  · skip
    refine lv_aload_n hx hb dL_law_319 rfl (lv_at hl 5 rfl) ?_
    refine lv_iconst (v := 0) hx hb dL_law_320 (by decide) ?_
    refine va_lald hx hb hK hP 0 2 rfl rfl (n_in (by decide)) dL_law_321 ?_
    refine n_eql (y := ((27 : Int32).toInt64)) (hf_4 c_316) ?_
    refine lv_iload hx hb dL_law_322 (lv_at hl 0 rfl) ?_
    refine lv_i2l (v := (r_5 : Int32).toInt64) hx hb dL_law_324 rfl ?_
    refine W.lcmp hx hb dL_law_325 ?_
    refine n_eqi (y := 0) (by rw [hv_10 c_316]; exact n_lg _) ?_
    refine lv_if_eq (tgt := 331) hx hb dL_law_326 (by decide) (fun _ => ?_) (fun h9 => absurd (by decide) h9)
    refine lv_goto (tgt := 2342) hx hb dL_law_331 (by decide) ?_
    refine W.widen (k := 2000) (n := 60000) (Nat.le_of_ble_eq_true rfl) (Nat.le_of_ble_eq_true rfl) ?_
    exact hend H locs ls hS (lv_sub hl [2, 7] rfl)

set_option maxHeartbeats 8000000 in
set_option maxRecDepth 100000 in
theorem law_c2 {p : Program} {l : Launch} {e : Env} {s : State} {m : MethodId} {below : List Frame} {meth : Method} {c : Code} {args : Array Value} {Q : State → Prop} {A : Nat → Prop} (hl9 : l.stackTraces = false) (G : nG) (x : Nat) (xq1 : Nat) (xq4 : Nat) (xq25 : Nat) (xq46 : Nat) (xq71 : Nat) (xq75 : Nat) (xq82 : Nat) (xq84 : Nat) (xq6 : Nat) (xq7 : Nat) (xq8 : Nat) (xq9 : Nat) (xq10 : Nat) (xq11 : Nat) (xf12 : Nat → Int32) (xf13 : Nat → Int32) (xf14 : Nat → Int32) (xq15 : Nat) (xq16 : Nat) (xq17 : Nat) (xq18 : Nat) (xq19 : Nat) (xq48 : Nat) (xf49 : Nat → Option Nat) (xq50 : Nat) (xq51 : Nat) (xq52 : Nat) (xq53 : Nat) (xq54 : Nat) (xq55 : Nat) (xq56 : Nat) (xf57 : Nat → Int32) (xf58 : Nat → Int32) (xf59 : Nat → Int32) (xq60 : Nat) (xq61 : Nat) (xq62 : Nat) (xq63 : Nat) (xq64 : Nat) (y : Nat) (yq1 : Nat) (yq2 : Nat) (yq3 : Nat) (yq4 : Nat) (yq5 : Nat) (yq6 : Nat) (yq7 : Nat) (yq8 : Nat) (yq9 : Nat) (yq10 : Nat) (yq11 : Nat) (yq12 : Nat) (yq13 : Nat) (yq14 : Nat) (yq15 : Nat) (yq16 : Nat) (yf90 : Nat → Int32) (o : Nat) (od : Nat) (b : Nat) (xs : Nat → Int32) (hx : p.tables.exec = Jvm.exec) (hb : c.code = cL_law) (hml : c.maxLocals = 9) (hown : s.vm.findClass RL = some m.cls) (hts : ∀ w ∈ wsL_law, w.before args s = true) (hX : va_X b 5 xs s s.heap) (hbl : b < s.heap.size) (hbA : ¬ A b) (hA : ∀ q : Nat, s.heap.size ≤ q → A q) (hK : va_K G.1 vwCl (n_ty G) s) (hE : n_ex A s s.heap) (hfa3 : nFit xf13) (hfa4 : nFit xf14) (hfa15 : xf49 0 = some xq50) (hfa16 : nMod yf90)
    (hend : ∀ (H : Heap) (locs : List Loc) (ls : Array Slot), va_S A s.heap H locs → lv_has ls 9 [(0, .ref b), (5, .int 0)] → W p l e room_1 s m args below meth c H locs 2000 60000 Q (F0 m 2342 ls []))
    (H : Heap) (locs : List Loc) (ls : Array Slot) (hP : va_P G.1 vwCl [(x, .inr (12, [.ref xq1, .ref xq4, .ref xq25, .ref xq46, .ref xq71, .ref xq75, .ref xq82, .ref xq84, .int 0])), (xq4, .inr (5, [.ref xq6, .ref xq7, .ref xq8])), (xq6, .inr (2, [.ref xq9, .ref xq10, .ref xq11, .int 26])), (xq9, eI G 36 xf12), (xq10, eC G 36 xf13), (xq11, eC G 36 xf14), (xq7, .inr (9, [.ref xq15, .int 0])), (xq8, .inr (11, [.ref xq16, .ref xq17, .ref xq18, .ref xq19, .int 0])), (xq16, eI G 8 (fun _ => 0)), (xq17, eI G 8 (fun _ => 0)), (xq18, eI G 8 (fun _ => 0)), (xq19, eI G 8 (fun _ => 0)), (xq46, .inr (7, [.ref xq48, .int 0, .int 0])), (xq48, eR G 9 xf49), (xq50, .inr (5, [.ref xq51, .ref xq52, .ref xq53])), (xq51, .inr (2, [.ref xq54, .ref xq55, .ref xq56, .int 26])), (xq54, eI G 36 xf57), (xq55, eC G 36 xf58), (xq56, eC G 36 xf59), (xq52, .inr (9, [.ref xq60, .int 0])), (xq53, .inr (11, [.ref xq61, .ref xq62, .ref xq63, .ref xq64, .int 0])), (xq61, eI G 8 (fun _ => 0)), (xq62, eI G 8 (fun _ => 0)), (xq63, eI G 8 (fun _ => 0)), (xq64, eI G 8 (fun _ => 0)), (y, .inr (13, [.ref yq1, .ref yq2, .int 0, .ref yq3, .int 0, .int 0, .int 0, .ref yq4, .ref yq5, .int 0, .ref yq6, .int (-1), .ref yq7, .int 0, .ref yq8, .ref yq9, .ref yq10, .ref yq11, .int 0, .int 0, .int 0, .int 0, .ref yq12, .ref yq13, .ref yq14, .ref yq15, .ref yq16])), (yq1, eI G 1191 yf90), (yq3, eI G 9528 (fun _ => 0)), (o, eJ G 1 (fun _ => 0))] H) (hD : va_D A [(x, .inr (12, [.ref xq1, .ref xq4, .ref xq25, .ref xq46, .ref xq71, .ref xq75, .ref xq82, .ref xq84, .int 0])), (xq4, .inr (5, [.ref xq6, .ref xq7, .ref xq8])), (xq6, .inr (2, [.ref xq9, .ref xq10, .ref xq11, .int 26])), (xq9, eI G 36 xf12), (xq10, eC G 36 xf13), (xq11, eC G 36 xf14), (xq7, .inr (9, [.ref xq15, .int 0])), (xq8, .inr (11, [.ref xq16, .ref xq17, .ref xq18, .ref xq19, .int 0])), (xq16, eI G 8 (fun _ => 0)), (xq17, eI G 8 (fun _ => 0)), (xq18, eI G 8 (fun _ => 0)), (xq19, eI G 8 (fun _ => 0)), (xq46, .inr (7, [.ref xq48, .int 0, .int 0])), (xq48, eR G 9 xf49), (xq50, .inr (5, [.ref xq51, .ref xq52, .ref xq53])), (xq51, .inr (2, [.ref xq54, .ref xq55, .ref xq56, .int 26])), (xq54, eI G 36 xf57), (xq55, eC G 36 xf58), (xq56, eC G 36 xf59), (xq52, .inr (9, [.ref xq60, .int 0])), (xq53, .inr (11, [.ref xq61, .ref xq62, .ref xq63, .ref xq64, .int 0])), (xq61, eI G 8 (fun _ => 0)), (xq62, eI G 8 (fun _ => 0)), (xq63, eI G 8 (fun _ => 0)), (xq64, eI G 8 (fun _ => 0)), (y, .inr (13, [.ref yq1, .ref yq2, .int 0, .ref yq3, .int 0, .int 0, .int 0, .ref yq4, .ref yq5, .int 0, .ref yq6, .int (-1), .ref yq7, .int 0, .ref yq8, .ref yq9, .ref yq10, .ref yq11, .int 0, .int 0, .int 0, .int 0, .ref yq12, .ref yq13, .ref yq14, .ref yq15, .ref yq16])), (yq1, eI G 1191 yf90), (yq3, eI G 9528 (fun _ => 0)), (o, eJ G 1 (fun _ => 0))]) (hS : va_S A s.heap H locs) (hl : lv_has ls 9 [(0, .ref b), (1, .ref x), (2, .ref y), (3, .ref o), (4, .ref od), (5, .int 0)]) : W p l e room_1 s m args below meth c H locs 609 18141 Q (F0 m 334 ls []) := by
  refine lv_aload_n hx hb dL_law_334 rfl (lv_at hl 1 rfl) ?_
  refine lv_aload_n hx hb dL_law_335 rfl (lv_at hl 0 rfl) ?_
  refine lv_iload hx hb dL_law_336 (lv_at hl 5 rfl) ?_
  refine lv_iconst (v := 1) hx hb dL_law_338 (by decide) ?_
  refine lv_iadd hx hb dL_law_339 ?_
  refine n_eqi (y := 1) (by decide) ?_
  refine va_sld hx hb hX hbl hbA hS (n_in (by decide)) dL_law_340 ?_
  refine n_eqi (y := xs 1) rfl ?_
  refine lv_aload_n hx hb dL_law_341 rfl (lv_at hl 0 rfl) ?_
  refine lv_iload hx hb dL_law_342 (lv_at hl 5 rfl) ?_
  refine lv_iconst (v := 2) hx hb dL_law_344 (by decide) ?_
  refine lv_iadd hx hb dL_law_345 ?_
  refine n_eqi (y := 2) (by decide) ?_
  refine va_sld hx hb hX hbl hbA hS (n_in (by decide)) dL_law_346 ?_
  refine n_eqi (y := xs 2) rfl ?_
  refine lv_aload_n hx hb dL_law_347 rfl (lv_at hl 3 rfl) ?_
  refine n_ci (wr := [(y, .inr (13, [.ref yq1, .ref yq2, .int 0, .ref yq3, .int 0, .int 0, .int 0, .ref yq4, .ref yq5, .int 0, .ref yq6, .int (-1), .ref yq7, .int 0, .ref yq8, .ref yq9, .ref yq10, .ref yq11, .int 0, .int 0, .int 0, .int 0, .ref yq12, .ref yq13, .ref yq14, .ref yq15, .ref yq16])), (yq1, eI G 1191 yf90), (yq3, eI G 9528 (fun _ => 0))]) (vx_runSW (As := [.ref x, .int (xs 1), .int (xs 2), .ref o]) (rest := []) ⟨hx, hb, hml, hown, hts⟩ (mL_moveLetter l hl9 G x xq1 xq4 xq25 xq46 xq71 xq75 xq82 xq84 xq48 xf49 xq50 xq51 xq54 xq55 xq56 xf57 xf58 xf59 xq52 xq60 xq53 xq61 xq62 xq63 xq64 (fun _ => 0) (fun _ => 0) (fun _ => 0) (fun _ => 0) xq6 xq7 xq8 xq9 xq10 xq11 xf12 xf13 xf14 xq15 xq16 xq17 xq18 xq19 (fun _ => 0) (fun _ => 0) (fun _ => 0) (fun _ => 0) (xs 1) (xs 2) o (fun _ => 0) H.size hfa3 hfa4 hfa15) (vx_cwSW 4 hts gL_law_L_moveLetter rfl rfl rfl (by decide +kernel) ⟨(Nat.le_of_ble_eq_true rfl), (Nat.le_of_ble_eq_true rfl)⟩) (n_prX hK hP hD hS hA [0, 12, 13, 14, 15, 16, 17, 18, 19, 20, 21, 22, 23, 24, 1, 2, 3, 4, 5, 6, 7, 8, 9, 10, 11, 28] rfl (by decide) hE) rfl rfl hl.1 rfl (lv_room (Nat.le_of_ble_eq_true rfl)) dL_law_348 ⟨(Nat.le_of_ble_eq_true rfl), (Nat.le_of_ble_eq_true rfl)⟩) hP hD hS hA [0, 12, 13, 14, 15, 16, 17, 18, 19, 20, 21, 22, 23, 24, 1, 2, 3, 4, 5, 6, 7, 8, 9, 10, 11, 28] [25, 26, 27] rfl rfl (by decide) (by decide) (fun r_1 f_2 H locs hP hD hS hw => ?_)
  have hP : va_P G.1 vwCl [(y, .inr (13, [.ref yq1, .ref yq2, .int 0, .ref yq3, .int 0, .int 0, .int 0, .ref yq4, .ref yq5, .int 0, .ref yq6, .int (-1), .ref yq7, .int 0, .ref yq8, .ref yq9, .ref yq10, .ref yq11, .int 0, .int 0, .int 0, .int 0, .ref yq12, .ref yq13, .ref yq14, .ref yq15, .ref yq16])), (yq1, eI G 1191 yf90), (yq3, eI G 9528 (fun _ => 0)), (o, eJ G 1 f_2)] H := hP
  have hD : va_D A [(y, .inr (13, [.ref yq1, .ref yq2, .int 0, .ref yq3, .int 0, .int 0, .int 0, .ref yq4, .ref yq5, .int 0, .ref yq6, .int (-1), .ref yq7, .int 0, .ref yq8, .ref yq9, .ref yq10, .ref yq11, .int 0, .int 0, .int 0, .int 0, .ref yq12, .ref yq13, .ref yq14, .ref yq15, .ref yq16])), (yq1, eI G 1191 yf90), (yq3, eI G 9528 (fun _ => 0)), (o, eJ G 1 f_2)] := hD
  obtain ⟨hw, hf_4⟩ := hw
  have hw : r_1 = (nkM (xs 1) (xs 2)) := hw
  subst hw
  try dsimp only
  have hf_4 : nkM (xs 1) (xs 2) = 0 → f_2 0 = (nvM (xs 1) (xs 2) : Int32).toInt64 := hf_4
  refine lv_istore (lv' := [(6, .int (nkM (xs 1) (xs 2))), (0, .ref b), (1, .ref x), (2, .ref y), (3, .ref o), (4, .ref od), (5, .int 0)]) hx hb dL_law_351 hl (by decide) rfl (fun ls hl => ?_)
  refine lv_aload_n hx hb dL_law_353 rfl (lv_at hl 3 rfl) ?_
  refine lv_aload_n hx hb dL_law_354 rfl (lv_at hl 1 rfl) ?_
  refine lv_iload hx hb dL_law_355 (lv_at hl 6 rfl) ?_
  refine lv_iconst (v := 1) hx hb dL_law_357 (by decide) ?_
  refine lv_iadd hx hb dL_law_358 ?_
  refine n_eqi (y := 1) (by decide) ?_
  refine va_sld hx hb hX hbl hbA hS (n_in (by decide)) dL_law_359 ?_
  refine n_eqi (y := xs 1) rfl ?_
  refine lv_aload_n hx hb dL_law_360 rfl (lv_at hl 1 rfl) ?_
  refine lv_iload hx hb dL_law_361 (lv_at hl 6 rfl) ?_
  refine lv_iconst (v := 2) hx hb dL_law_363 (by decide) ?_
  refine lv_iadd hx hb dL_law_364 ?_
  refine n_eqi (y := 2) (by decide) ?_
  refine va_sld hx hb hX hbl hbA hS (n_in (by decide)) dL_law_365 ?_
  refine n_eqi (y := xs 2) rfl ?_
  refine n_ci (wr := [(o, eJ G 1 f_2)]) (va_runV (As := [.int (xs 1), .int (xs 2)]) (rest := []) ⟨hx, hb, hml, hown, hts⟩ (mX12_moveLetter l G y yq1 yq2 yq3 yq4 yq5 yq6 yq7 yq8 yq9 yq10 yq11 yq12 yq13 yq14 yq15 yq16 0 0 0 0 (-1) 0 0 0 0 0 yf90 (fun _ => 0) (xs 1) (xs 2) H.size hfa16) (cwV 2 hts gL_law_X12_moveLetter rfl rfl rfl (by decide +kernel) ⟨(Nat.le_of_ble_eq_true rfl), (Nat.le_of_ble_eq_true rfl)⟩) (n_prV (ci := 13) (q0 := 0) hK hP hD [0, 1, 2] rfl (by decide) rfl rfl) rfl rfl hl.1 rfl (lv_room (Nat.le_of_ble_eq_true rfl)) dL_law_366 ⟨(Nat.le_of_ble_eq_true rfl), (Nat.le_of_ble_eq_true rfl)⟩) hP hD hS hA [0, 1, 2] [3] rfl rfl (by decide) (by decide) (fun r_5 u_6 H locs hP hD hS hw => ?_)
  obtain ⟨k_7, k_8⟩ := u_6
  have hP : va_P G.1 vwCl [(o, eJ G 1 f_2), (y, .inr (13, [.ref yq1, .ref yq2, .int 0, .ref yq3, .int k_8, .int k_7, .int 0, .ref yq4, .ref yq5, .int 0, .ref yq6, .int (-1), .ref yq7, .int 0, .ref yq8, .ref yq9, .ref yq10, .ref yq11, .int 0, .int 0, .int 0, .int 0, .ref yq12, .ref yq13, .ref yq14, .ref yq15, .ref yq16]))] H := hP
  have hD : va_D A [(o, eJ G 1 f_2), (y, .inr (13, [.ref yq1, .ref yq2, .int 0, .ref yq3, .int k_8, .int k_7, .int 0, .ref yq4, .ref yq5, .int 0, .ref yq6, .int (-1), .ref yq7, .int 0, .ref yq8, .ref yq9, .ref yq10, .ref yq11, .int 0, .int 0, .int 0, .int 0, .ref yq12, .ref yq13, .ref yq14, .ref yq15, .ref yq16]))] := hD
  have hr_9 : (k_7 = nkM (xs 1) (xs 2) ∧ (k_7 = 0 → r_5 = nvM (xs 1) (xs 2))) := hw
  obtain ⟨hk_11, hv_10⟩ := hr_9
  subst hk_11
  refine lv_istore (lv' := [(7, .int r_5), (6, .int (nkM (xs 1) (xs 2))), (0, .ref b), (1, .ref x), (2, .ref y), (3, .ref o), (4, .ref od), (5, .int 0)]) hx hb dL_law_369 hl (by decide) rfl (fun ls hl => ?_)
  refine lv_aload_n hx hb dL_law_371 rfl (lv_at hl 4 rfl) ?_
  refine n_ci (wr := [(o, eJ G 1 f_2)]) (va_runV (As := []) (rest := []) ⟨hx, hb, hml, hown, hts⟩ (mX12_thrown l G y yq1 yq2 yq3 yq4 yq5 yq6 yq7 yq8 yq9 yq10 yq11 yq12 yq13 yq14 yq15 yq16 0 k_8 (nkM (xs 1) (xs 2)) 0 0 (-1) 0 0 0 0 0 H.size) (cwV 0 hts gL_law_X12_thrown rfl rfl rfl (by decide +kernel) ⟨(Nat.le_of_ble_eq_true rfl), (Nat.le_of_ble_eq_true rfl)⟩) (n_prV (ci := 13) (q0 := 1) hK hP hD [1] rfl (by decide) rfl rfl) rfl rfl hl.1 rfl (lv_room (Nat.le_of_ble_eq_true rfl)) dL_law_372 ⟨(Nat.le_of_ble_eq_true rfl), (Nat.le_of_ble_eq_true rfl)⟩) hP hD hS hA [1] [0] rfl rfl (by decide) (by decide) (fun r_12 u_13 H locs hP hD hS hw => ?_)
  have hP : va_P G.1 vwCl [(o, eJ G 1 f_2), (y, .inr (13, [.ref yq1, .ref yq2, .int 0, .ref yq3, .int k_8, .int (nkM (xs 1) (xs 2)), .int 0, .ref yq4, .ref yq5, .int 0, .ref yq6, .int (-1), .ref yq7, .int 0, .ref yq8, .ref yq9, .ref yq10, .ref yq11, .int 0, .int 0, .int 0, .int 0, .ref yq12, .ref yq13, .ref yq14, .ref yq15, .ref yq16]))] H := hP
  have hD : va_D A [(o, eJ G 1 f_2), (y, .inr (13, [.ref yq1, .ref yq2, .int 0, .ref yq3, .int k_8, .int (nkM (xs 1) (xs 2)), .int 0, .ref yq4, .ref yq5, .int 0, .ref yq6, .int (-1), .ref yq7, .int 0, .ref yq8, .ref yq9, .ref yq10, .ref yq11, .int 0, .int 0, .int 0, .int 0, .ref yq12, .ref yq13, .ref yq14, .ref yq15, .ref yq16]))] := hD
  have hw : r_12 = (nkM (xs 1) (xs 2)) := hw
  subst hw
  try dsimp only
  refine lv_iload hx hb dL_law_375 (lv_at hl 1 rfl) ?_
  refine lv_icmp_eq (tgt := 382) hx hb dL_law_377 (by decide) (fun _ => ?_) (fun h9 => absurd rfl h9)
  refine lv_iload hx hb dL_law_382 (lv_at hl 1 rfl) ?_
  refine lv_if_ne (tgt := 399) hx hb dL_law_384 (by decide) (fun c_384 => ?_) (fun c_384 => ?_)
  · skip
    refine lv_goto (tgt := 2342) hx hb dL_law_399 (by decide) ?_
    refine W.widen (k := 2000) (n := 60000) (Nat.le_of_ble_eq_true rfl) (Nat.le_of_ble_eq_true rfl) ?_
    exact hend H locs ls hS (lv_sub hl [2, 7] rfl)
  · skip
    refine lv_aload_n hx hb dL_law_387 rfl (lv_at hl 5 rfl) ?_
    refine lv_iconst (v := 0) hx hb dL_law_388 (by decide) ?_
    refine va_lald hx hb hK hP 0 2 rfl rfl (n_in (by decide)) dL_law_389 ?_
    refine n_eql (y := ((nvM (xs 1) (xs 2) : Int32).toInt64)) (hf_4 c_384) ?_
    refine lv_iload hx hb dL_law_390 (lv_at hl 0 rfl) ?_
    refine lv_i2l (v := (r_5 : Int32).toInt64) hx hb dL_law_392 rfl ?_
    refine W.lcmp hx hb dL_law_393 ?_
    refine n_eqi (y := 0) (by rw [hv_10 c_384]; exact n_lg _) ?_
    refine lv_if_eq (tgt := 399) hx hb dL_law_394 (by decide) (fun _ => ?_) (fun h9 => absurd (by decide) h9)
    refine lv_goto (tgt := 2342) hx hb dL_law_399 (by decide) ?_
    refine W.widen (k := 2000) (n := 60000) (Nat.le_of_ble_eq_true rfl) (Nat.le_of_ble_eq_true rfl) ?_
    exact hend H locs ls hS (lv_sub hl [2, 7] rfl)

set_option maxHeartbeats 8000000 in
set_option maxRecDepth 100000 in
theorem law_c3 {p : Program} {l : Launch} {e : Env} {s : State} {m : MethodId} {below : List Frame} {meth : Method} {c : Code} {args : Array Value} {Q : State → Prop} {A : Nat → Prop} (hl9 : l.stackTraces = false) (G : nG) (x : Nat) (xq1 : Nat) (xq4 : Nat) (xq25 : Nat) (xq46 : Nat) (xq71 : Nat) (xq75 : Nat) (xq82 : Nat) (xq84 : Nat) (xq6 : Nat) (xq7 : Nat) (xq8 : Nat) (xq9 : Nat) (xq10 : Nat) (xq11 : Nat) (xf12 : Nat → Int32) (xf13 : Nat → Int32) (xf14 : Nat → Int32) (y : Nat) (yq1 : Nat) (yq2 : Nat) (yq3 : Nat) (yq4 : Nat) (yq5 : Nat) (yq6 : Nat) (yq7 : Nat) (yq8 : Nat) (yq9 : Nat) (yq10 : Nat) (yq11 : Nat) (yq12 : Nat) (yq13 : Nat) (yq14 : Nat) (yq15 : Nat) (yq16 : Nat) (yf90 : Nat → Int32) (o : Nat) (od : Nat) (b : Nat) (xs : Nat → Int32) (hx : p.tables.exec = Jvm.exec) (hb : c.code = cL_law) (hml : c.maxLocals = 9) (hown : s.vm.findClass RL = some m.cls) (hts : ∀ w ∈ wsL_law, w.before args s = true) (hX : va_X b 5 xs s s.heap) (hbl : b < s.heap.size) (hbA : ¬ A b) (hA : ∀ q : Nat, s.heap.size ≤ q → A q) (hK : va_K G.1 vwCl (n_ty G) s) (hE : n_ex A s s.heap) (hfa0 : nRow xf12) (hfa1 : nFst xf13) (hfa2 : nSnd xf14) (hfa16 : nMod yf90)
    (hend : ∀ (H : Heap) (locs : List Loc) (ls : Array Slot), va_S A s.heap H locs → lv_has ls 9 [(0, .ref b), (5, .int 0)] → W p l e room_1 s m args below meth c H locs 2000 60000 Q (F0 m 2342 ls []))
    (H : Heap) (locs : List Loc) (ls : Array Slot) (hP : va_P G.1 vwCl [(x, .inr (12, [.ref xq1, .ref xq4, .ref xq25, .ref xq46, .ref xq71, .ref xq75, .ref xq82, .ref xq84, .int 0])), (xq4, .inr (5, [.ref xq6, .ref xq7, .ref xq8])), (xq6, .inr (2, [.ref xq9, .ref xq10, .ref xq11, .int 26])), (xq9, eI G 36 xf12), (xq10, eC G 36 xf13), (xq11, eC G 36 xf14), (y, .inr (13, [.ref yq1, .ref yq2, .int 0, .ref yq3, .int 0, .int 0, .int 0, .ref yq4, .ref yq5, .int 0, .ref yq6, .int (-1), .ref yq7, .int 0, .ref yq8, .ref yq9, .ref yq10, .ref yq11, .int 0, .int 0, .int 0, .int 0, .ref yq12, .ref yq13, .ref yq14, .ref yq15, .ref yq16])), (yq1, eI G 1191 yf90), (o, eJ G 1 (fun _ => 0))] H) (hD : va_D A [(x, .inr (12, [.ref xq1, .ref xq4, .ref xq25, .ref xq46, .ref xq71, .ref xq75, .ref xq82, .ref xq84, .int 0])), (xq4, .inr (5, [.ref xq6, .ref xq7, .ref xq8])), (xq6, .inr (2, [.ref xq9, .ref xq10, .ref xq11, .int 26])), (xq9, eI G 36 xf12), (xq10, eC G 36 xf13), (xq11, eC G 36 xf14), (y, .inr (13, [.ref yq1, .ref yq2, .int 0, .ref yq3, .int 0, .int 0, .int 0, .ref yq4, .ref yq5, .int 0, .ref yq6, .int (-1), .ref yq7, .int 0, .ref yq8, .ref yq9, .ref yq10, .ref yq11, .int 0, .int 0, .int 0, .int 0, .ref yq12, .ref yq13, .ref yq14, .ref yq15, .ref yq16])), (yq1, eI G 1191 yf90), (o, eJ G 1 (fun _ => 0))]) (hS : va_S A s.heap H locs) (hl : lv_has ls 9 [(0, .ref b), (1, .ref x), (2, .ref y), (3, .ref o), (4, .ref od), (5, .int 0)]) : W p l e room_1 s m args below meth c H locs 609 18141 Q (F0 m 402 ls []) := by
  refine lv_aload_n hx hb dL_law_402 rfl (lv_at hl 1 rfl) ?_
  refine lv_aload_n hx hb dL_law_403 rfl (lv_at hl 0 rfl) ?_
  refine lv_iload hx hb dL_law_404 (lv_at hl 5 rfl) ?_
  refine lv_iconst (v := 1) hx hb dL_law_406 (by decide) ?_
  refine lv_iadd hx hb dL_law_407 ?_
  refine n_eqi (y := 1) (by decide) ?_
  refine va_sld hx hb hX hbl hbA hS (n_in (by decide)) dL_law_408 ?_
  refine n_eqi (y := xs 1) rfl ?_
  refine lv_aload_n hx hb dL_law_409 rfl (lv_at hl 0 rfl) ?_
  refine lv_iload hx hb dL_law_410 (lv_at hl 5 rfl) ?_
  refine lv_iconst (v := 2) hx hb dL_law_412 (by decide) ?_
  refine lv_iadd hx hb dL_law_413 ?_
  refine n_eqi (y := 2) (by decide) ?_
  refine va_sld hx hb hX hbl hbA hS (n_in (by decide)) dL_law_414 ?_
  refine n_eqi (y := xs 2) rfl ?_
  refine lv_if_eq (tgt := 422) hx hb dL_law_415 (by decide) (fun c_415 => ?_) (fun c_415 => ?_)
  · skip
    refine lv_iconst (v := 0) hx hb dL_law_422 (by decide) ?_
    refine lv_aload_n hx hb dL_law_423 rfl (lv_at hl 3 rfl) ?_
    refine n_ci (wr := [(y, .inr (13, [.ref yq1, .ref yq2, .int 0, .ref yq3, .int 0, .int 0, .int 0, .ref yq4, .ref yq5, .int 0, .ref yq6, .int (-1), .ref yq7, .int 0, .ref yq8, .ref yq9, .ref yq10, .ref yq11, .int 0, .int 0, .int 0, .int 0, .ref yq12, .ref yq13, .ref yq14, .ref yq15, .ref yq16])), (yq1, eI G 1191 yf90)]) (vx_runSW (As := [.ref x, .int (xs 1), .int 0, .ref o]) (rest := []) ⟨hx, hb, hml, hown, hts⟩ (mL_letter l hl9 G x xq1 xq4 xq25 xq46 xq71 xq75 xq82 xq84 xq6 xq7 xq8 xq9 xq10 xq11 xf12 xf13 xf14 (xs 1) 0 o (fun _ => 0) H.size hfa0 hfa1 hfa2) (vx_cwSW 4 hts gL_law_L_letter rfl rfl rfl (by decide +kernel) ⟨(Nat.le_of_ble_eq_true rfl), (Nat.le_of_ble_eq_true rfl)⟩) (n_prX hK hP hD hS hA [0, 1, 2, 3, 4, 5, 8] rfl (by decide) hE) rfl rfl hl.1 rfl (lv_room (Nat.le_of_ble_eq_true rfl)) dL_law_424 ⟨(Nat.le_of_ble_eq_true rfl), (Nat.le_of_ble_eq_true rfl)⟩) hP hD hS hA [0, 1, 2, 3, 4, 5, 8] [6, 7] rfl rfl (by decide) (by decide) (fun r_1 f_2 H locs hP hD hS hw => ?_)
    have hP : va_P G.1 vwCl [(y, .inr (13, [.ref yq1, .ref yq2, .int 0, .ref yq3, .int 0, .int 0, .int 0, .ref yq4, .ref yq5, .int 0, .ref yq6, .int (-1), .ref yq7, .int 0, .ref yq8, .ref yq9, .ref yq10, .ref yq11, .int 0, .int 0, .int 0, .int 0, .ref yq12, .ref yq13, .ref yq14, .ref yq15, .ref yq16])), (yq1, eI G 1191 yf90), (o, eJ G 1 f_2)] H := hP
    have hD : va_D A [(y, .inr (13, [.ref yq1, .ref yq2, .int 0, .ref yq3, .int 0, .int 0, .int 0, .ref yq4, .ref yq5, .int 0, .ref yq6, .int (-1), .ref yq7, .int 0, .ref yq8, .ref yq9, .ref yq10, .ref yq11, .int 0, .int 0, .int 0, .int 0, .ref yq12, .ref yq13, .ref yq14, .ref yq15, .ref yq16])), (yq1, eI G 1191 yf90), (o, eJ G 1 f_2)] := hD
    obtain ⟨hw, hf_4⟩ := hw
    have hw : r_1 = (nkP (xs 1)) := hw
    subst hw
    try dsimp only
    have hf_4 : nkP (xs 1) = 0 → f_2 0 = (nvL (xs 1) 0 : Int32).toInt64 := hf_4
    refine lv_istore (lv' := [(6, .int (nkP (xs 1))), (0, .ref b), (1, .ref x), (2, .ref y), (3, .ref o), (4, .ref od), (5, .int 0)]) hx hb dL_law_427 hl (by decide) rfl (fun ls hl => ?_)
    refine lv_aload_n hx hb dL_law_429 rfl (lv_at hl 3 rfl) ?_
    refine lv_aload_n hx hb dL_law_430 rfl (lv_at hl 1 rfl) ?_
    refine lv_iload hx hb dL_law_431 (lv_at hl 6 rfl) ?_
    refine lv_iconst (v := 1) hx hb dL_law_433 (by decide) ?_
    refine lv_iadd hx hb dL_law_434 ?_
    refine n_eqi (y := 1) (by decide) ?_
    refine va_sld hx hb hX hbl hbA hS (n_in (by decide)) dL_law_435 ?_
    refine n_eqi (y := xs 1) rfl ?_
    refine lv_aload_n hx hb dL_law_436 rfl (lv_at hl 1 rfl) ?_
    refine lv_iload hx hb dL_law_437 (lv_at hl 6 rfl) ?_
    refine lv_iconst (v := 2) hx hb dL_law_439 (by decide) ?_
    refine lv_iadd hx hb dL_law_440 ?_
    refine n_eqi (y := 2) (by decide) ?_
    refine va_sld hx hb hX hbl hbA hS (n_in (by decide)) dL_law_441 ?_
    refine n_eqi (y := xs 2) rfl ?_
    refine lv_if_eq (tgt := 449) hx hb dL_law_442 (by decide) (fun _ => ?_) (fun h9 => absurd c_415 h9)
    refine lv_iconst (v := 0) hx hb dL_law_449 (by decide) ?_
    refine n_ci (wr := [(o, eJ G 1 f_2)]) (va_runV (As := [.int (xs 1), .int 0]) (rest := []) ⟨hx, hb, hml, hown, hts⟩ (mX12_letter l G y yq1 yq2 yq3 yq4 yq5 yq6 yq7 yq8 yq9 yq10 yq11 yq12 yq13 yq14 yq15 yq16 0 0 0 0 0 (-1) 0 0 0 0 0 yf90 (xs 1) 0 H.size hfa16) (cwV 2 hts gL_law_X12_letter rfl rfl rfl (by decide +kernel) ⟨(Nat.le_of_ble_eq_true rfl), (Nat.le_of_ble_eq_true rfl)⟩) (n_prV (ci := 13) (q0 := 0) hK hP hD [0, 1] rfl (by decide) rfl rfl) rfl rfl hl.1 rfl (lv_room (Nat.le_of_ble_eq_true rfl)) dL_law_450 ⟨(Nat.le_of_ble_eq_true rfl), (Nat.le_of_ble_eq_true rfl)⟩) hP hD hS hA [0, 1] [2] rfl rfl (by decide) (by decide) (fun r_5 k_6 H locs hP hD hS hw => ?_)
    have hP : va_P G.1 vwCl [(o, eJ G 1 f_2), (y, .inr (13, [.ref yq1, .ref yq2, .int 0, .ref yq3, .int 0, .int k_6, .int 0, .ref yq4, .ref yq5, .int 0, .ref yq6, .int (-1), .ref yq7, .int 0, .ref yq8, .ref yq9, .ref yq10, .ref yq11, .int 0, .int 0, .int 0, .int 0, .ref yq12, .ref yq13, .ref yq14, .ref yq15, .ref yq16]))] H := hP
    have hD : va_D A [(o, eJ G 1 f_2), (y, .inr (13, [.ref yq1, .ref yq2, .int 0, .ref yq3, .int 0, .int k_6, .int 0, .ref yq4, .ref yq5, .int 0, .ref yq6, .int (-1), .ref yq7, .int 0, .ref yq8, .ref yq9, .ref yq10, .ref yq11, .int 0, .int 0, .int 0, .int 0, .ref yq12, .ref yq13, .ref yq14, .ref yq15, .ref yq16]))] := hD
    have hr_8 : (k_6 = nkP (xs 1) ∧ (k_6 = 0 → r_5 = nvL (xs 1) 0)) := hw
    obtain ⟨hk_10, hv_9⟩ := hr_8
    subst hk_10
    refine lv_istore (lv' := [(7, .int r_5), (6, .int (nkP (xs 1))), (0, .ref b), (1, .ref x), (2, .ref y), (3, .ref o), (4, .ref od), (5, .int 0)]) hx hb dL_law_453 hl (by decide) rfl (fun ls hl => ?_)
    refine lv_aload_n hx hb dL_law_455 rfl (lv_at hl 4 rfl) ?_
    refine n_ci (wr := [(o, eJ G 1 f_2)]) (va_runV (As := []) (rest := []) ⟨hx, hb, hml, hown, hts⟩ (mX12_thrown l G y yq1 yq2 yq3 yq4 yq5 yq6 yq7 yq8 yq9 yq10 yq11 yq12 yq13 yq14 yq15 yq16 0 0 (nkP (xs 1)) 0 0 (-1) 0 0 0 0 0 H.size) (cwV 0 hts gL_law_X12_thrown rfl rfl rfl (by decide +kernel) ⟨(Nat.le_of_ble_eq_true rfl), (Nat.le_of_ble_eq_true rfl)⟩) (n_prV (ci := 13) (q0 := 1) hK hP hD [1] rfl (by decide) rfl rfl) rfl rfl hl.1 rfl (lv_room (Nat.le_of_ble_eq_true rfl)) dL_law_456 ⟨(Nat.le_of_ble_eq_true rfl), (Nat.le_of_ble_eq_true rfl)⟩) hP hD hS hA [1] [0] rfl rfl (by decide) (by decide) (fun r_11 u_12 H locs hP hD hS hw => ?_)
    have hP : va_P G.1 vwCl [(o, eJ G 1 f_2), (y, .inr (13, [.ref yq1, .ref yq2, .int 0, .ref yq3, .int 0, .int (nkP (xs 1)), .int 0, .ref yq4, .ref yq5, .int 0, .ref yq6, .int (-1), .ref yq7, .int 0, .ref yq8, .ref yq9, .ref yq10, .ref yq11, .int 0, .int 0, .int 0, .int 0, .ref yq12, .ref yq13, .ref yq14, .ref yq15, .ref yq16]))] H := hP
    have hD : va_D A [(o, eJ G 1 f_2), (y, .inr (13, [.ref yq1, .ref yq2, .int 0, .ref yq3, .int 0, .int (nkP (xs 1)), .int 0, .ref yq4, .ref yq5, .int 0, .ref yq6, .int (-1), .ref yq7, .int 0, .ref yq8, .ref yq9, .ref yq10, .ref yq11, .int 0, .int 0, .int 0, .int 0, .ref yq12, .ref yq13, .ref yq14, .ref yq15, .ref yq16]))] := hD
    have hw : r_11 = (nkP (xs 1)) := hw
    subst hw
    try dsimp only
    refine lv_iload hx hb dL_law_459 (lv_at hl 1 rfl) ?_
    refine lv_icmp_eq (tgt := 466) hx hb dL_law_461 (by decide) (fun _ => ?_) (fun h9 => absurd rfl h9)
    refine lv_iload hx hb dL_law_466 (lv_at hl 1 rfl) ?_
    refine lv_if_ne (tgt := 483) hx hb dL_law_468 (by decide) (fun c_468 => ?_) (fun c_468 => ?_)
    · skip
      refine lv_goto (tgt := 2342) hx hb dL_law_483 (by decide) ?_
      refine W.widen (k := 2000) (n := 60000) (Nat.le_of_ble_eq_true rfl) (Nat.le_of_ble_eq_true rfl) ?_
      exact hend H locs ls hS (lv_sub hl [2, 7] rfl)
    · skip
      refine lv_aload_n hx hb dL_law_471 rfl (lv_at hl 5 rfl) ?_
      refine lv_iconst (v := 0) hx hb dL_law_472 (by decide) ?_
      refine va_lald hx hb hK hP 0 2 rfl rfl (n_in (by decide)) dL_law_473 ?_
      refine n_eql (y := ((nvL (xs 1) 0 : Int32).toInt64)) (hf_4 c_468) ?_
      refine lv_iload hx hb dL_law_474 (lv_at hl 0 rfl) ?_
      refine lv_i2l (v := (r_5 : Int32).toInt64) hx hb dL_law_476 rfl ?_
      refine W.lcmp hx hb dL_law_477 ?_
      refine n_eqi (y := 0) (by rw [hv_9 c_468]; exact n_lg _) ?_
      refine lv_if_eq (tgt := 483) hx hb dL_law_478 (by decide) (fun _ => ?_) (fun h9 => absurd (by decide) h9)
      refine lv_goto (tgt := 2342) hx hb dL_law_483 (by decide) ?_
      refine W.widen (k := 2000) (n := 60000) (Nat.le_of_ble_eq_true rfl) (Nat.le_of_ble_eq_true rfl) ?_
      exact hend H locs ls hS (lv_sub hl [2, 7] rfl)
  · skip
    refine lv_iconst (v := 1) hx hb dL_law_418 (by decide) ?_
    refine lv_goto (tgt := 423) hx hb dL_law_419 (by decide) ?_
    refine lv_aload_n hx hb dL_law_423 rfl (lv_at hl 3 rfl) ?_
    refine n_ci (wr := [(y, .inr (13, [.ref yq1, .ref yq2, .int 0, .ref yq3, .int 0, .int 0, .int 0, .ref yq4, .ref yq5, .int 0, .ref yq6, .int (-1), .ref yq7, .int 0, .ref yq8, .ref yq9, .ref yq10, .ref yq11, .int 0, .int 0, .int 0, .int 0, .ref yq12, .ref yq13, .ref yq14, .ref yq15, .ref yq16])), (yq1, eI G 1191 yf90)]) (vx_runSW (As := [.ref x, .int (xs 1), .int 1, .ref o]) (rest := []) ⟨hx, hb, hml, hown, hts⟩ (mL_letter l hl9 G x xq1 xq4 xq25 xq46 xq71 xq75 xq82 xq84 xq6 xq7 xq8 xq9 xq10 xq11 xf12 xf13 xf14 (xs 1) 1 o (fun _ => 0) H.size hfa0 hfa1 hfa2) (vx_cwSW 4 hts gL_law_L_letter rfl rfl rfl (by decide +kernel) ⟨(Nat.le_of_ble_eq_true rfl), (Nat.le_of_ble_eq_true rfl)⟩) (n_prX hK hP hD hS hA [0, 1, 2, 3, 4, 5, 8] rfl (by decide) hE) rfl rfl hl.1 rfl (lv_room (Nat.le_of_ble_eq_true rfl)) dL_law_424 ⟨(Nat.le_of_ble_eq_true rfl), (Nat.le_of_ble_eq_true rfl)⟩) hP hD hS hA [0, 1, 2, 3, 4, 5, 8] [6, 7] rfl rfl (by decide) (by decide) (fun r_13 f_14 H locs hP hD hS hw => ?_)
    have hP : va_P G.1 vwCl [(y, .inr (13, [.ref yq1, .ref yq2, .int 0, .ref yq3, .int 0, .int 0, .int 0, .ref yq4, .ref yq5, .int 0, .ref yq6, .int (-1), .ref yq7, .int 0, .ref yq8, .ref yq9, .ref yq10, .ref yq11, .int 0, .int 0, .int 0, .int 0, .ref yq12, .ref yq13, .ref yq14, .ref yq15, .ref yq16])), (yq1, eI G 1191 yf90), (o, eJ G 1 f_14)] H := hP
    have hD : va_D A [(y, .inr (13, [.ref yq1, .ref yq2, .int 0, .ref yq3, .int 0, .int 0, .int 0, .ref yq4, .ref yq5, .int 0, .ref yq6, .int (-1), .ref yq7, .int 0, .ref yq8, .ref yq9, .ref yq10, .ref yq11, .int 0, .int 0, .int 0, .int 0, .ref yq12, .ref yq13, .ref yq14, .ref yq15, .ref yq16])), (yq1, eI G 1191 yf90), (o, eJ G 1 f_14)] := hD
    obtain ⟨hw, hf_16⟩ := hw
    have hw : r_13 = (nkP (xs 1)) := hw
    subst hw
    try dsimp only
    have hf_16 : nkP (xs 1) = 0 → f_14 0 = (nvL (xs 1) 1 : Int32).toInt64 := hf_16
    refine lv_istore (lv' := [(6, .int (nkP (xs 1))), (0, .ref b), (1, .ref x), (2, .ref y), (3, .ref o), (4, .ref od), (5, .int 0)]) hx hb dL_law_427 hl (by decide) rfl (fun ls hl => ?_)
    refine lv_aload_n hx hb dL_law_429 rfl (lv_at hl 3 rfl) ?_
    refine lv_aload_n hx hb dL_law_430 rfl (lv_at hl 1 rfl) ?_
    refine lv_iload hx hb dL_law_431 (lv_at hl 6 rfl) ?_
    refine lv_iconst (v := 1) hx hb dL_law_433 (by decide) ?_
    refine lv_iadd hx hb dL_law_434 ?_
    refine n_eqi (y := 1) (by decide) ?_
    refine va_sld hx hb hX hbl hbA hS (n_in (by decide)) dL_law_435 ?_
    refine n_eqi (y := xs 1) rfl ?_
    refine lv_aload_n hx hb dL_law_436 rfl (lv_at hl 1 rfl) ?_
    refine lv_iload hx hb dL_law_437 (lv_at hl 6 rfl) ?_
    refine lv_iconst (v := 2) hx hb dL_law_439 (by decide) ?_
    refine lv_iadd hx hb dL_law_440 ?_
    refine n_eqi (y := 2) (by decide) ?_
    refine va_sld hx hb hX hbl hbA hS (n_in (by decide)) dL_law_441 ?_
    refine n_eqi (y := xs 2) rfl ?_
    refine lv_if_eq (tgt := 449) hx hb dL_law_442 (by decide) (fun h9 => absurd h9 c_415) (fun _ => ?_)
    refine lv_iconst (v := 1) hx hb dL_law_445 (by decide) ?_
    refine lv_goto (tgt := 450) hx hb dL_law_446 (by decide) ?_
    refine n_ci (wr := [(o, eJ G 1 f_14)]) (va_runV (As := [.int (xs 1), .int 1]) (rest := []) ⟨hx, hb, hml, hown, hts⟩ (mX12_letter l G y yq1 yq2 yq3 yq4 yq5 yq6 yq7 yq8 yq9 yq10 yq11 yq12 yq13 yq14 yq15 yq16 0 0 0 0 0 (-1) 0 0 0 0 0 yf90 (xs 1) 1 H.size hfa16) (cwV 2 hts gL_law_X12_letter rfl rfl rfl (by decide +kernel) ⟨(Nat.le_of_ble_eq_true rfl), (Nat.le_of_ble_eq_true rfl)⟩) (n_prV (ci := 13) (q0 := 0) hK hP hD [0, 1] rfl (by decide) rfl rfl) rfl rfl hl.1 rfl (lv_room (Nat.le_of_ble_eq_true rfl)) dL_law_450 ⟨(Nat.le_of_ble_eq_true rfl), (Nat.le_of_ble_eq_true rfl)⟩) hP hD hS hA [0, 1] [2] rfl rfl (by decide) (by decide) (fun r_17 k_18 H locs hP hD hS hw => ?_)
    have hP : va_P G.1 vwCl [(o, eJ G 1 f_14), (y, .inr (13, [.ref yq1, .ref yq2, .int 0, .ref yq3, .int 0, .int k_18, .int 0, .ref yq4, .ref yq5, .int 0, .ref yq6, .int (-1), .ref yq7, .int 0, .ref yq8, .ref yq9, .ref yq10, .ref yq11, .int 0, .int 0, .int 0, .int 0, .ref yq12, .ref yq13, .ref yq14, .ref yq15, .ref yq16]))] H := hP
    have hD : va_D A [(o, eJ G 1 f_14), (y, .inr (13, [.ref yq1, .ref yq2, .int 0, .ref yq3, .int 0, .int k_18, .int 0, .ref yq4, .ref yq5, .int 0, .ref yq6, .int (-1), .ref yq7, .int 0, .ref yq8, .ref yq9, .ref yq10, .ref yq11, .int 0, .int 0, .int 0, .int 0, .ref yq12, .ref yq13, .ref yq14, .ref yq15, .ref yq16]))] := hD
    have hr_20 : (k_18 = nkP (xs 1) ∧ (k_18 = 0 → r_17 = nvL (xs 1) 1)) := hw
    obtain ⟨hk_22, hv_21⟩ := hr_20
    subst hk_22
    refine lv_istore (lv' := [(7, .int r_17), (6, .int (nkP (xs 1))), (0, .ref b), (1, .ref x), (2, .ref y), (3, .ref o), (4, .ref od), (5, .int 0)]) hx hb dL_law_453 hl (by decide) rfl (fun ls hl => ?_)
    refine lv_aload_n hx hb dL_law_455 rfl (lv_at hl 4 rfl) ?_
    refine n_ci (wr := [(o, eJ G 1 f_14)]) (va_runV (As := []) (rest := []) ⟨hx, hb, hml, hown, hts⟩ (mX12_thrown l G y yq1 yq2 yq3 yq4 yq5 yq6 yq7 yq8 yq9 yq10 yq11 yq12 yq13 yq14 yq15 yq16 0 0 (nkP (xs 1)) 0 0 (-1) 0 0 0 0 0 H.size) (cwV 0 hts gL_law_X12_thrown rfl rfl rfl (by decide +kernel) ⟨(Nat.le_of_ble_eq_true rfl), (Nat.le_of_ble_eq_true rfl)⟩) (n_prV (ci := 13) (q0 := 1) hK hP hD [1] rfl (by decide) rfl rfl) rfl rfl hl.1 rfl (lv_room (Nat.le_of_ble_eq_true rfl)) dL_law_456 ⟨(Nat.le_of_ble_eq_true rfl), (Nat.le_of_ble_eq_true rfl)⟩) hP hD hS hA [1] [0] rfl rfl (by decide) (by decide) (fun r_23 u_24 H locs hP hD hS hw => ?_)
    have hP : va_P G.1 vwCl [(o, eJ G 1 f_14), (y, .inr (13, [.ref yq1, .ref yq2, .int 0, .ref yq3, .int 0, .int (nkP (xs 1)), .int 0, .ref yq4, .ref yq5, .int 0, .ref yq6, .int (-1), .ref yq7, .int 0, .ref yq8, .ref yq9, .ref yq10, .ref yq11, .int 0, .int 0, .int 0, .int 0, .ref yq12, .ref yq13, .ref yq14, .ref yq15, .ref yq16]))] H := hP
    have hD : va_D A [(o, eJ G 1 f_14), (y, .inr (13, [.ref yq1, .ref yq2, .int 0, .ref yq3, .int 0, .int (nkP (xs 1)), .int 0, .ref yq4, .ref yq5, .int 0, .ref yq6, .int (-1), .ref yq7, .int 0, .ref yq8, .ref yq9, .ref yq10, .ref yq11, .int 0, .int 0, .int 0, .int 0, .ref yq12, .ref yq13, .ref yq14, .ref yq15, .ref yq16]))] := hD
    have hw : r_23 = (nkP (xs 1)) := hw
    subst hw
    try dsimp only
    refine lv_iload hx hb dL_law_459 (lv_at hl 1 rfl) ?_
    refine lv_icmp_eq (tgt := 466) hx hb dL_law_461 (by decide) (fun _ => ?_) (fun h9 => absurd rfl h9)
    refine lv_iload hx hb dL_law_466 (lv_at hl 1 rfl) ?_
    refine lv_if_ne (tgt := 483) hx hb dL_law_468 (by decide) (fun c_468 => ?_) (fun c_468 => ?_)
    · skip
      refine lv_goto (tgt := 2342) hx hb dL_law_483 (by decide) ?_
      refine W.widen (k := 2000) (n := 60000) (Nat.le_of_ble_eq_true rfl) (Nat.le_of_ble_eq_true rfl) ?_
      exact hend H locs ls hS (lv_sub hl [2, 7] rfl)
    · skip
      refine lv_aload_n hx hb dL_law_471 rfl (lv_at hl 5 rfl) ?_
      refine lv_iconst (v := 0) hx hb dL_law_472 (by decide) ?_
      refine va_lald hx hb hK hP 0 2 rfl rfl (n_in (by decide)) dL_law_473 ?_
      refine n_eql (y := ((nvL (xs 1) 1 : Int32).toInt64)) (hf_16 c_468) ?_
      refine lv_iload hx hb dL_law_474 (lv_at hl 0 rfl) ?_
      refine lv_i2l (v := (r_17 : Int32).toInt64) hx hb dL_law_476 rfl ?_
      refine W.lcmp hx hb dL_law_477 ?_
      refine n_eqi (y := 0) (by rw [hv_21 c_468]; exact n_lg _) ?_
      refine lv_if_eq (tgt := 483) hx hb dL_law_478 (by decide) (fun _ => ?_) (fun h9 => absurd (by decide) h9)
      refine lv_goto (tgt := 2342) hx hb dL_law_483 (by decide) ?_
      refine W.widen (k := 2000) (n := 60000) (Nat.le_of_ble_eq_true rfl) (Nat.le_of_ble_eq_true rfl) ?_
      exact hend H locs ls hS (lv_sub hl [2, 7] rfl)

set_option maxHeartbeats 8000000 in
set_option maxRecDepth 100000 in
theorem law_c4 {p : Program} {l : Launch} {e : Env} {s : State} {m : MethodId} {below : List Frame} {meth : Method} {c : Code} {args : Array Value} {Q : State → Prop} {A : Nat → Prop} (hl9 : l.stackTraces = false) (G : nG) (x : Nat) (xq1 : Nat) (xq4 : Nat) (xq25 : Nat) (xq46 : Nat) (xq71 : Nat) (xq75 : Nat) (xq82 : Nat) (xq84 : Nat) (xq2 : Nat) (xq6 : Nat) (xq7 : Nat) (xq8 : Nat) (xq9 : Nat) (xq10 : Nat) (xq11 : Nat) (xf12 : Nat → Int32) (xf13 : Nat → Int32) (xf14 : Nat → Int32) (xq15 : Nat) (xq16 : Nat) (xq17 : Nat) (xq18 : Nat) (xq19 : Nat) (xq48 : Nat) (xf49 : Nat → Option Nat) (xq50 : Nat) (xq51 : Nat) (xq52 : Nat) (xq53 : Nat) (xq54 : Nat) (xq55 : Nat) (xq56 : Nat) (xf57 : Nat → Int32) (xf58 : Nat → Int32) (xf59 : Nat → Int32) (xq60 : Nat) (xq61 : Nat) (xq62 : Nat) (xq63 : Nat) (xq64 : Nat) (xq73 : Nat) (xq74 : Nat) (y : Nat) (yq1 : Nat) (yq2 : Nat) (yq3 : Nat) (yq4 : Nat) (yq5 : Nat) (yq6 : Nat) (yq7 : Nat) (yq8 : Nat) (yq9 : Nat) (yq10 : Nat) (yq11 : Nat) (yq12 : Nat) (yq13 : Nat) (yq14 : Nat) (yq15 : Nat) (yq16 : Nat) (yf90 : Nat → Int32) (o : Nat) (od : Nat) (b : Nat) (xs : Nat → Int32) (hx : p.tables.exec = Jvm.exec) (hb : c.code = cL_law) (hml : c.maxLocals = 9) (hown : s.vm.findClass RL = some m.cls) (hts : ∀ w ∈ wsL_law, w.before args s = true) (hX : va_X b 5 xs s s.heap) (hbl : b < s.heap.size) (hbA : ¬ A b) (hA : ∀ q : Nat, s.heap.size ≤ q → A q) (hK : va_K G.1 vwCl (n_ty G) s) (hE : n_ex A s s.heap) (hfa3 : nFit xf13) (hfa4 : nFit xf14) (hfa15 : xf49 0 = some xq50)
    (hend : ∀ (H : Heap) (locs : List Loc) (ls : Array Slot), va_S A s.heap H locs → lv_has ls 9 [(0, .ref b), (5, .int 0)] → W p l e room_1 s m args below meth c H locs 2000 60000 Q (F0 m 2342 ls []))
    (H : Heap) (locs : List Loc) (ls : Array Slot) (hP : va_P G.1 vwCl [(x, .inr (12, [.ref xq1, .ref xq4, .ref xq25, .ref xq46, .ref xq71, .ref xq75, .ref xq82, .ref xq84, .int 0])), (xq1, .inr (8, [.ref xq2, .int 0, .long 0, .int 0])), (xq4, .inr (5, [.ref xq6, .ref xq7, .ref xq8])), (xq6, .inr (2, [.ref xq9, .ref xq10, .ref xq11, .int 26])), (xq9, eI G 36 xf12), (xq10, eC G 36 xf13), (xq11, eC G 36 xf14), (xq7, .inr (9, [.ref xq15, .int 0])), (xq8, .inr (11, [.ref xq16, .ref xq17, .ref xq18, .ref xq19, .int 0])), (xq16, eI G 8 (fun _ => 0)), (xq17, eI G 8 (fun _ => 0)), (xq18, eI G 8 (fun _ => 0)), (xq19, eI G 8 (fun _ => 0)), (xq46, .inr (7, [.ref xq48, .int 0, .int 0])), (xq48, eR G 9 xf49), (xq50, .inr (5, [.ref xq51, .ref xq52, .ref xq53])), (xq51, .inr (2, [.ref xq54, .ref xq55, .ref xq56, .int 26])), (xq54, eI G 36 xf57), (xq55, eC G 36 xf58), (xq56, eC G 36 xf59), (xq52, .inr (9, [.ref xq60, .int 0])), (xq53, .inr (11, [.ref xq61, .ref xq62, .ref xq63, .ref xq64, .int 0])), (xq61, eI G 8 (fun _ => 0)), (xq62, eI G 8 (fun _ => 0)), (xq63, eI G 8 (fun _ => 0)), (xq64, eI G 8 (fun _ => 0)), (xq71, .inr (10, [.ref xq73, .ref xq74, .int 0])), (xq73, eI G 3 (fun _ => 0)), (xq74, eI G 3 (fun _ => 0)), (y, .inr (13, [.ref yq1, .ref yq2, .int 0, .ref yq3, .int 0, .int 0, .int 0, .ref yq4, .ref yq5, .int 0, .ref yq6, .int (-1), .ref yq7, .int 0, .ref yq8, .ref yq9, .ref yq10, .ref yq11, .int 0, .int 0, .int 0, .int 0, .ref yq12, .ref yq13, .ref yq14, .ref yq15, .ref yq16])), (yq1, eI G 1191 yf90), (yq5, eI G 9 (fun _ => 0)), (yq6, eI G 6 (fun _ => 0)), (yq7, eI G 1191 (fun _ => 0)), (o, eJ G 1 (fun _ => 0))] H) (hD : va_D A [(x, .inr (12, [.ref xq1, .ref xq4, .ref xq25, .ref xq46, .ref xq71, .ref xq75, .ref xq82, .ref xq84, .int 0])), (xq1, .inr (8, [.ref xq2, .int 0, .long 0, .int 0])), (xq4, .inr (5, [.ref xq6, .ref xq7, .ref xq8])), (xq6, .inr (2, [.ref xq9, .ref xq10, .ref xq11, .int 26])), (xq9, eI G 36 xf12), (xq10, eC G 36 xf13), (xq11, eC G 36 xf14), (xq7, .inr (9, [.ref xq15, .int 0])), (xq8, .inr (11, [.ref xq16, .ref xq17, .ref xq18, .ref xq19, .int 0])), (xq16, eI G 8 (fun _ => 0)), (xq17, eI G 8 (fun _ => 0)), (xq18, eI G 8 (fun _ => 0)), (xq19, eI G 8 (fun _ => 0)), (xq46, .inr (7, [.ref xq48, .int 0, .int 0])), (xq48, eR G 9 xf49), (xq50, .inr (5, [.ref xq51, .ref xq52, .ref xq53])), (xq51, .inr (2, [.ref xq54, .ref xq55, .ref xq56, .int 26])), (xq54, eI G 36 xf57), (xq55, eC G 36 xf58), (xq56, eC G 36 xf59), (xq52, .inr (9, [.ref xq60, .int 0])), (xq53, .inr (11, [.ref xq61, .ref xq62, .ref xq63, .ref xq64, .int 0])), (xq61, eI G 8 (fun _ => 0)), (xq62, eI G 8 (fun _ => 0)), (xq63, eI G 8 (fun _ => 0)), (xq64, eI G 8 (fun _ => 0)), (xq71, .inr (10, [.ref xq73, .ref xq74, .int 0])), (xq73, eI G 3 (fun _ => 0)), (xq74, eI G 3 (fun _ => 0)), (y, .inr (13, [.ref yq1, .ref yq2, .int 0, .ref yq3, .int 0, .int 0, .int 0, .ref yq4, .ref yq5, .int 0, .ref yq6, .int (-1), .ref yq7, .int 0, .ref yq8, .ref yq9, .ref yq10, .ref yq11, .int 0, .int 0, .int 0, .int 0, .ref yq12, .ref yq13, .ref yq14, .ref yq15, .ref yq16])), (yq1, eI G 1191 yf90), (yq5, eI G 9 (fun _ => 0)), (yq6, eI G 6 (fun _ => 0)), (yq7, eI G 1191 (fun _ => 0)), (o, eJ G 1 (fun _ => 0))]) (hS : va_S A s.heap H locs) (hl : lv_has ls 9 [(0, .ref b), (1, .ref x), (2, .ref y), (3, .ref o), (4, .ref od), (5, .int 0)]) : W p l e room_1 s m args below meth c H locs 609 18141 Q (F0 m 486 ls []) := by
  refine lv_aload_n hx hb dL_law_486 rfl (lv_at hl 1 rfl) ?_
  refine lv_aload_n hx hb dL_law_487 rfl (lv_at hl 3 rfl) ?_
  refine n_ci (wr := [(y, .inr (13, [.ref yq1, .ref yq2, .int 0, .ref yq3, .int 0, .int 0, .int 0, .ref yq4, .ref yq5, .int 0, .ref yq6, .int (-1), .ref yq7, .int 0, .ref yq8, .ref yq9, .ref yq10, .ref yq11, .int 0, .int 0, .int 0, .int 0, .ref yq12, .ref yq13, .ref yq14, .ref yq15, .ref yq16])), (yq1, eI G 1191 yf90), (yq5, eI G 9 (fun _ => 0)), (yq6, eI G 6 (fun _ => 0)), (yq7, eI G 1191 (fun _ => 0))]) (vx_runSW (As := [.ref x, .ref o]) (rest := []) ⟨hx, hb, hml, hown, hts⟩ (mL_add l hl9 G x xq1 xq4 xq25 xq46 xq71 xq75 xq82 xq84 xq2 0 0 xq6 xq7 xq8 xq9 xq10 xq11 xf12 xf13 xf14 xq15 xq16 xq17 xq18 xq19 (fun _ => 0) (fun _ => 0) (fun _ => 0) (fun _ => 0) xq48 xf49 xq50 xq51 xq54 xq55 xq56 xf57 xf58 xf59 xq52 xq60 xq53 xq61 xq62 xq63 xq64 (fun _ => 0) (fun _ => 0) (fun _ => 0) (fun _ => 0) xq73 xq74 (fun _ => 0) (fun _ => 0) o (fun _ => 0) H.size hfa3 hfa4 hfa15) (vx_cwSW 2 hts gL_law_L_add rfl rfl rfl (by decide +kernel) ⟨(Nat.le_of_ble_eq_true rfl), (Nat.le_of_ble_eq_true rfl)⟩) (n_prX hK hP hD hS hA [0, 1, 2, 3, 4, 5, 6, 7, 8, 9, 10, 11, 12, 13, 14, 15, 16, 17, 18, 19, 20, 21, 22, 23, 24, 25, 26, 27, 28, 34] rfl (by decide) hE) rfl rfl hl.1 rfl (lv_room (Nat.le_of_ble_eq_true rfl)) dL_law_488 ⟨(Nat.le_of_ble_eq_true rfl), (Nat.le_of_ble_eq_true rfl)⟩) hP hD hS hA [0, 1, 2, 3, 4, 5, 6, 7, 8, 9, 10, 11, 12, 13, 14, 15, 16, 17, 18, 19, 20, 21, 22, 23, 24, 25, 26, 27, 28, 34] [29, 30, 31, 32, 33] rfl rfl (by decide) (by decide) (fun r_1 u_2 H locs hP hD hS hw => ?_)
  have hP : va_P G.1 vwCl [(y, .inr (13, [.ref yq1, .ref yq2, .int 0, .ref yq3, .int 0, .int 0, .int 0, .ref yq4, .ref yq5, .int 0, .ref yq6, .int (-1), .ref yq7, .int 0, .ref yq8, .ref yq9, .ref yq10, .ref yq11, .int 0, .int 0, .int 0, .int 0, .ref yq12, .ref yq13, .ref yq14, .ref yq15, .ref yq16])), (yq1, eI G 1191 yf90), (yq5, eI G 9 (fun _ => 0)), (yq6, eI G 6 (fun _ => 0)), (yq7, eI G 1191 (fun _ => 0)), (o, eJ G 1 (fun _ => 0))] H := hP
  have hD : va_D A [(y, .inr (13, [.ref yq1, .ref yq2, .int 0, .ref yq3, .int 0, .int 0, .int 0, .ref yq4, .ref yq5, .int 0, .ref yq6, .int (-1), .ref yq7, .int 0, .ref yq8, .ref yq9, .ref yq10, .ref yq11, .int 0, .int 0, .int 0, .int 0, .ref yq12, .ref yq13, .ref yq14, .ref yq15, .ref yq16])), (yq1, eI G 1191 yf90), (yq5, eI G 9 (fun _ => 0)), (yq6, eI G 6 (fun _ => 0)), (yq7, eI G 1191 (fun _ => 0)), (o, eJ G 1 (fun _ => 0))] := hD
  have hw : r_1 = 1 := hw
  subst hw
  refine lv_istore (lv' := [(6, .int 1), (0, .ref b), (1, .ref x), (2, .ref y), (3, .ref o), (4, .ref od), (5, .int 0)]) hx hb dL_law_491 hl (by decide) rfl (fun ls hl => ?_)
  refine lv_aload_n hx hb dL_law_493 rfl (lv_at hl 3 rfl) ?_
  refine n_ci (wr := [(o, eJ G 1 (fun _ => 0))]) (va_runV (As := []) (rest := []) ⟨hx, hb, hml, hown, hts⟩ (mX12_add l G y yq1 yq2 yq3 yq4 yq5 yq6 yq7 yq8 yq9 yq10 yq11 yq12 yq13 yq14 yq15 yq16 0 0 0 0 0 0 0 0 0 yf90 (fun _ => 0) (fun _ => 0) (fun _ => 0) H.size) (cwV 0 hts gL_law_X12_add rfl rfl rfl (by decide +kernel) ⟨(Nat.le_of_ble_eq_true rfl), (Nat.le_of_ble_eq_true rfl)⟩) (n_prV (ci := 13) (q0 := 0) hK hP hD [0, 1, 4, 2, 3] rfl (by decide) rfl rfl) rfl rfl hl.1 rfl (lv_room (Nat.le_of_ble_eq_true rfl)) dL_law_494 ⟨(Nat.le_of_ble_eq_true rfl), (Nat.le_of_ble_eq_true rfl)⟩) hP hD hS hA [0, 1, 4, 2, 3] [5] rfl rfl (by decide) (by decide) (fun r_3 u_4 H locs hP hD hS hw => ?_)
  have hP : va_P G.1 vwCl [(o, eJ G 1 (fun _ => 0)), (y, .inr (13, [.ref yq1, .ref yq2, .int 0, .ref yq3, .int 0, .int 1, .int 0, .ref yq4, .ref yq5, .int 2, .ref yq6, .int (-1), .ref yq7, .int 0, .ref yq8, .ref yq9, .ref yq10, .ref yq11, .int 0, .int 0, .int 0, .int 0, .ref yq12, .ref yq13, .ref yq14, .ref yq15, .ref yq16]))] H := hP
  have hD : va_D A [(o, eJ G 1 (fun _ => 0)), (y, .inr (13, [.ref yq1, .ref yq2, .int 0, .ref yq3, .int 0, .int 1, .int 0, .ref yq4, .ref yq5, .int 2, .ref yq6, .int (-1), .ref yq7, .int 0, .ref yq8, .ref yq9, .ref yq10, .ref yq11, .int 0, .int 0, .int 0, .int 0, .ref yq12, .ref yq13, .ref yq14, .ref yq15, .ref yq16]))] := hD
  have hw : r_3 = 0 := hw
  subst hw
  refine lv_istore (lv' := [(7, .int 0), (6, .int 1), (0, .ref b), (1, .ref x), (2, .ref y), (3, .ref o), (4, .ref od), (5, .int 0)]) hx hb dL_law_497 hl (by decide) rfl (fun ls hl => ?_)
  refine lv_aload_n hx hb dL_law_499 rfl (lv_at hl 4 rfl) ?_
  refine n_ci (wr := [(o, eJ G 1 (fun _ => 0))]) (va_runV (As := []) (rest := []) ⟨hx, hb, hml, hown, hts⟩ (mX12_thrown l G y yq1 yq2 yq3 yq4 yq5 yq6 yq7 yq8 yq9 yq10 yq11 yq12 yq13 yq14 yq15 yq16 0 0 1 0 2 (-1) 0 0 0 0 0 H.size) (cwV 0 hts gL_law_X12_thrown rfl rfl rfl (by decide +kernel) ⟨(Nat.le_of_ble_eq_true rfl), (Nat.le_of_ble_eq_true rfl)⟩) (n_prV (ci := 13) (q0 := 1) hK hP hD [1] rfl (by decide) rfl rfl) rfl rfl hl.1 rfl (lv_room (Nat.le_of_ble_eq_true rfl)) dL_law_500 ⟨(Nat.le_of_ble_eq_true rfl), (Nat.le_of_ble_eq_true rfl)⟩) hP hD hS hA [1] [0] rfl rfl (by decide) (by decide) (fun r_5 u_6 H locs hP hD hS hw => ?_)
  have hP : va_P G.1 vwCl [(o, eJ G 1 (fun _ => 0)), (y, .inr (13, [.ref yq1, .ref yq2, .int 0, .ref yq3, .int 0, .int 1, .int 0, .ref yq4, .ref yq5, .int 2, .ref yq6, .int (-1), .ref yq7, .int 0, .ref yq8, .ref yq9, .ref yq10, .ref yq11, .int 0, .int 0, .int 0, .int 0, .ref yq12, .ref yq13, .ref yq14, .ref yq15, .ref yq16]))] H := hP
  have hD : va_D A [(o, eJ G 1 (fun _ => 0)), (y, .inr (13, [.ref yq1, .ref yq2, .int 0, .ref yq3, .int 0, .int 1, .int 0, .ref yq4, .ref yq5, .int 2, .ref yq6, .int (-1), .ref yq7, .int 0, .ref yq8, .ref yq9, .ref yq10, .ref yq11, .int 0, .int 0, .int 0, .int 0, .ref yq12, .ref yq13, .ref yq14, .ref yq15, .ref yq16]))] := hD
  have hw : r_5 = 1 := hw
  subst hw
  refine lv_iload hx hb dL_law_503 (lv_at hl 1 rfl) ?_
  refine lv_icmp_eq (tgt := 510) hx hb dL_law_505 (by decide) (fun _ => ?_) (fun h9 => absurd (by decide) h9)
  refine lv_iload hx hb dL_law_510 (lv_at hl 1 rfl) ?_
  refine lv_if_ne (tgt := 527) hx hb dL_law_512 (by decide) (fun _ => ?_) (fun h9 => absurd h9 (by decide))
  refine lv_goto (tgt := 2342) hx hb dL_law_527 (by decide) ?_
  refine W.widen (k := 2000) (n := 60000) (Nat.le_of_ble_eq_true rfl) (Nat.le_of_ble_eq_true rfl) ?_
  exact hend H locs ls hS (lv_sub hl [2, 7] rfl)

set_option maxHeartbeats 8000000 in
set_option maxRecDepth 100000 in
theorem law_c5 {p : Program} {l : Launch} {e : Env} {s : State} {m : MethodId} {below : List Frame} {meth : Method} {c : Code} {args : Array Value} {Q : State → Prop} {A : Nat → Prop} (hl9 : l.stackTraces = false) (G : nG) (x : Nat) (xq1 : Nat) (xq4 : Nat) (xq25 : Nat) (xq46 : Nat) (xq71 : Nat) (xq75 : Nat) (xq82 : Nat) (xq84 : Nat) (xq6 : Nat) (xq7 : Nat) (xq8 : Nat) (xq15 : Nat) (y : Nat) (yq1 : Nat) (yq2 : Nat) (yq3 : Nat) (yq4 : Nat) (yq5 : Nat) (yq6 : Nat) (yq7 : Nat) (yq8 : Nat) (yq9 : Nat) (yq10 : Nat) (yq11 : Nat) (yq12 : Nat) (yq13 : Nat) (yq14 : Nat) (yq15 : Nat) (yq16 : Nat) (yf90 : Nat → Int32) (o : Nat) (od : Nat) (b : Nat) (xs : Nat → Int32) (hx : p.tables.exec = Jvm.exec) (hb : c.code = cL_law) (hml : c.maxLocals = 9) (hown : s.vm.findClass RL = some m.cls) (hts : ∀ w ∈ wsL_law, w.before args s = true) (hX : va_X b 5 xs s s.heap) (hbl : b < s.heap.size) (hbA : ¬ A b) (hA : ∀ q : Nat, s.heap.size ≤ q → A q) (hK : va_K G.1 vwCl (n_ty G) s) (hE : n_ex A s s.heap) (hfa16 : nMod yf90)
    (hend : ∀ (H : Heap) (locs : List Loc) (ls : Array Slot), va_S A s.heap H locs → lv_has ls 9 [(0, .ref b), (5, .int 0)] → W p l e room_1 s m args below meth c H locs 2000 60000 Q (F0 m 2342 ls []))
    (H : Heap) (locs : List Loc) (ls : Array Slot) (hP : va_P G.1 vwCl [(x, .inr (12, [.ref xq1, .ref xq4, .ref xq25, .ref xq46, .ref xq71, .ref xq75, .ref xq82, .ref xq84, .int 0])), (xq4, .inr (5, [.ref xq6, .ref xq7, .ref xq8])), (xq7, .inr (9, [.ref xq15, .int 0])), (y, .inr (13, [.ref yq1, .ref yq2, .int 0, .ref yq3, .int 0, .int 0, .int 0, .ref yq4, .ref yq5, .int 0, .ref yq6, .int (-1), .ref yq7, .int 0, .ref yq8, .ref yq9, .ref yq10, .ref yq11, .int 0, .int 0, .int 0, .int 0, .ref yq12, .ref yq13, .ref yq14, .ref yq15, .ref yq16])), (yq1, eI G 1191 yf90), (o, eJ G 1 (fun _ => 0))] H) (hD : va_D A [(x, .inr (12, [.ref xq1, .ref xq4, .ref xq25, .ref xq46, .ref xq71, .ref xq75, .ref xq82, .ref xq84, .int 0])), (xq4, .inr (5, [.ref xq6, .ref xq7, .ref xq8])), (xq7, .inr (9, [.ref xq15, .int 0])), (y, .inr (13, [.ref yq1, .ref yq2, .int 0, .ref yq3, .int 0, .int 0, .int 0, .ref yq4, .ref yq5, .int 0, .ref yq6, .int (-1), .ref yq7, .int 0, .ref yq8, .ref yq9, .ref yq10, .ref yq11, .int 0, .int 0, .int 0, .int 0, .ref yq12, .ref yq13, .ref yq14, .ref yq15, .ref yq16])), (yq1, eI G 1191 yf90), (o, eJ G 1 (fun _ => 0))]) (hS : va_S A s.heap H locs) (hl : lv_has ls 9 [(0, .ref b), (1, .ref x), (2, .ref y), (3, .ref o), (4, .ref od), (5, .int 0)]) : W p l e room_1 s m args below meth c H locs 609 18141 Q (F0 m 530 ls []) := by
  refine lv_aload_n hx hb dL_law_530 rfl (lv_at hl 1 rfl) ?_
  refine lv_aload_n hx hb dL_law_531 rfl (lv_at hl 0 rfl) ?_
  refine lv_iload hx hb dL_law_532 (lv_at hl 5 rfl) ?_
  refine lv_iconst (v := 1) hx hb dL_law_534 (by decide) ?_
  refine lv_iadd hx hb dL_law_535 ?_
  refine n_eqi (y := 1) (by decide) ?_
  refine va_sld hx hb hX hbl hbA hS (n_in (by decide)) dL_law_536 ?_
  refine n_eqi (y := xs 1) rfl ?_
  refine lv_aload_n hx hb dL_law_537 rfl (lv_at hl 3 rfl) ?_
  refine n_ci (wr := [(y, .inr (13, [.ref yq1, .ref yq2, .int 0, .ref yq3, .int 0, .int 0, .int 0, .ref yq4, .ref yq5, .int 0, .ref yq6, .int (-1), .ref yq7, .int 0, .ref yq8, .ref yq9, .ref yq10, .ref yq11, .int 0, .int 0, .int 0, .int 0, .ref yq12, .ref yq13, .ref yq14, .ref yq15, .ref yq16])), (yq1, eI G 1191 yf90)]) (vx_runSW (As := [.ref x, .int (xs 1), .ref o]) (rest := []) ⟨hx, hb, hml, hown, hts⟩ (mL_addVariant l hl9 G x xq1 xq4 xq25 xq46 xq71 xq75 xq82 xq84 xq6 xq7 xq8 xq15 (xs 1) o (fun _ => 0) H.size) (vx_cwSW 3 hts gL_law_L_addVariant rfl rfl rfl (by decide +kernel) ⟨(Nat.le_of_ble_eq_true rfl), (Nat.le_of_ble_eq_true rfl)⟩) (n_prX hK hP hD hS hA [0, 1, 2, 5] rfl (by decide) hE) rfl rfl hl.1 rfl (lv_room (Nat.le_of_ble_eq_true rfl)) dL_law_538 ⟨(Nat.le_of_ble_eq_true rfl), (Nat.le_of_ble_eq_true rfl)⟩) hP hD hS hA [0, 1, 2, 5] [3, 4] rfl rfl (by decide) (by decide) (fun r_1 u_2 H locs hP hD hS hw => ?_)
  have hP : va_P G.1 vwCl [(y, .inr (13, [.ref yq1, .ref yq2, .int 0, .ref yq3, .int 0, .int 0, .int 0, .ref yq4, .ref yq5, .int 0, .ref yq6, .int (-1), .ref yq7, .int 0, .ref yq8, .ref yq9, .ref yq10, .ref yq11, .int 0, .int 0, .int 0, .int 0, .ref yq12, .ref yq13, .ref yq14, .ref yq15, .ref yq16])), (yq1, eI G 1191 yf90), (o, eJ G 1 (fun _ => 0))] H := hP
  have hD : va_D A [(y, .inr (13, [.ref yq1, .ref yq2, .int 0, .ref yq3, .int 0, .int 0, .int 0, .ref yq4, .ref yq5, .int 0, .ref yq6, .int (-1), .ref yq7, .int 0, .ref yq8, .ref yq9, .ref yq10, .ref yq11, .int 0, .int 0, .int 0, .int 0, .ref yq12, .ref yq13, .ref yq14, .ref yq15, .ref yq16])), (yq1, eI G 1191 yf90), (o, eJ G 1 (fun _ => 0))] := hD
  have hw : r_1 = 1 := hw
  subst hw
  refine lv_istore (lv' := [(6, .int 1), (0, .ref b), (1, .ref x), (2, .ref y), (3, .ref o), (4, .ref od), (5, .int 0)]) hx hb dL_law_541 hl (by decide) rfl (fun ls hl => ?_)
  refine lv_aload_n hx hb dL_law_543 rfl (lv_at hl 3 rfl) ?_
  refine lv_aload_n hx hb dL_law_544 rfl (lv_at hl 1 rfl) ?_
  refine lv_iload hx hb dL_law_545 (lv_at hl 6 rfl) ?_
  refine lv_iconst (v := 1) hx hb dL_law_547 (by decide) ?_
  refine lv_iadd hx hb dL_law_548 ?_
  refine n_eqi (y := 1) (by decide) ?_
  refine va_sld hx hb hX hbl hbA hS (n_in (by decide)) dL_law_549 ?_
  refine n_eqi (y := xs 1) rfl ?_
  refine n_ci (wr := [(o, eJ G 1 (fun _ => 0))]) (va_runV (As := [.int (xs 1)]) (rest := []) ⟨hx, hb, hml, hown, hts⟩ (mX12_addVariant l G y yq1 yq2 yq3 yq4 yq5 yq6 yq7 yq8 yq9 yq10 yq11 yq12 yq13 yq14 yq15 yq16 0 0 0 0 0 (-1) 0 0 0 0 0 yf90 (xs 1) H.size hfa16) (cwV 1 hts gL_law_X12_addVariant rfl rfl rfl (by decide +kernel) ⟨(Nat.le_of_ble_eq_true rfl), (Nat.le_of_ble_eq_true rfl)⟩) (n_prV (ci := 13) (q0 := 0) hK hP hD [0, 1] rfl (by decide) rfl rfl) rfl rfl hl.1 rfl (lv_room (Nat.le_of_ble_eq_true rfl)) dL_law_550 ⟨(Nat.le_of_ble_eq_true rfl), (Nat.le_of_ble_eq_true rfl)⟩) hP hD hS hA [0, 1] [2] rfl rfl (by decide) (by decide) (fun r_3 u_4 H locs hP hD hS hw => ?_)
  have hP : va_P G.1 vwCl [(o, eJ G 1 (fun _ => 0)), (y, .inr (13, [.ref yq1, .ref yq2, .int 0, .ref yq3, .int 0, .int 1, .int 0, .ref yq4, .ref yq5, .int 0, .ref yq6, .int (-1), .ref yq7, .int 0, .ref yq8, .ref yq9, .ref yq10, .ref yq11, .int 0, .int 0, .int 0, .int 0, .ref yq12, .ref yq13, .ref yq14, .ref yq15, .ref yq16]))] H := hP
  have hD : va_D A [(o, eJ G 1 (fun _ => 0)), (y, .inr (13, [.ref yq1, .ref yq2, .int 0, .ref yq3, .int 0, .int 1, .int 0, .ref yq4, .ref yq5, .int 0, .ref yq6, .int (-1), .ref yq7, .int 0, .ref yq8, .ref yq9, .ref yq10, .ref yq11, .int 0, .int 0, .int 0, .int 0, .ref yq12, .ref yq13, .ref yq14, .ref yq15, .ref yq16]))] := hD
  have hw : r_3 = 0 := hw
  subst hw
  refine lv_istore (lv' := [(7, .int 0), (6, .int 1), (0, .ref b), (1, .ref x), (2, .ref y), (3, .ref o), (4, .ref od), (5, .int 0)]) hx hb dL_law_553 hl (by decide) rfl (fun ls hl => ?_)
  refine lv_aload_n hx hb dL_law_555 rfl (lv_at hl 4 rfl) ?_
  refine n_ci (wr := [(o, eJ G 1 (fun _ => 0))]) (va_runV (As := []) (rest := []) ⟨hx, hb, hml, hown, hts⟩ (mX12_thrown l G y yq1 yq2 yq3 yq4 yq5 yq6 yq7 yq8 yq9 yq10 yq11 yq12 yq13 yq14 yq15 yq16 0 0 1 0 0 (-1) 0 0 0 0 0 H.size) (cwV 0 hts gL_law_X12_thrown rfl rfl rfl (by decide +kernel) ⟨(Nat.le_of_ble_eq_true rfl), (Nat.le_of_ble_eq_true rfl)⟩) (n_prV (ci := 13) (q0 := 1) hK hP hD [1] rfl (by decide) rfl rfl) rfl rfl hl.1 rfl (lv_room (Nat.le_of_ble_eq_true rfl)) dL_law_556 ⟨(Nat.le_of_ble_eq_true rfl), (Nat.le_of_ble_eq_true rfl)⟩) hP hD hS hA [1] [0] rfl rfl (by decide) (by decide) (fun r_5 u_6 H locs hP hD hS hw => ?_)
  have hP : va_P G.1 vwCl [(o, eJ G 1 (fun _ => 0)), (y, .inr (13, [.ref yq1, .ref yq2, .int 0, .ref yq3, .int 0, .int 1, .int 0, .ref yq4, .ref yq5, .int 0, .ref yq6, .int (-1), .ref yq7, .int 0, .ref yq8, .ref yq9, .ref yq10, .ref yq11, .int 0, .int 0, .int 0, .int 0, .ref yq12, .ref yq13, .ref yq14, .ref yq15, .ref yq16]))] H := hP
  have hD : va_D A [(o, eJ G 1 (fun _ => 0)), (y, .inr (13, [.ref yq1, .ref yq2, .int 0, .ref yq3, .int 0, .int 1, .int 0, .ref yq4, .ref yq5, .int 0, .ref yq6, .int (-1), .ref yq7, .int 0, .ref yq8, .ref yq9, .ref yq10, .ref yq11, .int 0, .int 0, .int 0, .int 0, .ref yq12, .ref yq13, .ref yq14, .ref yq15, .ref yq16]))] := hD
  have hw : r_5 = 1 := hw
  subst hw
  refine lv_iload hx hb dL_law_559 (lv_at hl 1 rfl) ?_
  refine lv_icmp_eq (tgt := 566) hx hb dL_law_561 (by decide) (fun _ => ?_) (fun h9 => absurd (by decide) h9)
  refine lv_iload hx hb dL_law_566 (lv_at hl 1 rfl) ?_
  refine lv_if_ne (tgt := 583) hx hb dL_law_568 (by decide) (fun _ => ?_) (fun h9 => absurd h9 (by decide))
  refine lv_goto (tgt := 2342) hx hb dL_law_583 (by decide) ?_
  refine W.widen (k := 2000) (n := 60000) (Nat.le_of_ble_eq_true rfl) (Nat.le_of_ble_eq_true rfl) ?_
  exact hend H locs ls hS (lv_sub hl [2, 7] rfl)

set_option maxHeartbeats 8000000 in
set_option maxRecDepth 100000 in
theorem law_c6 {p : Program} {l : Launch} {e : Env} {s : State} {m : MethodId} {below : List Frame} {meth : Method} {c : Code} {args : Array Value} {Q : State → Prop} {A : Nat → Prop} (hl9 : l.stackTraces = false) (G : nG) (x : Nat) (xq1 : Nat) (xq4 : Nat) (xq25 : Nat) (xq46 : Nat) (xq71 : Nat) (xq75 : Nat) (xq82 : Nat) (xq84 : Nat) (xq6 : Nat) (xq7 : Nat) (xq8 : Nat) (xq15 : Nat) (y : Nat) (yq1 : Nat) (yq2 : Nat) (yq3 : Nat) (yq4 : Nat) (yq5 : Nat) (yq6 : Nat) (yq7 : Nat) (yq8 : Nat) (yq9 : Nat) (yq10 : Nat) (yq11 : Nat) (yq12 : Nat) (yq13 : Nat) (yq14 : Nat) (yq15 : Nat) (yq16 : Nat) (yf90 : Nat → Int32) (o : Nat) (od : Nat) (b : Nat) (xs : Nat → Int32) (hx : p.tables.exec = Jvm.exec) (hb : c.code = cL_law) (hml : c.maxLocals = 9) (hown : s.vm.findClass RL = some m.cls) (hts : ∀ w ∈ wsL_law, w.before args s = true) (hX : va_X b 5 xs s s.heap) (hbl : b < s.heap.size) (hbA : ¬ A b) (hA : ∀ q : Nat, s.heap.size ≤ q → A q) (hK : va_K G.1 vwCl (n_ty G) s) (hE : n_ex A s s.heap) (hfa16 : nMod yf90)
    (hend : ∀ (H : Heap) (locs : List Loc) (ls : Array Slot), va_S A s.heap H locs → lv_has ls 9 [(0, .ref b), (5, .int 0)] → W p l e room_1 s m args below meth c H locs 2000 60000 Q (F0 m 2342 ls []))
    (H : Heap) (locs : List Loc) (ls : Array Slot) (hP : va_P G.1 vwCl [(x, .inr (12, [.ref xq1, .ref xq4, .ref xq25, .ref xq46, .ref xq71, .ref xq75, .ref xq82, .ref xq84, .int 0])), (xq4, .inr (5, [.ref xq6, .ref xq7, .ref xq8])), (xq7, .inr (9, [.ref xq15, .int 0])), (y, .inr (13, [.ref yq1, .ref yq2, .int 0, .ref yq3, .int 0, .int 0, .int 0, .ref yq4, .ref yq5, .int 0, .ref yq6, .int (-1), .ref yq7, .int 0, .ref yq8, .ref yq9, .ref yq10, .ref yq11, .int 0, .int 0, .int 0, .int 0, .ref yq12, .ref yq13, .ref yq14, .ref yq15, .ref yq16])), (yq1, eI G 1191 yf90), (o, eJ G 1 (fun _ => 0))] H) (hD : va_D A [(x, .inr (12, [.ref xq1, .ref xq4, .ref xq25, .ref xq46, .ref xq71, .ref xq75, .ref xq82, .ref xq84, .int 0])), (xq4, .inr (5, [.ref xq6, .ref xq7, .ref xq8])), (xq7, .inr (9, [.ref xq15, .int 0])), (y, .inr (13, [.ref yq1, .ref yq2, .int 0, .ref yq3, .int 0, .int 0, .int 0, .ref yq4, .ref yq5, .int 0, .ref yq6, .int (-1), .ref yq7, .int 0, .ref yq8, .ref yq9, .ref yq10, .ref yq11, .int 0, .int 0, .int 0, .int 0, .ref yq12, .ref yq13, .ref yq14, .ref yq15, .ref yq16])), (yq1, eI G 1191 yf90), (o, eJ G 1 (fun _ => 0))]) (hS : va_S A s.heap H locs) (hl : lv_has ls 9 [(0, .ref b), (1, .ref x), (2, .ref y), (3, .ref o), (4, .ref od), (5, .int 0)]) : W p l e room_1 s m args below meth c H locs 609 18141 Q (F0 m 586 ls []) := by
  refine lv_aload_n hx hb dL_law_586 rfl (lv_at hl 1 rfl) ?_
  refine lv_aload_n hx hb dL_law_587 rfl (lv_at hl 0 rfl) ?_
  refine lv_iload hx hb dL_law_588 (lv_at hl 5 rfl) ?_
  refine lv_iconst (v := 1) hx hb dL_law_590 (by decide) ?_
  refine lv_iadd hx hb dL_law_591 ?_
  refine n_eqi (y := 1) (by decide) ?_
  refine va_sld hx hb hX hbl hbA hS (n_in (by decide)) dL_law_592 ?_
  refine n_eqi (y := xs 1) rfl ?_
  refine lv_aload_n hx hb dL_law_593 rfl (lv_at hl 3 rfl) ?_
  refine n_ci (wr := [(y, .inr (13, [.ref yq1, .ref yq2, .int 0, .ref yq3, .int 0, .int 0, .int 0, .ref yq4, .ref yq5, .int 0, .ref yq6, .int (-1), .ref yq7, .int 0, .ref yq8, .ref yq9, .ref yq10, .ref yq11, .int 0, .int 0, .int 0, .int 0, .ref yq12, .ref yq13, .ref yq14, .ref yq15, .ref yq16])), (yq1, eI G 1191 yf90)]) (vx_runSW (As := [.ref x, .int (xs 1), .ref o]) (rest := []) ⟨hx, hb, hml, hown, hts⟩ (mL_rename l hl9 G x xq1 xq4 xq25 xq46 xq71 xq75 xq82 xq84 xq6 xq7 xq8 xq15 (xs 1) o (fun _ => 0) H.size) (vx_cwSW 3 hts gL_law_L_rename rfl rfl rfl (by decide +kernel) ⟨(Nat.le_of_ble_eq_true rfl), (Nat.le_of_ble_eq_true rfl)⟩) (n_prX hK hP hD hS hA [0, 1, 2, 5] rfl (by decide) hE) rfl rfl hl.1 rfl (lv_room (Nat.le_of_ble_eq_true rfl)) dL_law_594 ⟨(Nat.le_of_ble_eq_true rfl), (Nat.le_of_ble_eq_true rfl)⟩) hP hD hS hA [0, 1, 2, 5] [3, 4] rfl rfl (by decide) (by decide) (fun r_1 u_2 H locs hP hD hS hw => ?_)
  have hP : va_P G.1 vwCl [(y, .inr (13, [.ref yq1, .ref yq2, .int 0, .ref yq3, .int 0, .int 0, .int 0, .ref yq4, .ref yq5, .int 0, .ref yq6, .int (-1), .ref yq7, .int 0, .ref yq8, .ref yq9, .ref yq10, .ref yq11, .int 0, .int 0, .int 0, .int 0, .ref yq12, .ref yq13, .ref yq14, .ref yq15, .ref yq16])), (yq1, eI G 1191 yf90), (o, eJ G 1 (fun _ => 0))] H := hP
  have hD : va_D A [(y, .inr (13, [.ref yq1, .ref yq2, .int 0, .ref yq3, .int 0, .int 0, .int 0, .ref yq4, .ref yq5, .int 0, .ref yq6, .int (-1), .ref yq7, .int 0, .ref yq8, .ref yq9, .ref yq10, .ref yq11, .int 0, .int 0, .int 0, .int 0, .ref yq12, .ref yq13, .ref yq14, .ref yq15, .ref yq16])), (yq1, eI G 1191 yf90), (o, eJ G 1 (fun _ => 0))] := hD
  have hw : r_1 = 1 := hw
  subst hw
  refine lv_istore (lv' := [(6, .int 1), (0, .ref b), (1, .ref x), (2, .ref y), (3, .ref o), (4, .ref od), (5, .int 0)]) hx hb dL_law_597 hl (by decide) rfl (fun ls hl => ?_)
  refine lv_aload_n hx hb dL_law_599 rfl (lv_at hl 3 rfl) ?_
  refine lv_aload_n hx hb dL_law_600 rfl (lv_at hl 1 rfl) ?_
  refine lv_iload hx hb dL_law_601 (lv_at hl 6 rfl) ?_
  refine lv_iconst (v := 1) hx hb dL_law_603 (by decide) ?_
  refine lv_iadd hx hb dL_law_604 ?_
  refine n_eqi (y := 1) (by decide) ?_
  refine va_sld hx hb hX hbl hbA hS (n_in (by decide)) dL_law_605 ?_
  refine n_eqi (y := xs 1) rfl ?_
  refine n_ci (wr := [(o, eJ G 1 (fun _ => 0))]) (va_runV (As := [.int (xs 1)]) (rest := []) ⟨hx, hb, hml, hown, hts⟩ (mX12_rename l G y yq1 yq2 yq3 yq4 yq5 yq6 yq7 yq8 yq9 yq10 yq11 yq12 yq13 yq14 yq15 yq16 0 0 0 0 0 (-1) 0 0 0 0 0 yf90 (xs 1) H.size hfa16) (cwV 1 hts gL_law_X12_rename rfl rfl rfl (by decide +kernel) ⟨(Nat.le_of_ble_eq_true rfl), (Nat.le_of_ble_eq_true rfl)⟩) (n_prV (ci := 13) (q0 := 0) hK hP hD [0, 1] rfl (by decide) rfl rfl) rfl rfl hl.1 rfl (lv_room (Nat.le_of_ble_eq_true rfl)) dL_law_606 ⟨(Nat.le_of_ble_eq_true rfl), (Nat.le_of_ble_eq_true rfl)⟩) hP hD hS hA [0, 1] [2] rfl rfl (by decide) (by decide) (fun r_3 u_4 H locs hP hD hS hw => ?_)
  have hP : va_P G.1 vwCl [(o, eJ G 1 (fun _ => 0)), (y, .inr (13, [.ref yq1, .ref yq2, .int 0, .ref yq3, .int 0, .int 1, .int 0, .ref yq4, .ref yq5, .int 0, .ref yq6, .int (-1), .ref yq7, .int 0, .ref yq8, .ref yq9, .ref yq10, .ref yq11, .int 0, .int 0, .int 0, .int 0, .ref yq12, .ref yq13, .ref yq14, .ref yq15, .ref yq16]))] H := hP
  have hD : va_D A [(o, eJ G 1 (fun _ => 0)), (y, .inr (13, [.ref yq1, .ref yq2, .int 0, .ref yq3, .int 0, .int 1, .int 0, .ref yq4, .ref yq5, .int 0, .ref yq6, .int (-1), .ref yq7, .int 0, .ref yq8, .ref yq9, .ref yq10, .ref yq11, .int 0, .int 0, .int 0, .int 0, .ref yq12, .ref yq13, .ref yq14, .ref yq15, .ref yq16]))] := hD
  have hw : r_3 = 0 := hw
  subst hw
  refine lv_istore (lv' := [(7, .int 0), (6, .int 1), (0, .ref b), (1, .ref x), (2, .ref y), (3, .ref o), (4, .ref od), (5, .int 0)]) hx hb dL_law_609 hl (by decide) rfl (fun ls hl => ?_)
  refine lv_aload_n hx hb dL_law_611 rfl (lv_at hl 4 rfl) ?_
  refine n_ci (wr := [(o, eJ G 1 (fun _ => 0))]) (va_runV (As := []) (rest := []) ⟨hx, hb, hml, hown, hts⟩ (mX12_thrown l G y yq1 yq2 yq3 yq4 yq5 yq6 yq7 yq8 yq9 yq10 yq11 yq12 yq13 yq14 yq15 yq16 0 0 1 0 0 (-1) 0 0 0 0 0 H.size) (cwV 0 hts gL_law_X12_thrown rfl rfl rfl (by decide +kernel) ⟨(Nat.le_of_ble_eq_true rfl), (Nat.le_of_ble_eq_true rfl)⟩) (n_prV (ci := 13) (q0 := 1) hK hP hD [1] rfl (by decide) rfl rfl) rfl rfl hl.1 rfl (lv_room (Nat.le_of_ble_eq_true rfl)) dL_law_612 ⟨(Nat.le_of_ble_eq_true rfl), (Nat.le_of_ble_eq_true rfl)⟩) hP hD hS hA [1] [0] rfl rfl (by decide) (by decide) (fun r_5 u_6 H locs hP hD hS hw => ?_)
  have hP : va_P G.1 vwCl [(o, eJ G 1 (fun _ => 0)), (y, .inr (13, [.ref yq1, .ref yq2, .int 0, .ref yq3, .int 0, .int 1, .int 0, .ref yq4, .ref yq5, .int 0, .ref yq6, .int (-1), .ref yq7, .int 0, .ref yq8, .ref yq9, .ref yq10, .ref yq11, .int 0, .int 0, .int 0, .int 0, .ref yq12, .ref yq13, .ref yq14, .ref yq15, .ref yq16]))] H := hP
  have hD : va_D A [(o, eJ G 1 (fun _ => 0)), (y, .inr (13, [.ref yq1, .ref yq2, .int 0, .ref yq3, .int 0, .int 1, .int 0, .ref yq4, .ref yq5, .int 0, .ref yq6, .int (-1), .ref yq7, .int 0, .ref yq8, .ref yq9, .ref yq10, .ref yq11, .int 0, .int 0, .int 0, .int 0, .ref yq12, .ref yq13, .ref yq14, .ref yq15, .ref yq16]))] := hD
  have hw : r_5 = 1 := hw
  subst hw
  refine lv_iload hx hb dL_law_615 (lv_at hl 1 rfl) ?_
  refine lv_icmp_eq (tgt := 622) hx hb dL_law_617 (by decide) (fun _ => ?_) (fun h9 => absurd (by decide) h9)
  refine lv_iload hx hb dL_law_622 (lv_at hl 1 rfl) ?_
  refine lv_if_ne (tgt := 639) hx hb dL_law_624 (by decide) (fun _ => ?_) (fun h9 => absurd h9 (by decide))
  refine lv_goto (tgt := 2342) hx hb dL_law_639 (by decide) ?_
  refine W.widen (k := 2000) (n := 60000) (Nat.le_of_ble_eq_true rfl) (Nat.le_of_ble_eq_true rfl) ?_
  exact hend H locs ls hS (lv_sub hl [2, 7] rfl)

set_option maxHeartbeats 8000000 in
set_option maxRecDepth 100000 in
theorem law_c7 {p : Program} {l : Launch} {e : Env} {s : State} {m : MethodId} {below : List Frame} {meth : Method} {c : Code} {args : Array Value} {Q : State → Prop} {A : Nat → Prop} (hl9 : l.stackTraces = false) (G : nG) (x : Nat) (xq1 : Nat) (xq4 : Nat) (xq25 : Nat) (xq46 : Nat) (xq71 : Nat) (xq75 : Nat) (xq82 : Nat) (xq84 : Nat) (xq6 : Nat) (xq7 : Nat) (xq8 : Nat) (xq15 : Nat) (y : Nat) (yq1 : Nat) (yq2 : Nat) (yq3 : Nat) (yq4 : Nat) (yq5 : Nat) (yq6 : Nat) (yq7 : Nat) (yq8 : Nat) (yq9 : Nat) (yq10 : Nat) (yq11 : Nat) (yq12 : Nat) (yq13 : Nat) (yq14 : Nat) (yq15 : Nat) (yq16 : Nat) (yf90 : Nat → Int32) (o : Nat) (od : Nat) (b : Nat) (xs : Nat → Int32) (hx : p.tables.exec = Jvm.exec) (hb : c.code = cL_law) (hml : c.maxLocals = 9) (hown : s.vm.findClass RL = some m.cls) (hts : ∀ w ∈ wsL_law, w.before args s = true) (hX : va_X b 5 xs s s.heap) (hbl : b < s.heap.size) (hbA : ¬ A b) (hA : ∀ q : Nat, s.heap.size ≤ q → A q) (hK : va_K G.1 vwCl (n_ty G) s) (hE : n_ex A s s.heap) (hfa16 : nMod yf90)
    (hend : ∀ (H : Heap) (locs : List Loc) (ls : Array Slot), va_S A s.heap H locs → lv_has ls 9 [(0, .ref b), (5, .int 0)] → W p l e room_1 s m args below meth c H locs 2000 60000 Q (F0 m 2342 ls []))
    (H : Heap) (locs : List Loc) (ls : Array Slot) (hP : va_P G.1 vwCl [(x, .inr (12, [.ref xq1, .ref xq4, .ref xq25, .ref xq46, .ref xq71, .ref xq75, .ref xq82, .ref xq84, .int 0])), (xq4, .inr (5, [.ref xq6, .ref xq7, .ref xq8])), (xq7, .inr (9, [.ref xq15, .int 0])), (y, .inr (13, [.ref yq1, .ref yq2, .int 0, .ref yq3, .int 0, .int 0, .int 0, .ref yq4, .ref yq5, .int 0, .ref yq6, .int (-1), .ref yq7, .int 0, .ref yq8, .ref yq9, .ref yq10, .ref yq11, .int 0, .int 0, .int 0, .int 0, .ref yq12, .ref yq13, .ref yq14, .ref yq15, .ref yq16])), (yq1, eI G 1191 yf90), (o, eJ G 1 (fun _ => 0))] H) (hD : va_D A [(x, .inr (12, [.ref xq1, .ref xq4, .ref xq25, .ref xq46, .ref xq71, .ref xq75, .ref xq82, .ref xq84, .int 0])), (xq4, .inr (5, [.ref xq6, .ref xq7, .ref xq8])), (xq7, .inr (9, [.ref xq15, .int 0])), (y, .inr (13, [.ref yq1, .ref yq2, .int 0, .ref yq3, .int 0, .int 0, .int 0, .ref yq4, .ref yq5, .int 0, .ref yq6, .int (-1), .ref yq7, .int 0, .ref yq8, .ref yq9, .ref yq10, .ref yq11, .int 0, .int 0, .int 0, .int 0, .ref yq12, .ref yq13, .ref yq14, .ref yq15, .ref yq16])), (yq1, eI G 1191 yf90), (o, eJ G 1 (fun _ => 0))]) (hS : va_S A s.heap H locs) (hl : lv_has ls 9 [(0, .ref b), (1, .ref x), (2, .ref y), (3, .ref o), (4, .ref od), (5, .int 0)]) : W p l e room_1 s m args below meth c H locs 609 18141 Q (F0 m 642 ls []) := by
  refine lv_aload_n hx hb dL_law_642 rfl (lv_at hl 1 rfl) ?_
  refine lv_aload_n hx hb dL_law_643 rfl (lv_at hl 0 rfl) ?_
  refine lv_iload hx hb dL_law_644 (lv_at hl 5 rfl) ?_
  refine lv_iconst (v := 1) hx hb dL_law_646 (by decide) ?_
  refine lv_iadd hx hb dL_law_647 ?_
  refine n_eqi (y := 1) (by decide) ?_
  refine va_sld hx hb hX hbl hbA hS (n_in (by decide)) dL_law_648 ?_
  refine n_eqi (y := xs 1) rfl ?_
  refine lv_aload_n hx hb dL_law_649 rfl (lv_at hl 0 rfl) ?_
  refine lv_iload hx hb dL_law_650 (lv_at hl 5 rfl) ?_
  refine lv_iconst (v := 2) hx hb dL_law_652 (by decide) ?_
  refine lv_iadd hx hb dL_law_653 ?_
  refine n_eqi (y := 2) (by decide) ?_
  refine va_sld hx hb hX hbl hbA hS (n_in (by decide)) dL_law_654 ?_
  refine n_eqi (y := xs 2) rfl ?_
  refine lv_aload_n hx hb dL_law_655 rfl (lv_at hl 3 rfl) ?_
  refine n_ci (wr := [(y, .inr (13, [.ref yq1, .ref yq2, .int 0, .ref yq3, .int 0, .int 0, .int 0, .ref yq4, .ref yq5, .int 0, .ref yq6, .int (-1), .ref yq7, .int 0, .ref yq8, .ref yq9, .ref yq10, .ref yq11, .int 0, .int 0, .int 0, .int 0, .ref yq12, .ref yq13, .ref yq14, .ref yq15, .ref yq16])), (yq1, eI G 1191 yf90)]) (vx_runSW (As := [.ref x, .int (xs 1), .int (xs 2), .ref o]) (rest := []) ⟨hx, hb, hml, hown, hts⟩ (mL_promote l hl9 G x xq1 xq4 xq25 xq46 xq71 xq75 xq82 xq84 xq6 xq7 xq8 xq15 (xs 1) (xs 2) o (fun _ => 0) H.size) (vx_cwSW 4 hts gL_law_L_promote rfl rfl rfl (by decide +kernel) ⟨(Nat.le_of_ble_eq_true rfl), (Nat.le_of_ble_eq_true rfl)⟩) (n_prX hK hP hD hS hA [0, 1, 2, 5] rfl (by decide) hE) rfl rfl hl.1 rfl (lv_room (Nat.le_of_ble_eq_true rfl)) dL_law_656 ⟨(Nat.le_of_ble_eq_true rfl), (Nat.le_of_ble_eq_true rfl)⟩) hP hD hS hA [0, 1, 2, 5] [3, 4] rfl rfl (by decide) (by decide) (fun r_1 u_2 H locs hP hD hS hw => ?_)
  have hP : va_P G.1 vwCl [(y, .inr (13, [.ref yq1, .ref yq2, .int 0, .ref yq3, .int 0, .int 0, .int 0, .ref yq4, .ref yq5, .int 0, .ref yq6, .int (-1), .ref yq7, .int 0, .ref yq8, .ref yq9, .ref yq10, .ref yq11, .int 0, .int 0, .int 0, .int 0, .ref yq12, .ref yq13, .ref yq14, .ref yq15, .ref yq16])), (yq1, eI G 1191 yf90), (o, eJ G 1 (fun _ => 0))] H := hP
  have hD : va_D A [(y, .inr (13, [.ref yq1, .ref yq2, .int 0, .ref yq3, .int 0, .int 0, .int 0, .ref yq4, .ref yq5, .int 0, .ref yq6, .int (-1), .ref yq7, .int 0, .ref yq8, .ref yq9, .ref yq10, .ref yq11, .int 0, .int 0, .int 0, .int 0, .ref yq12, .ref yq13, .ref yq14, .ref yq15, .ref yq16])), (yq1, eI G 1191 yf90), (o, eJ G 1 (fun _ => 0))] := hD
  have hw : r_1 = 1 := hw
  subst hw
  refine lv_istore (lv' := [(6, .int 1), (0, .ref b), (1, .ref x), (2, .ref y), (3, .ref o), (4, .ref od), (5, .int 0)]) hx hb dL_law_659 hl (by decide) rfl (fun ls hl => ?_)
  refine lv_aload_n hx hb dL_law_661 rfl (lv_at hl 3 rfl) ?_
  refine lv_aload_n hx hb dL_law_662 rfl (lv_at hl 1 rfl) ?_
  refine lv_iload hx hb dL_law_663 (lv_at hl 6 rfl) ?_
  refine lv_iconst (v := 1) hx hb dL_law_665 (by decide) ?_
  refine lv_iadd hx hb dL_law_666 ?_
  refine n_eqi (y := 1) (by decide) ?_
  refine va_sld hx hb hX hbl hbA hS (n_in (by decide)) dL_law_667 ?_
  refine n_eqi (y := xs 1) rfl ?_
  refine lv_aload_n hx hb dL_law_668 rfl (lv_at hl 1 rfl) ?_
  refine lv_iload hx hb dL_law_669 (lv_at hl 6 rfl) ?_
  refine lv_iconst (v := 2) hx hb dL_law_671 (by decide) ?_
  refine lv_iadd hx hb dL_law_672 ?_
  refine n_eqi (y := 2) (by decide) ?_
  refine va_sld hx hb hX hbl hbA hS (n_in (by decide)) dL_law_673 ?_
  refine n_eqi (y := xs 2) rfl ?_
  refine n_ci (wr := [(o, eJ G 1 (fun _ => 0))]) (va_runV (As := [.int (xs 1), .int (xs 2)]) (rest := []) ⟨hx, hb, hml, hown, hts⟩ (mX12_promote l G y yq1 yq2 yq3 yq4 yq5 yq6 yq7 yq8 yq9 yq10 yq11 yq12 yq13 yq14 yq15 yq16 0 0 0 0 0 (-1) 0 0 0 0 0 yf90 (xs 1) (xs 2) H.size hfa16) (cwV 2 hts gL_law_X12_promote rfl rfl rfl (by decide +kernel) ⟨(Nat.le_of_ble_eq_true rfl), (Nat.le_of_ble_eq_true rfl)⟩) (n_prV (ci := 13) (q0 := 0) hK hP hD [0, 1] rfl (by decide) rfl rfl) rfl rfl hl.1 rfl (lv_room (Nat.le_of_ble_eq_true rfl)) dL_law_674 ⟨(Nat.le_of_ble_eq_true rfl), (Nat.le_of_ble_eq_true rfl)⟩) hP hD hS hA [0, 1] [2] rfl rfl (by decide) (by decide) (fun r_3 u_4 H locs hP hD hS hw => ?_)
  have hP : va_P G.1 vwCl [(o, eJ G 1 (fun _ => 0)), (y, .inr (13, [.ref yq1, .ref yq2, .int 0, .ref yq3, .int 0, .int 1, .int 0, .ref yq4, .ref yq5, .int 0, .ref yq6, .int (-1), .ref yq7, .int 0, .ref yq8, .ref yq9, .ref yq10, .ref yq11, .int 0, .int 0, .int 0, .int 0, .ref yq12, .ref yq13, .ref yq14, .ref yq15, .ref yq16]))] H := hP
  have hD : va_D A [(o, eJ G 1 (fun _ => 0)), (y, .inr (13, [.ref yq1, .ref yq2, .int 0, .ref yq3, .int 0, .int 1, .int 0, .ref yq4, .ref yq5, .int 0, .ref yq6, .int (-1), .ref yq7, .int 0, .ref yq8, .ref yq9, .ref yq10, .ref yq11, .int 0, .int 0, .int 0, .int 0, .ref yq12, .ref yq13, .ref yq14, .ref yq15, .ref yq16]))] := hD
  have hw : r_3 = 0 := hw
  subst hw
  refine lv_istore (lv' := [(7, .int 0), (6, .int 1), (0, .ref b), (1, .ref x), (2, .ref y), (3, .ref o), (4, .ref od), (5, .int 0)]) hx hb dL_law_677 hl (by decide) rfl (fun ls hl => ?_)
  refine lv_aload_n hx hb dL_law_679 rfl (lv_at hl 4 rfl) ?_
  refine n_ci (wr := [(o, eJ G 1 (fun _ => 0))]) (va_runV (As := []) (rest := []) ⟨hx, hb, hml, hown, hts⟩ (mX12_thrown l G y yq1 yq2 yq3 yq4 yq5 yq6 yq7 yq8 yq9 yq10 yq11 yq12 yq13 yq14 yq15 yq16 0 0 1 0 0 (-1) 0 0 0 0 0 H.size) (cwV 0 hts gL_law_X12_thrown rfl rfl rfl (by decide +kernel) ⟨(Nat.le_of_ble_eq_true rfl), (Nat.le_of_ble_eq_true rfl)⟩) (n_prV (ci := 13) (q0 := 1) hK hP hD [1] rfl (by decide) rfl rfl) rfl rfl hl.1 rfl (lv_room (Nat.le_of_ble_eq_true rfl)) dL_law_680 ⟨(Nat.le_of_ble_eq_true rfl), (Nat.le_of_ble_eq_true rfl)⟩) hP hD hS hA [1] [0] rfl rfl (by decide) (by decide) (fun r_5 u_6 H locs hP hD hS hw => ?_)
  have hP : va_P G.1 vwCl [(o, eJ G 1 (fun _ => 0)), (y, .inr (13, [.ref yq1, .ref yq2, .int 0, .ref yq3, .int 0, .int 1, .int 0, .ref yq4, .ref yq5, .int 0, .ref yq6, .int (-1), .ref yq7, .int 0, .ref yq8, .ref yq9, .ref yq10, .ref yq11, .int 0, .int 0, .int 0, .int 0, .ref yq12, .ref yq13, .ref yq14, .ref yq15, .ref yq16]))] H := hP
  have hD : va_D A [(o, eJ G 1 (fun _ => 0)), (y, .inr (13, [.ref yq1, .ref yq2, .int 0, .ref yq3, .int 0, .int 1, .int 0, .ref yq4, .ref yq5, .int 0, .ref yq6, .int (-1), .ref yq7, .int 0, .ref yq8, .ref yq9, .ref yq10, .ref yq11, .int 0, .int 0, .int 0, .int 0, .ref yq12, .ref yq13, .ref yq14, .ref yq15, .ref yq16]))] := hD
  have hw : r_5 = 1 := hw
  subst hw
  refine lv_iload hx hb dL_law_683 (lv_at hl 1 rfl) ?_
  refine lv_icmp_eq (tgt := 690) hx hb dL_law_685 (by decide) (fun _ => ?_) (fun h9 => absurd (by decide) h9)
  refine lv_iload hx hb dL_law_690 (lv_at hl 1 rfl) ?_
  refine lv_if_ne (tgt := 707) hx hb dL_law_692 (by decide) (fun _ => ?_) (fun h9 => absurd h9 (by decide))
  refine lv_goto (tgt := 2342) hx hb dL_law_707 (by decide) ?_
  refine W.widen (k := 2000) (n := 60000) (Nat.le_of_ble_eq_true rfl) (Nat.le_of_ble_eq_true rfl) ?_
  exact hend H locs ls hS (lv_sub hl [2, 7] rfl)

set_option maxHeartbeats 8000000 in
set_option maxRecDepth 100000 in
theorem law_c8 {p : Program} {l : Launch} {e : Env} {s : State} {m : MethodId} {below : List Frame} {meth : Method} {c : Code} {args : Array Value} {Q : State → Prop} {A : Nat → Prop} (hl9 : l.stackTraces = false) (G : nG) (x : Nat) (xq1 : Nat) (xq4 : Nat) (xq25 : Nat) (xq46 : Nat) (xq71 : Nat) (xq75 : Nat) (xq82 : Nat) (xq84 : Nat) (xq6 : Nat) (xq7 : Nat) (xq8 : Nat) (xq15 : Nat) (y : Nat) (yq1 : Nat) (yq2 : Nat) (yq3 : Nat) (yq4 : Nat) (yq5 : Nat) (yq6 : Nat) (yq7 : Nat) (yq8 : Nat) (yq9 : Nat) (yq10 : Nat) (yq11 : Nat) (yq12 : Nat) (yq13 : Nat) (yq14 : Nat) (yq15 : Nat) (yq16 : Nat) (yf90 : Nat → Int32) (o : Nat) (od : Nat) (b : Nat) (xs : Nat → Int32) (hx : p.tables.exec = Jvm.exec) (hb : c.code = cL_law) (hml : c.maxLocals = 9) (hown : s.vm.findClass RL = some m.cls) (hts : ∀ w ∈ wsL_law, w.before args s = true) (hX : va_X b 5 xs s s.heap) (hbl : b < s.heap.size) (hbA : ¬ A b) (hA : ∀ q : Nat, s.heap.size ≤ q → A q) (hK : va_K G.1 vwCl (n_ty G) s) (hE : n_ex A s s.heap) (hfa16 : nMod yf90)
    (hend : ∀ (H : Heap) (locs : List Loc) (ls : Array Slot), va_S A s.heap H locs → lv_has ls 9 [(0, .ref b), (5, .int 0)] → W p l e room_1 s m args below meth c H locs 2000 60000 Q (F0 m 2342 ls []))
    (H : Heap) (locs : List Loc) (ls : Array Slot) (hP : va_P G.1 vwCl [(x, .inr (12, [.ref xq1, .ref xq4, .ref xq25, .ref xq46, .ref xq71, .ref xq75, .ref xq82, .ref xq84, .int 0])), (xq4, .inr (5, [.ref xq6, .ref xq7, .ref xq8])), (xq7, .inr (9, [.ref xq15, .int 0])), (y, .inr (13, [.ref yq1, .ref yq2, .int 0, .ref yq3, .int 0, .int 0, .int 0, .ref yq4, .ref yq5, .int 0, .ref yq6, .int (-1), .ref yq7, .int 0, .ref yq8, .ref yq9, .ref yq10, .ref yq11, .int 0, .int 0, .int 0, .int 0, .ref yq12, .ref yq13, .ref yq14, .ref yq15, .ref yq16])), (yq1, eI G 1191 yf90), (o, eJ G 1 (fun _ => 0))] H) (hD : va_D A [(x, .inr (12, [.ref xq1, .ref xq4, .ref xq25, .ref xq46, .ref xq71, .ref xq75, .ref xq82, .ref xq84, .int 0])), (xq4, .inr (5, [.ref xq6, .ref xq7, .ref xq8])), (xq7, .inr (9, [.ref xq15, .int 0])), (y, .inr (13, [.ref yq1, .ref yq2, .int 0, .ref yq3, .int 0, .int 0, .int 0, .ref yq4, .ref yq5, .int 0, .ref yq6, .int (-1), .ref yq7, .int 0, .ref yq8, .ref yq9, .ref yq10, .ref yq11, .int 0, .int 0, .int 0, .int 0, .ref yq12, .ref yq13, .ref yq14, .ref yq15, .ref yq16])), (yq1, eI G 1191 yf90), (o, eJ G 1 (fun _ => 0))]) (hS : va_S A s.heap H locs) (hl : lv_has ls 9 [(0, .ref b), (1, .ref x), (2, .ref y), (3, .ref o), (4, .ref od), (5, .int 0)]) : W p l e room_1 s m args below meth c H locs 609 18141 Q (F0 m 710 ls []) := by
  refine lv_aload_n hx hb dL_law_710 rfl (lv_at hl 1 rfl) ?_
  refine lv_aload_n hx hb dL_law_711 rfl (lv_at hl 0 rfl) ?_
  refine lv_iload hx hb dL_law_712 (lv_at hl 5 rfl) ?_
  refine lv_iconst (v := 1) hx hb dL_law_714 (by decide) ?_
  refine lv_iadd hx hb dL_law_715 ?_
  refine n_eqi (y := 1) (by decide) ?_
  refine va_sld hx hb hX hbl hbA hS (n_in (by decide)) dL_law_716 ?_
  refine n_eqi (y := xs 1) rfl ?_
  refine lv_aload_n hx hb dL_law_717 rfl (lv_at hl 0 rfl) ?_
  refine lv_iload hx hb dL_law_718 (lv_at hl 5 rfl) ?_
  refine lv_iconst (v := 2) hx hb dL_law_720 (by decide) ?_
  refine lv_iadd hx hb dL_law_721 ?_
  refine n_eqi (y := 2) (by decide) ?_
  refine va_sld hx hb hX hbl hbA hS (n_in (by decide)) dL_law_722 ?_
  refine n_eqi (y := xs 2) rfl ?_
  refine lv_aload_n hx hb dL_law_723 rfl (lv_at hl 3 rfl) ?_
  refine n_ci (wr := [(y, .inr (13, [.ref yq1, .ref yq2, .int 0, .ref yq3, .int 0, .int 0, .int 0, .ref yq4, .ref yq5, .int 0, .ref yq6, .int (-1), .ref yq7, .int 0, .ref yq8, .ref yq9, .ref yq10, .ref yq11, .int 0, .int 0, .int 0, .int 0, .ref yq12, .ref yq13, .ref yq14, .ref yq15, .ref yq16])), (yq1, eI G 1191 yf90)]) (vx_runSW (As := [.ref x, .int (xs 1), .int (xs 2), .ref o]) (rest := []) ⟨hx, hb, hml, hown, hts⟩ (mL_removeVariant l hl9 G x xq1 xq4 xq25 xq46 xq71 xq75 xq82 xq84 xq6 xq7 xq8 xq15 (xs 1) (xs 2) o (fun _ => 0) H.size) (vx_cwSW 4 hts gL_law_L_removeVariant rfl rfl rfl (by decide +kernel) ⟨(Nat.le_of_ble_eq_true rfl), (Nat.le_of_ble_eq_true rfl)⟩) (n_prX hK hP hD hS hA [0, 1, 2, 5] rfl (by decide) hE) rfl rfl hl.1 rfl (lv_room (Nat.le_of_ble_eq_true rfl)) dL_law_724 ⟨(Nat.le_of_ble_eq_true rfl), (Nat.le_of_ble_eq_true rfl)⟩) hP hD hS hA [0, 1, 2, 5] [3, 4] rfl rfl (by decide) (by decide) (fun r_1 u_2 H locs hP hD hS hw => ?_)
  have hP : va_P G.1 vwCl [(y, .inr (13, [.ref yq1, .ref yq2, .int 0, .ref yq3, .int 0, .int 0, .int 0, .ref yq4, .ref yq5, .int 0, .ref yq6, .int (-1), .ref yq7, .int 0, .ref yq8, .ref yq9, .ref yq10, .ref yq11, .int 0, .int 0, .int 0, .int 0, .ref yq12, .ref yq13, .ref yq14, .ref yq15, .ref yq16])), (yq1, eI G 1191 yf90), (o, eJ G 1 (fun _ => 0))] H := hP
  have hD : va_D A [(y, .inr (13, [.ref yq1, .ref yq2, .int 0, .ref yq3, .int 0, .int 0, .int 0, .ref yq4, .ref yq5, .int 0, .ref yq6, .int (-1), .ref yq7, .int 0, .ref yq8, .ref yq9, .ref yq10, .ref yq11, .int 0, .int 0, .int 0, .int 0, .ref yq12, .ref yq13, .ref yq14, .ref yq15, .ref yq16])), (yq1, eI G 1191 yf90), (o, eJ G 1 (fun _ => 0))] := hD
  have hw : r_1 = 1 := hw
  subst hw
  refine lv_istore (lv' := [(6, .int 1), (0, .ref b), (1, .ref x), (2, .ref y), (3, .ref o), (4, .ref od), (5, .int 0)]) hx hb dL_law_727 hl (by decide) rfl (fun ls hl => ?_)
  refine lv_aload_n hx hb dL_law_729 rfl (lv_at hl 3 rfl) ?_
  refine lv_aload_n hx hb dL_law_730 rfl (lv_at hl 1 rfl) ?_
  refine lv_iload hx hb dL_law_731 (lv_at hl 6 rfl) ?_
  refine lv_iconst (v := 1) hx hb dL_law_733 (by decide) ?_
  refine lv_iadd hx hb dL_law_734 ?_
  refine n_eqi (y := 1) (by decide) ?_
  refine va_sld hx hb hX hbl hbA hS (n_in (by decide)) dL_law_735 ?_
  refine n_eqi (y := xs 1) rfl ?_
  refine lv_aload_n hx hb dL_law_736 rfl (lv_at hl 1 rfl) ?_
  refine lv_iload hx hb dL_law_737 (lv_at hl 6 rfl) ?_
  refine lv_iconst (v := 2) hx hb dL_law_739 (by decide) ?_
  refine lv_iadd hx hb dL_law_740 ?_
  refine n_eqi (y := 2) (by decide) ?_
  refine va_sld hx hb hX hbl hbA hS (n_in (by decide)) dL_law_741 ?_
  refine n_eqi (y := xs 2) rfl ?_
  refine n_ci (wr := [(o, eJ G 1 (fun _ => 0))]) (va_runV (As := [.int (xs 1), .int (xs 2)]) (rest := []) ⟨hx, hb, hml, hown, hts⟩ (mX12_removeVariant l G y yq1 yq2 yq3 yq4 yq5 yq6 yq7 yq8 yq9 yq10 yq11 yq12 yq13 yq14 yq15 yq16 0 0 0 0 0 (-1) 0 0 0 0 0 yf90 (xs 1) (xs 2) H.size hfa16) (cwV 2 hts gL_law_X12_removeVariant rfl rfl rfl (by decide +kernel) ⟨(Nat.le_of_ble_eq_true rfl), (Nat.le_of_ble_eq_true rfl)⟩) (n_prV (ci := 13) (q0 := 0) hK hP hD [0, 1] rfl (by decide) rfl rfl) rfl rfl hl.1 rfl (lv_room (Nat.le_of_ble_eq_true rfl)) dL_law_742 ⟨(Nat.le_of_ble_eq_true rfl), (Nat.le_of_ble_eq_true rfl)⟩) hP hD hS hA [0, 1] [2] rfl rfl (by decide) (by decide) (fun r_3 u_4 H locs hP hD hS hw => ?_)
  have hP : va_P G.1 vwCl [(o, eJ G 1 (fun _ => 0)), (y, .inr (13, [.ref yq1, .ref yq2, .int 0, .ref yq3, .int 0, .int 1, .int 0, .ref yq4, .ref yq5, .int 0, .ref yq6, .int (-1), .ref yq7, .int 0, .ref yq8, .ref yq9, .ref yq10, .ref yq11, .int 0, .int 0, .int 0, .int 0, .ref yq12, .ref yq13, .ref yq14, .ref yq15, .ref yq16]))] H := hP
  have hD : va_D A [(o, eJ G 1 (fun _ => 0)), (y, .inr (13, [.ref yq1, .ref yq2, .int 0, .ref yq3, .int 0, .int 1, .int 0, .ref yq4, .ref yq5, .int 0, .ref yq6, .int (-1), .ref yq7, .int 0, .ref yq8, .ref yq9, .ref yq10, .ref yq11, .int 0, .int 0, .int 0, .int 0, .ref yq12, .ref yq13, .ref yq14, .ref yq15, .ref yq16]))] := hD
  have hw : r_3 = 0 := hw
  subst hw
  refine lv_istore (lv' := [(7, .int 0), (6, .int 1), (0, .ref b), (1, .ref x), (2, .ref y), (3, .ref o), (4, .ref od), (5, .int 0)]) hx hb dL_law_745 hl (by decide) rfl (fun ls hl => ?_)
  refine lv_aload_n hx hb dL_law_747 rfl (lv_at hl 4 rfl) ?_
  refine n_ci (wr := [(o, eJ G 1 (fun _ => 0))]) (va_runV (As := []) (rest := []) ⟨hx, hb, hml, hown, hts⟩ (mX12_thrown l G y yq1 yq2 yq3 yq4 yq5 yq6 yq7 yq8 yq9 yq10 yq11 yq12 yq13 yq14 yq15 yq16 0 0 1 0 0 (-1) 0 0 0 0 0 H.size) (cwV 0 hts gL_law_X12_thrown rfl rfl rfl (by decide +kernel) ⟨(Nat.le_of_ble_eq_true rfl), (Nat.le_of_ble_eq_true rfl)⟩) (n_prV (ci := 13) (q0 := 1) hK hP hD [1] rfl (by decide) rfl rfl) rfl rfl hl.1 rfl (lv_room (Nat.le_of_ble_eq_true rfl)) dL_law_748 ⟨(Nat.le_of_ble_eq_true rfl), (Nat.le_of_ble_eq_true rfl)⟩) hP hD hS hA [1] [0] rfl rfl (by decide) (by decide) (fun r_5 u_6 H locs hP hD hS hw => ?_)
  have hP : va_P G.1 vwCl [(o, eJ G 1 (fun _ => 0)), (y, .inr (13, [.ref yq1, .ref yq2, .int 0, .ref yq3, .int 0, .int 1, .int 0, .ref yq4, .ref yq5, .int 0, .ref yq6, .int (-1), .ref yq7, .int 0, .ref yq8, .ref yq9, .ref yq10, .ref yq11, .int 0, .int 0, .int 0, .int 0, .ref yq12, .ref yq13, .ref yq14, .ref yq15, .ref yq16]))] H := hP
  have hD : va_D A [(o, eJ G 1 (fun _ => 0)), (y, .inr (13, [.ref yq1, .ref yq2, .int 0, .ref yq3, .int 0, .int 1, .int 0, .ref yq4, .ref yq5, .int 0, .ref yq6, .int (-1), .ref yq7, .int 0, .ref yq8, .ref yq9, .ref yq10, .ref yq11, .int 0, .int 0, .int 0, .int 0, .ref yq12, .ref yq13, .ref yq14, .ref yq15, .ref yq16]))] := hD
  have hw : r_5 = 1 := hw
  subst hw
  refine lv_iload hx hb dL_law_751 (lv_at hl 1 rfl) ?_
  refine lv_icmp_eq (tgt := 758) hx hb dL_law_753 (by decide) (fun _ => ?_) (fun h9 => absurd (by decide) h9)
  refine lv_iload hx hb dL_law_758 (lv_at hl 1 rfl) ?_
  refine lv_if_ne (tgt := 775) hx hb dL_law_760 (by decide) (fun _ => ?_) (fun h9 => absurd h9 (by decide))
  refine lv_goto (tgt := 2342) hx hb dL_law_775 (by decide) ?_
  refine W.widen (k := 2000) (n := 60000) (Nat.le_of_ble_eq_true rfl) (Nat.le_of_ble_eq_true rfl) ?_
  exact hend H locs ls hS (lv_sub hl [2, 7] rfl)

set_option maxHeartbeats 8000000 in
set_option maxRecDepth 100000 in
theorem law_c9 {p : Program} {l : Launch} {e : Env} {s : State} {m : MethodId} {below : List Frame} {meth : Method} {c : Code} {args : Array Value} {Q : State → Prop} {A : Nat → Prop} (hl9 : l.stackTraces = false) (G : nG) (x : Nat) (xq1 : Nat) (xq4 : Nat) (xq25 : Nat) (xq46 : Nat) (xq71 : Nat) (xq75 : Nat) (xq82 : Nat) (xq84 : Nat) (xq6 : Nat) (xq7 : Nat) (xq8 : Nat) (xq15 : Nat) (y : Nat) (yq1 : Nat) (yq2 : Nat) (yq3 : Nat) (yq4 : Nat) (yq5 : Nat) (yq6 : Nat) (yq7 : Nat) (yq8 : Nat) (yq9 : Nat) (yq10 : Nat) (yq11 : Nat) (yq12 : Nat) (yq13 : Nat) (yq14 : Nat) (yq15 : Nat) (yq16 : Nat) (yf90 : Nat → Int32) (o : Nat) (od : Nat) (b : Nat) (xs : Nat → Int32) (hx : p.tables.exec = Jvm.exec) (hb : c.code = cL_law) (hml : c.maxLocals = 9) (hown : s.vm.findClass RL = some m.cls) (hts : ∀ w ∈ wsL_law, w.before args s = true) (hX : va_X b 5 xs s s.heap) (hbl : b < s.heap.size) (hbA : ¬ A b) (hA : ∀ q : Nat, s.heap.size ≤ q → A q) (hK : va_K G.1 vwCl (n_ty G) s) (hE : n_ex A s s.heap) (hfa16 : nMod yf90)
    (hend : ∀ (H : Heap) (locs : List Loc) (ls : Array Slot), va_S A s.heap H locs → lv_has ls 9 [(0, .ref b), (5, .int 0)] → W p l e room_1 s m args below meth c H locs 2000 60000 Q (F0 m 2342 ls []))
    (H : Heap) (locs : List Loc) (ls : Array Slot) (hP : va_P G.1 vwCl [(x, .inr (12, [.ref xq1, .ref xq4, .ref xq25, .ref xq46, .ref xq71, .ref xq75, .ref xq82, .ref xq84, .int 0])), (xq4, .inr (5, [.ref xq6, .ref xq7, .ref xq8])), (xq7, .inr (9, [.ref xq15, .int 0])), (y, .inr (13, [.ref yq1, .ref yq2, .int 0, .ref yq3, .int 0, .int 0, .int 0, .ref yq4, .ref yq5, .int 0, .ref yq6, .int (-1), .ref yq7, .int 0, .ref yq8, .ref yq9, .ref yq10, .ref yq11, .int 0, .int 0, .int 0, .int 0, .ref yq12, .ref yq13, .ref yq14, .ref yq15, .ref yq16])), (yq1, eI G 1191 yf90), (o, eJ G 1 (fun _ => 0))] H) (hD : va_D A [(x, .inr (12, [.ref xq1, .ref xq4, .ref xq25, .ref xq46, .ref xq71, .ref xq75, .ref xq82, .ref xq84, .int 0])), (xq4, .inr (5, [.ref xq6, .ref xq7, .ref xq8])), (xq7, .inr (9, [.ref xq15, .int 0])), (y, .inr (13, [.ref yq1, .ref yq2, .int 0, .ref yq3, .int 0, .int 0, .int 0, .ref yq4, .ref yq5, .int 0, .ref yq6, .int (-1), .ref yq7, .int 0, .ref yq8, .ref yq9, .ref yq10, .ref yq11, .int 0, .int 0, .int 0, .int 0, .ref yq12, .ref yq13, .ref yq14, .ref yq15, .ref yq16])), (yq1, eI G 1191 yf90), (o, eJ G 1 (fun _ => 0))]) (hS : va_S A s.heap H locs) (hl : lv_has ls 9 [(0, .ref b), (1, .ref x), (2, .ref y), (3, .ref o), (4, .ref od), (5, .int 0)]) : W p l e room_1 s m args below meth c H locs 609 18141 Q (F0 m 778 ls []) := by
  refine lv_aload_n hx hb dL_law_778 rfl (lv_at hl 1 rfl) ?_
  refine lv_aload_n hx hb dL_law_779 rfl (lv_at hl 0 rfl) ?_
  refine lv_iload hx hb dL_law_780 (lv_at hl 5 rfl) ?_
  refine lv_iconst (v := 1) hx hb dL_law_782 (by decide) ?_
  refine lv_iadd hx hb dL_law_783 ?_
  refine n_eqi (y := 1) (by decide) ?_
  refine va_sld hx hb hX hbl hbA hS (n_in (by decide)) dL_law_784 ?_
  refine n_eqi (y := xs 1) rfl ?_
  refine lv_aload_n hx hb dL_law_785 rfl (lv_at hl 3 rfl) ?_
  refine n_ci (wr := [(y, .inr (13, [.ref yq1, .ref yq2, .int 0, .ref yq3, .int 0, .int 0, .int 0, .ref yq4, .ref yq5, .int 0, .ref yq6, .int (-1), .ref yq7, .int 0, .ref yq8, .ref yq9, .ref yq10, .ref yq11, .int 0, .int 0, .int 0, .int 0, .ref yq12, .ref yq13, .ref yq14, .ref yq15, .ref yq16])), (yq1, eI G 1191 yf90)]) (vx_runSW (As := [.ref x, .int (xs 1), .ref o]) (rest := []) ⟨hx, hb, hml, hown, hts⟩ (mL_remove l hl9 G x xq1 xq4 xq25 xq46 xq71 xq75 xq82 xq84 xq6 xq7 xq8 xq15 (xs 1) o (fun _ => 0) H.size) (vx_cwSW 3 hts gL_law_L_remove rfl rfl rfl (by decide +kernel) ⟨(Nat.le_of_ble_eq_true rfl), (Nat.le_of_ble_eq_true rfl)⟩) (n_prX hK hP hD hS hA [0, 1, 2, 5] rfl (by decide) hE) rfl rfl hl.1 rfl (lv_room (Nat.le_of_ble_eq_true rfl)) dL_law_786 ⟨(Nat.le_of_ble_eq_true rfl), (Nat.le_of_ble_eq_true rfl)⟩) hP hD hS hA [0, 1, 2, 5] [3, 4] rfl rfl (by decide) (by decide) (fun r_1 u_2 H locs hP hD hS hw => ?_)
  have hP : va_P G.1 vwCl [(y, .inr (13, [.ref yq1, .ref yq2, .int 0, .ref yq3, .int 0, .int 0, .int 0, .ref yq4, .ref yq5, .int 0, .ref yq6, .int (-1), .ref yq7, .int 0, .ref yq8, .ref yq9, .ref yq10, .ref yq11, .int 0, .int 0, .int 0, .int 0, .ref yq12, .ref yq13, .ref yq14, .ref yq15, .ref yq16])), (yq1, eI G 1191 yf90), (o, eJ G 1 (fun _ => 0))] H := hP
  have hD : va_D A [(y, .inr (13, [.ref yq1, .ref yq2, .int 0, .ref yq3, .int 0, .int 0, .int 0, .ref yq4, .ref yq5, .int 0, .ref yq6, .int (-1), .ref yq7, .int 0, .ref yq8, .ref yq9, .ref yq10, .ref yq11, .int 0, .int 0, .int 0, .int 0, .ref yq12, .ref yq13, .ref yq14, .ref yq15, .ref yq16])), (yq1, eI G 1191 yf90), (o, eJ G 1 (fun _ => 0))] := hD
  have hw : r_1 = 1 := hw
  subst hw
  refine lv_istore (lv' := [(6, .int 1), (0, .ref b), (1, .ref x), (2, .ref y), (3, .ref o), (4, .ref od), (5, .int 0)]) hx hb dL_law_789 hl (by decide) rfl (fun ls hl => ?_)
  refine lv_aload_n hx hb dL_law_791 rfl (lv_at hl 3 rfl) ?_
  refine lv_aload_n hx hb dL_law_792 rfl (lv_at hl 1 rfl) ?_
  refine lv_iload hx hb dL_law_793 (lv_at hl 6 rfl) ?_
  refine lv_iconst (v := 1) hx hb dL_law_795 (by decide) ?_
  refine lv_iadd hx hb dL_law_796 ?_
  refine n_eqi (y := 1) (by decide) ?_
  refine va_sld hx hb hX hbl hbA hS (n_in (by decide)) dL_law_797 ?_
  refine n_eqi (y := xs 1) rfl ?_
  refine n_ci (wr := [(o, eJ G 1 (fun _ => 0))]) (va_runV (As := [.int (xs 1)]) (rest := []) ⟨hx, hb, hml, hown, hts⟩ (mX12_remove l G y yq1 yq2 yq3 yq4 yq5 yq6 yq7 yq8 yq9 yq10 yq11 yq12 yq13 yq14 yq15 yq16 0 0 0 0 0 (-1) 0 0 0 0 0 yf90 (xs 1) H.size hfa16) (cwV 1 hts gL_law_X12_remove rfl rfl rfl (by decide +kernel) ⟨(Nat.le_of_ble_eq_true rfl), (Nat.le_of_ble_eq_true rfl)⟩) (n_prV (ci := 13) (q0 := 0) hK hP hD [0, 1] rfl (by decide) rfl rfl) rfl rfl hl.1 rfl (lv_room (Nat.le_of_ble_eq_true rfl)) dL_law_798 ⟨(Nat.le_of_ble_eq_true rfl), (Nat.le_of_ble_eq_true rfl)⟩) hP hD hS hA [0, 1] [2] rfl rfl (by decide) (by decide) (fun r_3 u_4 H locs hP hD hS hw => ?_)
  have hP : va_P G.1 vwCl [(o, eJ G 1 (fun _ => 0)), (y, .inr (13, [.ref yq1, .ref yq2, .int 0, .ref yq3, .int 0, .int 1, .int 0, .ref yq4, .ref yq5, .int 0, .ref yq6, .int (-1), .ref yq7, .int 0, .ref yq8, .ref yq9, .ref yq10, .ref yq11, .int 0, .int 0, .int 0, .int 0, .ref yq12, .ref yq13, .ref yq14, .ref yq15, .ref yq16]))] H := hP
  have hD : va_D A [(o, eJ G 1 (fun _ => 0)), (y, .inr (13, [.ref yq1, .ref yq2, .int 0, .ref yq3, .int 0, .int 1, .int 0, .ref yq4, .ref yq5, .int 0, .ref yq6, .int (-1), .ref yq7, .int 0, .ref yq8, .ref yq9, .ref yq10, .ref yq11, .int 0, .int 0, .int 0, .int 0, .ref yq12, .ref yq13, .ref yq14, .ref yq15, .ref yq16]))] := hD
  have hw : r_3 = 0 := hw
  subst hw
  refine lv_istore (lv' := [(7, .int 0), (6, .int 1), (0, .ref b), (1, .ref x), (2, .ref y), (3, .ref o), (4, .ref od), (5, .int 0)]) hx hb dL_law_801 hl (by decide) rfl (fun ls hl => ?_)
  refine lv_aload_n hx hb dL_law_803 rfl (lv_at hl 4 rfl) ?_
  refine n_ci (wr := [(o, eJ G 1 (fun _ => 0))]) (va_runV (As := []) (rest := []) ⟨hx, hb, hml, hown, hts⟩ (mX12_thrown l G y yq1 yq2 yq3 yq4 yq5 yq6 yq7 yq8 yq9 yq10 yq11 yq12 yq13 yq14 yq15 yq16 0 0 1 0 0 (-1) 0 0 0 0 0 H.size) (cwV 0 hts gL_law_X12_thrown rfl rfl rfl (by decide +kernel) ⟨(Nat.le_of_ble_eq_true rfl), (Nat.le_of_ble_eq_true rfl)⟩) (n_prV (ci := 13) (q0 := 1) hK hP hD [1] rfl (by decide) rfl rfl) rfl rfl hl.1 rfl (lv_room (Nat.le_of_ble_eq_true rfl)) dL_law_804 ⟨(Nat.le_of_ble_eq_true rfl), (Nat.le_of_ble_eq_true rfl)⟩) hP hD hS hA [1] [0] rfl rfl (by decide) (by decide) (fun r_5 u_6 H locs hP hD hS hw => ?_)
  have hP : va_P G.1 vwCl [(o, eJ G 1 (fun _ => 0)), (y, .inr (13, [.ref yq1, .ref yq2, .int 0, .ref yq3, .int 0, .int 1, .int 0, .ref yq4, .ref yq5, .int 0, .ref yq6, .int (-1), .ref yq7, .int 0, .ref yq8, .ref yq9, .ref yq10, .ref yq11, .int 0, .int 0, .int 0, .int 0, .ref yq12, .ref yq13, .ref yq14, .ref yq15, .ref yq16]))] H := hP
  have hD : va_D A [(o, eJ G 1 (fun _ => 0)), (y, .inr (13, [.ref yq1, .ref yq2, .int 0, .ref yq3, .int 0, .int 1, .int 0, .ref yq4, .ref yq5, .int 0, .ref yq6, .int (-1), .ref yq7, .int 0, .ref yq8, .ref yq9, .ref yq10, .ref yq11, .int 0, .int 0, .int 0, .int 0, .ref yq12, .ref yq13, .ref yq14, .ref yq15, .ref yq16]))] := hD
  have hw : r_5 = 1 := hw
  subst hw
  refine lv_iload hx hb dL_law_807 (lv_at hl 1 rfl) ?_
  refine lv_icmp_eq (tgt := 814) hx hb dL_law_809 (by decide) (fun _ => ?_) (fun h9 => absurd (by decide) h9)
  refine lv_iload hx hb dL_law_814 (lv_at hl 1 rfl) ?_
  refine lv_if_ne (tgt := 831) hx hb dL_law_816 (by decide) (fun _ => ?_) (fun h9 => absurd h9 (by decide))
  refine lv_goto (tgt := 2342) hx hb dL_law_831 (by decide) ?_
  refine W.widen (k := 2000) (n := 60000) (Nat.le_of_ble_eq_true rfl) (Nat.le_of_ble_eq_true rfl) ?_
  exact hend H locs ls hS (lv_sub hl [2, 7] rfl)

set_option maxHeartbeats 8000000 in
set_option maxRecDepth 100000 in
theorem law_c10 {p : Program} {l : Launch} {e : Env} {s : State} {m : MethodId} {below : List Frame} {meth : Method} {c : Code} {args : Array Value} {Q : State → Prop} {A : Nat → Prop} (hl9 : l.stackTraces = false) (G : nG) (x : Nat) (xq1 : Nat) (xq4 : Nat) (xq25 : Nat) (xq46 : Nat) (xq71 : Nat) (xq75 : Nat) (xq82 : Nat) (xq84 : Nat) (xq6 : Nat) (xq7 : Nat) (xq8 : Nat) (xq15 : Nat) (y : Nat) (yq1 : Nat) (yq2 : Nat) (yq3 : Nat) (yq4 : Nat) (yq5 : Nat) (yq6 : Nat) (yq7 : Nat) (yq8 : Nat) (yq9 : Nat) (yq10 : Nat) (yq11 : Nat) (yq12 : Nat) (yq13 : Nat) (yq14 : Nat) (yq15 : Nat) (yq16 : Nat) (yf90 : Nat → Int32) (o : Nat) (od : Nat) (b : Nat) (xs : Nat → Int32) (hx : p.tables.exec = Jvm.exec) (hb : c.code = cL_law) (hml : c.maxLocals = 9) (hown : s.vm.findClass RL = some m.cls) (hts : ∀ w ∈ wsL_law, w.before args s = true) (hX : va_X b 5 xs s s.heap) (hbl : b < s.heap.size) (hbA : ¬ A b) (hA : ∀ q : Nat, s.heap.size ≤ q → A q) (hK : va_K G.1 vwCl (n_ty G) s) (hE : n_ex A s s.heap) (hfa16 : nMod yf90)
    (hend : ∀ (H : Heap) (locs : List Loc) (ls : Array Slot), va_S A s.heap H locs → lv_has ls 9 [(0, .ref b), (5, .int 0)] → W p l e room_1 s m args below meth c H locs 2000 60000 Q (F0 m 2342 ls []))
    (H : Heap) (locs : List Loc) (ls : Array Slot) (hP : va_P G.1 vwCl [(x, .inr (12, [.ref xq1, .ref xq4, .ref xq25, .ref xq46, .ref xq71, .ref xq75, .ref xq82, .ref xq84, .int 0])), (xq4, .inr (5, [.ref xq6, .ref xq7, .ref xq8])), (xq7, .inr (9, [.ref xq15, .int 0])), (y, .inr (13, [.ref yq1, .ref yq2, .int 0, .ref yq3, .int 0, .int 0, .int 0, .ref yq4, .ref yq5, .int 0, .ref yq6, .int (-1), .ref yq7, .int 0, .ref yq8, .ref yq9, .ref yq10, .ref yq11, .int 0, .int 0, .int 0, .int 0, .ref yq12, .ref yq13, .ref yq14, .ref yq15, .ref yq16])), (yq1, eI G 1191 yf90), (o, eJ G 1 (fun _ => 0))] H) (hD : va_D A [(x, .inr (12, [.ref xq1, .ref xq4, .ref xq25, .ref xq46, .ref xq71, .ref xq75, .ref xq82, .ref xq84, .int 0])), (xq4, .inr (5, [.ref xq6, .ref xq7, .ref xq8])), (xq7, .inr (9, [.ref xq15, .int 0])), (y, .inr (13, [.ref yq1, .ref yq2, .int 0, .ref yq3, .int 0, .int 0, .int 0, .ref yq4, .ref yq5, .int 0, .ref yq6, .int (-1), .ref yq7, .int 0, .ref yq8, .ref yq9, .ref yq10, .ref yq11, .int 0, .int 0, .int 0, .int 0, .ref yq12, .ref yq13, .ref yq14, .ref yq15, .ref yq16])), (yq1, eI G 1191 yf90), (o, eJ G 1 (fun _ => 0))]) (hS : va_S A s.heap H locs) (hl : lv_has ls 9 [(0, .ref b), (1, .ref x), (2, .ref y), (3, .ref o), (4, .ref od), (5, .int 0)]) : W p l e room_1 s m args below meth c H locs 609 18141 Q (F0 m 834 ls []) := by
  refine lv_aload_n hx hb dL_law_834 rfl (lv_at hl 1 rfl) ?_
  refine lv_aload_n hx hb dL_law_835 rfl (lv_at hl 0 rfl) ?_
  refine lv_iload hx hb dL_law_836 (lv_at hl 5 rfl) ?_
  refine lv_iconst (v := 1) hx hb dL_law_838 (by decide) ?_
  refine lv_iadd hx hb dL_law_839 ?_
  refine n_eqi (y := 1) (by decide) ?_
  refine va_sld hx hb hX hbl hbA hS (n_in (by decide)) dL_law_840 ?_
  refine n_eqi (y := xs 1) rfl ?_
  refine lv_aload_n hx hb dL_law_841 rfl (lv_at hl 0 rfl) ?_
  refine lv_iload hx hb dL_law_842 (lv_at hl 5 rfl) ?_
  refine lv_iconst (v := 2) hx hb dL_law_844 (by decide) ?_
  refine lv_iadd hx hb dL_law_845 ?_
  refine n_eqi (y := 2) (by decide) ?_
  refine va_sld hx hb hX hbl hbA hS (n_in (by decide)) dL_law_846 ?_
  refine n_eqi (y := xs 2) rfl ?_
  refine lv_aload_n hx hb dL_law_847 rfl (lv_at hl 3 rfl) ?_
  refine n_ci (wr := [(y, .inr (13, [.ref yq1, .ref yq2, .int 0, .ref yq3, .int 0, .int 0, .int 0, .ref yq4, .ref yq5, .int 0, .ref yq6, .int (-1), .ref yq7, .int 0, .ref yq8, .ref yq9, .ref yq10, .ref yq11, .int 0, .int 0, .int 0, .int 0, .ref yq12, .ref yq13, .ref yq14, .ref yq15, .ref yq16])), (yq1, eI G 1191 yf90)]) (vx_runSW (As := [.ref x, .int (xs 1), .int (xs 2), .ref o]) (rest := []) ⟨hx, hb, hml, hown, hts⟩ (mL_join l hl9 G x xq1 xq4 xq25 xq46 xq71 xq75 xq82 xq84 xq6 xq7 xq8 xq15 (xs 1) (xs 2) o (fun _ => 0) H.size) (vx_cwSW 4 hts gL_law_L_join rfl rfl rfl (by decide +kernel) ⟨(Nat.le_of_ble_eq_true rfl), (Nat.le_of_ble_eq_true rfl)⟩) (n_prX hK hP hD hS hA [0, 1, 2, 5] rfl (by decide) hE) rfl rfl hl.1 rfl (lv_room (Nat.le_of_ble_eq_true rfl)) dL_law_848 ⟨(Nat.le_of_ble_eq_true rfl), (Nat.le_of_ble_eq_true rfl)⟩) hP hD hS hA [0, 1, 2, 5] [3, 4] rfl rfl (by decide) (by decide) (fun r_1 u_2 H locs hP hD hS hw => ?_)
  have hP : va_P G.1 vwCl [(y, .inr (13, [.ref yq1, .ref yq2, .int 0, .ref yq3, .int 0, .int 0, .int 0, .ref yq4, .ref yq5, .int 0, .ref yq6, .int (-1), .ref yq7, .int 0, .ref yq8, .ref yq9, .ref yq10, .ref yq11, .int 0, .int 0, .int 0, .int 0, .ref yq12, .ref yq13, .ref yq14, .ref yq15, .ref yq16])), (yq1, eI G 1191 yf90), (o, eJ G 1 (fun _ => 0))] H := hP
  have hD : va_D A [(y, .inr (13, [.ref yq1, .ref yq2, .int 0, .ref yq3, .int 0, .int 0, .int 0, .ref yq4, .ref yq5, .int 0, .ref yq6, .int (-1), .ref yq7, .int 0, .ref yq8, .ref yq9, .ref yq10, .ref yq11, .int 0, .int 0, .int 0, .int 0, .ref yq12, .ref yq13, .ref yq14, .ref yq15, .ref yq16])), (yq1, eI G 1191 yf90), (o, eJ G 1 (fun _ => 0))] := hD
  have hw : r_1 = 1 := hw
  subst hw
  refine lv_istore (lv' := [(6, .int 1), (0, .ref b), (1, .ref x), (2, .ref y), (3, .ref o), (4, .ref od), (5, .int 0)]) hx hb dL_law_851 hl (by decide) rfl (fun ls hl => ?_)
  refine lv_aload_n hx hb dL_law_853 rfl (lv_at hl 3 rfl) ?_
  refine lv_aload_n hx hb dL_law_854 rfl (lv_at hl 1 rfl) ?_
  refine lv_iload hx hb dL_law_855 (lv_at hl 6 rfl) ?_
  refine lv_iconst (v := 1) hx hb dL_law_857 (by decide) ?_
  refine lv_iadd hx hb dL_law_858 ?_
  refine n_eqi (y := 1) (by decide) ?_
  refine va_sld hx hb hX hbl hbA hS (n_in (by decide)) dL_law_859 ?_
  refine n_eqi (y := xs 1) rfl ?_
  refine lv_aload_n hx hb dL_law_860 rfl (lv_at hl 1 rfl) ?_
  refine lv_iload hx hb dL_law_861 (lv_at hl 6 rfl) ?_
  refine lv_iconst (v := 2) hx hb dL_law_863 (by decide) ?_
  refine lv_iadd hx hb dL_law_864 ?_
  refine n_eqi (y := 2) (by decide) ?_
  refine va_sld hx hb hX hbl hbA hS (n_in (by decide)) dL_law_865 ?_
  refine n_eqi (y := xs 2) rfl ?_
  refine n_ci (wr := [(o, eJ G 1 (fun _ => 0))]) (va_runV (As := [.int (xs 1), .int (xs 2)]) (rest := []) ⟨hx, hb, hml, hown, hts⟩ (mX12_join l G y yq1 yq2 yq3 yq4 yq5 yq6 yq7 yq8 yq9 yq10 yq11 yq12 yq13 yq14 yq15 yq16 0 0 0 0 0 (-1) 0 0 0 0 0 yf90 (xs 1) (xs 2) H.size hfa16) (cwV 2 hts gL_law_X12_join rfl rfl rfl (by decide +kernel) ⟨(Nat.le_of_ble_eq_true rfl), (Nat.le_of_ble_eq_true rfl)⟩) (n_prV (ci := 13) (q0 := 0) hK hP hD [0, 1] rfl (by decide) rfl rfl) rfl rfl hl.1 rfl (lv_room (Nat.le_of_ble_eq_true rfl)) dL_law_866 ⟨(Nat.le_of_ble_eq_true rfl), (Nat.le_of_ble_eq_true rfl)⟩) hP hD hS hA [0, 1] [2] rfl rfl (by decide) (by decide) (fun r_3 u_4 H locs hP hD hS hw => ?_)
  have hP : va_P G.1 vwCl [(o, eJ G 1 (fun _ => 0)), (y, .inr (13, [.ref yq1, .ref yq2, .int 0, .ref yq3, .int 0, .int 1, .int 0, .ref yq4, .ref yq5, .int 0, .ref yq6, .int (-1), .ref yq7, .int 0, .ref yq8, .ref yq9, .ref yq10, .ref yq11, .int 0, .int 0, .int 0, .int 0, .ref yq12, .ref yq13, .ref yq14, .ref yq15, .ref yq16]))] H := hP
  have hD : va_D A [(o, eJ G 1 (fun _ => 0)), (y, .inr (13, [.ref yq1, .ref yq2, .int 0, .ref yq3, .int 0, .int 1, .int 0, .ref yq4, .ref yq5, .int 0, .ref yq6, .int (-1), .ref yq7, .int 0, .ref yq8, .ref yq9, .ref yq10, .ref yq11, .int 0, .int 0, .int 0, .int 0, .ref yq12, .ref yq13, .ref yq14, .ref yq15, .ref yq16]))] := hD
  have hw : r_3 = 0 := hw
  subst hw
  refine lv_istore (lv' := [(7, .int 0), (6, .int 1), (0, .ref b), (1, .ref x), (2, .ref y), (3, .ref o), (4, .ref od), (5, .int 0)]) hx hb dL_law_869 hl (by decide) rfl (fun ls hl => ?_)
  refine lv_aload_n hx hb dL_law_871 rfl (lv_at hl 4 rfl) ?_
  refine n_ci (wr := [(o, eJ G 1 (fun _ => 0))]) (va_runV (As := []) (rest := []) ⟨hx, hb, hml, hown, hts⟩ (mX12_thrown l G y yq1 yq2 yq3 yq4 yq5 yq6 yq7 yq8 yq9 yq10 yq11 yq12 yq13 yq14 yq15 yq16 0 0 1 0 0 (-1) 0 0 0 0 0 H.size) (cwV 0 hts gL_law_X12_thrown rfl rfl rfl (by decide +kernel) ⟨(Nat.le_of_ble_eq_true rfl), (Nat.le_of_ble_eq_true rfl)⟩) (n_prV (ci := 13) (q0 := 1) hK hP hD [1] rfl (by decide) rfl rfl) rfl rfl hl.1 rfl (lv_room (Nat.le_of_ble_eq_true rfl)) dL_law_872 ⟨(Nat.le_of_ble_eq_true rfl), (Nat.le_of_ble_eq_true rfl)⟩) hP hD hS hA [1] [0] rfl rfl (by decide) (by decide) (fun r_5 u_6 H locs hP hD hS hw => ?_)
  have hP : va_P G.1 vwCl [(o, eJ G 1 (fun _ => 0)), (y, .inr (13, [.ref yq1, .ref yq2, .int 0, .ref yq3, .int 0, .int 1, .int 0, .ref yq4, .ref yq5, .int 0, .ref yq6, .int (-1), .ref yq7, .int 0, .ref yq8, .ref yq9, .ref yq10, .ref yq11, .int 0, .int 0, .int 0, .int 0, .ref yq12, .ref yq13, .ref yq14, .ref yq15, .ref yq16]))] H := hP
  have hD : va_D A [(o, eJ G 1 (fun _ => 0)), (y, .inr (13, [.ref yq1, .ref yq2, .int 0, .ref yq3, .int 0, .int 1, .int 0, .ref yq4, .ref yq5, .int 0, .ref yq6, .int (-1), .ref yq7, .int 0, .ref yq8, .ref yq9, .ref yq10, .ref yq11, .int 0, .int 0, .int 0, .int 0, .ref yq12, .ref yq13, .ref yq14, .ref yq15, .ref yq16]))] := hD
  have hw : r_5 = 1 := hw
  subst hw
  refine lv_iload hx hb dL_law_875 (lv_at hl 1 rfl) ?_
  refine lv_icmp_eq (tgt := 882) hx hb dL_law_877 (by decide) (fun _ => ?_) (fun h9 => absurd (by decide) h9)
  refine lv_iload hx hb dL_law_882 (lv_at hl 1 rfl) ?_
  refine lv_if_ne (tgt := 899) hx hb dL_law_884 (by decide) (fun _ => ?_) (fun h9 => absurd h9 (by decide))
  refine lv_goto (tgt := 2342) hx hb dL_law_899 (by decide) ?_
  refine W.widen (k := 2000) (n := 60000) (Nat.le_of_ble_eq_true rfl) (Nat.le_of_ble_eq_true rfl) ?_
  exact hend H locs ls hS (lv_sub hl [2, 7] rfl)

set_option maxHeartbeats 8000000 in
set_option maxRecDepth 100000 in
theorem law_c11 {p : Program} {l : Launch} {e : Env} {s : State} {m : MethodId} {below : List Frame} {meth : Method} {c : Code} {args : Array Value} {Q : State → Prop} {A : Nat → Prop} (hl9 : l.stackTraces = false) (G : nG) (x : Nat) (xq1 : Nat) (xq4 : Nat) (xq25 : Nat) (xq46 : Nat) (xq71 : Nat) (xq75 : Nat) (xq82 : Nat) (xq84 : Nat) (xq2 : Nat) (xq6 : Nat) (xq7 : Nat) (xq8 : Nat) (y : Nat) (yq1 : Nat) (yq2 : Nat) (yq3 : Nat) (yq4 : Nat) (yq5 : Nat) (yq6 : Nat) (yq7 : Nat) (yq8 : Nat) (yq9 : Nat) (yq10 : Nat) (yq11 : Nat) (yq12 : Nat) (yq13 : Nat) (yq14 : Nat) (yq15 : Nat) (yq16 : Nat) (o : Nat) (od : Nat) (b : Nat) (xs : Nat → Int32) (hx : p.tables.exec = Jvm.exec) (hb : c.code = cL_law) (hml : c.maxLocals = 9) (hown : s.vm.findClass RL = some m.cls) (hts : ∀ w ∈ wsL_law, w.before args s = true) (hX : va_X b 5 xs s s.heap) (hbl : b < s.heap.size) (hbA : ¬ A b) (hA : ∀ q : Nat, s.heap.size ≤ q → A q) (hK : va_K G.1 vwCl (n_ty G) s) (hE : n_ex A s s.heap) 
    (hend : ∀ (H : Heap) (locs : List Loc) (ls : Array Slot), va_S A s.heap H locs → lv_has ls 9 [(0, .ref b), (5, .int 0)] → W p l e room_1 s m args below meth c H locs 2000 60000 Q (F0 m 2342 ls []))
    (H : Heap) (locs : List Loc) (ls : Array Slot) (hP : va_P G.1 vwCl [(x, .inr (12, [.ref xq1, .ref xq4, .ref xq25, .ref xq46, .ref xq71, .ref xq75, .ref xq82, .ref xq84, .int 0])), (xq1, .inr (8, [.ref xq2, .int 0, .long 0, .int 0])), (xq4, .inr (5, [.ref xq6, .ref xq7, .ref xq8])), (y, .inr (13, [.ref yq1, .ref yq2, .int 0, .ref yq3, .int 0, .int 0, .int 0, .ref yq4, .ref yq5, .int 0, .ref yq6, .int (-1), .ref yq7, .int 0, .ref yq8, .ref yq9, .ref yq10, .ref yq11, .int 0, .int 0, .int 0, .int 0, .ref yq12, .ref yq13, .ref yq14, .ref yq15, .ref yq16])), (yq5, eI G 9 (fun _ => 0)), (o, eJ G 1 (fun _ => 0))] H) (hD : va_D A [(x, .inr (12, [.ref xq1, .ref xq4, .ref xq25, .ref xq46, .ref xq71, .ref xq75, .ref xq82, .ref xq84, .int 0])), (xq1, .inr (8, [.ref xq2, .int 0, .long 0, .int 0])), (xq4, .inr (5, [.ref xq6, .ref xq7, .ref xq8])), (y, .inr (13, [.ref yq1, .ref yq2, .int 0, .ref yq3, .int 0, .int 0, .int 0, .ref yq4, .ref yq5, .int 0, .ref yq6, .int (-1), .ref yq7, .int 0, .ref yq8, .ref yq9, .ref yq10, .ref yq11, .int 0, .int 0, .int 0, .int 0, .ref yq12, .ref yq13, .ref yq14, .ref yq15, .ref yq16])), (yq5, eI G 9 (fun _ => 0)), (o, eJ G 1 (fun _ => 0))]) (hS : va_S A s.heap H locs) (hl : lv_has ls 9 [(0, .ref b), (1, .ref x), (2, .ref y), (3, .ref o), (4, .ref od), (5, .int 0)]) : W p l e room_1 s m args below meth c H locs 609 18141 Q (F0 m 902 ls []) := by
  refine lv_aload_n hx hb dL_law_902 rfl (lv_at hl 1 rfl) ?_
  refine lv_aload_n hx hb dL_law_903 rfl (lv_at hl 3 rfl) ?_
  refine n_ci (wr := [(y, .inr (13, [.ref yq1, .ref yq2, .int 0, .ref yq3, .int 0, .int 0, .int 0, .ref yq4, .ref yq5, .int 0, .ref yq6, .int (-1), .ref yq7, .int 0, .ref yq8, .ref yq9, .ref yq10, .ref yq11, .int 0, .int 0, .int 0, .int 0, .ref yq12, .ref yq13, .ref yq14, .ref yq15, .ref yq16])), (yq5, eI G 9 (fun _ => 0))]) (vx_runSW (As := [.ref x, .ref o]) (rest := []) ⟨hx, hb, hml, hown, hts⟩ (mL_find l hl9 G x xq1 xq4 xq25 xq46 xq71 xq75 xq82 xq84 xq2 0 0 xq6 xq7 xq8 o (fun _ => 0) H.size) (vx_cwSW 2 hts gL_law_L_find rfl rfl rfl (by decide +kernel) ⟨(Nat.le_of_ble_eq_true rfl), (Nat.le_of_ble_eq_true rfl)⟩) (n_prX hK hP hD hS hA [0, 1, 2, 5] rfl (by decide) hE) rfl rfl hl.1 rfl (lv_room (Nat.le_of_ble_eq_true rfl)) dL_law_904 ⟨(Nat.le_of_ble_eq_true rfl), (Nat.le_of_ble_eq_true rfl)⟩) hP hD hS hA [0, 1, 2, 5] [3, 4] rfl rfl (by decide) (by decide) (fun r_1 u_2 H locs hP hD hS hw => ?_)
  have hP : va_P G.1 vwCl [(y, .inr (13, [.ref yq1, .ref yq2, .int 0, .ref yq3, .int 0, .int 0, .int 0, .ref yq4, .ref yq5, .int 0, .ref yq6, .int (-1), .ref yq7, .int 0, .ref yq8, .ref yq9, .ref yq10, .ref yq11, .int 0, .int 0, .int 0, .int 0, .ref yq12, .ref yq13, .ref yq14, .ref yq15, .ref yq16])), (yq5, eI G 9 (fun _ => 0)), (o, eJ G 1 (fun _ => 0))] H := hP
  have hD : va_D A [(y, .inr (13, [.ref yq1, .ref yq2, .int 0, .ref yq3, .int 0, .int 0, .int 0, .ref yq4, .ref yq5, .int 0, .ref yq6, .int (-1), .ref yq7, .int 0, .ref yq8, .ref yq9, .ref yq10, .ref yq11, .int 0, .int 0, .int 0, .int 0, .ref yq12, .ref yq13, .ref yq14, .ref yq15, .ref yq16])), (yq5, eI G 9 (fun _ => 0)), (o, eJ G 1 (fun _ => 0))] := hD
  have hw : r_1 = 1 := hw
  subst hw
  refine lv_istore (lv' := [(6, .int 1), (0, .ref b), (1, .ref x), (2, .ref y), (3, .ref o), (4, .ref od), (5, .int 0)]) hx hb dL_law_907 hl (by decide) rfl (fun ls hl => ?_)
  refine lv_aload_n hx hb dL_law_909 rfl (lv_at hl 3 rfl) ?_
  refine n_ci (wr := [(o, eJ G 1 (fun _ => 0))]) (va_runV (As := []) (rest := []) ⟨hx, hb, hml, hown, hts⟩ (mX12_find l G y yq1 yq2 yq3 yq4 yq5 yq6 yq7 yq8 yq9 yq10 yq11 yq12 yq13 yq14 yq15 yq16 0 0 0 0 (-1) 0 0 0 0 0 (fun _ => 0) H.size) (cwV 0 hts gL_law_X12_find rfl rfl rfl (by decide +kernel) ⟨(Nat.le_of_ble_eq_true rfl), (Nat.le_of_ble_eq_true rfl)⟩) (n_prV (ci := 13) (q0 := 0) hK hP hD [0, 1] rfl (by decide) rfl rfl) rfl rfl hl.1 rfl (lv_room (Nat.le_of_ble_eq_true rfl)) dL_law_910 ⟨(Nat.le_of_ble_eq_true rfl), (Nat.le_of_ble_eq_true rfl)⟩) hP hD hS hA [0, 1] [2] rfl rfl (by decide) (by decide) (fun r_3 u_4 H locs hP hD hS hw => ?_)
  have hP : va_P G.1 vwCl [(o, eJ G 1 (fun _ => 0)), (y, .inr (13, [.ref yq1, .ref yq2, .int 0, .ref yq3, .int 0, .int 1, .int 0, .ref yq4, .ref yq5, .int 0, .ref yq6, .int (-1), .ref yq7, .int 0, .ref yq8, .ref yq9, .ref yq10, .ref yq11, .int 0, .int 0, .int 0, .int 0, .ref yq12, .ref yq13, .ref yq14, .ref yq15, .ref yq16]))] H := hP
  have hD : va_D A [(o, eJ G 1 (fun _ => 0)), (y, .inr (13, [.ref yq1, .ref yq2, .int 0, .ref yq3, .int 0, .int 1, .int 0, .ref yq4, .ref yq5, .int 0, .ref yq6, .int (-1), .ref yq7, .int 0, .ref yq8, .ref yq9, .ref yq10, .ref yq11, .int 0, .int 0, .int 0, .int 0, .ref yq12, .ref yq13, .ref yq14, .ref yq15, .ref yq16]))] := hD
  have hw : r_3 = 0 := hw
  subst hw
  refine lv_istore (lv' := [(7, .int 0), (6, .int 1), (0, .ref b), (1, .ref x), (2, .ref y), (3, .ref o), (4, .ref od), (5, .int 0)]) hx hb dL_law_913 hl (by decide) rfl (fun ls hl => ?_)
  refine lv_aload_n hx hb dL_law_915 rfl (lv_at hl 4 rfl) ?_
  refine n_ci (wr := [(o, eJ G 1 (fun _ => 0))]) (va_runV (As := []) (rest := []) ⟨hx, hb, hml, hown, hts⟩ (mX12_thrown l G y yq1 yq2 yq3 yq4 yq5 yq6 yq7 yq8 yq9 yq10 yq11 yq12 yq13 yq14 yq15 yq16 0 0 1 0 0 (-1) 0 0 0 0 0 H.size) (cwV 0 hts gL_law_X12_thrown rfl rfl rfl (by decide +kernel) ⟨(Nat.le_of_ble_eq_true rfl), (Nat.le_of_ble_eq_true rfl)⟩) (n_prV (ci := 13) (q0 := 1) hK hP hD [1] rfl (by decide) rfl rfl) rfl rfl hl.1 rfl (lv_room (Nat.le_of_ble_eq_true rfl)) dL_law_916 ⟨(Nat.le_of_ble_eq_true rfl), (Nat.le_of_ble_eq_true rfl)⟩) hP hD hS hA [1] [0] rfl rfl (by decide) (by decide) (fun r_5 u_6 H locs hP hD hS hw => ?_)
  have hP : va_P G.1 vwCl [(o, eJ G 1 (fun _ => 0)), (y, .inr (13, [.ref yq1, .ref yq2, .int 0, .ref yq3, .int 0, .int 1, .int 0, .ref yq4, .ref yq5, .int 0, .ref yq6, .int (-1), .ref yq7, .int 0, .ref yq8, .ref yq9, .ref yq10, .ref yq11, .int 0, .int 0, .int 0, .int 0, .ref yq12, .ref yq13, .ref yq14, .ref yq15, .ref yq16]))] H := hP
  have hD : va_D A [(o, eJ G 1 (fun _ => 0)), (y, .inr (13, [.ref yq1, .ref yq2, .int 0, .ref yq3, .int 0, .int 1, .int 0, .ref yq4, .ref yq5, .int 0, .ref yq6, .int (-1), .ref yq7, .int 0, .ref yq8, .ref yq9, .ref yq10, .ref yq11, .int 0, .int 0, .int 0, .int 0, .ref yq12, .ref yq13, .ref yq14, .ref yq15, .ref yq16]))] := hD
  have hw : r_5 = 1 := hw
  subst hw
  refine lv_iload hx hb dL_law_919 (lv_at hl 1 rfl) ?_
  refine lv_icmp_eq (tgt := 926) hx hb dL_law_921 (by decide) (fun _ => ?_) (fun h9 => absurd (by decide) h9)
  refine lv_iload hx hb dL_law_926 (lv_at hl 1 rfl) ?_
  refine lv_if_ne (tgt := 943) hx hb dL_law_928 (by decide) (fun _ => ?_) (fun h9 => absurd h9 (by decide))
  refine lv_goto (tgt := 2342) hx hb dL_law_943 (by decide) ?_
  refine W.widen (k := 2000) (n := 60000) (Nat.le_of_ble_eq_true rfl) (Nat.le_of_ble_eq_true rfl) ?_
  exact hend H locs ls hS (lv_sub hl [2, 7] rfl)

set_option maxHeartbeats 8000000 in
set_option maxRecDepth 100000 in
theorem law_c12 {p : Program} {l : Launch} {e : Env} {s : State} {m : MethodId} {below : List Frame} {meth : Method} {c : Code} {args : Array Value} {Q : State → Prop} {A : Nat → Prop} (hl9 : l.stackTraces = false) (G : nG) (x : Nat) (xq1 : Nat) (xq4 : Nat) (xq25 : Nat) (xq46 : Nat) (xq71 : Nat) (xq75 : Nat) (xq82 : Nat) (xq84 : Nat) (xq6 : Nat) (xq7 : Nat) (xq8 : Nat) (xq15 : Nat) (y : Nat) (yq1 : Nat) (yq2 : Nat) (yq3 : Nat) (yq4 : Nat) (yq5 : Nat) (yq6 : Nat) (yq7 : Nat) (yq8 : Nat) (yq9 : Nat) (yq10 : Nat) (yq11 : Nat) (yq12 : Nat) (yq13 : Nat) (yq14 : Nat) (yq15 : Nat) (yq16 : Nat) (yf90 : Nat → Int32) (o : Nat) (od : Nat) (b : Nat) (xs : Nat → Int32) (hx : p.tables.exec = Jvm.exec) (hb : c.code = cL_law) (hml : c.maxLocals = 9) (hown : s.vm.findClass RL = some m.cls) (hts : ∀ w ∈ wsL_law, w.before args s = true) (hX : va_X b 5 xs s s.heap) (hbl : b < s.heap.size) (hbA : ¬ A b) (hA : ∀ q : Nat, s.heap.size ≤ q → A q) (hK : va_K G.1 vwCl (n_ty G) s) (hE : n_ex A s s.heap) (hfa16 : nMod yf90)
    (hend : ∀ (H : Heap) (locs : List Loc) (ls : Array Slot), va_S A s.heap H locs → lv_has ls 9 [(0, .ref b), (5, .int 0)] → W p l e room_1 s m args below meth c H locs 2000 60000 Q (F0 m 2342 ls []))
    (H : Heap) (locs : List Loc) (ls : Array Slot) (hP : va_P G.1 vwCl [(x, .inr (12, [.ref xq1, .ref xq4, .ref xq25, .ref xq46, .ref xq71, .ref xq75, .ref xq82, .ref xq84, .int 0])), (xq4, .inr (5, [.ref xq6, .ref xq7, .ref xq8])), (xq7, .inr (9, [.ref xq15, .int 0])), (y, .inr (13, [.ref yq1, .ref yq2, .int 0, .ref yq3, .int 0, .int 0, .int 0, .ref yq4, .ref yq5, .int 0, .ref yq6, .int (-1), .ref yq7, .int 0, .ref yq8, .ref yq9, .ref yq10, .ref yq11, .int 0, .int 0, .int 0, .int 0, .ref yq12, .ref yq13, .ref yq14, .ref yq15, .ref yq16])), (yq1, eI G 1191 yf90), (o, eJ G 1 (fun _ => 0))] H) (hD : va_D A [(x, .inr (12, [.ref xq1, .ref xq4, .ref xq25, .ref xq46, .ref xq71, .ref xq75, .ref xq82, .ref xq84, .int 0])), (xq4, .inr (5, [.ref xq6, .ref xq7, .ref xq8])), (xq7, .inr (9, [.ref xq15, .int 0])), (y, .inr (13, [.ref yq1, .ref yq2, .int 0, .ref yq3, .int 0, .int 0, .int 0, .ref yq4, .ref yq5, .int 0, .ref yq6, .int (-1), .ref yq7, .int 0, .ref yq8, .ref yq9, .ref yq10, .ref yq11, .int 0, .int 0, .int 0, .int 0, .ref yq12, .ref yq13, .ref yq14, .ref yq15, .ref yq16])), (yq1, eI G 1191 yf90), (o, eJ G 1 (fun _ => 0))]) (hS : va_S A s.heap H locs) (hl : lv_has ls 9 [(0, .ref b), (1, .ref x), (2, .ref y), (3, .ref o), (4, .ref od), (5, .int 0)]) : W p l e room_1 s m args below meth c H locs 609 18141 Q (F0 m 946 ls []) := by
  refine lv_aload_n hx hb dL_law_946 rfl (lv_at hl 1 rfl) ?_
  refine lv_aload_n hx hb dL_law_947 rfl (lv_at hl 0 rfl) ?_
  refine lv_iload hx hb dL_law_948 (lv_at hl 5 rfl) ?_
  refine lv_iconst (v := 1) hx hb dL_law_950 (by decide) ?_
  refine lv_iadd hx hb dL_law_951 ?_
  refine n_eqi (y := 1) (by decide) ?_
  refine va_sld hx hb hX hbl hbA hS (n_in (by decide)) dL_law_952 ?_
  refine n_eqi (y := xs 1) rfl ?_
  refine lv_aload_n hx hb dL_law_953 rfl (lv_at hl 0 rfl) ?_
  refine lv_iload hx hb dL_law_954 (lv_at hl 5 rfl) ?_
  refine lv_iconst (v := 2) hx hb dL_law_956 (by decide) ?_
  refine lv_iadd hx hb dL_law_957 ?_
  refine n_eqi (y := 2) (by decide) ?_
  refine va_sld hx hb hX hbl hbA hS (n_in (by decide)) dL_law_958 ?_
  refine n_eqi (y := xs 2) rfl ?_
  refine lv_aload_n hx hb dL_law_959 rfl (lv_at hl 3 rfl) ?_
  refine n_ci (wr := [(y, .inr (13, [.ref yq1, .ref yq2, .int 0, .ref yq3, .int 0, .int 0, .int 0, .ref yq4, .ref yq5, .int 0, .ref yq6, .int (-1), .ref yq7, .int 0, .ref yq8, .ref yq9, .ref yq10, .ref yq11, .int 0, .int 0, .int 0, .int 0, .ref yq12, .ref yq13, .ref yq14, .ref yq15, .ref yq16])), (yq1, eI G 1191 yf90)]) (vx_runSW (As := [.ref x, .int (xs 1), .int (xs 2), .ref o]) (rest := []) ⟨hx, hb, hml, hown, hts⟩ (mL_headword l hl9 G x xq1 xq4 xq25 xq46 xq71 xq75 xq82 xq84 xq6 xq7 xq8 xq15 (xs 1) (xs 2) o (fun _ => 0) H.size) (vx_cwSW 4 hts gL_law_L_headword rfl rfl rfl (by decide +kernel) ⟨(Nat.le_of_ble_eq_true rfl), (Nat.le_of_ble_eq_true rfl)⟩) (n_prX hK hP hD hS hA [0, 1, 2, 5] rfl (by decide) hE) rfl rfl hl.1 rfl (lv_room (Nat.le_of_ble_eq_true rfl)) dL_law_960 ⟨(Nat.le_of_ble_eq_true rfl), (Nat.le_of_ble_eq_true rfl)⟩) hP hD hS hA [0, 1, 2, 5] [3, 4] rfl rfl (by decide) (by decide) (fun r_1 u_2 H locs hP hD hS hw => ?_)
  have hP : va_P G.1 vwCl [(y, .inr (13, [.ref yq1, .ref yq2, .int 0, .ref yq3, .int 0, .int 0, .int 0, .ref yq4, .ref yq5, .int 0, .ref yq6, .int (-1), .ref yq7, .int 0, .ref yq8, .ref yq9, .ref yq10, .ref yq11, .int 0, .int 0, .int 0, .int 0, .ref yq12, .ref yq13, .ref yq14, .ref yq15, .ref yq16])), (yq1, eI G 1191 yf90), (o, eJ G 1 (fun _ => 0))] H := hP
  have hD : va_D A [(y, .inr (13, [.ref yq1, .ref yq2, .int 0, .ref yq3, .int 0, .int 0, .int 0, .ref yq4, .ref yq5, .int 0, .ref yq6, .int (-1), .ref yq7, .int 0, .ref yq8, .ref yq9, .ref yq10, .ref yq11, .int 0, .int 0, .int 0, .int 0, .ref yq12, .ref yq13, .ref yq14, .ref yq15, .ref yq16])), (yq1, eI G 1191 yf90), (o, eJ G 1 (fun _ => 0))] := hD
  have hw : r_1 = 1 := hw
  subst hw
  refine lv_istore (lv' := [(6, .int 1), (0, .ref b), (1, .ref x), (2, .ref y), (3, .ref o), (4, .ref od), (5, .int 0)]) hx hb dL_law_963 hl (by decide) rfl (fun ls hl => ?_)
  refine lv_aload_n hx hb dL_law_965 rfl (lv_at hl 3 rfl) ?_
  refine lv_aload_n hx hb dL_law_966 rfl (lv_at hl 1 rfl) ?_
  refine lv_iload hx hb dL_law_967 (lv_at hl 6 rfl) ?_
  refine lv_iconst (v := 1) hx hb dL_law_969 (by decide) ?_
  refine lv_iadd hx hb dL_law_970 ?_
  refine n_eqi (y := 1) (by decide) ?_
  refine va_sld hx hb hX hbl hbA hS (n_in (by decide)) dL_law_971 ?_
  refine n_eqi (y := xs 1) rfl ?_
  refine lv_aload_n hx hb dL_law_972 rfl (lv_at hl 1 rfl) ?_
  refine lv_iload hx hb dL_law_973 (lv_at hl 6 rfl) ?_
  refine lv_iconst (v := 2) hx hb dL_law_975 (by decide) ?_
  refine lv_iadd hx hb dL_law_976 ?_
  refine n_eqi (y := 2) (by decide) ?_
  refine va_sld hx hb hX hbl hbA hS (n_in (by decide)) dL_law_977 ?_
  refine n_eqi (y := xs 2) rfl ?_
  refine n_ci (wr := [(o, eJ G 1 (fun _ => 0))]) (va_runV (As := [.int (xs 1), .int (xs 2)]) (rest := []) ⟨hx, hb, hml, hown, hts⟩ (mX12_headword l G y yq1 yq2 yq3 yq4 yq5 yq6 yq7 yq8 yq9 yq10 yq11 yq12 yq13 yq14 yq15 yq16 0 0 0 0 0 (-1) 0 0 0 0 0 yf90 (xs 1) (xs 2) H.size hfa16) (cwV 2 hts gL_law_X12_headword rfl rfl rfl (by decide +kernel) ⟨(Nat.le_of_ble_eq_true rfl), (Nat.le_of_ble_eq_true rfl)⟩) (n_prV (ci := 13) (q0 := 0) hK hP hD [0, 1] rfl (by decide) rfl rfl) rfl rfl hl.1 rfl (lv_room (Nat.le_of_ble_eq_true rfl)) dL_law_978 ⟨(Nat.le_of_ble_eq_true rfl), (Nat.le_of_ble_eq_true rfl)⟩) hP hD hS hA [0, 1] [2] rfl rfl (by decide) (by decide) (fun r_3 u_4 H locs hP hD hS hw => ?_)
  have hP : va_P G.1 vwCl [(o, eJ G 1 (fun _ => 0)), (y, .inr (13, [.ref yq1, .ref yq2, .int 0, .ref yq3, .int 0, .int 1, .int 0, .ref yq4, .ref yq5, .int 0, .ref yq6, .int (-1), .ref yq7, .int 0, .ref yq8, .ref yq9, .ref yq10, .ref yq11, .int 0, .int 0, .int 0, .int 0, .ref yq12, .ref yq13, .ref yq14, .ref yq15, .ref yq16]))] H := hP
  have hD : va_D A [(o, eJ G 1 (fun _ => 0)), (y, .inr (13, [.ref yq1, .ref yq2, .int 0, .ref yq3, .int 0, .int 1, .int 0, .ref yq4, .ref yq5, .int 0, .ref yq6, .int (-1), .ref yq7, .int 0, .ref yq8, .ref yq9, .ref yq10, .ref yq11, .int 0, .int 0, .int 0, .int 0, .ref yq12, .ref yq13, .ref yq14, .ref yq15, .ref yq16]))] := hD
  have hw : r_3 = 0 := hw
  subst hw
  refine lv_istore (lv' := [(7, .int 0), (6, .int 1), (0, .ref b), (1, .ref x), (2, .ref y), (3, .ref o), (4, .ref od), (5, .int 0)]) hx hb dL_law_981 hl (by decide) rfl (fun ls hl => ?_)
  refine lv_aload_n hx hb dL_law_983 rfl (lv_at hl 4 rfl) ?_
  refine n_ci (wr := [(o, eJ G 1 (fun _ => 0))]) (va_runV (As := []) (rest := []) ⟨hx, hb, hml, hown, hts⟩ (mX12_thrown l G y yq1 yq2 yq3 yq4 yq5 yq6 yq7 yq8 yq9 yq10 yq11 yq12 yq13 yq14 yq15 yq16 0 0 1 0 0 (-1) 0 0 0 0 0 H.size) (cwV 0 hts gL_law_X12_thrown rfl rfl rfl (by decide +kernel) ⟨(Nat.le_of_ble_eq_true rfl), (Nat.le_of_ble_eq_true rfl)⟩) (n_prV (ci := 13) (q0 := 1) hK hP hD [1] rfl (by decide) rfl rfl) rfl rfl hl.1 rfl (lv_room (Nat.le_of_ble_eq_true rfl)) dL_law_984 ⟨(Nat.le_of_ble_eq_true rfl), (Nat.le_of_ble_eq_true rfl)⟩) hP hD hS hA [1] [0] rfl rfl (by decide) (by decide) (fun r_5 u_6 H locs hP hD hS hw => ?_)
  have hP : va_P G.1 vwCl [(o, eJ G 1 (fun _ => 0)), (y, .inr (13, [.ref yq1, .ref yq2, .int 0, .ref yq3, .int 0, .int 1, .int 0, .ref yq4, .ref yq5, .int 0, .ref yq6, .int (-1), .ref yq7, .int 0, .ref yq8, .ref yq9, .ref yq10, .ref yq11, .int 0, .int 0, .int 0, .int 0, .ref yq12, .ref yq13, .ref yq14, .ref yq15, .ref yq16]))] H := hP
  have hD : va_D A [(o, eJ G 1 (fun _ => 0)), (y, .inr (13, [.ref yq1, .ref yq2, .int 0, .ref yq3, .int 0, .int 1, .int 0, .ref yq4, .ref yq5, .int 0, .ref yq6, .int (-1), .ref yq7, .int 0, .ref yq8, .ref yq9, .ref yq10, .ref yq11, .int 0, .int 0, .int 0, .int 0, .ref yq12, .ref yq13, .ref yq14, .ref yq15, .ref yq16]))] := hD
  have hw : r_5 = 1 := hw
  subst hw
  refine lv_iload hx hb dL_law_987 (lv_at hl 1 rfl) ?_
  refine lv_icmp_eq (tgt := 994) hx hb dL_law_989 (by decide) (fun _ => ?_) (fun h9 => absurd (by decide) h9)
  refine lv_iload hx hb dL_law_994 (lv_at hl 1 rfl) ?_
  refine lv_if_ne (tgt := 1011) hx hb dL_law_996 (by decide) (fun _ => ?_) (fun h9 => absurd h9 (by decide))
  refine lv_goto (tgt := 2342) hx hb dL_law_1011 (by decide) ?_
  refine W.widen (k := 2000) (n := 60000) (Nat.le_of_ble_eq_true rfl) (Nat.le_of_ble_eq_true rfl) ?_
  exact hend H locs ls hS (lv_sub hl [2, 7] rfl)

set_option maxHeartbeats 8000000 in
set_option maxRecDepth 100000 in
theorem law_c13 {p : Program} {l : Launch} {e : Env} {s : State} {m : MethodId} {below : List Frame} {meth : Method} {c : Code} {args : Array Value} {Q : State → Prop} {A : Nat → Prop} (hl9 : l.stackTraces = false) (G : nG) (x : Nat) (xq1 : Nat) (xq4 : Nat) (xq25 : Nat) (xq46 : Nat) (xq71 : Nat) (xq75 : Nat) (xq82 : Nat) (xq84 : Nat) (xq6 : Nat) (xq7 : Nat) (xq8 : Nat) (xq15 : Nat) (y : Nat) (yq1 : Nat) (yq2 : Nat) (yq3 : Nat) (yq4 : Nat) (yq5 : Nat) (yq6 : Nat) (yq7 : Nat) (yq8 : Nat) (yq9 : Nat) (yq10 : Nat) (yq11 : Nat) (yq12 : Nat) (yq13 : Nat) (yq14 : Nat) (yq15 : Nat) (yq16 : Nat) (yf90 : Nat → Int32) (o : Nat) (od : Nat) (b : Nat) (xs : Nat → Int32) (hx : p.tables.exec = Jvm.exec) (hb : c.code = cL_law) (hml : c.maxLocals = 9) (hown : s.vm.findClass RL = some m.cls) (hts : ∀ w ∈ wsL_law, w.before args s = true) (hX : va_X b 5 xs s s.heap) (hbl : b < s.heap.size) (hbA : ¬ A b) (hA : ∀ q : Nat, s.heap.size ≤ q → A q) (hK : va_K G.1 vwCl (n_ty G) s) (hE : n_ex A s s.heap) (hfa16 : nMod yf90)
    (hend : ∀ (H : Heap) (locs : List Loc) (ls : Array Slot), va_S A s.heap H locs → lv_has ls 9 [(0, .ref b), (5, .int 0)] → W p l e room_1 s m args below meth c H locs 2000 60000 Q (F0 m 2342 ls []))
    (H : Heap) (locs : List Loc) (ls : Array Slot) (hP : va_P G.1 vwCl [(x, .inr (12, [.ref xq1, .ref xq4, .ref xq25, .ref xq46, .ref xq71, .ref xq75, .ref xq82, .ref xq84, .int 0])), (xq4, .inr (5, [.ref xq6, .ref xq7, .ref xq8])), (xq7, .inr (9, [.ref xq15, .int 0])), (y, .inr (13, [.ref yq1, .ref yq2, .int 0, .ref yq3, .int 0, .int 0, .int 0, .ref yq4, .ref yq5, .int 0, .ref yq6, .int (-1), .ref yq7, .int 0, .ref yq8, .ref yq9, .ref yq10, .ref yq11, .int 0, .int 0, .int 0, .int 0, .ref yq12, .ref yq13, .ref yq14, .ref yq15, .ref yq16])), (yq1, eI G 1191 yf90), (o, eJ G 1 (fun _ => 0))] H) (hD : va_D A [(x, .inr (12, [.ref xq1, .ref xq4, .ref xq25, .ref xq46, .ref xq71, .ref xq75, .ref xq82, .ref xq84, .int 0])), (xq4, .inr (5, [.ref xq6, .ref xq7, .ref xq8])), (xq7, .inr (9, [.ref xq15, .int 0])), (y, .inr (13, [.ref yq1, .ref yq2, .int 0, .ref yq3, .int 0, .int 0, .int 0, .ref yq4, .ref yq5, .int 0, .ref yq6, .int (-1), .ref yq7, .int 0, .ref yq8, .ref yq9, .ref yq10, .ref yq11, .int 0, .int 0, .int 0, .int 0, .ref yq12, .ref yq13, .ref yq14, .ref yq15, .ref yq16])), (yq1, eI G 1191 yf90), (o, eJ G 1 (fun _ => 0))]) (hS : va_S A s.heap H locs) (hl : lv_has ls 9 [(0, .ref b), (1, .ref x), (2, .ref y), (3, .ref o), (4, .ref od), (5, .int 0)]) : W p l e room_1 s m args below meth c H locs 609 18141 Q (F0 m 1014 ls []) := by
  refine lv_aload_n hx hb dL_law_1014 rfl (lv_at hl 1 rfl) ?_
  refine lv_aload_n hx hb dL_law_1015 rfl (lv_at hl 0 rfl) ?_
  refine lv_iload hx hb dL_law_1016 (lv_at hl 5 rfl) ?_
  refine lv_iconst (v := 1) hx hb dL_law_1018 (by decide) ?_
  refine lv_iadd hx hb dL_law_1019 ?_
  refine n_eqi (y := 1) (by decide) ?_
  refine va_sld hx hb hX hbl hbA hS (n_in (by decide)) dL_law_1020 ?_
  refine n_eqi (y := xs 1) rfl ?_
  refine lv_aload_n hx hb dL_law_1021 rfl (lv_at hl 0 rfl) ?_
  refine lv_iload hx hb dL_law_1022 (lv_at hl 5 rfl) ?_
  refine lv_iconst (v := 2) hx hb dL_law_1024 (by decide) ?_
  refine lv_iadd hx hb dL_law_1025 ?_
  refine n_eqi (y := 2) (by decide) ?_
  refine va_sld hx hb hX hbl hbA hS (n_in (by decide)) dL_law_1026 ?_
  refine n_eqi (y := xs 2) rfl ?_
  refine lv_aload_n hx hb dL_law_1027 rfl (lv_at hl 0 rfl) ?_
  refine lv_iload hx hb dL_law_1028 (lv_at hl 5 rfl) ?_
  refine lv_iconst (v := 3) hx hb dL_law_1030 (by decide) ?_
  refine lv_iadd hx hb dL_law_1031 ?_
  refine n_eqi (y := 3) (by decide) ?_
  refine va_sld hx hb hX hbl hbA hS (n_in (by decide)) dL_law_1032 ?_
  refine n_eqi (y := xs 3) rfl ?_
  refine lv_aload_n hx hb dL_law_1033 rfl (lv_at hl 3 rfl) ?_
  refine n_ci (wr := [(y, .inr (13, [.ref yq1, .ref yq2, .int 0, .ref yq3, .int 0, .int 0, .int 0, .ref yq4, .ref yq5, .int 0, .ref yq6, .int (-1), .ref yq7, .int 0, .ref yq8, .ref yq9, .ref yq10, .ref yq11, .int 0, .int 0, .int 0, .int 0, .ref yq12, .ref yq13, .ref yq14, .ref yq15, .ref yq16])), (yq1, eI G 1191 yf90)]) (vx_runSW (As := [.ref x, .int (xs 1), .int (xs 2), .int (xs 3), .ref o]) (rest := []) ⟨hx, hb, hml, hown, hts⟩ (mL_letterOf l hl9 G x xq1 xq4 xq25 xq46 xq71 xq75 xq82 xq84 xq6 xq7 xq8 xq15 (xs 1) (xs 2) (xs 3) o (fun _ => 0) H.size) (vx_cwSW 5 hts gL_law_L_letterOf rfl rfl rfl (by decide +kernel) ⟨(Nat.le_of_ble_eq_true rfl), (Nat.le_of_ble_eq_true rfl)⟩) (n_prX hK hP hD hS hA [0, 1, 2, 5] rfl (by decide) hE) rfl rfl hl.1 rfl (lv_room (Nat.le_of_ble_eq_true rfl)) dL_law_1034 ⟨(Nat.le_of_ble_eq_true rfl), (Nat.le_of_ble_eq_true rfl)⟩) hP hD hS hA [0, 1, 2, 5] [3, 4] rfl rfl (by decide) (by decide) (fun r_1 u_2 H locs hP hD hS hw => ?_)
  have hP : va_P G.1 vwCl [(y, .inr (13, [.ref yq1, .ref yq2, .int 0, .ref yq3, .int 0, .int 0, .int 0, .ref yq4, .ref yq5, .int 0, .ref yq6, .int (-1), .ref yq7, .int 0, .ref yq8, .ref yq9, .ref yq10, .ref yq11, .int 0, .int 0, .int 0, .int 0, .ref yq12, .ref yq13, .ref yq14, .ref yq15, .ref yq16])), (yq1, eI G 1191 yf90), (o, eJ G 1 (fun _ => 0))] H := hP
  have hD : va_D A [(y, .inr (13, [.ref yq1, .ref yq2, .int 0, .ref yq3, .int 0, .int 0, .int 0, .ref yq4, .ref yq5, .int 0, .ref yq6, .int (-1), .ref yq7, .int 0, .ref yq8, .ref yq9, .ref yq10, .ref yq11, .int 0, .int 0, .int 0, .int 0, .ref yq12, .ref yq13, .ref yq14, .ref yq15, .ref yq16])), (yq1, eI G 1191 yf90), (o, eJ G 1 (fun _ => 0))] := hD
  have hw : r_1 = 1 := hw
  subst hw
  refine lv_istore (lv' := [(6, .int 1), (0, .ref b), (1, .ref x), (2, .ref y), (3, .ref o), (4, .ref od), (5, .int 0)]) hx hb dL_law_1037 hl (by decide) rfl (fun ls hl => ?_)
  refine lv_aload_n hx hb dL_law_1039 rfl (lv_at hl 3 rfl) ?_
  refine lv_aload_n hx hb dL_law_1040 rfl (lv_at hl 1 rfl) ?_
  refine lv_iload hx hb dL_law_1041 (lv_at hl 6 rfl) ?_
  refine lv_iconst (v := 1) hx hb dL_law_1043 (by decide) ?_
  refine lv_iadd hx hb dL_law_1044 ?_
  refine n_eqi (y := 1) (by decide) ?_
  refine va_sld hx hb hX hbl hbA hS (n_in (by decide)) dL_law_1045 ?_
  refine n_eqi (y := xs 1) rfl ?_
  refine lv_aload_n hx hb dL_law_1046 rfl (lv_at hl 1 rfl) ?_
  refine lv_iload hx hb dL_law_1047 (lv_at hl 6 rfl) ?_
  refine lv_iconst (v := 2) hx hb dL_law_1049 (by decide) ?_
  refine lv_iadd hx hb dL_law_1050 ?_
  refine n_eqi (y := 2) (by decide) ?_
  refine va_sld hx hb hX hbl hbA hS (n_in (by decide)) dL_law_1051 ?_
  refine n_eqi (y := xs 2) rfl ?_
  refine lv_aload_n hx hb dL_law_1052 rfl (lv_at hl 1 rfl) ?_
  refine lv_iload hx hb dL_law_1053 (lv_at hl 6 rfl) ?_
  refine lv_iconst (v := 3) hx hb dL_law_1055 (by decide) ?_
  refine lv_iadd hx hb dL_law_1056 ?_
  refine n_eqi (y := 3) (by decide) ?_
  refine va_sld hx hb hX hbl hbA hS (n_in (by decide)) dL_law_1057 ?_
  refine n_eqi (y := xs 3) rfl ?_
  refine n_ci (wr := [(o, eJ G 1 (fun _ => 0))]) (va_runV (As := [.int (xs 1), .int (xs 2), .int (xs 3)]) (rest := []) ⟨hx, hb, hml, hown, hts⟩ (mX12_letterOf l G y yq1 yq2 yq3 yq4 yq5 yq6 yq7 yq8 yq9 yq10 yq11 yq12 yq13 yq14 yq15 yq16 0 0 0 0 0 (-1) 0 0 0 0 0 yf90 (xs 1) (xs 2) (xs 3) H.size hfa16) (cwV 3 hts gL_law_X12_letterOf rfl rfl rfl (by decide +kernel) ⟨(Nat.le_of_ble_eq_true rfl), (Nat.le_of_ble_eq_true rfl)⟩) (n_prV (ci := 13) (q0 := 0) hK hP hD [0, 1] rfl (by decide) rfl rfl) rfl rfl hl.1 rfl (lv_room (Nat.le_of_ble_eq_true rfl)) dL_law_1058 ⟨(Nat.le_of_ble_eq_true rfl), (Nat.le_of_ble_eq_true rfl)⟩) hP hD hS hA [0, 1] [2] rfl rfl (by decide) (by decide) (fun r_3 u_4 H locs hP hD hS hw => ?_)
  have hP : va_P G.1 vwCl [(o, eJ G 1 (fun _ => 0)), (y, .inr (13, [.ref yq1, .ref yq2, .int 0, .ref yq3, .int 0, .int 1, .int 0, .ref yq4, .ref yq5, .int 0, .ref yq6, .int (-1), .ref yq7, .int 0, .ref yq8, .ref yq9, .ref yq10, .ref yq11, .int 0, .int 0, .int 0, .int 0, .ref yq12, .ref yq13, .ref yq14, .ref yq15, .ref yq16]))] H := hP
  have hD : va_D A [(o, eJ G 1 (fun _ => 0)), (y, .inr (13, [.ref yq1, .ref yq2, .int 0, .ref yq3, .int 0, .int 1, .int 0, .ref yq4, .ref yq5, .int 0, .ref yq6, .int (-1), .ref yq7, .int 0, .ref yq8, .ref yq9, .ref yq10, .ref yq11, .int 0, .int 0, .int 0, .int 0, .ref yq12, .ref yq13, .ref yq14, .ref yq15, .ref yq16]))] := hD
  have hw : r_3 = 0 := hw
  subst hw
  refine lv_istore (lv' := [(7, .int 0), (6, .int 1), (0, .ref b), (1, .ref x), (2, .ref y), (3, .ref o), (4, .ref od), (5, .int 0)]) hx hb dL_law_1061 hl (by decide) rfl (fun ls hl => ?_)
  refine lv_aload_n hx hb dL_law_1063 rfl (lv_at hl 4 rfl) ?_
  refine n_ci (wr := [(o, eJ G 1 (fun _ => 0))]) (va_runV (As := []) (rest := []) ⟨hx, hb, hml, hown, hts⟩ (mX12_thrown l G y yq1 yq2 yq3 yq4 yq5 yq6 yq7 yq8 yq9 yq10 yq11 yq12 yq13 yq14 yq15 yq16 0 0 1 0 0 (-1) 0 0 0 0 0 H.size) (cwV 0 hts gL_law_X12_thrown rfl rfl rfl (by decide +kernel) ⟨(Nat.le_of_ble_eq_true rfl), (Nat.le_of_ble_eq_true rfl)⟩) (n_prV (ci := 13) (q0 := 1) hK hP hD [1] rfl (by decide) rfl rfl) rfl rfl hl.1 rfl (lv_room (Nat.le_of_ble_eq_true rfl)) dL_law_1064 ⟨(Nat.le_of_ble_eq_true rfl), (Nat.le_of_ble_eq_true rfl)⟩) hP hD hS hA [1] [0] rfl rfl (by decide) (by decide) (fun r_5 u_6 H locs hP hD hS hw => ?_)
  have hP : va_P G.1 vwCl [(o, eJ G 1 (fun _ => 0)), (y, .inr (13, [.ref yq1, .ref yq2, .int 0, .ref yq3, .int 0, .int 1, .int 0, .ref yq4, .ref yq5, .int 0, .ref yq6, .int (-1), .ref yq7, .int 0, .ref yq8, .ref yq9, .ref yq10, .ref yq11, .int 0, .int 0, .int 0, .int 0, .ref yq12, .ref yq13, .ref yq14, .ref yq15, .ref yq16]))] H := hP
  have hD : va_D A [(o, eJ G 1 (fun _ => 0)), (y, .inr (13, [.ref yq1, .ref yq2, .int 0, .ref yq3, .int 0, .int 1, .int 0, .ref yq4, .ref yq5, .int 0, .ref yq6, .int (-1), .ref yq7, .int 0, .ref yq8, .ref yq9, .ref yq10, .ref yq11, .int 0, .int 0, .int 0, .int 0, .ref yq12, .ref yq13, .ref yq14, .ref yq15, .ref yq16]))] := hD
  have hw : r_5 = 1 := hw
  subst hw
  refine lv_iload hx hb dL_law_1067 (lv_at hl 1 rfl) ?_
  refine lv_icmp_eq (tgt := 1074) hx hb dL_law_1069 (by decide) (fun _ => ?_) (fun h9 => absurd (by decide) h9)
  refine lv_iload hx hb dL_law_1074 (lv_at hl 1 rfl) ?_
  refine lv_if_ne (tgt := 1091) hx hb dL_law_1076 (by decide) (fun _ => ?_) (fun h9 => absurd h9 (by decide))
  refine lv_goto (tgt := 2342) hx hb dL_law_1091 (by decide) ?_
  refine W.widen (k := 2000) (n := 60000) (Nat.le_of_ble_eq_true rfl) (Nat.le_of_ble_eq_true rfl) ?_
  exact hend H locs ls hS (lv_sub hl [2, 7] rfl)

set_option maxHeartbeats 8000000 in
set_option maxRecDepth 100000 in
theorem law_c14 {p : Program} {l : Launch} {e : Env} {s : State} {m : MethodId} {below : List Frame} {meth : Method} {c : Code} {args : Array Value} {Q : State → Prop} {A : Nat → Prop} (hl9 : l.stackTraces = false) (G : nG) (x : Nat) (xq1 : Nat) (xq4 : Nat) (xq25 : Nat) (xq46 : Nat) (xq71 : Nat) (xq75 : Nat) (xq82 : Nat) (xq84 : Nat) (xq6 : Nat) (xq7 : Nat) (xq8 : Nat) (xq15 : Nat) (y : Nat) (yq1 : Nat) (yq2 : Nat) (yq3 : Nat) (yq4 : Nat) (yq5 : Nat) (yq6 : Nat) (yq7 : Nat) (yq8 : Nat) (yq9 : Nat) (yq10 : Nat) (yq11 : Nat) (yq12 : Nat) (yq13 : Nat) (yq14 : Nat) (yq15 : Nat) (yq16 : Nat) (yf90 : Nat → Int32) (o : Nat) (od : Nat) (b : Nat) (xs : Nat → Int32) (hx : p.tables.exec = Jvm.exec) (hb : c.code = cL_law) (hml : c.maxLocals = 9) (hown : s.vm.findClass RL = some m.cls) (hts : ∀ w ∈ wsL_law, w.before args s = true) (hX : va_X b 5 xs s s.heap) (hbl : b < s.heap.size) (hbA : ¬ A b) (hA : ∀ q : Nat, s.heap.size ≤ q → A q) (hK : va_K G.1 vwCl (n_ty G) s) (hE : n_ex A s s.heap) (hfa16 : nMod yf90)
    (hend : ∀ (H : Heap) (locs : List Loc) (ls : Array Slot), va_S A s.heap H locs → lv_has ls 9 [(0, .ref b), (5, .int 0)] → W p l e room_1 s m args below meth c H locs 2000 60000 Q (F0 m 2342 ls []))
    (H : Heap) (locs : List Loc) (ls : Array Slot) (hP : va_P G.1 vwCl [(x, .inr (12, [.ref xq1, .ref xq4, .ref xq25, .ref xq46, .ref xq71, .ref xq75, .ref xq82, .ref xq84, .int 0])), (xq4, .inr (5, [.ref xq6, .ref xq7, .ref xq8])), (xq7, .inr (9, [.ref xq15, .int 0])), (y, .inr (13, [.ref yq1, .ref yq2, .int 0, .ref yq3, .int 0, .int 0, .int 0, .ref yq4, .ref yq5, .int 0, .ref yq6, .int (-1), .ref yq7, .int 0, .ref yq8, .ref yq9, .ref yq10, .ref yq11, .int 0, .int 0, .int 0, .int 0, .ref yq12, .ref yq13, .ref yq14, .ref yq15, .ref yq16])), (yq1, eI G 1191 yf90), (o, eJ G 1 (fun _ => 0))] H) (hD : va_D A [(x, .inr (12, [.ref xq1, .ref xq4, .ref xq25, .ref xq46, .ref xq71, .ref xq75, .ref xq82, .ref xq84, .int 0])), (xq4, .inr (5, [.ref xq6, .ref xq7, .ref xq8])), (xq7, .inr (9, [.ref xq15, .int 0])), (y, .inr (13, [.ref yq1, .ref yq2, .int 0, .ref yq3, .int 0, .int 0, .int 0, .ref yq4, .ref yq5, .int 0, .ref yq6, .int (-1), .ref yq7, .int 0, .ref yq8, .ref yq9, .ref yq10, .ref yq11, .int 0, .int 0, .int 0, .int 0, .ref yq12, .ref yq13, .ref yq14, .ref yq15, .ref yq16])), (yq1, eI G 1191 yf90), (o, eJ G 1 (fun _ => 0))]) (hS : va_S A s.heap H locs) (hl : lv_has ls 9 [(0, .ref b), (1, .ref x), (2, .ref y), (3, .ref o), (4, .ref od), (5, .int 0)]) : W p l e room_1 s m args below meth c H locs 609 18141 Q (F0 m 1094 ls []) := by
  refine lv_aload_n hx hb dL_law_1094 rfl (lv_at hl 1 rfl) ?_
  refine lv_aload_n hx hb dL_law_1095 rfl (lv_at hl 0 rfl) ?_
  refine lv_iload hx hb dL_law_1096 (lv_at hl 5 rfl) ?_
  refine lv_iconst (v := 1) hx hb dL_law_1098 (by decide) ?_
  refine lv_iadd hx hb dL_law_1099 ?_
  refine n_eqi (y := 1) (by decide) ?_
  refine va_sld hx hb hX hbl hbA hS (n_in (by decide)) dL_law_1100 ?_
  refine n_eqi (y := xs 1) rfl ?_
  refine lv_aload_n hx hb dL_law_1101 rfl (lv_at hl 3 rfl) ?_
  refine n_ci (wr := [(y, .inr (13, [.ref yq1, .ref yq2, .int 0, .ref yq3, .int 0, .int 0, .int 0, .ref yq4, .ref yq5, .int 0, .ref yq6, .int (-1), .ref yq7, .int 0, .ref yq8, .ref yq9, .ref yq10, .ref yq11, .int 0, .int 0, .int 0, .int 0, .ref yq12, .ref yq13, .ref yq14, .ref yq15, .ref yq16])), (yq1, eI G 1191 yf90)]) (vx_runSW (As := [.ref x, .int (xs 1), .ref o]) (rest := []) ⟨hx, hb, hml, hown, hts⟩ (mL_ordered l hl9 G x xq1 xq4 xq25 xq46 xq71 xq75 xq82 xq84 xq6 xq7 xq8 xq15 (xs 1) o (fun _ => 0) H.size) (vx_cwSW 3 hts gL_law_L_ordered rfl rfl rfl (by decide +kernel) ⟨(Nat.le_of_ble_eq_true rfl), (Nat.le_of_ble_eq_true rfl)⟩) (n_prX hK hP hD hS hA [0, 1, 2, 5] rfl (by decide) hE) rfl rfl hl.1 rfl (lv_room (Nat.le_of_ble_eq_true rfl)) dL_law_1102 ⟨(Nat.le_of_ble_eq_true rfl), (Nat.le_of_ble_eq_true rfl)⟩) hP hD hS hA [0, 1, 2, 5] [3, 4] rfl rfl (by decide) (by decide) (fun r_1 u_2 H locs hP hD hS hw => ?_)
  have hP : va_P G.1 vwCl [(y, .inr (13, [.ref yq1, .ref yq2, .int 0, .ref yq3, .int 0, .int 0, .int 0, .ref yq4, .ref yq5, .int 0, .ref yq6, .int (-1), .ref yq7, .int 0, .ref yq8, .ref yq9, .ref yq10, .ref yq11, .int 0, .int 0, .int 0, .int 0, .ref yq12, .ref yq13, .ref yq14, .ref yq15, .ref yq16])), (yq1, eI G 1191 yf90), (o, eJ G 1 (fun _ => 0))] H := hP
  have hD : va_D A [(y, .inr (13, [.ref yq1, .ref yq2, .int 0, .ref yq3, .int 0, .int 0, .int 0, .ref yq4, .ref yq5, .int 0, .ref yq6, .int (-1), .ref yq7, .int 0, .ref yq8, .ref yq9, .ref yq10, .ref yq11, .int 0, .int 0, .int 0, .int 0, .ref yq12, .ref yq13, .ref yq14, .ref yq15, .ref yq16])), (yq1, eI G 1191 yf90), (o, eJ G 1 (fun _ => 0))] := hD
  have hw : r_1 = 1 := hw
  subst hw
  refine lv_istore (lv' := [(6, .int 1), (0, .ref b), (1, .ref x), (2, .ref y), (3, .ref o), (4, .ref od), (5, .int 0)]) hx hb dL_law_1105 hl (by decide) rfl (fun ls hl => ?_)
  refine lv_aload_n hx hb dL_law_1107 rfl (lv_at hl 3 rfl) ?_
  refine lv_aload_n hx hb dL_law_1108 rfl (lv_at hl 1 rfl) ?_
  refine lv_iload hx hb dL_law_1109 (lv_at hl 6 rfl) ?_
  refine lv_iconst (v := 1) hx hb dL_law_1111 (by decide) ?_
  refine lv_iadd hx hb dL_law_1112 ?_
  refine n_eqi (y := 1) (by decide) ?_
  refine va_sld hx hb hX hbl hbA hS (n_in (by decide)) dL_law_1113 ?_
  refine n_eqi (y := xs 1) rfl ?_
  refine n_ci (wr := [(o, eJ G 1 (fun _ => 0))]) (va_runV (As := [.int (xs 1)]) (rest := []) ⟨hx, hb, hml, hown, hts⟩ (mX12_ordered l G y yq1 yq2 yq3 yq4 yq5 yq6 yq7 yq8 yq9 yq10 yq11 yq12 yq13 yq14 yq15 yq16 0 0 0 0 0 (-1) 0 0 0 0 0 yf90 (xs 1) H.size hfa16) (cwV 1 hts gL_law_X12_ordered rfl rfl rfl (by decide +kernel) ⟨(Nat.le_of_ble_eq_true rfl), (Nat.le_of_ble_eq_true rfl)⟩) (n_prV (ci := 13) (q0 := 0) hK hP hD [0, 1] rfl (by decide) rfl rfl) rfl rfl hl.1 rfl (lv_room (Nat.le_of_ble_eq_true rfl)) dL_law_1114 ⟨(Nat.le_of_ble_eq_true rfl), (Nat.le_of_ble_eq_true rfl)⟩) hP hD hS hA [0, 1] [2] rfl rfl (by decide) (by decide) (fun r_3 u_4 H locs hP hD hS hw => ?_)
  have hP : va_P G.1 vwCl [(o, eJ G 1 (fun _ => 0)), (y, .inr (13, [.ref yq1, .ref yq2, .int 0, .ref yq3, .int 0, .int 1, .int 0, .ref yq4, .ref yq5, .int 0, .ref yq6, .int (-1), .ref yq7, .int 0, .ref yq8, .ref yq9, .ref yq10, .ref yq11, .int 0, .int 0, .int 0, .int 0, .ref yq12, .ref yq13, .ref yq14, .ref yq15, .ref yq16]))] H := hP
  have hD : va_D A [(o, eJ G 1 (fun _ => 0)), (y, .inr (13, [.ref yq1, .ref yq2, .int 0, .ref yq3, .int 0, .int 1, .int 0, .ref yq4, .ref yq5, .int 0, .ref yq6, .int (-1), .ref yq7, .int 0, .ref yq8, .ref yq9, .ref yq10, .ref yq11, .int 0, .int 0, .int 0, .int 0, .ref yq12, .ref yq13, .ref yq14, .ref yq15, .ref yq16]))] := hD
  have hw : r_3 = 0 := hw
  subst hw
  refine lv_istore (lv' := [(7, .int 0), (6, .int 1), (0, .ref b), (1, .ref x), (2, .ref y), (3, .ref o), (4, .ref od), (5, .int 0)]) hx hb dL_law_1117 hl (by decide) rfl (fun ls hl => ?_)
  refine lv_aload_n hx hb dL_law_1119 rfl (lv_at hl 4 rfl) ?_
  refine n_ci (wr := [(o, eJ G 1 (fun _ => 0))]) (va_runV (As := []) (rest := []) ⟨hx, hb, hml, hown, hts⟩ (mX12_thrown l G y yq1 yq2 yq3 yq4 yq5 yq6 yq7 yq8 yq9 yq10 yq11 yq12 yq13 yq14 yq15 yq16 0 0 1 0 0 (-1) 0 0 0 0 0 H.size) (cwV 0 hts gL_law_X12_thrown rfl rfl rfl (by decide +kernel) ⟨(Nat.le_of_ble_eq_true rfl), (Nat.le_of_ble_eq_true rfl)⟩) (n_prV (ci := 13) (q0 := 1) hK hP hD [1] rfl (by decide) rfl rfl) rfl rfl hl.1 rfl (lv_room (Nat.le_of_ble_eq_true rfl)) dL_law_1120 ⟨(Nat.le_of_ble_eq_true rfl), (Nat.le_of_ble_eq_true rfl)⟩) hP hD hS hA [1] [0] rfl rfl (by decide) (by decide) (fun r_5 u_6 H locs hP hD hS hw => ?_)
  have hP : va_P G.1 vwCl [(o, eJ G 1 (fun _ => 0)), (y, .inr (13, [.ref yq1, .ref yq2, .int 0, .ref yq3, .int 0, .int 1, .int 0, .ref yq4, .ref yq5, .int 0, .ref yq6, .int (-1), .ref yq7, .int 0, .ref yq8, .ref yq9, .ref yq10, .ref yq11, .int 0, .int 0, .int 0, .int 0, .ref yq12, .ref yq13, .ref yq14, .ref yq15, .ref yq16]))] H := hP
  have hD : va_D A [(o, eJ G 1 (fun _ => 0)), (y, .inr (13, [.ref yq1, .ref yq2, .int 0, .ref yq3, .int 0, .int 1, .int 0, .ref yq4, .ref yq5, .int 0, .ref yq6, .int (-1), .ref yq7, .int 0, .ref yq8, .ref yq9, .ref yq10, .ref yq11, .int 0, .int 0, .int 0, .int 0, .ref yq12, .ref yq13, .ref yq14, .ref yq15, .ref yq16]))] := hD
  have hw : r_5 = 1 := hw
  subst hw
  refine lv_iload hx hb dL_law_1123 (lv_at hl 1 rfl) ?_
  refine lv_icmp_eq (tgt := 1130) hx hb dL_law_1125 (by decide) (fun _ => ?_) (fun h9 => absurd (by decide) h9)
  refine lv_iload hx hb dL_law_1130 (lv_at hl 1 rfl) ?_
  refine lv_if_ne (tgt := 1147) hx hb dL_law_1132 (by decide) (fun _ => ?_) (fun h9 => absurd h9 (by decide))
  refine lv_goto (tgt := 2342) hx hb dL_law_1147 (by decide) ?_
  refine W.widen (k := 2000) (n := 60000) (Nat.le_of_ble_eq_true rfl) (Nat.le_of_ble_eq_true rfl) ?_
  exact hend H locs ls hS (lv_sub hl [2, 7] rfl)

set_option maxHeartbeats 8000000 in
set_option maxRecDepth 100000 in
theorem law_c15 {p : Program} {l : Launch} {e : Env} {s : State} {m : MethodId} {below : List Frame} {meth : Method} {c : Code} {args : Array Value} {Q : State → Prop} {A : Nat → Prop} (hl9 : l.stackTraces = false) (G : nG) (x : Nat) (xq1 : Nat) (xq4 : Nat) (xq25 : Nat) (xq46 : Nat) (xq71 : Nat) (xq75 : Nat) (xq82 : Nat) (xq84 : Nat) (xq6 : Nat) (xq7 : Nat) (xq8 : Nat) (xq15 : Nat) (y : Nat) (yq1 : Nat) (yq2 : Nat) (yq3 : Nat) (yq4 : Nat) (yq5 : Nat) (yq6 : Nat) (yq7 : Nat) (yq8 : Nat) (yq9 : Nat) (yq10 : Nat) (yq11 : Nat) (yq12 : Nat) (yq13 : Nat) (yq14 : Nat) (yq15 : Nat) (yq16 : Nat) (yf90 : Nat → Int32) (o : Nat) (od : Nat) (b : Nat) (xs : Nat → Int32) (hx : p.tables.exec = Jvm.exec) (hb : c.code = cL_law) (hml : c.maxLocals = 9) (hown : s.vm.findClass RL = some m.cls) (hts : ∀ w ∈ wsL_law, w.before args s = true) (hX : va_X b 5 xs s s.heap) (hbl : b < s.heap.size) (hbA : ¬ A b) (hA : ∀ q : Nat, s.heap.size ≤ q → A q) (hK : va_K G.1 vwCl (n_ty G) s) (hE : n_ex A s s.heap) (hfa16 : nMod yf90)
    (hend : ∀ (H : Heap) (locs : List Loc) (ls : Array Slot), va_S A s.heap H locs → lv_has ls 9 [(0, .ref b), (5, .int 0)] → W p l e room_1 s m args below meth c H locs 2000 60000 Q (F0 m 2342 ls []))
    (H : Heap) (locs : List Loc) (ls : Array Slot) (hP : va_P G.1 vwCl [(x, .inr (12, [.ref xq1, .ref xq4, .ref xq25, .ref xq46, .ref xq71, .ref xq75, .ref xq82, .ref xq84, .int 0])), (xq4, .inr (5, [.ref xq6, .ref xq7, .ref xq8])), (xq7, .inr (9, [.ref xq15, .int 0])), (y, .inr (13, [.ref yq1, .ref yq2, .int 0, .ref yq3, .int 0, .int 0, .int 0, .ref yq4, .ref yq5, .int 0, .ref yq6, .int (-1), .ref yq7, .int 0, .ref yq8, .ref yq9, .ref yq10, .ref yq11, .int 0, .int 0, .int 0, .int 0, .ref yq12, .ref yq13, .ref yq14, .ref yq15, .ref yq16])), (yq1, eI G 1191 yf90), (o, eJ G 1 (fun _ => 0))] H) (hD : va_D A [(x, .inr (12, [.ref xq1, .ref xq4, .ref xq25, .ref xq46, .ref xq71, .ref xq75, .ref xq82, .ref xq84, .int 0])), (xq4, .inr (5, [.ref xq6, .ref xq7, .ref xq8])), (xq7, .inr (9, [.ref xq15, .int 0])), (y, .inr (13, [.ref yq1, .ref yq2, .int 0, .ref yq3, .int 0, .int 0, .int 0, .ref yq4, .ref yq5, .int 0, .ref yq6, .int (-1), .ref yq7, .int 0, .ref yq8, .ref yq9, .ref yq10, .ref yq11, .int 0, .int 0, .int 0, .int 0, .ref yq12, .ref yq13, .ref yq14, .ref yq15, .ref yq16])), (yq1, eI G 1191 yf90), (o, eJ G 1 (fun _ => 0))]) (hS : va_S A s.heap H locs) (hl : lv_has ls 9 [(0, .ref b), (1, .ref x), (2, .ref y), (3, .ref o), (4, .ref od), (5, .int 0)]) : W p l e room_1 s m args below meth c H locs 609 18141 Q (F0 m 1150 ls []) := by
  refine lv_aload_n hx hb dL_law_1150 rfl (lv_at hl 1 rfl) ?_
  refine lv_aload_n hx hb dL_law_1151 rfl (lv_at hl 0 rfl) ?_
  refine lv_iload hx hb dL_law_1152 (lv_at hl 5 rfl) ?_
  refine lv_iconst (v := 1) hx hb dL_law_1154 (by decide) ?_
  refine lv_iadd hx hb dL_law_1155 ?_
  refine n_eqi (y := 1) (by decide) ?_
  refine va_sld hx hb hX hbl hbA hS (n_in (by decide)) dL_law_1156 ?_
  refine n_eqi (y := xs 1) rfl ?_
  refine lv_aload_n hx hb dL_law_1157 rfl (lv_at hl 0 rfl) ?_
  refine lv_iload hx hb dL_law_1158 (lv_at hl 5 rfl) ?_
  refine lv_iconst (v := 2) hx hb dL_law_1160 (by decide) ?_
  refine lv_iadd hx hb dL_law_1161 ?_
  refine n_eqi (y := 2) (by decide) ?_
  refine va_sld hx hb hX hbl hbA hS (n_in (by decide)) dL_law_1162 ?_
  refine n_eqi (y := xs 2) rfl ?_
  refine lv_aload_n hx hb dL_law_1163 rfl (lv_at hl 0 rfl) ?_
  refine lv_iload hx hb dL_law_1164 (lv_at hl 5 rfl) ?_
  refine lv_iconst (v := 3) hx hb dL_law_1166 (by decide) ?_
  refine lv_iadd hx hb dL_law_1167 ?_
  refine n_eqi (y := 3) (by decide) ?_
  refine va_sld hx hb hX hbl hbA hS (n_in (by decide)) dL_law_1168 ?_
  refine n_eqi (y := xs 3) rfl ?_
  refine lv_aload_n hx hb dL_law_1169 rfl (lv_at hl 0 rfl) ?_
  refine lv_iload hx hb dL_law_1170 (lv_at hl 5 rfl) ?_
  refine lv_iconst (v := 4) hx hb dL_law_1172 (by decide) ?_
  refine lv_iadd hx hb dL_law_1173 ?_
  refine n_eqi (y := 4) (by decide) ?_
  refine va_sld hx hb hX hbl hbA hS (n_in (by decide)) dL_law_1174 ?_
  refine n_eqi (y := xs 4) rfl ?_
  refine lv_aload_n hx hb dL_law_1175 rfl (lv_at hl 3 rfl) ?_
  refine n_ci (wr := [(y, .inr (13, [.ref yq1, .ref yq2, .int 0, .ref yq3, .int 0, .int 0, .int 0, .ref yq4, .ref yq5, .int 0, .ref yq6, .int (-1), .ref yq7, .int 0, .ref yq8, .ref yq9, .ref yq10, .ref yq11, .int 0, .int 0, .int 0, .int 0, .ref yq12, .ref yq13, .ref yq14, .ref yq15, .ref yq16])), (yq1, eI G 1191 yf90)]) (vx_runSW (As := [.ref x, .int (xs 1), .int (xs 2), .int (xs 3), .int (xs 4), .ref o]) (rest := []) ⟨hx, hb, hml, hown, hts⟩ (mL_compare l hl9 G x xq1 xq4 xq25 xq46 xq71 xq75 xq82 xq84 xq6 xq7 xq8 xq15 (xs 1) (xs 2) (xs 3) (xs 4) o (fun _ => 0) H.size) (vx_cwSW 6 hts gL_law_L_compare rfl rfl rfl (by decide +kernel) ⟨(Nat.le_of_ble_eq_true rfl), (Nat.le_of_ble_eq_true rfl)⟩) (n_prX hK hP hD hS hA [0, 1, 2, 5] rfl (by decide) hE) rfl rfl hl.1 rfl (lv_room (Nat.le_of_ble_eq_true rfl)) dL_law_1176 ⟨(Nat.le_of_ble_eq_true rfl), (Nat.le_of_ble_eq_true rfl)⟩) hP hD hS hA [0, 1, 2, 5] [3, 4] rfl rfl (by decide) (by decide) (fun r_1 u_2 H locs hP hD hS hw => ?_)
  have hP : va_P G.1 vwCl [(y, .inr (13, [.ref yq1, .ref yq2, .int 0, .ref yq3, .int 0, .int 0, .int 0, .ref yq4, .ref yq5, .int 0, .ref yq6, .int (-1), .ref yq7, .int 0, .ref yq8, .ref yq9, .ref yq10, .ref yq11, .int 0, .int 0, .int 0, .int 0, .ref yq12, .ref yq13, .ref yq14, .ref yq15, .ref yq16])), (yq1, eI G 1191 yf90), (o, eJ G 1 (fun _ => 0))] H := hP
  have hD : va_D A [(y, .inr (13, [.ref yq1, .ref yq2, .int 0, .ref yq3, .int 0, .int 0, .int 0, .ref yq4, .ref yq5, .int 0, .ref yq6, .int (-1), .ref yq7, .int 0, .ref yq8, .ref yq9, .ref yq10, .ref yq11, .int 0, .int 0, .int 0, .int 0, .ref yq12, .ref yq13, .ref yq14, .ref yq15, .ref yq16])), (yq1, eI G 1191 yf90), (o, eJ G 1 (fun _ => 0))] := hD
  have hw : r_1 = 1 := hw
  subst hw
  refine lv_istore (lv' := [(6, .int 1), (0, .ref b), (1, .ref x), (2, .ref y), (3, .ref o), (4, .ref od), (5, .int 0)]) hx hb dL_law_1179 hl (by decide) rfl (fun ls hl => ?_)
  refine lv_aload_n hx hb dL_law_1181 rfl (lv_at hl 3 rfl) ?_
  refine lv_aload_n hx hb dL_law_1182 rfl (lv_at hl 1 rfl) ?_
  refine lv_iload hx hb dL_law_1183 (lv_at hl 6 rfl) ?_
  refine lv_iconst (v := 1) hx hb dL_law_1185 (by decide) ?_
  refine lv_iadd hx hb dL_law_1186 ?_
  refine n_eqi (y := 1) (by decide) ?_
  refine va_sld hx hb hX hbl hbA hS (n_in (by decide)) dL_law_1187 ?_
  refine n_eqi (y := xs 1) rfl ?_
  refine lv_aload_n hx hb dL_law_1188 rfl (lv_at hl 1 rfl) ?_
  refine lv_iload hx hb dL_law_1189 (lv_at hl 6 rfl) ?_
  refine lv_iconst (v := 2) hx hb dL_law_1191 (by decide) ?_
  refine lv_iadd hx hb dL_law_1192 ?_
  refine n_eqi (y := 2) (by decide) ?_
  refine va_sld hx hb hX hbl hbA hS (n_in (by decide)) dL_law_1193 ?_
  refine n_eqi (y := xs 2) rfl ?_
  refine lv_aload_n hx hb dL_law_1194 rfl (lv_at hl 1 rfl) ?_
  refine lv_iload hx hb dL_law_1195 (lv_at hl 6 rfl) ?_
  refine lv_iconst (v := 3) hx hb dL_law_1197 (by decide) ?_
  refine lv_iadd hx hb dL_law_1198 ?_
  refine n_eqi (y := 3) (by decide) ?_
  refine va_sld hx hb hX hbl hbA hS (n_in (by decide)) dL_law_1199 ?_
  refine n_eqi (y := xs 3) rfl ?_
  refine lv_aload_n hx hb dL_law_1200 rfl (lv_at hl 1 rfl) ?_
  refine lv_iload hx hb dL_law_1201 (lv_at hl 6 rfl) ?_
  refine lv_iconst (v := 4) hx hb dL_law_1203 (by decide) ?_
  refine lv_iadd hx hb dL_law_1204 ?_
  refine n_eqi (y := 4) (by decide) ?_
  refine va_sld hx hb hX hbl hbA hS (n_in (by decide)) dL_law_1205 ?_
  refine n_eqi (y := xs 4) rfl ?_
  refine n_ci (wr := [(o, eJ G 1 (fun _ => 0))]) (va_runV (As := [.int (xs 1), .int (xs 2), .int (xs 3), .int (xs 4)]) (rest := []) ⟨hx, hb, hml, hown, hts⟩ (mX12_compare l G y yq1 yq2 yq3 yq4 yq5 yq6 yq7 yq8 yq9 yq10 yq11 yq12 yq13 yq14 yq15 yq16 0 0 0 0 0 (-1) 0 0 0 0 0 yf90 (xs 1) (xs 2) (xs 3) (xs 4) H.size hfa16) (cwV 4 hts gL_law_X12_compare rfl rfl rfl (by decide +kernel) ⟨(Nat.le_of_ble_eq_true rfl), (Nat.le_of_ble_eq_true rfl)⟩) (n_prV (ci := 13) (q0 := 0) hK hP hD [0, 1] rfl (by decide) rfl rfl) rfl rfl hl.1 rfl (lv_room (Nat.le_of_ble_eq_true rfl)) dL_law_1206 ⟨(Nat.le_of_ble_eq_true rfl), (Nat.le_of_ble_eq_true rfl)⟩) hP hD hS hA [0, 1] [2] rfl rfl (by decide) (by decide) (fun r_3 u_4 H locs hP hD hS hw => ?_)
  have hP : va_P G.1 vwCl [(o, eJ G 1 (fun _ => 0)), (y, .inr (13, [.ref yq1, .ref yq2, .int 0, .ref yq3, .int 0, .int 1, .int 0, .ref yq4, .ref yq5, .int 0, .ref yq6, .int (-1), .ref yq7, .int 0, .ref yq8, .ref yq9, .ref yq10, .ref yq11, .int 0, .int 0, .int 0, .int 0, .ref yq12, .ref yq13, .ref yq14, .ref yq15, .ref yq16]))] H := hP
  have hD : va_D A [(o, eJ G 1 (fun _ => 0)), (y, .inr (13, [.ref yq1, .ref yq2, .int 0, .ref yq3, .int 0, .int 1, .int 0, .ref yq4, .ref yq5, .int 0, .ref yq6, .int (-1), .ref yq7, .int 0, .ref yq8, .ref yq9, .ref yq10, .ref yq11, .int 0, .int 0, .int 0, .int 0, .ref yq12, .ref yq13, .ref yq14, .ref yq15, .ref yq16]))] := hD
  have hw : r_3 = 0 := hw
  subst hw
  refine lv_istore (lv' := [(7, .int 0), (6, .int 1), (0, .ref b), (1, .ref x), (2, .ref y), (3, .ref o), (4, .ref od), (5, .int 0)]) hx hb dL_law_1209 hl (by decide) rfl (fun ls hl => ?_)
  refine lv_aload_n hx hb dL_law_1211 rfl (lv_at hl 4 rfl) ?_
  refine n_ci (wr := [(o, eJ G 1 (fun _ => 0))]) (va_runV (As := []) (rest := []) ⟨hx, hb, hml, hown, hts⟩ (mX12_thrown l G y yq1 yq2 yq3 yq4 yq5 yq6 yq7 yq8 yq9 yq10 yq11 yq12 yq13 yq14 yq15 yq16 0 0 1 0 0 (-1) 0 0 0 0 0 H.size) (cwV 0 hts gL_law_X12_thrown rfl rfl rfl (by decide +kernel) ⟨(Nat.le_of_ble_eq_true rfl), (Nat.le_of_ble_eq_true rfl)⟩) (n_prV (ci := 13) (q0 := 1) hK hP hD [1] rfl (by decide) rfl rfl) rfl rfl hl.1 rfl (lv_room (Nat.le_of_ble_eq_true rfl)) dL_law_1212 ⟨(Nat.le_of_ble_eq_true rfl), (Nat.le_of_ble_eq_true rfl)⟩) hP hD hS hA [1] [0] rfl rfl (by decide) (by decide) (fun r_5 u_6 H locs hP hD hS hw => ?_)
  have hP : va_P G.1 vwCl [(o, eJ G 1 (fun _ => 0)), (y, .inr (13, [.ref yq1, .ref yq2, .int 0, .ref yq3, .int 0, .int 1, .int 0, .ref yq4, .ref yq5, .int 0, .ref yq6, .int (-1), .ref yq7, .int 0, .ref yq8, .ref yq9, .ref yq10, .ref yq11, .int 0, .int 0, .int 0, .int 0, .ref yq12, .ref yq13, .ref yq14, .ref yq15, .ref yq16]))] H := hP
  have hD : va_D A [(o, eJ G 1 (fun _ => 0)), (y, .inr (13, [.ref yq1, .ref yq2, .int 0, .ref yq3, .int 0, .int 1, .int 0, .ref yq4, .ref yq5, .int 0, .ref yq6, .int (-1), .ref yq7, .int 0, .ref yq8, .ref yq9, .ref yq10, .ref yq11, .int 0, .int 0, .int 0, .int 0, .ref yq12, .ref yq13, .ref yq14, .ref yq15, .ref yq16]))] := hD
  have hw : r_5 = 1 := hw
  subst hw
  refine lv_iload hx hb dL_law_1215 (lv_at hl 1 rfl) ?_
  refine lv_icmp_eq (tgt := 1222) hx hb dL_law_1217 (by decide) (fun _ => ?_) (fun h9 => absurd (by decide) h9)
  refine lv_iload hx hb dL_law_1222 (lv_at hl 1 rfl) ?_
  refine lv_if_ne (tgt := 1239) hx hb dL_law_1224 (by decide) (fun _ => ?_) (fun h9 => absurd h9 (by decide))
  refine lv_goto (tgt := 2342) hx hb dL_law_1239 (by decide) ?_
  refine W.widen (k := 2000) (n := 60000) (Nat.le_of_ble_eq_true rfl) (Nat.le_of_ble_eq_true rfl) ?_
  exact hend H locs ls hS (lv_sub hl [2, 7] rfl)

set_option maxHeartbeats 8000000 in
set_option maxRecDepth 100000 in
theorem law_c16 {p : Program} {l : Launch} {e : Env} {s : State} {m : MethodId} {below : List Frame} {meth : Method} {c : Code} {args : Array Value} {Q : State → Prop} {A : Nat → Prop} (hl9 : l.stackTraces = false) (G : nG) (x : Nat) (xq1 : Nat) (xq4 : Nat) (xq25 : Nat) (xq46 : Nat) (xq71 : Nat) (xq75 : Nat) (xq82 : Nat) (xq84 : Nat) (xq6 : Nat) (xq7 : Nat) (xq8 : Nat) (xq15 : Nat) (y : Nat) (yq1 : Nat) (yq2 : Nat) (yq3 : Nat) (yq4 : Nat) (yq5 : Nat) (yq6 : Nat) (yq7 : Nat) (yq8 : Nat) (yq9 : Nat) (yq10 : Nat) (yq11 : Nat) (yq12 : Nat) (yq13 : Nat) (yq14 : Nat) (yq15 : Nat) (yq16 : Nat) (yf90 : Nat → Int32) (o : Nat) (od : Nat) (b : Nat) (xs : Nat → Int32) (hx : p.tables.exec = Jvm.exec) (hb : c.code = cL_law) (hml : c.maxLocals = 9) (hown : s.vm.findClass RL = some m.cls) (hts : ∀ w ∈ wsL_law, w.before args s = true) (hX : va_X b 5 xs s s.heap) (hbl : b < s.heap.size) (hbA : ¬ A b) (hA : ∀ q : Nat, s.heap.size ≤ q → A q) (hK : va_K G.1 vwCl (n_ty G) s) (hE : n_ex A s s.heap) (hfa16 : nMod yf90)
    (hend : ∀ (H : Heap) (locs : List Loc) (ls : Array Slot), va_S A s.heap H locs → lv_has ls 9 [(0, .ref b), (5, .int 0)] → W p l e room_1 s m args below meth c H locs 2000 60000 Q (F0 m 2342 ls []))
    (H : Heap) (locs : List Loc) (ls : Array Slot) (hP : va_P G.1 vwCl [(x, .inr (12, [.ref xq1, .ref xq4, .ref xq25, .ref xq46, .ref xq71, .ref xq75, .ref xq82, .ref xq84, .int 0])), (xq4, .inr (5, [.ref xq6, .ref xq7, .ref xq8])), (xq7, .inr (9, [.ref xq15, .int 0])), (y, .inr (13, [.ref yq1, .ref yq2, .int 0, .ref yq3, .int 0, .int 0, .int 0, .ref yq4, .ref yq5, .int 0, .ref yq6, .int (-1), .ref yq7, .int 0, .ref yq8, .ref yq9, .ref yq10, .ref yq11, .int 0, .int 0, .int 0, .int 0, .ref yq12, .ref yq13, .ref yq14, .ref yq15, .ref yq16])), (yq1, eI G 1191 yf90), (o, eJ G 1 (fun _ => 0))] H) (hD : va_D A [(x, .inr (12, [.ref xq1, .ref xq4, .ref xq25, .ref xq46, .ref xq71, .ref xq75, .ref xq82, .ref xq84, .int 0])), (xq4, .inr (5, [.ref xq6, .ref xq7, .ref xq8])), (xq7, .inr (9, [.ref xq15, .int 0])), (y, .inr (13, [.ref yq1, .ref yq2, .int 0, .ref yq3, .int 0, .int 0, .int 0, .ref yq4, .ref yq5, .int 0, .ref yq6, .int (-1), .ref yq7, .int 0, .ref yq8, .ref yq9, .ref yq10, .ref yq11, .int 0, .int 0, .int 0, .int 0, .ref yq12, .ref yq13, .ref yq14, .ref yq15, .ref yq16])), (yq1, eI G 1191 yf90), (o, eJ G 1 (fun _ => 0))]) (hS : va_S A s.heap H locs) (hl : lv_has ls 9 [(0, .ref b), (1, .ref x), (2, .ref y), (3, .ref o), (4, .ref od), (5, .int 0)]) : W p l e room_1 s m args below meth c H locs 609 18141 Q (F0 m 1242 ls []) := by
  refine lv_aload_n hx hb dL_law_1242 rfl (lv_at hl 1 rfl) ?_
  refine lv_aload_n hx hb dL_law_1243 rfl (lv_at hl 0 rfl) ?_
  refine lv_iload hx hb dL_law_1244 (lv_at hl 5 rfl) ?_
  refine lv_iconst (v := 1) hx hb dL_law_1246 (by decide) ?_
  refine lv_iadd hx hb dL_law_1247 ?_
  refine n_eqi (y := 1) (by decide) ?_
  refine va_sld hx hb hX hbl hbA hS (n_in (by decide)) dL_law_1248 ?_
  refine n_eqi (y := xs 1) rfl ?_
  refine lv_aload_n hx hb dL_law_1249 rfl (lv_at hl 0 rfl) ?_
  refine lv_iload hx hb dL_law_1250 (lv_at hl 5 rfl) ?_
  refine lv_iconst (v := 2) hx hb dL_law_1252 (by decide) ?_
  refine lv_iadd hx hb dL_law_1253 ?_
  refine n_eqi (y := 2) (by decide) ?_
  refine va_sld hx hb hX hbl hbA hS (n_in (by decide)) dL_law_1254 ?_
  refine n_eqi (y := xs 2) rfl ?_
  refine lv_aload_n hx hb dL_law_1255 rfl (lv_at hl 3 rfl) ?_
  refine n_ci (wr := [(y, .inr (13, [.ref yq1, .ref yq2, .int 0, .ref yq3, .int 0, .int 0, .int 0, .ref yq4, .ref yq5, .int 0, .ref yq6, .int (-1), .ref yq7, .int 0, .ref yq8, .ref yq9, .ref yq10, .ref yq11, .int 0, .int 0, .int 0, .int 0, .ref yq12, .ref yq13, .ref yq14, .ref yq15, .ref yq16])), (yq1, eI G 1191 yf90)]) (vx_runSW (As := [.ref x, .int (xs 1), .int (xs 2), .ref o]) (rest := []) ⟨hx, hb, hml, hown, hts⟩ (mL_refer l hl9 G x xq1 xq4 xq25 xq46 xq71 xq75 xq82 xq84 xq6 xq7 xq8 xq15 (xs 1) (xs 2) o (fun _ => 0) H.size) (vx_cwSW 4 hts gL_law_L_refer rfl rfl rfl (by decide +kernel) ⟨(Nat.le_of_ble_eq_true rfl), (Nat.le_of_ble_eq_true rfl)⟩) (n_prX hK hP hD hS hA [0, 1, 2, 5] rfl (by decide) hE) rfl rfl hl.1 rfl (lv_room (Nat.le_of_ble_eq_true rfl)) dL_law_1256 ⟨(Nat.le_of_ble_eq_true rfl), (Nat.le_of_ble_eq_true rfl)⟩) hP hD hS hA [0, 1, 2, 5] [3, 4] rfl rfl (by decide) (by decide) (fun r_1 u_2 H locs hP hD hS hw => ?_)
  have hP : va_P G.1 vwCl [(y, .inr (13, [.ref yq1, .ref yq2, .int 0, .ref yq3, .int 0, .int 0, .int 0, .ref yq4, .ref yq5, .int 0, .ref yq6, .int (-1), .ref yq7, .int 0, .ref yq8, .ref yq9, .ref yq10, .ref yq11, .int 0, .int 0, .int 0, .int 0, .ref yq12, .ref yq13, .ref yq14, .ref yq15, .ref yq16])), (yq1, eI G 1191 yf90), (o, eJ G 1 (fun _ => 0))] H := hP
  have hD : va_D A [(y, .inr (13, [.ref yq1, .ref yq2, .int 0, .ref yq3, .int 0, .int 0, .int 0, .ref yq4, .ref yq5, .int 0, .ref yq6, .int (-1), .ref yq7, .int 0, .ref yq8, .ref yq9, .ref yq10, .ref yq11, .int 0, .int 0, .int 0, .int 0, .ref yq12, .ref yq13, .ref yq14, .ref yq15, .ref yq16])), (yq1, eI G 1191 yf90), (o, eJ G 1 (fun _ => 0))] := hD
  have hw : r_1 = 1 := hw
  subst hw
  refine lv_istore (lv' := [(6, .int 1), (0, .ref b), (1, .ref x), (2, .ref y), (3, .ref o), (4, .ref od), (5, .int 0)]) hx hb dL_law_1259 hl (by decide) rfl (fun ls hl => ?_)
  refine lv_aload_n hx hb dL_law_1261 rfl (lv_at hl 3 rfl) ?_
  refine lv_aload_n hx hb dL_law_1262 rfl (lv_at hl 1 rfl) ?_
  refine lv_iload hx hb dL_law_1263 (lv_at hl 6 rfl) ?_
  refine lv_iconst (v := 1) hx hb dL_law_1265 (by decide) ?_
  refine lv_iadd hx hb dL_law_1266 ?_
  refine n_eqi (y := 1) (by decide) ?_
  refine va_sld hx hb hX hbl hbA hS (n_in (by decide)) dL_law_1267 ?_
  refine n_eqi (y := xs 1) rfl ?_
  refine lv_aload_n hx hb dL_law_1268 rfl (lv_at hl 1 rfl) ?_
  refine lv_iload hx hb dL_law_1269 (lv_at hl 6 rfl) ?_
  refine lv_iconst (v := 2) hx hb dL_law_1271 (by decide) ?_
  refine lv_iadd hx hb dL_law_1272 ?_
  refine n_eqi (y := 2) (by decide) ?_
  refine va_sld hx hb hX hbl hbA hS (n_in (by decide)) dL_law_1273 ?_
  refine n_eqi (y := xs 2) rfl ?_
  refine n_ci (wr := [(o, eJ G 1 (fun _ => 0))]) (va_runV (As := [.int (xs 1), .int (xs 2)]) (rest := []) ⟨hx, hb, hml, hown, hts⟩ (mX12_refer l G y yq1 yq2 yq3 yq4 yq5 yq6 yq7 yq8 yq9 yq10 yq11 yq12 yq13 yq14 yq15 yq16 0 0 0 0 0 (-1) 0 0 0 0 0 yf90 (xs 1) (xs 2) H.size hfa16) (cwV 2 hts gL_law_X12_refer rfl rfl rfl (by decide +kernel) ⟨(Nat.le_of_ble_eq_true rfl), (Nat.le_of_ble_eq_true rfl)⟩) (n_prV (ci := 13) (q0 := 0) hK hP hD [0, 1] rfl (by decide) rfl rfl) rfl rfl hl.1 rfl (lv_room (Nat.le_of_ble_eq_true rfl)) dL_law_1274 ⟨(Nat.le_of_ble_eq_true rfl), (Nat.le_of_ble_eq_true rfl)⟩) hP hD hS hA [0, 1] [2] rfl rfl (by decide) (by decide) (fun r_3 u_4 H locs hP hD hS hw => ?_)
  have hP : va_P G.1 vwCl [(o, eJ G 1 (fun _ => 0)), (y, .inr (13, [.ref yq1, .ref yq2, .int 0, .ref yq3, .int 0, .int 1, .int 0, .ref yq4, .ref yq5, .int 0, .ref yq6, .int (-1), .ref yq7, .int 0, .ref yq8, .ref yq9, .ref yq10, .ref yq11, .int 0, .int 0, .int 0, .int 0, .ref yq12, .ref yq13, .ref yq14, .ref yq15, .ref yq16]))] H := hP
  have hD : va_D A [(o, eJ G 1 (fun _ => 0)), (y, .inr (13, [.ref yq1, .ref yq2, .int 0, .ref yq3, .int 0, .int 1, .int 0, .ref yq4, .ref yq5, .int 0, .ref yq6, .int (-1), .ref yq7, .int 0, .ref yq8, .ref yq9, .ref yq10, .ref yq11, .int 0, .int 0, .int 0, .int 0, .ref yq12, .ref yq13, .ref yq14, .ref yq15, .ref yq16]))] := hD
  have hw : r_3 = 0 := hw
  subst hw
  refine lv_istore (lv' := [(7, .int 0), (6, .int 1), (0, .ref b), (1, .ref x), (2, .ref y), (3, .ref o), (4, .ref od), (5, .int 0)]) hx hb dL_law_1277 hl (by decide) rfl (fun ls hl => ?_)
  refine lv_aload_n hx hb dL_law_1279 rfl (lv_at hl 4 rfl) ?_
  refine n_ci (wr := [(o, eJ G 1 (fun _ => 0))]) (va_runV (As := []) (rest := []) ⟨hx, hb, hml, hown, hts⟩ (mX12_thrown l G y yq1 yq2 yq3 yq4 yq5 yq6 yq7 yq8 yq9 yq10 yq11 yq12 yq13 yq14 yq15 yq16 0 0 1 0 0 (-1) 0 0 0 0 0 H.size) (cwV 0 hts gL_law_X12_thrown rfl rfl rfl (by decide +kernel) ⟨(Nat.le_of_ble_eq_true rfl), (Nat.le_of_ble_eq_true rfl)⟩) (n_prV (ci := 13) (q0 := 1) hK hP hD [1] rfl (by decide) rfl rfl) rfl rfl hl.1 rfl (lv_room (Nat.le_of_ble_eq_true rfl)) dL_law_1280 ⟨(Nat.le_of_ble_eq_true rfl), (Nat.le_of_ble_eq_true rfl)⟩) hP hD hS hA [1] [0] rfl rfl (by decide) (by decide) (fun r_5 u_6 H locs hP hD hS hw => ?_)
  have hP : va_P G.1 vwCl [(o, eJ G 1 (fun _ => 0)), (y, .inr (13, [.ref yq1, .ref yq2, .int 0, .ref yq3, .int 0, .int 1, .int 0, .ref yq4, .ref yq5, .int 0, .ref yq6, .int (-1), .ref yq7, .int 0, .ref yq8, .ref yq9, .ref yq10, .ref yq11, .int 0, .int 0, .int 0, .int 0, .ref yq12, .ref yq13, .ref yq14, .ref yq15, .ref yq16]))] H := hP
  have hD : va_D A [(o, eJ G 1 (fun _ => 0)), (y, .inr (13, [.ref yq1, .ref yq2, .int 0, .ref yq3, .int 0, .int 1, .int 0, .ref yq4, .ref yq5, .int 0, .ref yq6, .int (-1), .ref yq7, .int 0, .ref yq8, .ref yq9, .ref yq10, .ref yq11, .int 0, .int 0, .int 0, .int 0, .ref yq12, .ref yq13, .ref yq14, .ref yq15, .ref yq16]))] := hD
  have hw : r_5 = 1 := hw
  subst hw
  refine lv_iload hx hb dL_law_1283 (lv_at hl 1 rfl) ?_
  refine lv_icmp_eq (tgt := 1290) hx hb dL_law_1285 (by decide) (fun _ => ?_) (fun h9 => absurd (by decide) h9)
  refine lv_iload hx hb dL_law_1290 (lv_at hl 1 rfl) ?_
  refine lv_if_ne (tgt := 1307) hx hb dL_law_1292 (by decide) (fun _ => ?_) (fun h9 => absurd h9 (by decide))
  refine lv_goto (tgt := 2342) hx hb dL_law_1307 (by decide) ?_
  refine W.widen (k := 2000) (n := 60000) (Nat.le_of_ble_eq_true rfl) (Nat.le_of_ble_eq_true rfl) ?_
  exact hend H locs ls hS (lv_sub hl [2, 7] rfl)

set_option maxHeartbeats 8000000 in
set_option maxRecDepth 100000 in
theorem law_c17 {p : Program} {l : Launch} {e : Env} {s : State} {m : MethodId} {below : List Frame} {meth : Method} {c : Code} {args : Array Value} {Q : State → Prop} {A : Nat → Prop} (hl9 : l.stackTraces = false) (G : nG) (x : Nat) (xq1 : Nat) (xq4 : Nat) (xq25 : Nat) (xq46 : Nat) (xq71 : Nat) (xq75 : Nat) (xq82 : Nat) (xq84 : Nat) (xq6 : Nat) (xq7 : Nat) (xq8 : Nat) (xq15 : Nat) (y : Nat) (yq1 : Nat) (yq2 : Nat) (yq3 : Nat) (yq4 : Nat) (yq5 : Nat) (yq6 : Nat) (yq7 : Nat) (yq8 : Nat) (yq9 : Nat) (yq10 : Nat) (yq11 : Nat) (yq12 : Nat) (yq13 : Nat) (yq14 : Nat) (yq15 : Nat) (yq16 : Nat) (yf90 : Nat → Int32) (o : Nat) (od : Nat) (b : Nat) (xs : Nat → Int32) (hx : p.tables.exec = Jvm.exec) (hb : c.code = cL_law) (hml : c.maxLocals = 9) (hown : s.vm.findClass RL = some m.cls) (hts : ∀ w ∈ wsL_law, w.before args s = true) (hX : va_X b 5 xs s s.heap) (hbl : b < s.heap.size) (hbA : ¬ A b) (hA : ∀ q : Nat, s.heap.size ≤ q → A q) (hK : va_K G.1 vwCl (n_ty G) s) (hE : n_ex A s s.heap) (hfa16 : nMod yf90)
    (hend : ∀ (H : Heap) (locs : List Loc) (ls : Array Slot), va_S A s.heap H locs → lv_has ls 9 [(0, .ref b), (5, .int 0)] → W p l e room_1 s m args below meth c H locs 2000 60000 Q (F0 m 2342 ls []))
    (H : Heap) (locs : List Loc) (ls : Array Slot) (hP : va_P G.1 vwCl [(x, .inr (12, [.ref xq1, .ref xq4, .ref xq25, .ref xq46, .ref xq71, .ref xq75, .ref xq82, .ref xq84, .int 0])), (xq4, .inr (5, [.ref xq6, .ref xq7, .ref xq8])), (xq7, .inr (9, [.ref xq15, .int 0])), (y, .inr (13, [.ref yq1, .ref yq2, .int 0, .ref yq3, .int 0, .int 0, .int 0, .ref yq4, .ref yq5, .int 0, .ref yq6, .int (-1), .ref yq7, .int 0, .ref yq8, .ref yq9, .ref yq10, .ref yq11, .int 0, .int 0, .int 0, .int 0, .ref yq12, .ref yq13, .ref yq14, .ref yq15, .ref yq16])), (yq1, eI G 1191 yf90), (o, eJ G 1 (fun _ => 0))] H) (hD : va_D A [(x, .inr (12, [.ref xq1, .ref xq4, .ref xq25, .ref xq46, .ref xq71, .ref xq75, .ref xq82, .ref xq84, .int 0])), (xq4, .inr (5, [.ref xq6, .ref xq7, .ref xq8])), (xq7, .inr (9, [.ref xq15, .int 0])), (y, .inr (13, [.ref yq1, .ref yq2, .int 0, .ref yq3, .int 0, .int 0, .int 0, .ref yq4, .ref yq5, .int 0, .ref yq6, .int (-1), .ref yq7, .int 0, .ref yq8, .ref yq9, .ref yq10, .ref yq11, .int 0, .int 0, .int 0, .int 0, .ref yq12, .ref yq13, .ref yq14, .ref yq15, .ref yq16])), (yq1, eI G 1191 yf90), (o, eJ G 1 (fun _ => 0))]) (hS : va_S A s.heap H locs) (hl : lv_has ls 9 [(0, .ref b), (1, .ref x), (2, .ref y), (3, .ref o), (4, .ref od), (5, .int 0)]) : W p l e room_1 s m args below meth c H locs 609 18141 Q (F0 m 1310 ls []) := by
  refine lv_aload_n hx hb dL_law_1310 rfl (lv_at hl 1 rfl) ?_
  refine lv_aload_n hx hb dL_law_1311 rfl (lv_at hl 0 rfl) ?_
  refine lv_iload hx hb dL_law_1312 (lv_at hl 5 rfl) ?_
  refine lv_iconst (v := 1) hx hb dL_law_1314 (by decide) ?_
  refine lv_iadd hx hb dL_law_1315 ?_
  refine n_eqi (y := 1) (by decide) ?_
  refine va_sld hx hb hX hbl hbA hS (n_in (by decide)) dL_law_1316 ?_
  refine n_eqi (y := xs 1) rfl ?_
  refine lv_aload_n hx hb dL_law_1317 rfl (lv_at hl 0 rfl) ?_
  refine lv_iload hx hb dL_law_1318 (lv_at hl 5 rfl) ?_
  refine lv_iconst (v := 2) hx hb dL_law_1320 (by decide) ?_
  refine lv_iadd hx hb dL_law_1321 ?_
  refine n_eqi (y := 2) (by decide) ?_
  refine va_sld hx hb hX hbl hbA hS (n_in (by decide)) dL_law_1322 ?_
  refine n_eqi (y := xs 2) rfl ?_
  refine lv_aload_n hx hb dL_law_1323 rfl (lv_at hl 3 rfl) ?_
  refine n_ci (wr := [(y, .inr (13, [.ref yq1, .ref yq2, .int 0, .ref yq3, .int 0, .int 0, .int 0, .ref yq4, .ref yq5, .int 0, .ref yq6, .int (-1), .ref yq7, .int 0, .ref yq8, .ref yq9, .ref yq10, .ref yq11, .int 0, .int 0, .int 0, .int 0, .ref yq12, .ref yq13, .ref yq14, .ref yq15, .ref yq16])), (yq1, eI G 1191 yf90)]) (vx_runSW (As := [.ref x, .int (xs 1), .int (xs 2), .ref o]) (rest := []) ⟨hx, hb, hml, hown, hts⟩ (mL_steps l hl9 G x xq1 xq4 xq25 xq46 xq71 xq75 xq82 xq84 xq6 xq7 xq8 xq15 (xs 1) (xs 2) o (fun _ => 0) H.size) (vx_cwSW 4 hts gL_law_L_steps rfl rfl rfl (by decide +kernel) ⟨(Nat.le_of_ble_eq_true rfl), (Nat.le_of_ble_eq_true rfl)⟩) (n_prX hK hP hD hS hA [0, 1, 2, 5] rfl (by decide) hE) rfl rfl hl.1 rfl (lv_room (Nat.le_of_ble_eq_true rfl)) dL_law_1324 ⟨(Nat.le_of_ble_eq_true rfl), (Nat.le_of_ble_eq_true rfl)⟩) hP hD hS hA [0, 1, 2, 5] [3, 4] rfl rfl (by decide) (by decide) (fun r_1 u_2 H locs hP hD hS hw => ?_)
  have hP : va_P G.1 vwCl [(y, .inr (13, [.ref yq1, .ref yq2, .int 0, .ref yq3, .int 0, .int 0, .int 0, .ref yq4, .ref yq5, .int 0, .ref yq6, .int (-1), .ref yq7, .int 0, .ref yq8, .ref yq9, .ref yq10, .ref yq11, .int 0, .int 0, .int 0, .int 0, .ref yq12, .ref yq13, .ref yq14, .ref yq15, .ref yq16])), (yq1, eI G 1191 yf90), (o, eJ G 1 (fun _ => 0))] H := hP
  have hD : va_D A [(y, .inr (13, [.ref yq1, .ref yq2, .int 0, .ref yq3, .int 0, .int 0, .int 0, .ref yq4, .ref yq5, .int 0, .ref yq6, .int (-1), .ref yq7, .int 0, .ref yq8, .ref yq9, .ref yq10, .ref yq11, .int 0, .int 0, .int 0, .int 0, .ref yq12, .ref yq13, .ref yq14, .ref yq15, .ref yq16])), (yq1, eI G 1191 yf90), (o, eJ G 1 (fun _ => 0))] := hD
  have hw : r_1 = 1 := hw
  subst hw
  refine lv_istore (lv' := [(6, .int 1), (0, .ref b), (1, .ref x), (2, .ref y), (3, .ref o), (4, .ref od), (5, .int 0)]) hx hb dL_law_1327 hl (by decide) rfl (fun ls hl => ?_)
  refine lv_aload_n hx hb dL_law_1329 rfl (lv_at hl 3 rfl) ?_
  refine lv_aload_n hx hb dL_law_1330 rfl (lv_at hl 1 rfl) ?_
  refine lv_iload hx hb dL_law_1331 (lv_at hl 6 rfl) ?_
  refine lv_iconst (v := 1) hx hb dL_law_1333 (by decide) ?_
  refine lv_iadd hx hb dL_law_1334 ?_
  refine n_eqi (y := 1) (by decide) ?_
  refine va_sld hx hb hX hbl hbA hS (n_in (by decide)) dL_law_1335 ?_
  refine n_eqi (y := xs 1) rfl ?_
  refine lv_aload_n hx hb dL_law_1336 rfl (lv_at hl 1 rfl) ?_
  refine lv_iload hx hb dL_law_1337 (lv_at hl 6 rfl) ?_
  refine lv_iconst (v := 2) hx hb dL_law_1339 (by decide) ?_
  refine lv_iadd hx hb dL_law_1340 ?_
  refine n_eqi (y := 2) (by decide) ?_
  refine va_sld hx hb hX hbl hbA hS (n_in (by decide)) dL_law_1341 ?_
  refine n_eqi (y := xs 2) rfl ?_
  refine n_ci (wr := [(o, eJ G 1 (fun _ => 0))]) (va_runV (As := [.int (xs 1), .int (xs 2)]) (rest := []) ⟨hx, hb, hml, hown, hts⟩ (mX12_steps l G y yq1 yq2 yq3 yq4 yq5 yq6 yq7 yq8 yq9 yq10 yq11 yq12 yq13 yq14 yq15 yq16 0 0 0 0 0 (-1) 0 0 0 0 0 yf90 (xs 1) (xs 2) H.size hfa16) (cwV 2 hts gL_law_X12_steps rfl rfl rfl (by decide +kernel) ⟨(Nat.le_of_ble_eq_true rfl), (Nat.le_of_ble_eq_true rfl)⟩) (n_prV (ci := 13) (q0 := 0) hK hP hD [0, 1] rfl (by decide) rfl rfl) rfl rfl hl.1 rfl (lv_room (Nat.le_of_ble_eq_true rfl)) dL_law_1342 ⟨(Nat.le_of_ble_eq_true rfl), (Nat.le_of_ble_eq_true rfl)⟩) hP hD hS hA [0, 1] [2] rfl rfl (by decide) (by decide) (fun r_3 u_4 H locs hP hD hS hw => ?_)
  have hP : va_P G.1 vwCl [(o, eJ G 1 (fun _ => 0)), (y, .inr (13, [.ref yq1, .ref yq2, .int 0, .ref yq3, .int 0, .int 1, .int 0, .ref yq4, .ref yq5, .int 0, .ref yq6, .int (-1), .ref yq7, .int 0, .ref yq8, .ref yq9, .ref yq10, .ref yq11, .int 0, .int 0, .int 0, .int 0, .ref yq12, .ref yq13, .ref yq14, .ref yq15, .ref yq16]))] H := hP
  have hD : va_D A [(o, eJ G 1 (fun _ => 0)), (y, .inr (13, [.ref yq1, .ref yq2, .int 0, .ref yq3, .int 0, .int 1, .int 0, .ref yq4, .ref yq5, .int 0, .ref yq6, .int (-1), .ref yq7, .int 0, .ref yq8, .ref yq9, .ref yq10, .ref yq11, .int 0, .int 0, .int 0, .int 0, .ref yq12, .ref yq13, .ref yq14, .ref yq15, .ref yq16]))] := hD
  have hw : r_3 = 0 := hw
  subst hw
  refine lv_istore (lv' := [(7, .int 0), (6, .int 1), (0, .ref b), (1, .ref x), (2, .ref y), (3, .ref o), (4, .ref od), (5, .int 0)]) hx hb dL_law_1345 hl (by decide) rfl (fun ls hl => ?_)
  refine lv_aload_n hx hb dL_law_1347 rfl (lv_at hl 4 rfl) ?_
  refine n_ci (wr := [(o, eJ G 1 (fun _ => 0))]) (va_runV (As := []) (rest := []) ⟨hx, hb, hml, hown, hts⟩ (mX12_thrown l G y yq1 yq2 yq3 yq4 yq5 yq6 yq7 yq8 yq9 yq10 yq11 yq12 yq13 yq14 yq15 yq16 0 0 1 0 0 (-1) 0 0 0 0 0 H.size) (cwV 0 hts gL_law_X12_thrown rfl rfl rfl (by decide +kernel) ⟨(Nat.le_of_ble_eq_true rfl), (Nat.le_of_ble_eq_true rfl)⟩) (n_prV (ci := 13) (q0 := 1) hK hP hD [1] rfl (by decide) rfl rfl) rfl rfl hl.1 rfl (lv_room (Nat.le_of_ble_eq_true rfl)) dL_law_1348 ⟨(Nat.le_of_ble_eq_true rfl), (Nat.le_of_ble_eq_true rfl)⟩) hP hD hS hA [1] [0] rfl rfl (by decide) (by decide) (fun r_5 u_6 H locs hP hD hS hw => ?_)
  have hP : va_P G.1 vwCl [(o, eJ G 1 (fun _ => 0)), (y, .inr (13, [.ref yq1, .ref yq2, .int 0, .ref yq3, .int 0, .int 1, .int 0, .ref yq4, .ref yq5, .int 0, .ref yq6, .int (-1), .ref yq7, .int 0, .ref yq8, .ref yq9, .ref yq10, .ref yq11, .int 0, .int 0, .int 0, .int 0, .ref yq12, .ref yq13, .ref yq14, .ref yq15, .ref yq16]))] H := hP
  have hD : va_D A [(o, eJ G 1 (fun _ => 0)), (y, .inr (13, [.ref yq1, .ref yq2, .int 0, .ref yq3, .int 0, .int 1, .int 0, .ref yq4, .ref yq5, .int 0, .ref yq6, .int (-1), .ref yq7, .int 0, .ref yq8, .ref yq9, .ref yq10, .ref yq11, .int 0, .int 0, .int 0, .int 0, .ref yq12, .ref yq13, .ref yq14, .ref yq15, .ref yq16]))] := hD
  have hw : r_5 = 1 := hw
  subst hw
  refine lv_iload hx hb dL_law_1351 (lv_at hl 1 rfl) ?_
  refine lv_icmp_eq (tgt := 1358) hx hb dL_law_1353 (by decide) (fun _ => ?_) (fun h9 => absurd (by decide) h9)
  refine lv_iload hx hb dL_law_1358 (lv_at hl 1 rfl) ?_
  refine lv_if_ne (tgt := 1375) hx hb dL_law_1360 (by decide) (fun _ => ?_) (fun h9 => absurd h9 (by decide))
  refine lv_goto (tgt := 2342) hx hb dL_law_1375 (by decide) ?_
  refine W.widen (k := 2000) (n := 60000) (Nat.le_of_ble_eq_true rfl) (Nat.le_of_ble_eq_true rfl) ?_
  exact hend H locs ls hS (lv_sub hl [2, 7] rfl)

set_option maxHeartbeats 8000000 in
set_option maxRecDepth 100000 in
theorem law_c18 {p : Program} {l : Launch} {e : Env} {s : State} {m : MethodId} {below : List Frame} {meth : Method} {c : Code} {args : Array Value} {Q : State → Prop} {A : Nat → Prop} (hl9 : l.stackTraces = false) (G : nG) (x : Nat) (xq1 : Nat) (xq4 : Nat) (xq25 : Nat) (xq46 : Nat) (xq71 : Nat) (xq75 : Nat) (xq82 : Nat) (xq84 : Nat) (xq6 : Nat) (xq7 : Nat) (xq8 : Nat) (xq9 : Nat) (xq10 : Nat) (xq11 : Nat) (xf12 : Nat → Int32) (xf13 : Nat → Int32) (xf14 : Nat → Int32) (xq15 : Nat) (xq16 : Nat) (xq17 : Nat) (xq18 : Nat) (xq19 : Nat) (xq48 : Nat) (xf49 : Nat → Option Nat) (xq50 : Nat) (xq51 : Nat) (xq52 : Nat) (xq53 : Nat) (xq54 : Nat) (xq55 : Nat) (xq56 : Nat) (xf57 : Nat → Int32) (xf58 : Nat → Int32) (xf59 : Nat → Int32) (xq60 : Nat) (xq61 : Nat) (xq62 : Nat) (xq63 : Nat) (xq64 : Nat) (y : Nat) (yq1 : Nat) (yq2 : Nat) (yq3 : Nat) (yq4 : Nat) (yq5 : Nat) (yq6 : Nat) (yq7 : Nat) (yq8 : Nat) (yq9 : Nat) (yq10 : Nat) (yq11 : Nat) (yq12 : Nat) (yq13 : Nat) (yq14 : Nat) (yq15 : Nat) (yq16 : Nat) (yf90 : Nat → Int32) (o : Nat) (od : Nat) (b : Nat) (xs : Nat → Int32) (hx : p.tables.exec = Jvm.exec) (hb : c.code = cL_law) (hml : c.maxLocals = 9) (hown : s.vm.findClass RL = some m.cls) (hts : ∀ w ∈ wsL_law, w.before args s = true) (hX : va_X b 5 xs s s.heap) (hbl : b < s.heap.size) (hbA : ¬ A b) (hA : ∀ q : Nat, s.heap.size ≤ q → A q) (hK : va_K G.1 vwCl (n_ty G) s) (hE : n_ex A s s.heap) (hfa0 : nRow xf12) (hfa3 : nFit xf13) (hfa4 : nFit xf14) (hfa15 : xf49 0 = some xq50) (hfa16 : nMod yf90)
    (hend : ∀ (H : Heap) (locs : List Loc) (ls : Array Slot), va_S A s.heap H locs → lv_has ls 9 [(0, .ref b), (5, .int 0)] → W p l e room_1 s m args below meth c H locs 2000 60000 Q (F0 m 2342 ls []))
    (H : Heap) (locs : List Loc) (ls : Array Slot) (hP : va_P G.1 vwCl [(x, .inr (12, [.ref xq1, .ref xq4, .ref xq25, .ref xq46, .ref xq71, .ref xq75, .ref xq82, .ref xq84, .int 0])), (xq4, .inr (5, [.ref xq6, .ref xq7, .ref xq8])), (xq6, .inr (2, [.ref xq9, .ref xq10, .ref xq11, .int 26])), (xq9, eI G 36 xf12), (xq10, eC G 36 xf13), (xq11, eC G 36 xf14), (xq7, .inr (9, [.ref xq15, .int 0])), (xq8, .inr (11, [.ref xq16, .ref xq17, .ref xq18, .ref xq19, .int 0])), (xq16, eI G 8 (fun _ => 0)), (xq17, eI G 8 (fun _ => 0)), (xq18, eI G 8 (fun _ => 0)), (xq19, eI G 8 (fun _ => 0)), (xq46, .inr (7, [.ref xq48, .int 0, .int 0])), (xq48, eR G 9 xf49), (xq50, .inr (5, [.ref xq51, .ref xq52, .ref xq53])), (xq51, .inr (2, [.ref xq54, .ref xq55, .ref xq56, .int 26])), (xq54, eI G 36 xf57), (xq55, eC G 36 xf58), (xq56, eC G 36 xf59), (xq52, .inr (9, [.ref xq60, .int 0])), (xq53, .inr (11, [.ref xq61, .ref xq62, .ref xq63, .ref xq64, .int 0])), (xq61, eI G 8 (fun _ => 0)), (xq62, eI G 8 (fun _ => 0)), (xq63, eI G 8 (fun _ => 0)), (xq64, eI G 8 (fun _ => 0)), (y, .inr (13, [.ref yq1, .ref yq2, .int 0, .ref yq3, .int 0, .int 0, .int 0, .ref yq4, .ref yq5, .int 0, .ref yq6, .int (-1), .ref yq7, .int 0, .ref yq8, .ref yq9, .ref yq10, .ref yq11, .int 0, .int 0, .int 0, .int 0, .ref yq12, .ref yq13, .ref yq14, .ref yq15, .ref yq16])), (yq1, eI G 1191 yf90), (yq3, eI G 9528 (fun _ => 0)), (o, eJ G 1 (fun _ => 0))] H) (hD : va_D A [(x, .inr (12, [.ref xq1, .ref xq4, .ref xq25, .ref xq46, .ref xq71, .ref xq75, .ref xq82, .ref xq84, .int 0])), (xq4, .inr (5, [.ref xq6, .ref xq7, .ref xq8])), (xq6, .inr (2, [.ref xq9, .ref xq10, .ref xq11, .int 26])), (xq9, eI G 36 xf12), (xq10, eC G 36 xf13), (xq11, eC G 36 xf14), (xq7, .inr (9, [.ref xq15, .int 0])), (xq8, .inr (11, [.ref xq16, .ref xq17, .ref xq18, .ref xq19, .int 0])), (xq16, eI G 8 (fun _ => 0)), (xq17, eI G 8 (fun _ => 0)), (xq18, eI G 8 (fun _ => 0)), (xq19, eI G 8 (fun _ => 0)), (xq46, .inr (7, [.ref xq48, .int 0, .int 0])), (xq48, eR G 9 xf49), (xq50, .inr (5, [.ref xq51, .ref xq52, .ref xq53])), (xq51, .inr (2, [.ref xq54, .ref xq55, .ref xq56, .int 26])), (xq54, eI G 36 xf57), (xq55, eC G 36 xf58), (xq56, eC G 36 xf59), (xq52, .inr (9, [.ref xq60, .int 0])), (xq53, .inr (11, [.ref xq61, .ref xq62, .ref xq63, .ref xq64, .int 0])), (xq61, eI G 8 (fun _ => 0)), (xq62, eI G 8 (fun _ => 0)), (xq63, eI G 8 (fun _ => 0)), (xq64, eI G 8 (fun _ => 0)), (y, .inr (13, [.ref yq1, .ref yq2, .int 0, .ref yq3, .int 0, .int 0, .int 0, .ref yq4, .ref yq5, .int 0, .ref yq6, .int (-1), .ref yq7, .int 0, .ref yq8, .ref yq9, .ref yq10, .ref yq11, .int 0, .int 0, .int 0, .int 0, .ref yq12, .ref yq13, .ref yq14, .ref yq15, .ref yq16])), (yq1, eI G 1191 yf90), (yq3, eI G 9528 (fun _ => 0)), (o, eJ G 1 (fun _ => 0))]) (hS : va_S A s.heap H locs) (hl : lv_has ls 9 [(0, .ref b), (1, .ref x), (2, .ref y), (3, .ref o), (4, .ref od), (5, .int 0)]) : W p l e room_1 s m args below meth c H locs 609 18141 Q (F0 m 1378 ls []) := by
  refine lv_aload_n hx hb dL_law_1378 rfl (lv_at hl 1 rfl) ?_
  refine lv_aload_n hx hb dL_law_1379 rfl (lv_at hl 0 rfl) ?_
  refine lv_iload hx hb dL_law_1380 (lv_at hl 5 rfl) ?_
  refine lv_iconst (v := 1) hx hb dL_law_1382 (by decide) ?_
  refine lv_iadd hx hb dL_law_1383 ?_
  refine n_eqi (y := 1) (by decide) ?_
  refine va_sld hx hb hX hbl hbA hS (n_in (by decide)) dL_law_1384 ?_
  refine n_eqi (y := xs 1) rfl ?_
  refine lv_aload_n hx hb dL_law_1385 rfl (lv_at hl 0 rfl) ?_
  refine lv_iload hx hb dL_law_1386 (lv_at hl 5 rfl) ?_
  refine lv_iconst (v := 2) hx hb dL_law_1388 (by decide) ?_
  refine lv_iadd hx hb dL_law_1389 ?_
  refine n_eqi (y := 2) (by decide) ?_
  refine va_sld hx hb hX hbl hbA hS (n_in (by decide)) dL_law_1390 ?_
  refine n_eqi (y := xs 2) rfl ?_
  refine lv_aload_n hx hb dL_law_1391 rfl (lv_at hl 0 rfl) ?_
  refine lv_iload hx hb dL_law_1392 (lv_at hl 5 rfl) ?_
  refine lv_iconst (v := 3) hx hb dL_law_1394 (by decide) ?_
  refine lv_iadd hx hb dL_law_1395 ?_
  refine n_eqi (y := 3) (by decide) ?_
  refine va_sld hx hb hX hbl hbA hS (n_in (by decide)) dL_law_1396 ?_
  refine n_eqi (y := xs 3) rfl ?_
  refine lv_aload_n hx hb dL_law_1397 rfl (lv_at hl 0 rfl) ?_
  refine lv_iload hx hb dL_law_1398 (lv_at hl 5 rfl) ?_
  refine lv_iconst (v := 4) hx hb dL_law_1400 (by decide) ?_
  refine lv_iadd hx hb dL_law_1401 ?_
  refine n_eqi (y := 4) (by decide) ?_
  refine va_sld hx hb hX hbl hbA hS (n_in (by decide)) dL_law_1402 ?_
  refine n_eqi (y := xs 4) rfl ?_
  refine lv_aload_n hx hb dL_law_1403 rfl (lv_at hl 3 rfl) ?_
  refine n_ci (wr := [(y, .inr (13, [.ref yq1, .ref yq2, .int 0, .ref yq3, .int 0, .int 0, .int 0, .ref yq4, .ref yq5, .int 0, .ref yq6, .int (-1), .ref yq7, .int 0, .ref yq8, .ref yq9, .ref yq10, .ref yq11, .int 0, .int 0, .int 0, .int 0, .ref yq12, .ref yq13, .ref yq14, .ref yq15, .ref yq16])), (yq1, eI G 1191 yf90), (yq3, eI G 9528 (fun _ => 0))]) (vx_runSW (As := [.ref x, .int (xs 1), .int (xs 2), .int (xs 3), .int (xs 4), .ref o]) (rest := []) ⟨hx, hb, hml, hown, hts⟩ (mL_addRule l hl9 G x xq1 xq4 xq25 xq46 xq71 xq75 xq82 xq84 xq48 xf49 xq50 xq51 xq54 xq55 xq56 xf57 xf58 xf59 xq52 xq60 xq53 xq61 xq62 xq63 xq64 (fun _ => 0) (fun _ => 0) (fun _ => 0) (fun _ => 0) xq6 xq7 xq8 xq9 xq10 xq11 xf12 xf13 xf14 xq15 xq16 xq17 xq18 xq19 (fun _ => 0) (fun _ => 0) (fun _ => 0) (fun _ => 0) (xs 1) (xs 2) (xs 3) (xs 4) o (fun _ => 0) H.size hfa3 hfa4 hfa15 hfa0) (vx_cwSW 6 hts gL_law_L_addRule2 rfl rfl rfl (by decide +kernel) ⟨(Nat.le_of_ble_eq_true rfl), (Nat.le_of_ble_eq_true rfl)⟩) (n_prX hK hP hD hS hA [0, 12, 13, 14, 15, 16, 17, 18, 19, 20, 21, 22, 23, 24, 1, 2, 3, 4, 5, 6, 7, 8, 9, 10, 11, 28] rfl (by decide) hE) rfl rfl hl.1 rfl (lv_room (Nat.le_of_ble_eq_true rfl)) dL_law_1404 ⟨(Nat.le_of_ble_eq_true rfl), (Nat.le_of_ble_eq_true rfl)⟩) hP hD hS hA [0, 12, 13, 14, 15, 16, 17, 18, 19, 20, 21, 22, 23, 24, 1, 2, 3, 4, 5, 6, 7, 8, 9, 10, 11, 28] [25, 26, 27] rfl rfl (by decide) (by decide) (fun r_1 f_2 H locs hP hD hS hw => ?_)
  have hP : va_P G.1 vwCl [(y, .inr (13, [.ref yq1, .ref yq2, .int 0, .ref yq3, .int 0, .int 0, .int 0, .ref yq4, .ref yq5, .int 0, .ref yq6, .int (-1), .ref yq7, .int 0, .ref yq8, .ref yq9, .ref yq10, .ref yq11, .int 0, .int 0, .int 0, .int 0, .ref yq12, .ref yq13, .ref yq14, .ref yq15, .ref yq16])), (yq1, eI G 1191 yf90), (yq3, eI G 9528 (fun _ => 0)), (o, eJ G 1 f_2)] H := hP
  have hD : va_D A [(y, .inr (13, [.ref yq1, .ref yq2, .int 0, .ref yq3, .int 0, .int 0, .int 0, .ref yq4, .ref yq5, .int 0, .ref yq6, .int (-1), .ref yq7, .int 0, .ref yq8, .ref yq9, .ref yq10, .ref yq11, .int 0, .int 0, .int 0, .int 0, .ref yq12, .ref yq13, .ref yq14, .ref yq15, .ref yq16])), (yq1, eI G 1191 yf90), (yq3, eI G 9528 (fun _ => 0)), (o, eJ G 1 f_2)] := hD
  obtain ⟨hw, hf_4⟩ := hw
  have hw : r_1 = (nkR (xs 1) (xs 2) (xs 3) (xs 4)) := hw
  subst hw
  try dsimp only
  have hf_4 : nkR (xs 1) (xs 2) (xs 3) (xs 4) = 0 → f_2 0 = (0 : Int32).toInt64 := hf_4
  refine lv_istore (lv' := [(6, .int (nkR (xs 1) (xs 2) (xs 3) (xs 4))), (0, .ref b), (1, .ref x), (2, .ref y), (3, .ref o), (4, .ref od), (5, .int 0)]) hx hb dL_law_1407 hl (by decide) rfl (fun ls hl => ?_)
  refine lv_aload_n hx hb dL_law_1409 rfl (lv_at hl 3 rfl) ?_
  refine lv_aload_n hx hb dL_law_1410 rfl (lv_at hl 1 rfl) ?_
  refine lv_iload hx hb dL_law_1411 (lv_at hl 6 rfl) ?_
  refine lv_iconst (v := 1) hx hb dL_law_1413 (by decide) ?_
  refine lv_iadd hx hb dL_law_1414 ?_
  refine n_eqi (y := 1) (by decide) ?_
  refine va_sld hx hb hX hbl hbA hS (n_in (by decide)) dL_law_1415 ?_
  refine n_eqi (y := xs 1) rfl ?_
  refine lv_aload_n hx hb dL_law_1416 rfl (lv_at hl 1 rfl) ?_
  refine lv_iload hx hb dL_law_1417 (lv_at hl 6 rfl) ?_
  refine lv_iconst (v := 2) hx hb dL_law_1419 (by decide) ?_
  refine lv_iadd hx hb dL_law_1420 ?_
  refine n_eqi (y := 2) (by decide) ?_
  refine va_sld hx hb hX hbl hbA hS (n_in (by decide)) dL_law_1421 ?_
  refine n_eqi (y := xs 2) rfl ?_
  refine lv_aload_n hx hb dL_law_1422 rfl (lv_at hl 1 rfl) ?_
  refine lv_iload hx hb dL_law_1423 (lv_at hl 6 rfl) ?_
  refine lv_iconst (v := 3) hx hb dL_law_1425 (by decide) ?_
  refine lv_iadd hx hb dL_law_1426 ?_
  refine n_eqi (y := 3) (by decide) ?_
  refine va_sld hx hb hX hbl hbA hS (n_in (by decide)) dL_law_1427 ?_
  refine n_eqi (y := xs 3) rfl ?_
  refine lv_aload_n hx hb dL_law_1428 rfl (lv_at hl 1 rfl) ?_
  refine lv_iload hx hb dL_law_1429 (lv_at hl 6 rfl) ?_
  refine lv_iconst (v := 4) hx hb dL_law_1431 (by decide) ?_
  refine lv_iadd hx hb dL_law_1432 ?_
  refine n_eqi (y := 4) (by decide) ?_
  refine va_sld hx hb hX hbl hbA hS (n_in (by decide)) dL_law_1433 ?_
  refine n_eqi (y := xs 4) rfl ?_
  refine n_ci (wr := [(o, eJ G 1 f_2)]) (va_runV (As := [.int (xs 1), .int (xs 2), .int (xs 3), .int (xs 4)]) (rest := []) ⟨hx, hb, hml, hown, hts⟩ (mX12_addRule l G y yq1 yq2 yq3 yq4 yq5 yq6 yq7 yq8 yq9 yq10 yq11 yq12 yq13 yq14 yq15 yq16 0 0 0 0 (-1) 0 0 0 0 0 yf90 (fun _ => 0) (xs 1) (xs 2) (xs 3) (xs 4) H.size hfa16) (cwV 4 hts gL_law_X12_addRule rfl rfl rfl (by decide +kernel) ⟨(Nat.le_of_ble_eq_true rfl), (Nat.le_of_ble_eq_true rfl)⟩) (n_prV (ci := 13) (q0 := 0) hK hP hD [0, 1, 2] rfl (by decide) rfl rfl) rfl rfl hl.1 rfl (lv_room (Nat.le_of_ble_eq_true rfl)) dL_law_1434 ⟨(Nat.le_of_ble_eq_true rfl), (Nat.le_of_ble_eq_true rfl)⟩) hP hD hS hA [0, 1, 2] [3] rfl rfl (by decide) (by decide) (fun r_5 u_6 H locs hP hD hS hw => ?_)
  obtain ⟨k_7, k_8⟩ := u_6
  have hP : va_P G.1 vwCl [(o, eJ G 1 f_2), (y, .inr (13, [.ref yq1, .ref yq2, .int 0, .ref yq3, .int k_8, .int k_7, .int 0, .ref yq4, .ref yq5, .int 0, .ref yq6, .int (-1), .ref yq7, .int 0, .ref yq8, .ref yq9, .ref yq10, .ref yq11, .int 0, .int 0, .int 0, .int 0, .ref yq12, .ref yq13, .ref yq14, .ref yq15, .ref yq16]))] H := hP
  have hD : va_D A [(o, eJ G 1 f_2), (y, .inr (13, [.ref yq1, .ref yq2, .int 0, .ref yq3, .int k_8, .int k_7, .int 0, .ref yq4, .ref yq5, .int 0, .ref yq6, .int (-1), .ref yq7, .int 0, .ref yq8, .ref yq9, .ref yq10, .ref yq11, .int 0, .int 0, .int 0, .int 0, .ref yq12, .ref yq13, .ref yq14, .ref yq15, .ref yq16]))] := hD
  have hr_9 : (k_7 = nkR (xs 1) (xs 2) (xs 3) (xs 4) ∧ (k_7 = 0 → r_5 = 0)) := hw
  obtain ⟨hk_11, hv_10⟩ := hr_9
  subst hk_11
  refine lv_istore (lv' := [(7, .int r_5), (6, .int (nkR (xs 1) (xs 2) (xs 3) (xs 4))), (0, .ref b), (1, .ref x), (2, .ref y), (3, .ref o), (4, .ref od), (5, .int 0)]) hx hb dL_law_1437 hl (by decide) rfl (fun ls hl => ?_)
  refine lv_aload_n hx hb dL_law_1439 rfl (lv_at hl 4 rfl) ?_
  refine n_ci (wr := [(o, eJ G 1 f_2)]) (va_runV (As := []) (rest := []) ⟨hx, hb, hml, hown, hts⟩ (mX12_thrown l G y yq1 yq2 yq3 yq4 yq5 yq6 yq7 yq8 yq9 yq10 yq11 yq12 yq13 yq14 yq15 yq16 0 k_8 (nkR (xs 1) (xs 2) (xs 3) (xs 4)) 0 0 (-1) 0 0 0 0 0 H.size) (cwV 0 hts gL_law_X12_thrown rfl rfl rfl (by decide +kernel) ⟨(Nat.le_of_ble_eq_true rfl), (Nat.le_of_ble_eq_true rfl)⟩) (n_prV (ci := 13) (q0 := 1) hK hP hD [1] rfl (by decide) rfl rfl) rfl rfl hl.1 rfl (lv_room (Nat.le_of_ble_eq_true rfl)) dL_law_1440 ⟨(Nat.le_of_ble_eq_true rfl), (Nat.le_of_ble_eq_true rfl)⟩) hP hD hS hA [1] [0] rfl rfl (by decide) (by decide) (fun r_12 u_13 H locs hP hD hS hw => ?_)
  have hP : va_P G.1 vwCl [(o, eJ G 1 f_2), (y, .inr (13, [.ref yq1, .ref yq2, .int 0, .ref yq3, .int k_8, .int (nkR (xs 1) (xs 2) (xs 3) (xs 4)), .int 0, .ref yq4, .ref yq5, .int 0, .ref yq6, .int (-1), .ref yq7, .int 0, .ref yq8, .ref yq9, .ref yq10, .ref yq11, .int 0, .int 0, .int 0, .int 0, .ref yq12, .ref yq13, .ref yq14, .ref yq15, .ref yq16]))] H := hP
  have hD : va_D A [(o, eJ G 1 f_2), (y, .inr (13, [.ref yq1, .ref yq2, .int 0, .ref yq3, .int k_8, .int (nkR (xs 1) (xs 2) (xs 3) (xs 4)), .int 0, .ref yq4, .ref yq5, .int 0, .ref yq6, .int (-1), .ref yq7, .int 0, .ref yq8, .ref yq9, .ref yq10, .ref yq11, .int 0, .int 0, .int 0, .int 0, .ref yq12, .ref yq13, .ref yq14, .ref yq15, .ref yq16]))] := hD
  have hw : r_12 = (nkR (xs 1) (xs 2) (xs 3) (xs 4)) := hw
  subst hw
  try dsimp only
  refine lv_iload hx hb dL_law_1443 (lv_at hl 1 rfl) ?_
  refine lv_icmp_eq (tgt := 1450) hx hb dL_law_1445 (by decide) (fun _ => ?_) (fun h9 => absurd rfl h9)
  refine lv_iload hx hb dL_law_1450 (lv_at hl 1 rfl) ?_
  refine lv_if_ne (tgt := 1467) hx hb dL_law_1452 (by decide) (fun c_1452 => ?_) (fun c_1452 => ?_)
  · skip
    refine lv_goto (tgt := 2342) hx hb dL_law_1467 (by decide) ?_
    refine W.widen (k := 2000) (n := 60000) (Nat.le_of_ble_eq_true rfl) (Nat.le_of_ble_eq_true rfl) ?_
    exact hend H locs ls hS (lv_sub hl [2, 7] rfl)
  · skip
    refine lv_aload_n hx hb dL_law_1455 rfl (lv_at hl 5 rfl) ?_
    refine lv_iconst (v := 0) hx hb dL_law_1456 (by decide) ?_
    refine va_lald hx hb hK hP 0 2 rfl rfl (n_in (by decide)) dL_law_1457 ?_
    refine n_eql (y := ((0 : Int32).toInt64)) (hf_4 c_1452) ?_
    refine lv_iload hx hb dL_law_1458 (lv_at hl 0 rfl) ?_
    refine lv_i2l (v := (r_5 : Int32).toInt64) hx hb dL_law_1460 rfl ?_
    refine W.lcmp hx hb dL_law_1461 ?_
    refine n_eqi (y := 0) (by rw [hv_10 c_1452]; exact n_lg _) ?_
    refine lv_if_eq (tgt := 1467) hx hb dL_law_1462 (by decide) (fun _ => ?_) (fun h9 => absurd (by decide) h9)
    refine lv_goto (tgt := 2342) hx hb dL_law_1467 (by decide) ?_
    refine W.widen (k := 2000) (n := 60000) (Nat.le_of_ble_eq_true rfl) (Nat.le_of_ble_eq_true rfl) ?_
    exact hend H locs ls hS (lv_sub hl [2, 7] rfl)

set_option maxHeartbeats 8000000 in
set_option maxRecDepth 100000 in
theorem law_c19 {p : Program} {l : Launch} {e : Env} {s : State} {m : MethodId} {below : List Frame} {meth : Method} {c : Code} {args : Array Value} {Q : State → Prop} {A : Nat → Prop} (hl9 : l.stackTraces = false) (G : nG) (x : Nat) (xq1 : Nat) (xq4 : Nat) (xq25 : Nat) (xq46 : Nat) (xq71 : Nat) (xq75 : Nat) (xq82 : Nat) (xq84 : Nat) (xq6 : Nat) (xq7 : Nat) (xq8 : Nat) (xq16 : Nat) (xq17 : Nat) (xq18 : Nat) (xq19 : Nat) (y : Nat) (yq1 : Nat) (yq2 : Nat) (yq3 : Nat) (yq4 : Nat) (yq5 : Nat) (yq6 : Nat) (yq7 : Nat) (yq8 : Nat) (yq9 : Nat) (yq10 : Nat) (yq11 : Nat) (yq12 : Nat) (yq13 : Nat) (yq14 : Nat) (yq15 : Nat) (yq16 : Nat) (yf90 : Nat → Int32) (o : Nat) (od : Nat) (b : Nat) (xs : Nat → Int32) (hx : p.tables.exec = Jvm.exec) (hb : c.code = cL_law) (hml : c.maxLocals = 9) (hown : s.vm.findClass RL = some m.cls) (hts : ∀ w ∈ wsL_law, w.before args s = true) (hX : va_X b 5 xs s s.heap) (hbl : b < s.heap.size) (hbA : ¬ A b) (hA : ∀ q : Nat, s.heap.size ≤ q → A q) (hK : va_K G.1 vwCl (n_ty G) s) (hE : n_ex A s s.heap) (hfa16 : nMod yf90)
    (hend : ∀ (H : Heap) (locs : List Loc) (ls : Array Slot), va_S A s.heap H locs → lv_has ls 9 [(0, .ref b), (5, .int 0)] → W p l e room_1 s m args below meth c H locs 2000 60000 Q (F0 m 2342 ls []))
    (H : Heap) (locs : List Loc) (ls : Array Slot) (hP : va_P G.1 vwCl [(x, .inr (12, [.ref xq1, .ref xq4, .ref xq25, .ref xq46, .ref xq71, .ref xq75, .ref xq82, .ref xq84, .int 0])), (xq4, .inr (5, [.ref xq6, .ref xq7, .ref xq8])), (xq8, .inr (11, [.ref xq16, .ref xq17, .ref xq18, .ref xq19, .int 0])), (y, .inr (13, [.ref yq1, .ref yq2, .int 0, .ref yq3, .int 0, .int 0, .int 0, .ref yq4, .ref yq5, .int 0, .ref yq6, .int (-1), .ref yq7, .int 0, .ref yq8, .ref yq9, .ref yq10, .ref yq11, .int 0, .int 0, .int 0, .int 0, .ref yq12, .ref yq13, .ref yq14, .ref yq15, .ref yq16])), (yq1, eI G 1191 yf90), (o, eJ G 1 (fun _ => 0))] H) (hD : va_D A [(x, .inr (12, [.ref xq1, .ref xq4, .ref xq25, .ref xq46, .ref xq71, .ref xq75, .ref xq82, .ref xq84, .int 0])), (xq4, .inr (5, [.ref xq6, .ref xq7, .ref xq8])), (xq8, .inr (11, [.ref xq16, .ref xq17, .ref xq18, .ref xq19, .int 0])), (y, .inr (13, [.ref yq1, .ref yq2, .int 0, .ref yq3, .int 0, .int 0, .int 0, .ref yq4, .ref yq5, .int 0, .ref yq6, .int (-1), .ref yq7, .int 0, .ref yq8, .ref yq9, .ref yq10, .ref yq11, .int 0, .int 0, .int 0, .int 0, .ref yq12, .ref yq13, .ref yq14, .ref yq15, .ref yq16])), (yq1, eI G 1191 yf90), (o, eJ G 1 (fun _ => 0))]) (hS : va_S A s.heap H locs) (hl : lv_has ls 9 [(0, .ref b), (1, .ref x), (2, .ref y), (3, .ref o), (4, .ref od), (5, .int 0)]) : W p l e room_1 s m args below meth c H locs 609 18141 Q (F0 m 1470 ls []) := by
  refine lv_aload_n hx hb dL_law_1470 rfl (lv_at hl 1 rfl) ?_
  refine lv_aload_n hx hb dL_law_1471 rfl (lv_at hl 0 rfl) ?_
  refine lv_iload hx hb dL_law_1472 (lv_at hl 5 rfl) ?_
  refine lv_iconst (v := 1) hx hb dL_law_1474 (by decide) ?_
  refine lv_iadd hx hb dL_law_1475 ?_
  refine n_eqi (y := 1) (by decide) ?_
  refine va_sld hx hb hX hbl hbA hS (n_in (by decide)) dL_law_1476 ?_
  refine n_eqi (y := xs 1) rfl ?_
  refine lv_aload_n hx hb dL_law_1477 rfl (lv_at hl 0 rfl) ?_
  refine lv_iload hx hb dL_law_1478 (lv_at hl 5 rfl) ?_
  refine lv_iconst (v := 2) hx hb dL_law_1480 (by decide) ?_
  refine lv_iadd hx hb dL_law_1481 ?_
  refine n_eqi (y := 2) (by decide) ?_
  refine va_sld hx hb hX hbl hbA hS (n_in (by decide)) dL_law_1482 ?_
  refine n_eqi (y := xs 2) rfl ?_
  refine lv_aload_n hx hb dL_law_1483 rfl (lv_at hl 3 rfl) ?_
  refine n_ci (wr := [(y, .inr (13, [.ref yq1, .ref yq2, .int 0, .ref yq3, .int 0, .int 0, .int 0, .ref yq4, .ref yq5, .int 0, .ref yq6, .int (-1), .ref yq7, .int 0, .ref yq8, .ref yq9, .ref yq10, .ref yq11, .int 0, .int 0, .int 0, .int 0, .ref yq12, .ref yq13, .ref yq14, .ref yq15, .ref yq16])), (yq1, eI G 1191 yf90)]) (vx_runSW (As := [.ref x, .int (xs 1), .int (xs 2), .ref o]) (rest := []) ⟨hx, hb, hml, hown, hts⟩ (mL_exchange l hl9 G x xq1 xq4 xq25 xq46 xq71 xq75 xq82 xq84 xq6 xq7 xq8 xq16 xq17 xq18 xq19 (xs 1) (xs 2) o (fun _ => 0) H.size) (vx_cwSW 4 hts gL_law_L_exchange rfl rfl rfl (by decide +kernel) ⟨(Nat.le_of_ble_eq_true rfl), (Nat.le_of_ble_eq_true rfl)⟩) (n_prX hK hP hD hS hA [0, 1, 2, 5] rfl (by decide) hE) rfl rfl hl.1 rfl (lv_room (Nat.le_of_ble_eq_true rfl)) dL_law_1484 ⟨(Nat.le_of_ble_eq_true rfl), (Nat.le_of_ble_eq_true rfl)⟩) hP hD hS hA [0, 1, 2, 5] [3, 4] rfl rfl (by decide) (by decide) (fun r_1 u_2 H locs hP hD hS hw => ?_)
  have hP : va_P G.1 vwCl [(y, .inr (13, [.ref yq1, .ref yq2, .int 0, .ref yq3, .int 0, .int 0, .int 0, .ref yq4, .ref yq5, .int 0, .ref yq6, .int (-1), .ref yq7, .int 0, .ref yq8, .ref yq9, .ref yq10, .ref yq11, .int 0, .int 0, .int 0, .int 0, .ref yq12, .ref yq13, .ref yq14, .ref yq15, .ref yq16])), (yq1, eI G 1191 yf90), (o, eJ G 1 (fun _ => 0))] H := hP
  have hD : va_D A [(y, .inr (13, [.ref yq1, .ref yq2, .int 0, .ref yq3, .int 0, .int 0, .int 0, .ref yq4, .ref yq5, .int 0, .ref yq6, .int (-1), .ref yq7, .int 0, .ref yq8, .ref yq9, .ref yq10, .ref yq11, .int 0, .int 0, .int 0, .int 0, .ref yq12, .ref yq13, .ref yq14, .ref yq15, .ref yq16])), (yq1, eI G 1191 yf90), (o, eJ G 1 (fun _ => 0))] := hD
  have hw : r_1 = 1 := hw
  subst hw
  refine lv_istore (lv' := [(6, .int 1), (0, .ref b), (1, .ref x), (2, .ref y), (3, .ref o), (4, .ref od), (5, .int 0)]) hx hb dL_law_1487 hl (by decide) rfl (fun ls hl => ?_)
  refine lv_aload_n hx hb dL_law_1489 rfl (lv_at hl 3 rfl) ?_
  refine lv_aload_n hx hb dL_law_1490 rfl (lv_at hl 1 rfl) ?_
  refine lv_iload hx hb dL_law_1491 (lv_at hl 6 rfl) ?_
  refine lv_iconst (v := 1) hx hb dL_law_1493 (by decide) ?_
  refine lv_iadd hx hb dL_law_1494 ?_
  refine n_eqi (y := 1) (by decide) ?_
  refine va_sld hx hb hX hbl hbA hS (n_in (by decide)) dL_law_1495 ?_
  refine n_eqi (y := xs 1) rfl ?_
  refine lv_aload_n hx hb dL_law_1496 rfl (lv_at hl 1 rfl) ?_
  refine lv_iload hx hb dL_law_1497 (lv_at hl 6 rfl) ?_
  refine lv_iconst (v := 2) hx hb dL_law_1499 (by decide) ?_
  refine lv_iadd hx hb dL_law_1500 ?_
  refine n_eqi (y := 2) (by decide) ?_
  refine va_sld hx hb hX hbl hbA hS (n_in (by decide)) dL_law_1501 ?_
  refine n_eqi (y := xs 2) rfl ?_
  refine n_ci (wr := [(o, eJ G 1 (fun _ => 0))]) (va_runV (As := [.int (xs 1), .int (xs 2)]) (rest := []) ⟨hx, hb, hml, hown, hts⟩ (mX12_exchange l G y yq1 yq2 yq3 yq4 yq5 yq6 yq7 yq8 yq9 yq10 yq11 yq12 yq13 yq14 yq15 yq16 0 0 0 0 0 (-1) 0 0 0 0 0 yf90 (xs 1) (xs 2) H.size hfa16) (cwV 2 hts gL_law_X12_exchange rfl rfl rfl (by decide +kernel) ⟨(Nat.le_of_ble_eq_true rfl), (Nat.le_of_ble_eq_true rfl)⟩) (n_prV (ci := 13) (q0 := 0) hK hP hD [0, 1] rfl (by decide) rfl rfl) rfl rfl hl.1 rfl (lv_room (Nat.le_of_ble_eq_true rfl)) dL_law_1502 ⟨(Nat.le_of_ble_eq_true rfl), (Nat.le_of_ble_eq_true rfl)⟩) hP hD hS hA [0, 1] [2] rfl rfl (by decide) (by decide) (fun r_3 u_4 H locs hP hD hS hw => ?_)
  have hP : va_P G.1 vwCl [(o, eJ G 1 (fun _ => 0)), (y, .inr (13, [.ref yq1, .ref yq2, .int 0, .ref yq3, .int 0, .int 1, .int 0, .ref yq4, .ref yq5, .int 0, .ref yq6, .int (-1), .ref yq7, .int 0, .ref yq8, .ref yq9, .ref yq10, .ref yq11, .int 0, .int 0, .int 0, .int 0, .ref yq12, .ref yq13, .ref yq14, .ref yq15, .ref yq16]))] H := hP
  have hD : va_D A [(o, eJ G 1 (fun _ => 0)), (y, .inr (13, [.ref yq1, .ref yq2, .int 0, .ref yq3, .int 0, .int 1, .int 0, .ref yq4, .ref yq5, .int 0, .ref yq6, .int (-1), .ref yq7, .int 0, .ref yq8, .ref yq9, .ref yq10, .ref yq11, .int 0, .int 0, .int 0, .int 0, .ref yq12, .ref yq13, .ref yq14, .ref yq15, .ref yq16]))] := hD
  have hw : r_3 = 0 := hw
  subst hw
  refine lv_istore (lv' := [(7, .int 0), (6, .int 1), (0, .ref b), (1, .ref x), (2, .ref y), (3, .ref o), (4, .ref od), (5, .int 0)]) hx hb dL_law_1505 hl (by decide) rfl (fun ls hl => ?_)
  refine lv_aload_n hx hb dL_law_1507 rfl (lv_at hl 4 rfl) ?_
  refine n_ci (wr := [(o, eJ G 1 (fun _ => 0))]) (va_runV (As := []) (rest := []) ⟨hx, hb, hml, hown, hts⟩ (mX12_thrown l G y yq1 yq2 yq3 yq4 yq5 yq6 yq7 yq8 yq9 yq10 yq11 yq12 yq13 yq14 yq15 yq16 0 0 1 0 0 (-1) 0 0 0 0 0 H.size) (cwV 0 hts gL_law_X12_thrown rfl rfl rfl (by decide +kernel) ⟨(Nat.le_of_ble_eq_true rfl), (Nat.le_of_ble_eq_true rfl)⟩) (n_prV (ci := 13) (q0 := 1) hK hP hD [1] rfl (by decide) rfl rfl) rfl rfl hl.1 rfl (lv_room (Nat.le_of_ble_eq_true rfl)) dL_law_1508 ⟨(Nat.le_of_ble_eq_true rfl), (Nat.le_of_ble_eq_true rfl)⟩) hP hD hS hA [1] [0] rfl rfl (by decide) (by decide) (fun r_5 u_6 H locs hP hD hS hw => ?_)
  have hP : va_P G.1 vwCl [(o, eJ G 1 (fun _ => 0)), (y, .inr (13, [.ref yq1, .ref yq2, .int 0, .ref yq3, .int 0, .int 1, .int 0, .ref yq4, .ref yq5, .int 0, .ref yq6, .int (-1), .ref yq7, .int 0, .ref yq8, .ref yq9, .ref yq10, .ref yq11, .int 0, .int 0, .int 0, .int 0, .ref yq12, .ref yq13, .ref yq14, .ref yq15, .ref yq16]))] H := hP
  have hD : va_D A [(o, eJ G 1 (fun _ => 0)), (y, .inr (13, [.ref yq1, .ref yq2, .int 0, .ref yq3, .int 0, .int 1, .int 0, .ref yq4, .ref yq5, .int 0, .ref yq6, .int (-1), .ref yq7, .int 0, .ref yq8, .ref yq9, .ref yq10, .ref yq11, .int 0, .int 0, .int 0, .int 0, .ref yq12, .ref yq13, .ref yq14, .ref yq15, .ref yq16]))] := hD
  have hw : r_5 = 1 := hw
  subst hw
  refine lv_iload hx hb dL_law_1511 (lv_at hl 1 rfl) ?_
  refine lv_icmp_eq (tgt := 1518) hx hb dL_law_1513 (by decide) (fun _ => ?_) (fun h9 => absurd (by decide) h9)
  refine lv_iload hx hb dL_law_1518 (lv_at hl 1 rfl) ?_
  refine lv_if_ne (tgt := 1535) hx hb dL_law_1520 (by decide) (fun _ => ?_) (fun h9 => absurd h9 (by decide))
  refine lv_goto (tgt := 2342) hx hb dL_law_1535 (by decide) ?_
  refine W.widen (k := 2000) (n := 60000) (Nat.le_of_ble_eq_true rfl) (Nat.le_of_ble_eq_true rfl) ?_
  exact hend H locs ls hS (lv_sub hl [2, 7] rfl)

set_option maxHeartbeats 8000000 in
set_option maxRecDepth 100000 in
theorem law_c20 {p : Program} {l : Launch} {e : Env} {s : State} {m : MethodId} {below : List Frame} {meth : Method} {c : Code} {args : Array Value} {Q : State → Prop} {A : Nat → Prop} (hl9 : l.stackTraces = false) (G : nG) (x : Nat) (xq1 : Nat) (xq4 : Nat) (xq25 : Nat) (xq46 : Nat) (xq71 : Nat) (xq75 : Nat) (xq82 : Nat) (xq84 : Nat) (xq6 : Nat) (xq7 : Nat) (xq8 : Nat) (xq16 : Nat) (xq17 : Nat) (xq18 : Nat) (xq19 : Nat) (y : Nat) (yq1 : Nat) (yq2 : Nat) (yq3 : Nat) (yq4 : Nat) (yq5 : Nat) (yq6 : Nat) (yq7 : Nat) (yq8 : Nat) (yq9 : Nat) (yq10 : Nat) (yq11 : Nat) (yq12 : Nat) (yq13 : Nat) (yq14 : Nat) (yq15 : Nat) (yq16 : Nat) (yf90 : Nat → Int32) (o : Nat) (od : Nat) (b : Nat) (xs : Nat → Int32) (hx : p.tables.exec = Jvm.exec) (hb : c.code = cL_law) (hml : c.maxLocals = 9) (hown : s.vm.findClass RL = some m.cls) (hts : ∀ w ∈ wsL_law, w.before args s = true) (hX : va_X b 5 xs s s.heap) (hbl : b < s.heap.size) (hbA : ¬ A b) (hA : ∀ q : Nat, s.heap.size ≤ q → A q) (hK : va_K G.1 vwCl (n_ty G) s) (hE : n_ex A s s.heap) (hfa16 : nMod yf90)
    (hend : ∀ (H : Heap) (locs : List Loc) (ls : Array Slot), va_S A s.heap H locs → lv_has ls 9 [(0, .ref b), (5, .int 0)] → W p l e room_1 s m args below meth c H locs 2000 60000 Q (F0 m 2342 ls []))
    (H : Heap) (locs : List Loc) (ls : Array Slot) (hP : va_P G.1 vwCl [(x, .inr (12, [.ref xq1, .ref xq4, .ref xq25, .ref xq46, .ref xq71, .ref xq75, .ref xq82, .ref xq84, .int 0])), (xq4, .inr (5, [.ref xq6, .ref xq7, .ref xq8])), (xq8, .inr (11, [.ref xq16, .ref xq17, .ref xq18, .ref xq19, .int 0])), (y, .inr (13, [.ref yq1, .ref yq2, .int 0, .ref yq3, .int 0, .int 0, .int 0, .ref yq4, .ref yq5, .int 0, .ref yq6, .int (-1), .ref yq7, .int 0, .ref yq8, .ref yq9, .ref yq10, .ref yq11, .int 0, .int 0, .int 0, .int 0, .ref yq12, .ref yq13, .ref yq14, .ref yq15, .ref yq16])), (yq1, eI G 1191 yf90), (o, eJ G 1 (fun _ => 0))] H) (hD : va_D A [(x, .inr (12, [.ref xq1, .ref xq4, .ref xq25, .ref xq46, .ref xq71, .ref xq75, .ref xq82, .ref xq84, .int 0])), (xq4, .inr (5, [.ref xq6, .ref xq7, .ref xq8])), (xq8, .inr (11, [.ref xq16, .ref xq17, .ref xq18, .ref xq19, .int 0])), (y, .inr (13, [.ref yq1, .ref yq2, .int 0, .ref yq3, .int 0, .int 0, .int 0, .ref yq4, .ref yq5, .int 0, .ref yq6, .int (-1), .ref yq7, .int 0, .ref yq8, .ref yq9, .ref yq10, .ref yq11, .int 0, .int 0, .int 0, .int 0, .ref yq12, .ref yq13, .ref yq14, .ref yq15, .ref yq16])), (yq1, eI G 1191 yf90), (o, eJ G 1 (fun _ => 0))]) (hS : va_S A s.heap H locs) (hl : lv_has ls 9 [(0, .ref b), (1, .ref x), (2, .ref y), (3, .ref o), (4, .ref od), (5, .int 0)]) : W p l e room_1 s m args below meth c H locs 609 18141 Q (F0 m 1538 ls []) := by
  refine lv_aload_n hx hb dL_law_1538 rfl (lv_at hl 1 rfl) ?_
  refine lv_aload_n hx hb dL_law_1539 rfl (lv_at hl 0 rfl) ?_
  refine lv_iload hx hb dL_law_1540 (lv_at hl 5 rfl) ?_
  refine lv_iconst (v := 1) hx hb dL_law_1542 (by decide) ?_
  refine lv_iadd hx hb dL_law_1543 ?_
  refine n_eqi (y := 1) (by decide) ?_
  refine va_sld hx hb hX hbl hbA hS (n_in (by decide)) dL_law_1544 ?_
  refine n_eqi (y := xs 1) rfl ?_
  refine lv_aload_n hx hb dL_law_1545 rfl (lv_at hl 3 rfl) ?_
  refine n_ci (wr := [(y, .inr (13, [.ref yq1, .ref yq2, .int 0, .ref yq3, .int 0, .int 0, .int 0, .ref yq4, .ref yq5, .int 0, .ref yq6, .int (-1), .ref yq7, .int 0, .ref yq8, .ref yq9, .ref yq10, .ref yq11, .int 0, .int 0, .int 0, .int 0, .ref yq12, .ref yq13, .ref yq14, .ref yq15, .ref yq16])), (yq1, eI G 1191 yf90)]) (vx_runSW (As := [.ref x, .int (xs 1), .ref o]) (rest := []) ⟨hx, hb, hml, hown, hts⟩ (mL_removeRule l hl9 G x xq1 xq4 xq25 xq46 xq71 xq75 xq82 xq84 xq6 xq7 xq8 xq16 xq17 xq18 xq19 (xs 1) o (fun _ => 0) H.size) (vx_cwSW 3 hts gL_law_L_removeRule rfl rfl rfl (by decide +kernel) ⟨(Nat.le_of_ble_eq_true rfl), (Nat.le_of_ble_eq_true rfl)⟩) (n_prX hK hP hD hS hA [0, 1, 2, 5] rfl (by decide) hE) rfl rfl hl.1 rfl (lv_room (Nat.le_of_ble_eq_true rfl)) dL_law_1546 ⟨(Nat.le_of_ble_eq_true rfl), (Nat.le_of_ble_eq_true rfl)⟩) hP hD hS hA [0, 1, 2, 5] [3, 4] rfl rfl (by decide) (by decide) (fun r_1 u_2 H locs hP hD hS hw => ?_)
  have hP : va_P G.1 vwCl [(y, .inr (13, [.ref yq1, .ref yq2, .int 0, .ref yq3, .int 0, .int 0, .int 0, .ref yq4, .ref yq5, .int 0, .ref yq6, .int (-1), .ref yq7, .int 0, .ref yq8, .ref yq9, .ref yq10, .ref yq11, .int 0, .int 0, .int 0, .int 0, .ref yq12, .ref yq13, .ref yq14, .ref yq15, .ref yq16])), (yq1, eI G 1191 yf90), (o, eJ G 1 (fun _ => 0))] H := hP
  have hD : va_D A [(y, .inr (13, [.ref yq1, .ref yq2, .int 0, .ref yq3, .int 0, .int 0, .int 0, .ref yq4, .ref yq5, .int 0, .ref yq6, .int (-1), .ref yq7, .int 0, .ref yq8, .ref yq9, .ref yq10, .ref yq11, .int 0, .int 0, .int 0, .int 0, .ref yq12, .ref yq13, .ref yq14, .ref yq15, .ref yq16])), (yq1, eI G 1191 yf90), (o, eJ G 1 (fun _ => 0))] := hD
  have hw : r_1 = 1 := hw
  subst hw
  refine lv_istore (lv' := [(6, .int 1), (0, .ref b), (1, .ref x), (2, .ref y), (3, .ref o), (4, .ref od), (5, .int 0)]) hx hb dL_law_1549 hl (by decide) rfl (fun ls hl => ?_)
  refine lv_aload_n hx hb dL_law_1551 rfl (lv_at hl 3 rfl) ?_
  refine lv_aload_n hx hb dL_law_1552 rfl (lv_at hl 1 rfl) ?_
  refine lv_iload hx hb dL_law_1553 (lv_at hl 6 rfl) ?_
  refine lv_iconst (v := 1) hx hb dL_law_1555 (by decide) ?_
  refine lv_iadd hx hb dL_law_1556 ?_
  refine n_eqi (y := 1) (by decide) ?_
  refine va_sld hx hb hX hbl hbA hS (n_in (by decide)) dL_law_1557 ?_
  refine n_eqi (y := xs 1) rfl ?_
  refine n_ci (wr := [(o, eJ G 1 (fun _ => 0))]) (va_runV (As := [.int (xs 1)]) (rest := []) ⟨hx, hb, hml, hown, hts⟩ (mX12_removeRule l G y yq1 yq2 yq3 yq4 yq5 yq6 yq7 yq8 yq9 yq10 yq11 yq12 yq13 yq14 yq15 yq16 0 0 0 0 0 (-1) 0 0 0 0 0 yf90 (xs 1) H.size hfa16) (cwV 1 hts gL_law_X12_removeRule rfl rfl rfl (by decide +kernel) ⟨(Nat.le_of_ble_eq_true rfl), (Nat.le_of_ble_eq_true rfl)⟩) (n_prV (ci := 13) (q0 := 0) hK hP hD [0, 1] rfl (by decide) rfl rfl) rfl rfl hl.1 rfl (lv_room (Nat.le_of_ble_eq_true rfl)) dL_law_1558 ⟨(Nat.le_of_ble_eq_true rfl), (Nat.le_of_ble_eq_true rfl)⟩) hP hD hS hA [0, 1] [2] rfl rfl (by decide) (by decide) (fun r_3 u_4 H locs hP hD hS hw => ?_)
  have hP : va_P G.1 vwCl [(o, eJ G 1 (fun _ => 0)), (y, .inr (13, [.ref yq1, .ref yq2, .int 0, .ref yq3, .int 0, .int 1, .int 0, .ref yq4, .ref yq5, .int 0, .ref yq6, .int (-1), .ref yq7, .int 0, .ref yq8, .ref yq9, .ref yq10, .ref yq11, .int 0, .int 0, .int 0, .int 0, .ref yq12, .ref yq13, .ref yq14, .ref yq15, .ref yq16]))] H := hP
  have hD : va_D A [(o, eJ G 1 (fun _ => 0)), (y, .inr (13, [.ref yq1, .ref yq2, .int 0, .ref yq3, .int 0, .int 1, .int 0, .ref yq4, .ref yq5, .int 0, .ref yq6, .int (-1), .ref yq7, .int 0, .ref yq8, .ref yq9, .ref yq10, .ref yq11, .int 0, .int 0, .int 0, .int 0, .ref yq12, .ref yq13, .ref yq14, .ref yq15, .ref yq16]))] := hD
  have hw : r_3 = 0 := hw
  subst hw
  refine lv_istore (lv' := [(7, .int 0), (6, .int 1), (0, .ref b), (1, .ref x), (2, .ref y), (3, .ref o), (4, .ref od), (5, .int 0)]) hx hb dL_law_1561 hl (by decide) rfl (fun ls hl => ?_)
  refine lv_aload_n hx hb dL_law_1563 rfl (lv_at hl 4 rfl) ?_
  refine n_ci (wr := [(o, eJ G 1 (fun _ => 0))]) (va_runV (As := []) (rest := []) ⟨hx, hb, hml, hown, hts⟩ (mX12_thrown l G y yq1 yq2 yq3 yq4 yq5 yq6 yq7 yq8 yq9 yq10 yq11 yq12 yq13 yq14 yq15 yq16 0 0 1 0 0 (-1) 0 0 0 0 0 H.size) (cwV 0 hts gL_law_X12_thrown rfl rfl rfl (by decide +kernel) ⟨(Nat.le_of_ble_eq_true rfl), (Nat.le_of_ble_eq_true rfl)⟩) (n_prV (ci := 13) (q0 := 1) hK hP hD [1] rfl (by decide) rfl rfl) rfl rfl hl.1 rfl (lv_room (Nat.le_of_ble_eq_true rfl)) dL_law_1564 ⟨(Nat.le_of_ble_eq_true rfl), (Nat.le_of_ble_eq_true rfl)⟩) hP hD hS hA [1] [0] rfl rfl (by decide) (by decide) (fun r_5 u_6 H locs hP hD hS hw => ?_)
  have hP : va_P G.1 vwCl [(o, eJ G 1 (fun _ => 0)), (y, .inr (13, [.ref yq1, .ref yq2, .int 0, .ref yq3, .int 0, .int 1, .int 0, .ref yq4, .ref yq5, .int 0, .ref yq6, .int (-1), .ref yq7, .int 0, .ref yq8, .ref yq9, .ref yq10, .ref yq11, .int 0, .int 0, .int 0, .int 0, .ref yq12, .ref yq13, .ref yq14, .ref yq15, .ref yq16]))] H := hP
  have hD : va_D A [(o, eJ G 1 (fun _ => 0)), (y, .inr (13, [.ref yq1, .ref yq2, .int 0, .ref yq3, .int 0, .int 1, .int 0, .ref yq4, .ref yq5, .int 0, .ref yq6, .int (-1), .ref yq7, .int 0, .ref yq8, .ref yq9, .ref yq10, .ref yq11, .int 0, .int 0, .int 0, .int 0, .ref yq12, .ref yq13, .ref yq14, .ref yq15, .ref yq16]))] := hD
  have hw : r_5 = 1 := hw
  subst hw
  refine lv_iload hx hb dL_law_1567 (lv_at hl 1 rfl) ?_
  refine lv_icmp_eq (tgt := 1574) hx hb dL_law_1569 (by decide) (fun _ => ?_) (fun h9 => absurd (by decide) h9)
  refine lv_iload hx hb dL_law_1574 (lv_at hl 1 rfl) ?_
  refine lv_if_ne (tgt := 1591) hx hb dL_law_1576 (by decide) (fun _ => ?_) (fun h9 => absurd h9 (by decide))
  refine lv_goto (tgt := 2342) hx hb dL_law_1591 (by decide) ?_
  refine W.widen (k := 2000) (n := 60000) (Nat.le_of_ble_eq_true rfl) (Nat.le_of_ble_eq_true rfl) ?_
  exact hend H locs ls hS (lv_sub hl [2, 7] rfl)

set_option maxHeartbeats 8000000 in
set_option maxRecDepth 100000 in
theorem law_c21 {p : Program} {l : Launch} {e : Env} {s : State} {m : MethodId} {below : List Frame} {meth : Method} {c : Code} {args : Array Value} {Q : State → Prop} {A : Nat → Prop} (hl9 : l.stackTraces = false) (G : nG) (x : Nat) (xq1 : Nat) (xq4 : Nat) (xq25 : Nat) (xq46 : Nat) (xq71 : Nat) (xq75 : Nat) (xq82 : Nat) (xq84 : Nat) (xq6 : Nat) (xq7 : Nat) (xq8 : Nat) (xq16 : Nat) (xq17 : Nat) (xq18 : Nat) (xq19 : Nat) (y : Nat) (yq1 : Nat) (yq2 : Nat) (yq3 : Nat) (yq4 : Nat) (yq5 : Nat) (yq6 : Nat) (yq7 : Nat) (yq8 : Nat) (yq9 : Nat) (yq10 : Nat) (yq11 : Nat) (yq12 : Nat) (yq13 : Nat) (yq14 : Nat) (yq15 : Nat) (yq16 : Nat) (yf90 : Nat → Int32) (o : Nat) (od : Nat) (b : Nat) (xs : Nat → Int32) (hx : p.tables.exec = Jvm.exec) (hb : c.code = cL_law) (hml : c.maxLocals = 9) (hown : s.vm.findClass RL = some m.cls) (hts : ∀ w ∈ wsL_law, w.before args s = true) (hX : va_X b 5 xs s s.heap) (hbl : b < s.heap.size) (hbA : ¬ A b) (hA : ∀ q : Nat, s.heap.size ≤ q → A q) (hK : va_K G.1 vwCl (n_ty G) s) (hE : n_ex A s s.heap) (hfa16 : nMod yf90)
    (hend : ∀ (H : Heap) (locs : List Loc) (ls : Array Slot), va_S A s.heap H locs → lv_has ls 9 [(0, .ref b), (5, .int 0)] → W p l e room_1 s m args below meth c H locs 2000 60000 Q (F0 m 2342 ls []))
    (H : Heap) (locs : List Loc) (ls : Array Slot) (hP : va_P G.1 vwCl [(x, .inr (12, [.ref xq1, .ref xq4, .ref xq25, .ref xq46, .ref xq71, .ref xq75, .ref xq82, .ref xq84, .int 0])), (xq4, .inr (5, [.ref xq6, .ref xq7, .ref xq8])), (xq8, .inr (11, [.ref xq16, .ref xq17, .ref xq18, .ref xq19, .int 0])), (y, .inr (13, [.ref yq1, .ref yq2, .int 0, .ref yq3, .int 0, .int 0, .int 0, .ref yq4, .ref yq5, .int 0, .ref yq6, .int (-1), .ref yq7, .int 0, .ref yq8, .ref yq9, .ref yq10, .ref yq11, .int 0, .int 0, .int 0, .int 0, .ref yq12, .ref yq13, .ref yq14, .ref yq15, .ref yq16])), (yq1, eI G 1191 yf90), (o, eJ G 1 (fun _ => 0))] H) (hD : va_D A [(x, .inr (12, [.ref xq1, .ref xq4, .ref xq25, .ref xq46, .ref xq71, .ref xq75, .ref xq82, .ref xq84, .int 0])), (xq4, .inr (5, [.ref xq6, .ref xq7, .ref xq8])), (xq8, .inr (11, [.ref xq16, .ref xq17, .ref xq18, .ref xq19, .int 0])), (y, .inr (13, [.ref yq1, .ref yq2, .int 0, .ref yq3, .int 0, .int 0, .int 0, .ref yq4, .ref yq5, .int 0, .ref yq6, .int (-1), .ref yq7, .int 0, .ref yq8, .ref yq9, .ref yq10, .ref yq11, .int 0, .int 0, .int 0, .int 0, .ref yq12, .ref yq13, .ref yq14, .ref yq15, .ref yq16])), (yq1, eI G 1191 yf90), (o, eJ G 1 (fun _ => 0))]) (hS : va_S A s.heap H locs) (hl : lv_has ls 9 [(0, .ref b), (1, .ref x), (2, .ref y), (3, .ref o), (4, .ref od), (5, .int 0)]) : W p l e room_1 s m args below meth c H locs 609 18141 Q (F0 m 1594 ls []) := by
  refine lv_aload_n hx hb dL_law_1594 rfl (lv_at hl 1 rfl) ?_
  refine lv_aload_n hx hb dL_law_1595 rfl (lv_at hl 0 rfl) ?_
  refine lv_iload hx hb dL_law_1596 (lv_at hl 5 rfl) ?_
  refine lv_iconst (v := 1) hx hb dL_law_1598 (by decide) ?_
  refine lv_iadd hx hb dL_law_1599 ?_
  refine n_eqi (y := 1) (by decide) ?_
  refine va_sld hx hb hX hbl hbA hS (n_in (by decide)) dL_law_1600 ?_
  refine n_eqi (y := xs 1) rfl ?_
  refine lv_aload_n hx hb dL_law_1601 rfl (lv_at hl 0 rfl) ?_
  refine lv_iload hx hb dL_law_1602 (lv_at hl 5 rfl) ?_
  refine lv_iconst (v := 2) hx hb dL_law_1604 (by decide) ?_
  refine lv_iadd hx hb dL_law_1605 ?_
  refine n_eqi (y := 2) (by decide) ?_
  refine va_sld hx hb hX hbl hbA hS (n_in (by decide)) dL_law_1606 ?_
  refine n_eqi (y := xs 2) rfl ?_
  refine lv_aload_n hx hb dL_law_1607 rfl (lv_at hl 3 rfl) ?_
  refine n_ci (wr := [(y, .inr (13, [.ref yq1, .ref yq2, .int 0, .ref yq3, .int 0, .int 0, .int 0, .ref yq4, .ref yq5, .int 0, .ref yq6, .int (-1), .ref yq7, .int 0, .ref yq8, .ref yq9, .ref yq10, .ref yq11, .int 0, .int 0, .int 0, .int 0, .ref yq12, .ref yq13, .ref yq14, .ref yq15, .ref yq16])), (yq1, eI G 1191 yf90)]) (vx_runSW (As := [.ref x, .int (xs 1), .int (xs 2), .ref o]) (rest := []) ⟨hx, hb, hml, hown, hts⟩ (mL_rule l hl9 G x xq1 xq4 xq25 xq46 xq71 xq75 xq82 xq84 xq6 xq7 xq8 xq16 xq17 xq18 xq19 (xs 1) (xs 2) o (fun _ => 0) H.size) (vx_cwSW 4 hts gL_law_L_rule rfl rfl rfl (by decide +kernel) ⟨(Nat.le_of_ble_eq_true rfl), (Nat.le_of_ble_eq_true rfl)⟩) (n_prX hK hP hD hS hA [0, 1, 2, 5] rfl (by decide) hE) rfl rfl hl.1 rfl (lv_room (Nat.le_of_ble_eq_true rfl)) dL_law_1608 ⟨(Nat.le_of_ble_eq_true rfl), (Nat.le_of_ble_eq_true rfl)⟩) hP hD hS hA [0, 1, 2, 5] [3, 4] rfl rfl (by decide) (by decide) (fun r_1 u_2 H locs hP hD hS hw => ?_)
  have hP : va_P G.1 vwCl [(y, .inr (13, [.ref yq1, .ref yq2, .int 0, .ref yq3, .int 0, .int 0, .int 0, .ref yq4, .ref yq5, .int 0, .ref yq6, .int (-1), .ref yq7, .int 0, .ref yq8, .ref yq9, .ref yq10, .ref yq11, .int 0, .int 0, .int 0, .int 0, .ref yq12, .ref yq13, .ref yq14, .ref yq15, .ref yq16])), (yq1, eI G 1191 yf90), (o, eJ G 1 (fun _ => 0))] H := hP
  have hD : va_D A [(y, .inr (13, [.ref yq1, .ref yq2, .int 0, .ref yq3, .int 0, .int 0, .int 0, .ref yq4, .ref yq5, .int 0, .ref yq6, .int (-1), .ref yq7, .int 0, .ref yq8, .ref yq9, .ref yq10, .ref yq11, .int 0, .int 0, .int 0, .int 0, .ref yq12, .ref yq13, .ref yq14, .ref yq15, .ref yq16])), (yq1, eI G 1191 yf90), (o, eJ G 1 (fun _ => 0))] := hD
  have hw : r_1 = 1 := hw
  subst hw
  refine lv_istore (lv' := [(6, .int 1), (0, .ref b), (1, .ref x), (2, .ref y), (3, .ref o), (4, .ref od), (5, .int 0)]) hx hb dL_law_1611 hl (by decide) rfl (fun ls hl => ?_)
  refine lv_aload_n hx hb dL_law_1613 rfl (lv_at hl 3 rfl) ?_
  refine lv_aload_n hx hb dL_law_1614 rfl (lv_at hl 1 rfl) ?_
  refine lv_iload hx hb dL_law_1615 (lv_at hl 6 rfl) ?_
  refine lv_iconst (v := 1) hx hb dL_law_1617 (by decide) ?_
  refine lv_iadd hx hb dL_law_1618 ?_
  refine n_eqi (y := 1) (by decide) ?_
  refine va_sld hx hb hX hbl hbA hS (n_in (by decide)) dL_law_1619 ?_
  refine n_eqi (y := xs 1) rfl ?_
  refine lv_aload_n hx hb dL_law_1620 rfl (lv_at hl 1 rfl) ?_
  refine lv_iload hx hb dL_law_1621 (lv_at hl 6 rfl) ?_
  refine lv_iconst (v := 2) hx hb dL_law_1623 (by decide) ?_
  refine lv_iadd hx hb dL_law_1624 ?_
  refine n_eqi (y := 2) (by decide) ?_
  refine va_sld hx hb hX hbl hbA hS (n_in (by decide)) dL_law_1625 ?_
  refine n_eqi (y := xs 2) rfl ?_
  refine n_ci (wr := [(o, eJ G 1 (fun _ => 0))]) (va_runV (As := [.int (xs 1), .int (xs 2)]) (rest := []) ⟨hx, hb, hml, hown, hts⟩ (mX12_rule l G y yq1 yq2 yq3 yq4 yq5 yq6 yq7 yq8 yq9 yq10 yq11 yq12 yq13 yq14 yq15 yq16 0 0 0 0 0 (-1) 0 0 0 0 0 yf90 (xs 1) (xs 2) H.size hfa16) (cwV 2 hts gL_law_X12_rule rfl rfl rfl (by decide +kernel) ⟨(Nat.le_of_ble_eq_true rfl), (Nat.le_of_ble_eq_true rfl)⟩) (n_prV (ci := 13) (q0 := 0) hK hP hD [0, 1] rfl (by decide) rfl rfl) rfl rfl hl.1 rfl (lv_room (Nat.le_of_ble_eq_true rfl)) dL_law_1626 ⟨(Nat.le_of_ble_eq_true rfl), (Nat.le_of_ble_eq_true rfl)⟩) hP hD hS hA [0, 1] [2] rfl rfl (by decide) (by decide) (fun r_3 u_4 H locs hP hD hS hw => ?_)
  have hP : va_P G.1 vwCl [(o, eJ G 1 (fun _ => 0)), (y, .inr (13, [.ref yq1, .ref yq2, .int 0, .ref yq3, .int 0, .int 1, .int 0, .ref yq4, .ref yq5, .int 0, .ref yq6, .int (-1), .ref yq7, .int 0, .ref yq8, .ref yq9, .ref yq10, .ref yq11, .int 0, .int 0, .int 0, .int 0, .ref yq12, .ref yq13, .ref yq14, .ref yq15, .ref yq16]))] H := hP
  have hD : va_D A [(o, eJ G 1 (fun _ => 0)), (y, .inr (13, [.ref yq1, .ref yq2, .int 0, .ref yq3, .int 0, .int 1, .int 0, .ref yq4, .ref yq5, .int 0, .ref yq6, .int (-1), .ref yq7, .int 0, .ref yq8, .ref yq9, .ref yq10, .ref yq11, .int 0, .int 0, .int 0, .int 0, .ref yq12, .ref yq13, .ref yq14, .ref yq15, .ref yq16]))] := hD
  have hw : r_3 = 0 := hw
  subst hw
  refine lv_istore (lv' := [(7, .int 0), (6, .int 1), (0, .ref b), (1, .ref x), (2, .ref y), (3, .ref o), (4, .ref od), (5, .int 0)]) hx hb dL_law_1629 hl (by decide) rfl (fun ls hl => ?_)
  refine lv_aload_n hx hb dL_law_1631 rfl (lv_at hl 4 rfl) ?_
  refine n_ci (wr := [(o, eJ G 1 (fun _ => 0))]) (va_runV (As := []) (rest := []) ⟨hx, hb, hml, hown, hts⟩ (mX12_thrown l G y yq1 yq2 yq3 yq4 yq5 yq6 yq7 yq8 yq9 yq10 yq11 yq12 yq13 yq14 yq15 yq16 0 0 1 0 0 (-1) 0 0 0 0 0 H.size) (cwV 0 hts gL_law_X12_thrown rfl rfl rfl (by decide +kernel) ⟨(Nat.le_of_ble_eq_true rfl), (Nat.le_of_ble_eq_true rfl)⟩) (n_prV (ci := 13) (q0 := 1) hK hP hD [1] rfl (by decide) rfl rfl) rfl rfl hl.1 rfl (lv_room (Nat.le_of_ble_eq_true rfl)) dL_law_1632 ⟨(Nat.le_of_ble_eq_true rfl), (Nat.le_of_ble_eq_true rfl)⟩) hP hD hS hA [1] [0] rfl rfl (by decide) (by decide) (fun r_5 u_6 H locs hP hD hS hw => ?_)
  have hP : va_P G.1 vwCl [(o, eJ G 1 (fun _ => 0)), (y, .inr (13, [.ref yq1, .ref yq2, .int 0, .ref yq3, .int 0, .int 1, .int 0, .ref yq4, .ref yq5, .int 0, .ref yq6, .int (-1), .ref yq7, .int 0, .ref yq8, .ref yq9, .ref yq10, .ref yq11, .int 0, .int 0, .int 0, .int 0, .ref yq12, .ref yq13, .ref yq14, .ref yq15, .ref yq16]))] H := hP
  have hD : va_D A [(o, eJ G 1 (fun _ => 0)), (y, .inr (13, [.ref yq1, .ref yq2, .int 0, .ref yq3, .int 0, .int 1, .int 0, .ref yq4, .ref yq5, .int 0, .ref yq6, .int (-1), .ref yq7, .int 0, .ref yq8, .ref yq9, .ref yq10, .ref yq11, .int 0, .int 0, .int 0, .int 0, .ref yq12, .ref yq13, .ref yq14, .ref yq15, .ref yq16]))] := hD
  have hw : r_5 = 1 := hw
  subst hw
  refine lv_iload hx hb dL_law_1635 (lv_at hl 1 rfl) ?_
  refine lv_icmp_eq (tgt := 1642) hx hb dL_law_1637 (by decide) (fun _ => ?_) (fun h9 => absurd (by decide) h9)
  refine lv_iload hx hb dL_law_1642 (lv_at hl 1 rfl) ?_
  refine lv_if_ne (tgt := 1659) hx hb dL_law_1644 (by decide) (fun _ => ?_) (fun h9 => absurd h9 (by decide))
  refine lv_goto (tgt := 2342) hx hb dL_law_1659 (by decide) ?_
  refine W.widen (k := 2000) (n := 60000) (Nat.le_of_ble_eq_true rfl) (Nat.le_of_ble_eq_true rfl) ?_
  exact hend H locs ls hS (lv_sub hl [2, 7] rfl)

set_option maxHeartbeats 8000000 in
set_option maxRecDepth 100000 in
theorem law_c22 {p : Program} {l : Launch} {e : Env} {s : State} {m : MethodId} {below : List Frame} {meth : Method} {c : Code} {args : Array Value} {Q : State → Prop} {A : Nat → Prop} (hl9 : l.stackTraces = false) (G : nG) (x : Nat) (xq1 : Nat) (xq4 : Nat) (xq25 : Nat) (xq46 : Nat) (xq71 : Nat) (xq75 : Nat) (xq82 : Nat) (xq84 : Nat) (xq6 : Nat) (xq7 : Nat) (xq8 : Nat) (xq15 : Nat) (y : Nat) (yq1 : Nat) (yq2 : Nat) (yq3 : Nat) (yq4 : Nat) (yq5 : Nat) (yq6 : Nat) (yq7 : Nat) (yq8 : Nat) (yq9 : Nat) (yq10 : Nat) (yq11 : Nat) (yq12 : Nat) (yq13 : Nat) (yq14 : Nat) (yq15 : Nat) (yq16 : Nat) (yf90 : Nat → Int32) (o : Nat) (od : Nat) (b : Nat) (xs : Nat → Int32) (hx : p.tables.exec = Jvm.exec) (hb : c.code = cL_law) (hml : c.maxLocals = 9) (hown : s.vm.findClass RL = some m.cls) (hts : ∀ w ∈ wsL_law, w.before args s = true) (hX : va_X b 5 xs s s.heap) (hbl : b < s.heap.size) (hbA : ¬ A b) (hA : ∀ q : Nat, s.heap.size ≤ q → A q) (hK : va_K G.1 vwCl (n_ty G) s) (hE : n_ex A s s.heap) (hfa16 : nMod yf90)
    (hend : ∀ (H : Heap) (locs : List Loc) (ls : Array Slot), va_S A s.heap H locs → lv_has ls 9 [(0, .ref b), (5, .int 0)] → W p l e room_1 s m args below meth c H locs 2000 60000 Q (F0 m 2342 ls []))
    (H : Heap) (locs : List Loc) (ls : Array Slot) (hP : va_P G.1 vwCl [(x, .inr (12, [.ref xq1, .ref xq4, .ref xq25, .ref xq46, .ref xq71, .ref xq75, .ref xq82, .ref xq84, .int 0])), (xq4, .inr (5, [.ref xq6, .ref xq7, .ref xq8])), (xq7, .inr (9, [.ref xq15, .int 0])), (y, .inr (13, [.ref yq1, .ref yq2, .int 0, .ref yq3, .int 0, .int 0, .int 0, .ref yq4, .ref yq5, .int 0, .ref yq6, .int (-1), .ref yq7, .int 0, .ref yq8, .ref yq9, .ref yq10, .ref yq11, .int 0, .int 0, .int 0, .int 0, .ref yq12, .ref yq13, .ref yq14, .ref yq15, .ref yq16])), (yq1, eI G 1191 yf90), (o, eJ G 1 (fun _ => 0))] H) (hD : va_D A [(x, .inr (12, [.ref xq1, .ref xq4, .ref xq25, .ref xq46, .ref xq71, .ref xq75, .ref xq82, .ref xq84, .int 0])), (xq4, .inr (5, [.ref xq6, .ref xq7, .ref xq8])), (xq7, .inr (9, [.ref xq15, .int 0])), (y, .inr (13, [.ref yq1, .ref yq2, .int 0, .ref yq3, .int 0, .int 0, .int 0, .ref yq4, .ref yq5, .int 0, .ref yq6, .int (-1), .ref yq7, .int 0, .ref yq8, .ref yq9, .ref yq10, .ref yq11, .int 0, .int 0, .int 0, .int 0, .ref yq12, .ref yq13, .ref yq14, .ref yq15, .ref yq16])), (yq1, eI G 1191 yf90), (o, eJ G 1 (fun _ => 0))]) (hS : va_S A s.heap H locs) (hl : lv_has ls 9 [(0, .ref b), (1, .ref x), (2, .ref y), (3, .ref o), (4, .ref od), (5, .int 0)]) : W p l e room_1 s m args below meth c H locs 609 18141 Q (F0 m 1662 ls []) := by
  refine lv_aload_n hx hb dL_law_1662 rfl (lv_at hl 1 rfl) ?_
  refine lv_aload_n hx hb dL_law_1663 rfl (lv_at hl 0 rfl) ?_
  refine lv_iload hx hb dL_law_1664 (lv_at hl 5 rfl) ?_
  refine lv_iconst (v := 1) hx hb dL_law_1666 (by decide) ?_
  refine lv_iadd hx hb dL_law_1667 ?_
  refine n_eqi (y := 1) (by decide) ?_
  refine va_sld hx hb hX hbl hbA hS (n_in (by decide)) dL_law_1668 ?_
  refine n_eqi (y := xs 1) rfl ?_
  refine lv_aload_n hx hb dL_law_1669 rfl (lv_at hl 0 rfl) ?_
  refine lv_iload hx hb dL_law_1670 (lv_at hl 5 rfl) ?_
  refine lv_iconst (v := 2) hx hb dL_law_1672 (by decide) ?_
  refine lv_iadd hx hb dL_law_1673 ?_
  refine n_eqi (y := 2) (by decide) ?_
  refine va_sld hx hb hX hbl hbA hS (n_in (by decide)) dL_law_1674 ?_
  refine n_eqi (y := xs 2) rfl ?_
  refine lv_aload_n hx hb dL_law_1675 rfl (lv_at hl 0 rfl) ?_
  refine lv_iload hx hb dL_law_1676 (lv_at hl 5 rfl) ?_
  refine lv_iconst (v := 3) hx hb dL_law_1678 (by decide) ?_
  refine lv_iadd hx hb dL_law_1679 ?_
  refine n_eqi (y := 3) (by decide) ?_
  refine va_sld hx hb hX hbl hbA hS (n_in (by decide)) dL_law_1680 ?_
  refine n_eqi (y := xs 3) rfl ?_
  refine lv_aload_n hx hb dL_law_1681 rfl (lv_at hl 0 rfl) ?_
  refine lv_iload hx hb dL_law_1682 (lv_at hl 5 rfl) ?_
  refine lv_iconst (v := 4) hx hb dL_law_1684 (by decide) ?_
  refine lv_iadd hx hb dL_law_1685 ?_
  refine n_eqi (y := 4) (by decide) ?_
  refine va_sld hx hb hX hbl hbA hS (n_in (by decide)) dL_law_1686 ?_
  refine n_eqi (y := xs 4) rfl ?_
  refine lv_aload_n hx hb dL_law_1687 rfl (lv_at hl 3 rfl) ?_
  refine n_ci (wr := [(y, .inr (13, [.ref yq1, .ref yq2, .int 0, .ref yq3, .int 0, .int 0, .int 0, .ref yq4, .ref yq5, .int 0, .ref yq6, .int (-1), .ref yq7, .int 0, .ref yq8, .ref yq9, .ref yq10, .ref yq11, .int 0, .int 0, .int 0, .int 0, .ref yq12, .ref yq13, .ref yq14, .ref yq15, .ref yq16])), (yq1, eI G 1191 yf90)]) (vx_runSW (As := [.ref x, .int (xs 1), .int (xs 2), .int (xs 3), .int (xs 4), .ref o]) (rest := []) ⟨hx, hb, hml, hown, hts⟩ (mL_derived l hl9 G x xq1 xq4 xq25 xq46 xq71 xq75 xq82 xq84 xq6 xq7 xq8 xq15 (xs 1) (xs 2) (xs 3) (xs 4) o (fun _ => 0) H.size) (vx_cwSW 6 hts gL_law_L_derived rfl rfl rfl (by decide +kernel) ⟨(Nat.le_of_ble_eq_true rfl), (Nat.le_of_ble_eq_true rfl)⟩) (n_prX hK hP hD hS hA [0, 1, 2, 5] rfl (by decide) hE) rfl rfl hl.1 rfl (lv_room (Nat.le_of_ble_eq_true rfl)) dL_law_1688 ⟨(Nat.le_of_ble_eq_true rfl), (Nat.le_of_ble_eq_true rfl)⟩) hP hD hS hA [0, 1, 2, 5] [3, 4] rfl rfl (by decide) (by decide) (fun r_1 u_2 H locs hP hD hS hw => ?_)
  have hP : va_P G.1 vwCl [(y, .inr (13, [.ref yq1, .ref yq2, .int 0, .ref yq3, .int 0, .int 0, .int 0, .ref yq4, .ref yq5, .int 0, .ref yq6, .int (-1), .ref yq7, .int 0, .ref yq8, .ref yq9, .ref yq10, .ref yq11, .int 0, .int 0, .int 0, .int 0, .ref yq12, .ref yq13, .ref yq14, .ref yq15, .ref yq16])), (yq1, eI G 1191 yf90), (o, eJ G 1 (fun _ => 0))] H := hP
  have hD : va_D A [(y, .inr (13, [.ref yq1, .ref yq2, .int 0, .ref yq3, .int 0, .int 0, .int 0, .ref yq4, .ref yq5, .int 0, .ref yq6, .int (-1), .ref yq7, .int 0, .ref yq8, .ref yq9, .ref yq10, .ref yq11, .int 0, .int 0, .int 0, .int 0, .ref yq12, .ref yq13, .ref yq14, .ref yq15, .ref yq16])), (yq1, eI G 1191 yf90), (o, eJ G 1 (fun _ => 0))] := hD
  have hw : r_1 = 1 := hw
  subst hw
  refine lv_istore (lv' := [(6, .int 1), (0, .ref b), (1, .ref x), (2, .ref y), (3, .ref o), (4, .ref od), (5, .int 0)]) hx hb dL_law_1691 hl (by decide) rfl (fun ls hl => ?_)
  refine lv_aload_n hx hb dL_law_1693 rfl (lv_at hl 3 rfl) ?_
  refine lv_aload_n hx hb dL_law_1694 rfl (lv_at hl 1 rfl) ?_
  refine lv_iload hx hb dL_law_1695 (lv_at hl 6 rfl) ?_
  refine lv_iconst (v := 1) hx hb dL_law_1697 (by decide) ?_
  refine lv_iadd hx hb dL_law_1698 ?_
  refine n_eqi (y := 1) (by decide) ?_
  refine va_sld hx hb hX hbl hbA hS (n_in (by decide)) dL_law_1699 ?_
  refine n_eqi (y := xs 1) rfl ?_
  refine lv_aload_n hx hb dL_law_1700 rfl (lv_at hl 1 rfl) ?_
  refine lv_iload hx hb dL_law_1701 (lv_at hl 6 rfl) ?_
  refine lv_iconst (v := 2) hx hb dL_law_1703 (by decide) ?_
  refine lv_iadd hx hb dL_law_1704 ?_
  refine n_eqi (y := 2) (by decide) ?_
  refine va_sld hx hb hX hbl hbA hS (n_in (by decide)) dL_law_1705 ?_
  refine n_eqi (y := xs 2) rfl ?_
  refine lv_aload_n hx hb dL_law_1706 rfl (lv_at hl 1 rfl) ?_
  refine lv_iload hx hb dL_law_1707 (lv_at hl 6 rfl) ?_
  refine lv_iconst (v := 3) hx hb dL_law_1709 (by decide) ?_
  refine lv_iadd hx hb dL_law_1710 ?_
  refine n_eqi (y := 3) (by decide) ?_
  refine va_sld hx hb hX hbl hbA hS (n_in (by decide)) dL_law_1711 ?_
  refine n_eqi (y := xs 3) rfl ?_
  refine lv_aload_n hx hb dL_law_1712 rfl (lv_at hl 1 rfl) ?_
  refine lv_iload hx hb dL_law_1713 (lv_at hl 6 rfl) ?_
  refine lv_iconst (v := 4) hx hb dL_law_1715 (by decide) ?_
  refine lv_iadd hx hb dL_law_1716 ?_
  refine n_eqi (y := 4) (by decide) ?_
  refine va_sld hx hb hX hbl hbA hS (n_in (by decide)) dL_law_1717 ?_
  refine n_eqi (y := xs 4) rfl ?_
  refine n_ci (wr := [(o, eJ G 1 (fun _ => 0))]) (va_runV (As := [.int (xs 1), .int (xs 2), .int (xs 3), .int (xs 4)]) (rest := []) ⟨hx, hb, hml, hown, hts⟩ (mX12_derived l G y yq1 yq2 yq3 yq4 yq5 yq6 yq7 yq8 yq9 yq10 yq11 yq12 yq13 yq14 yq15 yq16 0 0 0 0 0 (-1) 0 0 0 0 0 yf90 (xs 1) (xs 2) (xs 3) (xs 4) H.size hfa16) (cwV 4 hts gL_law_X12_derived rfl rfl rfl (by decide +kernel) ⟨(Nat.le_of_ble_eq_true rfl), (Nat.le_of_ble_eq_true rfl)⟩) (n_prV (ci := 13) (q0 := 0) hK hP hD [0, 1] rfl (by decide) rfl rfl) rfl rfl hl.1 rfl (lv_room (Nat.le_of_ble_eq_true rfl)) dL_law_1718 ⟨(Nat.le_of_ble_eq_true rfl), (Nat.le_of_ble_eq_true rfl)⟩) hP hD hS hA [0, 1] [2] rfl rfl (by decide) (by decide) (fun r_3 u_4 H locs hP hD hS hw => ?_)
  have hP : va_P G.1 vwCl [(o, eJ G 1 (fun _ => 0)), (y, .inr (13, [.ref yq1, .ref yq2, .int 0, .ref yq3, .int 0, .int 1, .int 0, .ref yq4, .ref yq5, .int 0, .ref yq6, .int (-1), .ref yq7, .int 0, .ref yq8, .ref yq9, .ref yq10, .ref yq11, .int 0, .int 0, .int 0, .int 0, .ref yq12, .ref yq13, .ref yq14, .ref yq15, .ref yq16]))] H := hP
  have hD : va_D A [(o, eJ G 1 (fun _ => 0)), (y, .inr (13, [.ref yq1, .ref yq2, .int 0, .ref yq3, .int 0, .int 1, .int 0, .ref yq4, .ref yq5, .int 0, .ref yq6, .int (-1), .ref yq7, .int 0, .ref yq8, .ref yq9, .ref yq10, .ref yq11, .int 0, .int 0, .int 0, .int 0, .ref yq12, .ref yq13, .ref yq14, .ref yq15, .ref yq16]))] := hD
  have hw : r_3 = 0 := hw
  subst hw
  refine lv_istore (lv' := [(7, .int 0), (6, .int 1), (0, .ref b), (1, .ref x), (2, .ref y), (3, .ref o), (4, .ref od), (5, .int 0)]) hx hb dL_law_1721 hl (by decide) rfl (fun ls hl => ?_)
  refine lv_aload_n hx hb dL_law_1723 rfl (lv_at hl 4 rfl) ?_
  refine n_ci (wr := [(o, eJ G 1 (fun _ => 0))]) (va_runV (As := []) (rest := []) ⟨hx, hb, hml, hown, hts⟩ (mX12_thrown l G y yq1 yq2 yq3 yq4 yq5 yq6 yq7 yq8 yq9 yq10 yq11 yq12 yq13 yq14 yq15 yq16 0 0 1 0 0 (-1) 0 0 0 0 0 H.size) (cwV 0 hts gL_law_X12_thrown rfl rfl rfl (by decide +kernel) ⟨(Nat.le_of_ble_eq_true rfl), (Nat.le_of_ble_eq_true rfl)⟩) (n_prV (ci := 13) (q0 := 1) hK hP hD [1] rfl (by decide) rfl rfl) rfl rfl hl.1 rfl (lv_room (Nat.le_of_ble_eq_true rfl)) dL_law_1724 ⟨(Nat.le_of_ble_eq_true rfl), (Nat.le_of_ble_eq_true rfl)⟩) hP hD hS hA [1] [0] rfl rfl (by decide) (by decide) (fun r_5 u_6 H locs hP hD hS hw => ?_)
  have hP : va_P G.1 vwCl [(o, eJ G 1 (fun _ => 0)), (y, .inr (13, [.ref yq1, .ref yq2, .int 0, .ref yq3, .int 0, .int 1, .int 0, .ref yq4, .ref yq5, .int 0, .ref yq6, .int (-1), .ref yq7, .int 0, .ref yq8, .ref yq9, .ref yq10, .ref yq11, .int 0, .int 0, .int 0, .int 0, .ref yq12, .ref yq13, .ref yq14, .ref yq15, .ref yq16]))] H := hP
  have hD : va_D A [(o, eJ G 1 (fun _ => 0)), (y, .inr (13, [.ref yq1, .ref yq2, .int 0, .ref yq3, .int 0, .int 1, .int 0, .ref yq4, .ref yq5, .int 0, .ref yq6, .int (-1), .ref yq7, .int 0, .ref yq8, .ref yq9, .ref yq10, .ref yq11, .int 0, .int 0, .int 0, .int 0, .ref yq12, .ref yq13, .ref yq14, .ref yq15, .ref yq16]))] := hD
  have hw : r_5 = 1 := hw
  subst hw
  refine lv_iload hx hb dL_law_1727 (lv_at hl 1 rfl) ?_
  refine lv_icmp_eq (tgt := 1734) hx hb dL_law_1729 (by decide) (fun _ => ?_) (fun h9 => absurd (by decide) h9)
  refine lv_iload hx hb dL_law_1734 (lv_at hl 1 rfl) ?_
  refine lv_if_ne (tgt := 1751) hx hb dL_law_1736 (by decide) (fun _ => ?_) (fun h9 => absurd h9 (by decide))
  refine lv_goto (tgt := 2342) hx hb dL_law_1751 (by decide) ?_
  refine W.widen (k := 2000) (n := 60000) (Nat.le_of_ble_eq_true rfl) (Nat.le_of_ble_eq_true rfl) ?_
  exact hend H locs ls hS (lv_sub hl [2, 7] rfl)

set_option maxHeartbeats 8000000 in
set_option maxRecDepth 100000 in
theorem law_c23 {p : Program} {l : Launch} {e : Env} {s : State} {m : MethodId} {below : List Frame} {meth : Method} {c : Code} {args : Array Value} {Q : State → Prop} {A : Nat → Prop} (hl9 : l.stackTraces = false) (G : nG) (x : Nat) (xq1 : Nat) (xq4 : Nat) (xq25 : Nat) (xq46 : Nat) (xq71 : Nat) (xq75 : Nat) (xq82 : Nat) (xq84 : Nat) (xq6 : Nat) (xq7 : Nat) (xq8 : Nat) (xq15 : Nat) (y : Nat) (yq1 : Nat) (yq2 : Nat) (yq3 : Nat) (yq4 : Nat) (yq5 : Nat) (yq6 : Nat) (yq7 : Nat) (yq8 : Nat) (yq9 : Nat) (yq10 : Nat) (yq11 : Nat) (yq12 : Nat) (yq13 : Nat) (yq14 : Nat) (yq15 : Nat) (yq16 : Nat) (yf90 : Nat → Int32) (o : Nat) (od : Nat) (b : Nat) (xs : Nat → Int32) (hx : p.tables.exec = Jvm.exec) (hb : c.code = cL_law) (hml : c.maxLocals = 9) (hown : s.vm.findClass RL = some m.cls) (hts : ∀ w ∈ wsL_law, w.before args s = true) (hX : va_X b 5 xs s s.heap) (hbl : b < s.heap.size) (hbA : ¬ A b) (hA : ∀ q : Nat, s.heap.size ≤ q → A q) (hK : va_K G.1 vwCl (n_ty G) s) (hE : n_ex A s s.heap) (hfa16 : nMod yf90)
    (hend : ∀ (H : Heap) (locs : List Loc) (ls : Array Slot), va_S A s.heap H locs → lv_has ls 9 [(0, .ref b), (5, .int 0)] → W p l e room_1 s m args below meth c H locs 2000 60000 Q (F0 m 2342 ls []))
    (H : Heap) (locs : List Loc) (ls : Array Slot) (hP : va_P G.1 vwCl [(x, .inr (12, [.ref xq1, .ref xq4, .ref xq25, .ref xq46, .ref xq71, .ref xq75, .ref xq82, .ref xq84, .int 0])), (xq4, .inr (5, [.ref xq6, .ref xq7, .ref xq8])), (xq7, .inr (9, [.ref xq15, .int 0])), (y, .inr (13, [.ref yq1, .ref yq2, .int 0, .ref yq3, .int 0, .int 0, .int 0, .ref yq4, .ref yq5, .int 0, .ref yq6, .int (-1), .ref yq7, .int 0, .ref yq8, .ref yq9, .ref yq10, .ref yq11, .int 0, .int 0, .int 0, .int 0, .ref yq12, .ref yq13, .ref yq14, .ref yq15, .ref yq16])), (yq1, eI G 1191 yf90), (o, eJ G 1 (fun _ => 0))] H) (hD : va_D A [(x, .inr (12, [.ref xq1, .ref xq4, .ref xq25, .ref xq46, .ref xq71, .ref xq75, .ref xq82, .ref xq84, .int 0])), (xq4, .inr (5, [.ref xq6, .ref xq7, .ref xq8])), (xq7, .inr (9, [.ref xq15, .int 0])), (y, .inr (13, [.ref yq1, .ref yq2, .int 0, .ref yq3, .int 0, .int 0, .int 0, .ref yq4, .ref yq5, .int 0, .ref yq6, .int (-1), .ref yq7, .int 0, .ref yq8, .ref yq9, .ref yq10, .ref yq11, .int 0, .int 0, .int 0, .int 0, .ref yq12, .ref yq13, .ref yq14, .ref yq15, .ref yq16])), (yq1, eI G 1191 yf90), (o, eJ G 1 (fun _ => 0))]) (hS : va_S A s.heap H locs) (hl : lv_has ls 9 [(0, .ref b), (1, .ref x), (2, .ref y), (3, .ref o), (4, .ref od), (5, .int 0)]) : W p l e room_1 s m args below meth c H locs 609 18141 Q (F0 m 1754 ls []) := by
  refine lv_aload_n hx hb dL_law_1754 rfl (lv_at hl 1 rfl) ?_
  refine lv_aload_n hx hb dL_law_1755 rfl (lv_at hl 0 rfl) ?_
  refine lv_iload hx hb dL_law_1756 (lv_at hl 5 rfl) ?_
  refine lv_iconst (v := 1) hx hb dL_law_1758 (by decide) ?_
  refine lv_iadd hx hb dL_law_1759 ?_
  refine n_eqi (y := 1) (by decide) ?_
  refine va_sld hx hb hX hbl hbA hS (n_in (by decide)) dL_law_1760 ?_
  refine n_eqi (y := xs 1) rfl ?_
  refine lv_aload_n hx hb dL_law_1761 rfl (lv_at hl 0 rfl) ?_
  refine lv_iload hx hb dL_law_1762 (lv_at hl 5 rfl) ?_
  refine lv_iconst (v := 2) hx hb dL_law_1764 (by decide) ?_
  refine lv_iadd hx hb dL_law_1765 ?_
  refine n_eqi (y := 2) (by decide) ?_
  refine va_sld hx hb hX hbl hbA hS (n_in (by decide)) dL_law_1766 ?_
  refine n_eqi (y := xs 2) rfl ?_
  refine lv_aload_n hx hb dL_law_1767 rfl (lv_at hl 0 rfl) ?_
  refine lv_iload hx hb dL_law_1768 (lv_at hl 5 rfl) ?_
  refine lv_iconst (v := 3) hx hb dL_law_1770 (by decide) ?_
  refine lv_iadd hx hb dL_law_1771 ?_
  refine n_eqi (y := 3) (by decide) ?_
  refine va_sld hx hb hX hbl hbA hS (n_in (by decide)) dL_law_1772 ?_
  refine n_eqi (y := xs 3) rfl ?_
  refine lv_aload_n hx hb dL_law_1773 rfl (lv_at hl 3 rfl) ?_
  refine n_ci (wr := [(y, .inr (13, [.ref yq1, .ref yq2, .int 0, .ref yq3, .int 0, .int 0, .int 0, .ref yq4, .ref yq5, .int 0, .ref yq6, .int (-1), .ref yq7, .int 0, .ref yq8, .ref yq9, .ref yq10, .ref yq11, .int 0, .int 0, .int 0, .int 0, .ref yq12, .ref yq13, .ref yq14, .ref yq15, .ref yq16])), (yq1, eI G 1191 yf90)]) (vx_runSW (As := [.ref x, .int (xs 1), .int (xs 2), .int (xs 3), .ref o]) (rest := []) ⟨hx, hb, hml, hown, hts⟩ (mL_by l hl9 G x xq1 xq4 xq25 xq46 xq71 xq75 xq82 xq84 xq6 xq7 xq8 xq15 (xs 1) (xs 2) (xs 3) o (fun _ => 0) H.size) (vx_cwSW 5 hts gL_law_L_by rfl rfl rfl (by decide +kernel) ⟨(Nat.le_of_ble_eq_true rfl), (Nat.le_of_ble_eq_true rfl)⟩) (n_prX hK hP hD hS hA [0, 1, 2, 5] rfl (by decide) hE) rfl rfl hl.1 rfl (lv_room (Nat.le_of_ble_eq_true rfl)) dL_law_1774 ⟨(Nat.le_of_ble_eq_true rfl), (Nat.le_of_ble_eq_true rfl)⟩) hP hD hS hA [0, 1, 2, 5] [3, 4] rfl rfl (by decide) (by decide) (fun r_1 u_2 H locs hP hD hS hw => ?_)
  have hP : va_P G.1 vwCl [(y, .inr (13, [.ref yq1, .ref yq2, .int 0, .ref yq3, .int 0, .int 0, .int 0, .ref yq4, .ref yq5, .int 0, .ref yq6, .int (-1), .ref yq7, .int 0, .ref yq8, .ref yq9, .ref yq10, .ref yq11, .int 0, .int 0, .int 0, .int 0, .ref yq12, .ref yq13, .ref yq14, .ref yq15, .ref yq16])), (yq1, eI G 1191 yf90), (o, eJ G 1 (fun _ => 0))] H := hP
  have hD : va_D A [(y, .inr (13, [.ref yq1, .ref yq2, .int 0, .ref yq3, .int 0, .int 0, .int 0, .ref yq4, .ref yq5, .int 0, .ref yq6, .int (-1), .ref yq7, .int 0, .ref yq8, .ref yq9, .ref yq10, .ref yq11, .int 0, .int 0, .int 0, .int 0, .ref yq12, .ref yq13, .ref yq14, .ref yq15, .ref yq16])), (yq1, eI G 1191 yf90), (o, eJ G 1 (fun _ => 0))] := hD
  have hw : r_1 = 1 := hw
  subst hw
  refine lv_istore (lv' := [(6, .int 1), (0, .ref b), (1, .ref x), (2, .ref y), (3, .ref o), (4, .ref od), (5, .int 0)]) hx hb dL_law_1777 hl (by decide) rfl (fun ls hl => ?_)
  refine lv_aload_n hx hb dL_law_1779 rfl (lv_at hl 3 rfl) ?_
  refine lv_aload_n hx hb dL_law_1780 rfl (lv_at hl 1 rfl) ?_
  refine lv_iload hx hb dL_law_1781 (lv_at hl 6 rfl) ?_
  refine lv_iconst (v := 1) hx hb dL_law_1783 (by decide) ?_
  refine lv_iadd hx hb dL_law_1784 ?_
  refine n_eqi (y := 1) (by decide) ?_
  refine va_sld hx hb hX hbl hbA hS (n_in (by decide)) dL_law_1785 ?_
  refine n_eqi (y := xs 1) rfl ?_
  refine lv_aload_n hx hb dL_law_1786 rfl (lv_at hl 1 rfl) ?_
  refine lv_iload hx hb dL_law_1787 (lv_at hl 6 rfl) ?_
  refine lv_iconst (v := 2) hx hb dL_law_1789 (by decide) ?_
  refine lv_iadd hx hb dL_law_1790 ?_
  refine n_eqi (y := 2) (by decide) ?_
  refine va_sld hx hb hX hbl hbA hS (n_in (by decide)) dL_law_1791 ?_
  refine n_eqi (y := xs 2) rfl ?_
  refine lv_aload_n hx hb dL_law_1792 rfl (lv_at hl 1 rfl) ?_
  refine lv_iload hx hb dL_law_1793 (lv_at hl 6 rfl) ?_
  refine lv_iconst (v := 3) hx hb dL_law_1795 (by decide) ?_
  refine lv_iadd hx hb dL_law_1796 ?_
  refine n_eqi (y := 3) (by decide) ?_
  refine va_sld hx hb hX hbl hbA hS (n_in (by decide)) dL_law_1797 ?_
  refine n_eqi (y := xs 3) rfl ?_
  refine n_ci (wr := [(o, eJ G 1 (fun _ => 0))]) (va_runV (As := [.int (xs 1), .int (xs 2), .int (xs 3)]) (rest := []) ⟨hx, hb, hml, hown, hts⟩ (mX12_by l G y yq1 yq2 yq3 yq4 yq5 yq6 yq7 yq8 yq9 yq10 yq11 yq12 yq13 yq14 yq15 yq16 0 0 0 0 0 (-1) 0 0 0 0 0 yf90 (xs 1) (xs 2) (xs 3) H.size hfa16) (cwV 3 hts gL_law_X12_by rfl rfl rfl (by decide +kernel) ⟨(Nat.le_of_ble_eq_true rfl), (Nat.le_of_ble_eq_true rfl)⟩) (n_prV (ci := 13) (q0 := 0) hK hP hD [0, 1] rfl (by decide) rfl rfl) rfl rfl hl.1 rfl (lv_room (Nat.le_of_ble_eq_true rfl)) dL_law_1798 ⟨(Nat.le_of_ble_eq_true rfl), (Nat.le_of_ble_eq_true rfl)⟩) hP hD hS hA [0, 1] [2] rfl rfl (by decide) (by decide) (fun r_3 u_4 H locs hP hD hS hw => ?_)
  have hP : va_P G.1 vwCl [(o, eJ G 1 (fun _ => 0)), (y, .inr (13, [.ref yq1, .ref yq2, .int 0, .ref yq3, .int 0, .int 1, .int 0, .ref yq4, .ref yq5, .int 0, .ref yq6, .int (-1), .ref yq7, .int 0, .ref yq8, .ref yq9, .ref yq10, .ref yq11, .int 0, .int 0, .int 0, .int 0, .ref yq12, .ref yq13, .ref yq14, .ref yq15, .ref yq16]))] H := hP
  have hD : va_D A [(o, eJ G 1 (fun _ => 0)), (y, .inr (13, [.ref yq1, .ref yq2, .int 0, .ref yq3, .int 0, .int 1, .int 0, .ref yq4, .ref yq5, .int 0, .ref yq6, .int (-1), .ref yq7, .int 0, .ref yq8, .ref yq9, .ref yq10, .ref yq11, .int 0, .int 0, .int 0, .int 0, .ref yq12, .ref yq13, .ref yq14, .ref yq15, .ref yq16]))] := hD
  have hw : r_3 = 0 := hw
  subst hw
  refine lv_istore (lv' := [(7, .int 0), (6, .int 1), (0, .ref b), (1, .ref x), (2, .ref y), (3, .ref o), (4, .ref od), (5, .int 0)]) hx hb dL_law_1801 hl (by decide) rfl (fun ls hl => ?_)
  refine lv_aload_n hx hb dL_law_1803 rfl (lv_at hl 4 rfl) ?_
  refine n_ci (wr := [(o, eJ G 1 (fun _ => 0))]) (va_runV (As := []) (rest := []) ⟨hx, hb, hml, hown, hts⟩ (mX12_thrown l G y yq1 yq2 yq3 yq4 yq5 yq6 yq7 yq8 yq9 yq10 yq11 yq12 yq13 yq14 yq15 yq16 0 0 1 0 0 (-1) 0 0 0 0 0 H.size) (cwV 0 hts gL_law_X12_thrown rfl rfl rfl (by decide +kernel) ⟨(Nat.le_of_ble_eq_true rfl), (Nat.le_of_ble_eq_true rfl)⟩) (n_prV (ci := 13) (q0 := 1) hK hP hD [1] rfl (by decide) rfl rfl) rfl rfl hl.1 rfl (lv_room (Nat.le_of_ble_eq_true rfl)) dL_law_1804 ⟨(Nat.le_of_ble_eq_true rfl), (Nat.le_of_ble_eq_true rfl)⟩) hP hD hS hA [1] [0] rfl rfl (by decide) (by decide) (fun r_5 u_6 H locs hP hD hS hw => ?_)
  have hP : va_P G.1 vwCl [(o, eJ G 1 (fun _ => 0)), (y, .inr (13, [.ref yq1, .ref yq2, .int 0, .ref yq3, .int 0, .int 1, .int 0, .ref yq4, .ref yq5, .int 0, .ref yq6, .int (-1), .ref yq7, .int 0, .ref yq8, .ref yq9, .ref yq10, .ref yq11, .int 0, .int 0, .int 0, .int 0, .ref yq12, .ref yq13, .ref yq14, .ref yq15, .ref yq16]))] H := hP
  have hD : va_D A [(o, eJ G 1 (fun _ => 0)), (y, .inr (13, [.ref yq1, .ref yq2, .int 0, .ref yq3, .int 0, .int 1, .int 0, .ref yq4, .ref yq5, .int 0, .ref yq6, .int (-1), .ref yq7, .int 0, .ref yq8, .ref yq9, .ref yq10, .ref yq11, .int 0, .int 0, .int 0, .int 0, .ref yq12, .ref yq13, .ref yq14, .ref yq15, .ref yq16]))] := hD
  have hw : r_5 = 1 := hw
  subst hw
  refine lv_iload hx hb dL_law_1807 (lv_at hl 1 rfl) ?_
  refine lv_icmp_eq (tgt := 1814) hx hb dL_law_1809 (by decide) (fun _ => ?_) (fun h9 => absurd (by decide) h9)
  refine lv_iload hx hb dL_law_1814 (lv_at hl 1 rfl) ?_
  refine lv_if_ne (tgt := 1831) hx hb dL_law_1816 (by decide) (fun _ => ?_) (fun h9 => absurd h9 (by decide))
  refine lv_goto (tgt := 2342) hx hb dL_law_1831 (by decide) ?_
  refine W.widen (k := 2000) (n := 60000) (Nat.le_of_ble_eq_true rfl) (Nat.le_of_ble_eq_true rfl) ?_
  exact hend H locs ls hS (lv_sub hl [2, 7] rfl)

set_option maxHeartbeats 8000000 in
set_option maxRecDepth 100000 in
theorem law_c24 {p : Program} {l : Launch} {e : Env} {s : State} {m : MethodId} {below : List Frame} {meth : Method} {c : Code} {args : Array Value} {Q : State → Prop} {A : Nat → Prop} (hl9 : l.stackTraces = false) (G : nG) (x : Nat) (xq1 : Nat) (xq4 : Nat) (xq25 : Nat) (xq46 : Nat) (xq71 : Nat) (xq75 : Nat) (xq82 : Nat) (xq84 : Nat) (xq6 : Nat) (xq7 : Nat) (xq8 : Nat) (xq15 : Nat) (y : Nat) (yq1 : Nat) (yq2 : Nat) (yq3 : Nat) (yq4 : Nat) (yq5 : Nat) (yq6 : Nat) (yq7 : Nat) (yq8 : Nat) (yq9 : Nat) (yq10 : Nat) (yq11 : Nat) (yq12 : Nat) (yq13 : Nat) (yq14 : Nat) (yq15 : Nat) (yq16 : Nat) (yf90 : Nat → Int32) (o : Nat) (od : Nat) (b : Nat) (xs : Nat → Int32) (hx : p.tables.exec = Jvm.exec) (hb : c.code = cL_law) (hml : c.maxLocals = 9) (hown : s.vm.findClass RL = some m.cls) (hts : ∀ w ∈ wsL_law, w.before args s = true) (hX : va_X b 5 xs s s.heap) (hbl : b < s.heap.size) (hbA : ¬ A b) (hA : ∀ q : Nat, s.heap.size ≤ q → A q) (hK : va_K G.1 vwCl (n_ty G) s) (hE : n_ex A s s.heap) (hfa16 : nMod yf90)
    (hend : ∀ (H : Heap) (locs : List Loc) (ls : Array Slot), va_S A s.heap H locs → lv_has ls 9 [(0, .ref b), (5, .int 0)] → W p l e room_1 s m args below meth c H locs 2000 60000 Q (F0 m 2342 ls []))
    (H : Heap) (locs : List Loc) (ls : Array Slot) (hP : va_P G.1 vwCl [(x, .inr (12, [.ref xq1, .ref xq4, .ref xq25, .ref xq46, .ref xq71, .ref xq75, .ref xq82, .ref xq84, .int 0])), (xq4, .inr (5, [.ref xq6, .ref xq7, .ref xq8])), (xq7, .inr (9, [.ref xq15, .int 0])), (y, .inr (13, [.ref yq1, .ref yq2, .int 0, .ref yq3, .int 0, .int 0, .int 0, .ref yq4, .ref yq5, .int 0, .ref yq6, .int (-1), .ref yq7, .int 0, .ref yq8, .ref yq9, .ref yq10, .ref yq11, .int 0, .int 0, .int 0, .int 0, .ref yq12, .ref yq13, .ref yq14, .ref yq15, .ref yq16])), (yq1, eI G 1191 yf90), (o, eJ G 1 (fun _ => 0))] H) (hD : va_D A [(x, .inr (12, [.ref xq1, .ref xq4, .ref xq25, .ref xq46, .ref xq71, .ref xq75, .ref xq82, .ref xq84, .int 0])), (xq4, .inr (5, [.ref xq6, .ref xq7, .ref xq8])), (xq7, .inr (9, [.ref xq15, .int 0])), (y, .inr (13, [.ref yq1, .ref yq2, .int 0, .ref yq3, .int 0, .int 0, .int 0, .ref yq4, .ref yq5, .int 0, .ref yq6, .int (-1), .ref yq7, .int 0, .ref yq8, .ref yq9, .ref yq10, .ref yq11, .int 0, .int 0, .int 0, .int 0, .ref yq12, .ref yq13, .ref yq14, .ref yq15, .ref yq16])), (yq1, eI G 1191 yf90), (o, eJ G 1 (fun _ => 0))]) (hS : va_S A s.heap H locs) (hl : lv_has ls 9 [(0, .ref b), (1, .ref x), (2, .ref y), (3, .ref o), (4, .ref od), (5, .int 0)]) : W p l e room_1 s m args below meth c H locs 609 18141 Q (F0 m 1834 ls []) := by
  refine lv_aload_n hx hb dL_law_1834 rfl (lv_at hl 1 rfl) ?_
  refine lv_aload_n hx hb dL_law_1835 rfl (lv_at hl 0 rfl) ?_
  refine lv_iload hx hb dL_law_1836 (lv_at hl 5 rfl) ?_
  refine lv_iconst (v := 1) hx hb dL_law_1838 (by decide) ?_
  refine lv_iadd hx hb dL_law_1839 ?_
  refine n_eqi (y := 1) (by decide) ?_
  refine va_sld hx hb hX hbl hbA hS (n_in (by decide)) dL_law_1840 ?_
  refine n_eqi (y := xs 1) rfl ?_
  refine lv_aload_n hx hb dL_law_1841 rfl (lv_at hl 0 rfl) ?_
  refine lv_iload hx hb dL_law_1842 (lv_at hl 5 rfl) ?_
  refine lv_iconst (v := 2) hx hb dL_law_1844 (by decide) ?_
  refine lv_iadd hx hb dL_law_1845 ?_
  refine n_eqi (y := 2) (by decide) ?_
  refine va_sld hx hb hX hbl hbA hS (n_in (by decide)) dL_law_1846 ?_
  refine n_eqi (y := xs 2) rfl ?_
  refine lv_aload_n hx hb dL_law_1847 rfl (lv_at hl 0 rfl) ?_
  refine lv_iload hx hb dL_law_1848 (lv_at hl 5 rfl) ?_
  refine lv_iconst (v := 3) hx hb dL_law_1850 (by decide) ?_
  refine lv_iadd hx hb dL_law_1851 ?_
  refine n_eqi (y := 3) (by decide) ?_
  refine va_sld hx hb hX hbl hbA hS (n_in (by decide)) dL_law_1852 ?_
  refine n_eqi (y := xs 3) rfl ?_
  refine lv_aload_n hx hb dL_law_1853 rfl (lv_at hl 0 rfl) ?_
  refine lv_iload hx hb dL_law_1854 (lv_at hl 5 rfl) ?_
  refine lv_iconst (v := 4) hx hb dL_law_1856 (by decide) ?_
  refine lv_iadd hx hb dL_law_1857 ?_
  refine n_eqi (y := 4) (by decide) ?_
  refine va_sld hx hb hX hbl hbA hS (n_in (by decide)) dL_law_1858 ?_
  refine n_eqi (y := xs 4) rfl ?_
  refine lv_aload_n hx hb dL_law_1859 rfl (lv_at hl 3 rfl) ?_
  refine n_ci (wr := [(y, .inr (13, [.ref yq1, .ref yq2, .int 0, .ref yq3, .int 0, .int 0, .int 0, .ref yq4, .ref yq5, .int 0, .ref yq6, .int (-1), .ref yq7, .int 0, .ref yq8, .ref yq9, .ref yq10, .ref yq11, .int 0, .int 0, .int 0, .int 0, .ref yq12, .ref yq13, .ref yq14, .ref yq15, .ref yq16])), (yq1, eI G 1191 yf90)]) (vx_runSW (As := [.ref x, .int (xs 1), .int (xs 2), .int (xs 3), .int (xs 4), .ref o]) (rest := []) ⟨hx, hb, hml, hown, hts⟩ (mL_proves l hl9 G x xq1 xq4 xq25 xq46 xq71 xq75 xq82 xq84 xq6 xq7 xq8 xq15 (xs 1) (xs 2) (xs 3) (xs 4) o (fun _ => 0) H.size) (vx_cwSW 6 hts gL_law_L_proves rfl rfl rfl (by decide +kernel) ⟨(Nat.le_of_ble_eq_true rfl), (Nat.le_of_ble_eq_true rfl)⟩) (n_prX hK hP hD hS hA [0, 1, 2, 5] rfl (by decide) hE) rfl rfl hl.1 rfl (lv_room (Nat.le_of_ble_eq_true rfl)) dL_law_1860 ⟨(Nat.le_of_ble_eq_true rfl), (Nat.le_of_ble_eq_true rfl)⟩) hP hD hS hA [0, 1, 2, 5] [3, 4] rfl rfl (by decide) (by decide) (fun r_1 u_2 H locs hP hD hS hw => ?_)
  have hP : va_P G.1 vwCl [(y, .inr (13, [.ref yq1, .ref yq2, .int 0, .ref yq3, .int 0, .int 0, .int 0, .ref yq4, .ref yq5, .int 0, .ref yq6, .int (-1), .ref yq7, .int 0, .ref yq8, .ref yq9, .ref yq10, .ref yq11, .int 0, .int 0, .int 0, .int 0, .ref yq12, .ref yq13, .ref yq14, .ref yq15, .ref yq16])), (yq1, eI G 1191 yf90), (o, eJ G 1 (fun _ => 0))] H := hP
  have hD : va_D A [(y, .inr (13, [.ref yq1, .ref yq2, .int 0, .ref yq3, .int 0, .int 0, .int 0, .ref yq4, .ref yq5, .int 0, .ref yq6, .int (-1), .ref yq7, .int 0, .ref yq8, .ref yq9, .ref yq10, .ref yq11, .int 0, .int 0, .int 0, .int 0, .ref yq12, .ref yq13, .ref yq14, .ref yq15, .ref yq16])), (yq1, eI G 1191 yf90), (o, eJ G 1 (fun _ => 0))] := hD
  have hw : r_1 = 1 := hw
  subst hw
  refine lv_istore (lv' := [(6, .int 1), (0, .ref b), (1, .ref x), (2, .ref y), (3, .ref o), (4, .ref od), (5, .int 0)]) hx hb dL_law_1863 hl (by decide) rfl (fun ls hl => ?_)
  refine lv_aload_n hx hb dL_law_1865 rfl (lv_at hl 3 rfl) ?_
  refine lv_aload_n hx hb dL_law_1866 rfl (lv_at hl 1 rfl) ?_
  refine lv_iload hx hb dL_law_1867 (lv_at hl 6 rfl) ?_
  refine lv_iconst (v := 1) hx hb dL_law_1869 (by decide) ?_
  refine lv_iadd hx hb dL_law_1870 ?_
  refine n_eqi (y := 1) (by decide) ?_
  refine va_sld hx hb hX hbl hbA hS (n_in (by decide)) dL_law_1871 ?_
  refine n_eqi (y := xs 1) rfl ?_
  refine lv_aload_n hx hb dL_law_1872 rfl (lv_at hl 1 rfl) ?_
  refine lv_iload hx hb dL_law_1873 (lv_at hl 6 rfl) ?_
  refine lv_iconst (v := 2) hx hb dL_law_1875 (by decide) ?_
  refine lv_iadd hx hb dL_law_1876 ?_
  refine n_eqi (y := 2) (by decide) ?_
  refine va_sld hx hb hX hbl hbA hS (n_in (by decide)) dL_law_1877 ?_
  refine n_eqi (y := xs 2) rfl ?_
  refine lv_aload_n hx hb dL_law_1878 rfl (lv_at hl 1 rfl) ?_
  refine lv_iload hx hb dL_law_1879 (lv_at hl 6 rfl) ?_
  refine lv_iconst (v := 3) hx hb dL_law_1881 (by decide) ?_
  refine lv_iadd hx hb dL_law_1882 ?_
  refine n_eqi (y := 3) (by decide) ?_
  refine va_sld hx hb hX hbl hbA hS (n_in (by decide)) dL_law_1883 ?_
  refine n_eqi (y := xs 3) rfl ?_
  refine lv_aload_n hx hb dL_law_1884 rfl (lv_at hl 1 rfl) ?_
  refine lv_iload hx hb dL_law_1885 (lv_at hl 6 rfl) ?_
  refine lv_iconst (v := 4) hx hb dL_law_1887 (by decide) ?_
  refine lv_iadd hx hb dL_law_1888 ?_
  refine n_eqi (y := 4) (by decide) ?_
  refine va_sld hx hb hX hbl hbA hS (n_in (by decide)) dL_law_1889 ?_
  refine n_eqi (y := xs 4) rfl ?_
  refine n_ci (wr := [(o, eJ G 1 (fun _ => 0))]) (va_runV (As := [.int (xs 1), .int (xs 2), .int (xs 3), .int (xs 4)]) (rest := []) ⟨hx, hb, hml, hown, hts⟩ (mX12_proves l G y yq1 yq2 yq3 yq4 yq5 yq6 yq7 yq8 yq9 yq10 yq11 yq12 yq13 yq14 yq15 yq16 0 0 0 0 0 (-1) 0 0 0 0 0 yf90 (xs 1) (xs 2) (xs 3) (xs 4) H.size hfa16) (cwV 4 hts gL_law_X12_proves rfl rfl rfl (by decide +kernel) ⟨(Nat.le_of_ble_eq_true rfl), (Nat.le_of_ble_eq_true rfl)⟩) (n_prV (ci := 13) (q0 := 0) hK hP hD [0, 1] rfl (by decide) rfl rfl) rfl rfl hl.1 rfl (lv_room (Nat.le_of_ble_eq_true rfl)) dL_law_1890 ⟨(Nat.le_of_ble_eq_true rfl), (Nat.le_of_ble_eq_true rfl)⟩) hP hD hS hA [0, 1] [2] rfl rfl (by decide) (by decide) (fun r_3 u_4 H locs hP hD hS hw => ?_)
  have hP : va_P G.1 vwCl [(o, eJ G 1 (fun _ => 0)), (y, .inr (13, [.ref yq1, .ref yq2, .int 0, .ref yq3, .int 0, .int 1, .int 0, .ref yq4, .ref yq5, .int 0, .ref yq6, .int (-1), .ref yq7, .int 0, .ref yq8, .ref yq9, .ref yq10, .ref yq11, .int 0, .int 0, .int 0, .int 0, .ref yq12, .ref yq13, .ref yq14, .ref yq15, .ref yq16]))] H := hP
  have hD : va_D A [(o, eJ G 1 (fun _ => 0)), (y, .inr (13, [.ref yq1, .ref yq2, .int 0, .ref yq3, .int 0, .int 1, .int 0, .ref yq4, .ref yq5, .int 0, .ref yq6, .int (-1), .ref yq7, .int 0, .ref yq8, .ref yq9, .ref yq10, .ref yq11, .int 0, .int 0, .int 0, .int 0, .ref yq12, .ref yq13, .ref yq14, .ref yq15, .ref yq16]))] := hD
  have hw : r_3 = 0 := hw
  subst hw
  refine lv_istore (lv' := [(7, .int 0), (6, .int 1), (0, .ref b), (1, .ref x), (2, .ref y), (3, .ref o), (4, .ref od), (5, .int 0)]) hx hb dL_law_1893 hl (by decide) rfl (fun ls hl => ?_)
  refine lv_aload_n hx hb dL_law_1895 rfl (lv_at hl 4 rfl) ?_
  refine n_ci (wr := [(o, eJ G 1 (fun _ => 0))]) (va_runV (As := []) (rest := []) ⟨hx, hb, hml, hown, hts⟩ (mX12_thrown l G y yq1 yq2 yq3 yq4 yq5 yq6 yq7 yq8 yq9 yq10 yq11 yq12 yq13 yq14 yq15 yq16 0 0 1 0 0 (-1) 0 0 0 0 0 H.size) (cwV 0 hts gL_law_X12_thrown rfl rfl rfl (by decide +kernel) ⟨(Nat.le_of_ble_eq_true rfl), (Nat.le_of_ble_eq_true rfl)⟩) (n_prV (ci := 13) (q0 := 1) hK hP hD [1] rfl (by decide) rfl rfl) rfl rfl hl.1 rfl (lv_room (Nat.le_of_ble_eq_true rfl)) dL_law_1896 ⟨(Nat.le_of_ble_eq_true rfl), (Nat.le_of_ble_eq_true rfl)⟩) hP hD hS hA [1] [0] rfl rfl (by decide) (by decide) (fun r_5 u_6 H locs hP hD hS hw => ?_)
  have hP : va_P G.1 vwCl [(o, eJ G 1 (fun _ => 0)), (y, .inr (13, [.ref yq1, .ref yq2, .int 0, .ref yq3, .int 0, .int 1, .int 0, .ref yq4, .ref yq5, .int 0, .ref yq6, .int (-1), .ref yq7, .int 0, .ref yq8, .ref yq9, .ref yq10, .ref yq11, .int 0, .int 0, .int 0, .int 0, .ref yq12, .ref yq13, .ref yq14, .ref yq15, .ref yq16]))] H := hP
  have hD : va_D A [(o, eJ G 1 (fun _ => 0)), (y, .inr (13, [.ref yq1, .ref yq2, .int 0, .ref yq3, .int 0, .int 1, .int 0, .ref yq4, .ref yq5, .int 0, .ref yq6, .int (-1), .ref yq7, .int 0, .ref yq8, .ref yq9, .ref yq10, .ref yq11, .int 0, .int 0, .int 0, .int 0, .ref yq12, .ref yq13, .ref yq14, .ref yq15, .ref yq16]))] := hD
  have hw : r_5 = 1 := hw
  subst hw
  refine lv_iload hx hb dL_law_1899 (lv_at hl 1 rfl) ?_
  refine lv_icmp_eq (tgt := 1906) hx hb dL_law_1901 (by decide) (fun _ => ?_) (fun h9 => absurd (by decide) h9)
  refine lv_iload hx hb dL_law_1906 (lv_at hl 1 rfl) ?_
  refine lv_if_ne (tgt := 1923) hx hb dL_law_1908 (by decide) (fun _ => ?_) (fun h9 => absurd h9 (by decide))
  refine lv_goto (tgt := 2342) hx hb dL_law_1923 (by decide) ?_
  refine W.widen (k := 2000) (n := 60000) (Nat.le_of_ble_eq_true rfl) (Nat.le_of_ble_eq_true rfl) ?_
  exact hend H locs ls hS (lv_sub hl [2, 7] rfl)

set_option maxHeartbeats 8000000 in
set_option maxRecDepth 100000 in
theorem law_c25 {p : Program} {l : Launch} {e : Env} {s : State} {m : MethodId} {below : List Frame} {meth : Method} {c : Code} {args : Array Value} {Q : State → Prop} {A : Nat → Prop} (hl9 : l.stackTraces = false) (G : nG) (x : Nat) (xq1 : Nat) (xq4 : Nat) (xq25 : Nat) (xq46 : Nat) (xq71 : Nat) (xq75 : Nat) (xq82 : Nat) (xq84 : Nat) (xq73 : Nat) (xq74 : Nat) (y : Nat) (yq1 : Nat) (yq2 : Nat) (yq3 : Nat) (yq4 : Nat) (yq5 : Nat) (yq6 : Nat) (yq7 : Nat) (yq8 : Nat) (yq9 : Nat) (yq10 : Nat) (yq11 : Nat) (yq12 : Nat) (yq13 : Nat) (yq14 : Nat) (yq15 : Nat) (yq16 : Nat) (o : Nat) (od : Nat) (b : Nat) (xs : Nat → Int32) (hx : p.tables.exec = Jvm.exec) (hb : c.code = cL_law) (hml : c.maxLocals = 9) (hown : s.vm.findClass RL = some m.cls) (hts : ∀ w ∈ wsL_law, w.before args s = true) (hX : va_X b 5 xs s s.heap) (hbl : b < s.heap.size) (hbA : ¬ A b) (hA : ∀ q : Nat, s.heap.size ≤ q → A q) (hK : va_K G.1 vwCl (n_ty G) s) (hE : n_ex A s s.heap) 
    (hend : ∀ (H : Heap) (locs : List Loc) (ls : Array Slot), va_S A s.heap H locs → lv_has ls 9 [(0, .ref b), (5, .int 0)] → W p l e room_1 s m args below meth c H locs 2000 60000 Q (F0 m 2342 ls []))
    (H : Heap) (locs : List Loc) (ls : Array Slot) (hP : va_P G.1 vwCl [(x, .inr (12, [.ref xq1, .ref xq4, .ref xq25, .ref xq46, .ref xq71, .ref xq75, .ref xq82, .ref xq84, .int 0])), (xq71, .inr (10, [.ref xq73, .ref xq74, .int 0])), (y, .inr (13, [.ref yq1, .ref yq2, .int 0, .ref yq3, .int 0, .int 0, .int 0, .ref yq4, .ref yq5, .int 0, .ref yq6, .int (-1), .ref yq7, .int 0, .ref yq8, .ref yq9, .ref yq10, .ref yq11, .int 0, .int 0, .int 0, .int 0, .ref yq12, .ref yq13, .ref yq14, .ref yq15, .ref yq16])), (o, eJ G 1 (fun _ => 0))] H) (hD : va_D A [(x, .inr (12, [.ref xq1, .ref xq4, .ref xq25, .ref xq46, .ref xq71, .ref xq75, .ref xq82, .ref xq84, .int 0])), (xq71, .inr (10, [.ref xq73, .ref xq74, .int 0])), (y, .inr (13, [.ref yq1, .ref yq2, .int 0, .ref yq3, .int 0, .int 0, .int 0, .ref yq4, .ref yq5, .int 0, .ref yq6, .int (-1), .ref yq7, .int 0, .ref yq8, .ref yq9, .ref yq10, .ref yq11, .int 0, .int 0, .int 0, .int 0, .ref yq12, .ref yq13, .ref yq14, .ref yq15, .ref yq16])), (o, eJ G 1 (fun _ => 0))]) (hS : va_S A s.heap H locs) (hl : lv_has ls 9 [(0, .ref b), (1, .ref x), (2, .ref y), (3, .ref o), (4, .ref od), (5, .int 0)]) : W p l e room_1 s m args below meth c H locs 609 18141 Q (F0 m 1926 ls []) := by
  refine lv_aload_n hx hb dL_law_1926 rfl (lv_at hl 1 rfl) ?_
  refine lv_aload_n hx hb dL_law_1927 rfl (lv_at hl 0 rfl) ?_
  refine lv_iload hx hb dL_law_1928 (lv_at hl 5 rfl) ?_
  refine lv_iconst (v := 1) hx hb dL_law_1930 (by decide) ?_
  refine lv_iadd hx hb dL_law_1931 ?_
  refine n_eqi (y := 1) (by decide) ?_
  refine va_sld hx hb hX hbl hbA hS (n_in (by decide)) dL_law_1932 ?_
  refine n_eqi (y := xs 1) rfl ?_
  refine lv_aload_n hx hb dL_law_1933 rfl (lv_at hl 0 rfl) ?_
  refine lv_iload hx hb dL_law_1934 (lv_at hl 5 rfl) ?_
  refine lv_iconst (v := 2) hx hb dL_law_1936 (by decide) ?_
  refine lv_iadd hx hb dL_law_1937 ?_
  refine n_eqi (y := 2) (by decide) ?_
  refine va_sld hx hb hX hbl hbA hS (n_in (by decide)) dL_law_1938 ?_
  refine n_eqi (y := xs 2) rfl ?_
  refine lv_if_eq (tgt := 1946) hx hb dL_law_1939 (by decide) (fun c_1939 => ?_) (fun c_1939 => ?_)
  · skip
    refine lv_iconst (v := 0) hx hb dL_law_1946 (by decide) ?_
    refine lv_aload_n hx hb dL_law_1947 rfl (lv_at hl 3 rfl) ?_
    refine n_ci (wr := [(y, .inr (13, [.ref yq1, .ref yq2, .int 0, .ref yq3, .int 0, .int 0, .int 0, .ref yq4, .ref yq5, .int 0, .ref yq6, .int (-1), .ref yq7, .int 0, .ref yq8, .ref yq9, .ref yq10, .ref yq11, .int 0, .int 0, .int 0, .int 0, .ref yq12, .ref yq13, .ref yq14, .ref yq15, .ref yq16]))]) (vx_runSW (As := [.ref x, .int (xs 1), .int 0, .ref o]) (rest := []) ⟨hx, hb, hml, hown, hts⟩ (mL_report l hl9 G x xq1 xq4 xq25 xq46 xq71 xq75 xq82 xq84 xq73 xq74 (xs 1) 0 o (fun _ => 0) H.size) (vx_cwSW 4 hts gL_law_L_report rfl rfl rfl (by decide +kernel) ⟨(Nat.le_of_ble_eq_true rfl), (Nat.le_of_ble_eq_true rfl)⟩) (n_prX hK hP hD hS hA [0, 1, 3] rfl (by decide) hE) rfl rfl hl.1 rfl (lv_room (Nat.le_of_ble_eq_true rfl)) dL_law_1948 ⟨(Nat.le_of_ble_eq_true rfl), (Nat.le_of_ble_eq_true rfl)⟩) hP hD hS hA [0, 1, 3] [2] rfl rfl (by decide) (by decide) (fun r_1 u_2 H locs hP hD hS hw => ?_)
    have hP : va_P G.1 vwCl [(y, .inr (13, [.ref yq1, .ref yq2, .int 0, .ref yq3, .int 0, .int 0, .int 0, .ref yq4, .ref yq5, .int 0, .ref yq6, .int (-1), .ref yq7, .int 0, .ref yq8, .ref yq9, .ref yq10, .ref yq11, .int 0, .int 0, .int 0, .int 0, .ref yq12, .ref yq13, .ref yq14, .ref yq15, .ref yq16])), (o, eJ G 1 (fun _ => 0))] H := hP
    have hD : va_D A [(y, .inr (13, [.ref yq1, .ref yq2, .int 0, .ref yq3, .int 0, .int 0, .int 0, .ref yq4, .ref yq5, .int 0, .ref yq6, .int (-1), .ref yq7, .int 0, .ref yq8, .ref yq9, .ref yq10, .ref yq11, .int 0, .int 0, .int 0, .int 0, .ref yq12, .ref yq13, .ref yq14, .ref yq15, .ref yq16])), (o, eJ G 1 (fun _ => 0))] := hD
    have hw : r_1 = 1 := hw
    subst hw
    refine lv_istore (lv' := [(6, .int 1), (0, .ref b), (1, .ref x), (2, .ref y), (3, .ref o), (4, .ref od), (5, .int 0)]) hx hb dL_law_1951 hl (by decide) rfl (fun ls hl => ?_)
    refine lv_aload_n hx hb dL_law_1953 rfl (lv_at hl 3 rfl) ?_
    refine lv_aload_n hx hb dL_law_1954 rfl (lv_at hl 1 rfl) ?_
    refine lv_iload hx hb dL_law_1955 (lv_at hl 6 rfl) ?_
    refine lv_iconst (v := 1) hx hb dL_law_1957 (by decide) ?_
    refine lv_iadd hx hb dL_law_1958 ?_
    refine n_eqi (y := 1) (by decide) ?_
    refine va_sld hx hb hX hbl hbA hS (n_in (by decide)) dL_law_1959 ?_
    refine n_eqi (y := xs 1) rfl ?_
    refine lv_aload_n hx hb dL_law_1960 rfl (lv_at hl 1 rfl) ?_
    refine lv_iload hx hb dL_law_1961 (lv_at hl 6 rfl) ?_
    refine lv_iconst (v := 2) hx hb dL_law_1963 (by decide) ?_
    refine lv_iadd hx hb dL_law_1964 ?_
    refine n_eqi (y := 2) (by decide) ?_
    refine va_sld hx hb hX hbl hbA hS (n_in (by decide)) dL_law_1965 ?_
    refine n_eqi (y := xs 2) rfl ?_
    refine lv_if_eq (tgt := 1973) hx hb dL_law_1966 (by decide) (fun _ => ?_) (fun h9 => absurd c_1939 h9)
    refine lv_iconst (v := 0) hx hb dL_law_1973 (by decide) ?_
    refine n_ci (wr := [(o, eJ G 1 (fun _ => 0))]) (va_runV (As := [.int (xs 1), .int 0]) (rest := []) ⟨hx, hb, hml, hown, hts⟩ (mX12_report l G y yq1 yq2 yq3 yq4 yq5 yq6 yq7 yq8 yq9 yq10 yq11 yq12 yq13 yq14 yq15 yq16 0 0 0 0 (-1) 0 0 0 0 0 (xs 1) 0 H.size) (cwV 2 hts gL_law_X12_report rfl rfl rfl (by decide +kernel) ⟨(Nat.le_of_ble_eq_true rfl), (Nat.le_of_ble_eq_true rfl)⟩) (n_prV (ci := 13) (q0 := 0) hK hP hD [0] rfl (by decide) rfl rfl) rfl rfl hl.1 rfl (lv_room (Nat.le_of_ble_eq_true rfl)) dL_law_1974 ⟨(Nat.le_of_ble_eq_true rfl), (Nat.le_of_ble_eq_true rfl)⟩) hP hD hS hA [0] [1] rfl rfl (by decide) (by decide) (fun r_3 u_4 H locs hP hD hS hw => ?_)
    have hP : va_P G.1 vwCl [(o, eJ G 1 (fun _ => 0)), (y, .inr (13, [.ref yq1, .ref yq2, .int 0, .ref yq3, .int 0, .int 1, .int 0, .ref yq4, .ref yq5, .int 0, .ref yq6, .int (-1), .ref yq7, .int 0, .ref yq8, .ref yq9, .ref yq10, .ref yq11, .int 0, .int 0, .int 0, .int 0, .ref yq12, .ref yq13, .ref yq14, .ref yq15, .ref yq16]))] H := hP
    have hD : va_D A [(o, eJ G 1 (fun _ => 0)), (y, .inr (13, [.ref yq1, .ref yq2, .int 0, .ref yq3, .int 0, .int 1, .int 0, .ref yq4, .ref yq5, .int 0, .ref yq6, .int (-1), .ref yq7, .int 0, .ref yq8, .ref yq9, .ref yq10, .ref yq11, .int 0, .int 0, .int 0, .int 0, .ref yq12, .ref yq13, .ref yq14, .ref yq15, .ref yq16]))] := hD
    have hw : r_3 = 0 := hw
    subst hw
    refine lv_istore (lv' := [(7, .int 0), (6, .int 1), (0, .ref b), (1, .ref x), (2, .ref y), (3, .ref o), (4, .ref od), (5, .int 0)]) hx hb dL_law_1977 hl (by decide) rfl (fun ls hl => ?_)
    refine lv_aload_n hx hb dL_law_1979 rfl (lv_at hl 4 rfl) ?_
    refine n_ci (wr := [(o, eJ G 1 (fun _ => 0))]) (va_runV (As := []) (rest := []) ⟨hx, hb, hml, hown, hts⟩ (mX12_thrown l G y yq1 yq2 yq3 yq4 yq5 yq6 yq7 yq8 yq9 yq10 yq11 yq12 yq13 yq14 yq15 yq16 0 0 1 0 0 (-1) 0 0 0 0 0 H.size) (cwV 0 hts gL_law_X12_thrown rfl rfl rfl (by decide +kernel) ⟨(Nat.le_of_ble_eq_true rfl), (Nat.le_of_ble_eq_true rfl)⟩) (n_prV (ci := 13) (q0 := 1) hK hP hD [1] rfl (by decide) rfl rfl) rfl rfl hl.1 rfl (lv_room (Nat.le_of_ble_eq_true rfl)) dL_law_1980 ⟨(Nat.le_of_ble_eq_true rfl), (Nat.le_of_ble_eq_true rfl)⟩) hP hD hS hA [1] [0] rfl rfl (by decide) (by decide) (fun r_5 u_6 H locs hP hD hS hw => ?_)
    have hP : va_P G.1 vwCl [(o, eJ G 1 (fun _ => 0)), (y, .inr (13, [.ref yq1, .ref yq2, .int 0, .ref yq3, .int 0, .int 1, .int 0, .ref yq4, .ref yq5, .int 0, .ref yq6, .int (-1), .ref yq7, .int 0, .ref yq8, .ref yq9, .ref yq10, .ref yq11, .int 0, .int 0, .int 0, .int 0, .ref yq12, .ref yq13, .ref yq14, .ref yq15, .ref yq16]))] H := hP
    have hD : va_D A [(o, eJ G 1 (fun _ => 0)), (y, .inr (13, [.ref yq1, .ref yq2, .int 0, .ref yq3, .int 0, .int 1, .int 0, .ref yq4, .ref yq5, .int 0, .ref yq6, .int (-1), .ref yq7, .int 0, .ref yq8, .ref yq9, .ref yq10, .ref yq11, .int 0, .int 0, .int 0, .int 0, .ref yq12, .ref yq13, .ref yq14, .ref yq15, .ref yq16]))] := hD
    have hw : r_5 = 1 := hw
    subst hw
    refine lv_iload hx hb dL_law_1983 (lv_at hl 1 rfl) ?_
    refine lv_icmp_eq (tgt := 1990) hx hb dL_law_1985 (by decide) (fun _ => ?_) (fun h9 => absurd (by decide) h9)
    refine lv_iload hx hb dL_law_1990 (lv_at hl 1 rfl) ?_
    refine lv_if_ne (tgt := 2007) hx hb dL_law_1992 (by decide) (fun _ => ?_) (fun h9 => absurd h9 (by decide))
    refine lv_goto (tgt := 2342) hx hb dL_law_2007 (by decide) ?_
    refine W.widen (k := 2000) (n := 60000) (Nat.le_of_ble_eq_true rfl) (Nat.le_of_ble_eq_true rfl) ?_
    exact hend H locs ls hS (lv_sub hl [2, 7] rfl)
  · skip
    refine lv_iconst (v := 1) hx hb dL_law_1942 (by decide) ?_
    refine lv_goto (tgt := 1947) hx hb dL_law_1943 (by decide) ?_
    refine lv_aload_n hx hb dL_law_1947 rfl (lv_at hl 3 rfl) ?_
    refine n_ci (wr := [(y, .inr (13, [.ref yq1, .ref yq2, .int 0, .ref yq3, .int 0, .int 0, .int 0, .ref yq4, .ref yq5, .int 0, .ref yq6, .int (-1), .ref yq7, .int 0, .ref yq8, .ref yq9, .ref yq10, .ref yq11, .int 0, .int 0, .int 0, .int 0, .ref yq12, .ref yq13, .ref yq14, .ref yq15, .ref yq16]))]) (vx_runSW (As := [.ref x, .int (xs 1), .int 1, .ref o]) (rest := []) ⟨hx, hb, hml, hown, hts⟩ (mL_report l hl9 G x xq1 xq4 xq25 xq46 xq71 xq75 xq82 xq84 xq73 xq74 (xs 1) 1 o (fun _ => 0) H.size) (vx_cwSW 4 hts gL_law_L_report rfl rfl rfl (by decide +kernel) ⟨(Nat.le_of_ble_eq_true rfl), (Nat.le_of_ble_eq_true rfl)⟩) (n_prX hK hP hD hS hA [0, 1, 3] rfl (by decide) hE) rfl rfl hl.1 rfl (lv_room (Nat.le_of_ble_eq_true rfl)) dL_law_1948 ⟨(Nat.le_of_ble_eq_true rfl), (Nat.le_of_ble_eq_true rfl)⟩) hP hD hS hA [0, 1, 3] [2] rfl rfl (by decide) (by decide) (fun r_7 u_8 H locs hP hD hS hw => ?_)
    have hP : va_P G.1 vwCl [(y, .inr (13, [.ref yq1, .ref yq2, .int 0, .ref yq3, .int 0, .int 0, .int 0, .ref yq4, .ref yq5, .int 0, .ref yq6, .int (-1), .ref yq7, .int 0, .ref yq8, .ref yq9, .ref yq10, .ref yq11, .int 0, .int 0, .int 0, .int 0, .ref yq12, .ref yq13, .ref yq14, .ref yq15, .ref yq16])), (o, eJ G 1 (fun _ => 0))] H := hP
    have hD : va_D A [(y, .inr (13, [.ref yq1, .ref yq2, .int 0, .ref yq3, .int 0, .int 0, .int 0, .ref yq4, .ref yq5, .int 0, .ref yq6, .int (-1), .ref yq7, .int 0, .ref yq8, .ref yq9, .ref yq10, .ref yq11, .int 0, .int 0, .int 0, .int 0, .ref yq12, .ref yq13, .ref yq14, .ref yq15, .ref yq16])), (o, eJ G 1 (fun _ => 0))] := hD
    have hw : r_7 = 1 := hw
    subst hw
    refine lv_istore (lv' := [(6, .int 1), (0, .ref b), (1, .ref x), (2, .ref y), (3, .ref o), (4, .ref od), (5, .int 0)]) hx hb dL_law_1951 hl (by decide) rfl (fun ls hl => ?_)
    refine lv_aload_n hx hb dL_law_1953 rfl (lv_at hl 3 rfl) ?_
    refine lv_aload_n hx hb dL_law_1954 rfl (lv_at hl 1 rfl) ?_
    refine lv_iload hx hb dL_law_1955 (lv_at hl 6 rfl) ?_
    refine lv_iconst (v := 1) hx hb dL_law_1957 (by decide) ?_
    refine lv_iadd hx hb dL_law_1958 ?_
    refine n_eqi (y := 1) (by decide) ?_
    refine va_sld hx hb hX hbl hbA hS (n_in (by decide)) dL_law_1959 ?_
    refine n_eqi (y := xs 1) rfl ?_
    refine lv_aload_n hx hb dL_law_1960 rfl (lv_at hl 1 rfl) ?_
    refine lv_iload hx hb dL_law_1961 (lv_at hl 6 rfl) ?_
    refine lv_iconst (v := 2) hx hb dL_law_1963 (by decide) ?_
    refine lv_iadd hx hb dL_law_1964 ?_
    refine n_eqi (y := 2) (by decide) ?_
    refine va_sld hx hb hX hbl hbA hS (n_in (by decide)) dL_law_1965 ?_
    refine n_eqi (y := xs 2) rfl ?_
    refine lv_if_eq (tgt := 1973) hx hb dL_law_1966 (by decide) (fun h9 => absurd h9 c_1939) (fun _ => ?_)
    refine lv_iconst (v := 1) hx hb dL_law_1969 (by decide) ?_
    refine lv_goto (tgt := 1974) hx hb dL_law_1970 (by decide) ?_
    refine n_ci (wr := [(o, eJ G 1 (fun _ => 0))]) (va_runV (As := [.int (xs 1), .int 1]) (rest := []) ⟨hx, hb, hml, hown, hts⟩ (mX12_report l G y yq1 yq2 yq3 yq4 yq5 yq6 yq7 yq8 yq9 yq10 yq11 yq12 yq13 yq14 yq15 yq16 0 0 0 0 (-1) 0 0 0 0 0 (xs 1) 1 H.size) (cwV 2 hts gL_law_X12_report rfl rfl rfl (by decide +kernel) ⟨(Nat.le_of_ble_eq_true rfl), (Nat.le_of_ble_eq_true rfl)⟩) (n_prV (ci := 13) (q0 := 0) hK hP hD [0] rfl (by decide) rfl rfl) rfl rfl hl.1 rfl (lv_room (Nat.le_of_ble_eq_true rfl)) dL_law_1974 ⟨(Nat.le_of_ble_eq_true rfl), (Nat.le_of_ble_eq_true rfl)⟩) hP hD hS hA [0] [1] rfl rfl (by decide) (by decide) (fun r_9 u_10 H locs hP hD hS hw => ?_)
    have hP : va_P G.1 vwCl [(o, eJ G 1 (fun _ => 0)), (y, .inr (13, [.ref yq1, .ref yq2, .int 0, .ref yq3, .int 0, .int 1, .int 0, .ref yq4, .ref yq5, .int 0, .ref yq6, .int (-1), .ref yq7, .int 0, .ref yq8, .ref yq9, .ref yq10, .ref yq11, .int 0, .int 0, .int 0, .int 0, .ref yq12, .ref yq13, .ref yq14, .ref yq15, .ref yq16]))] H := hP
    have hD : va_D A [(o, eJ G 1 (fun _ => 0)), (y, .inr (13, [.ref yq1, .ref yq2, .int 0, .ref yq3, .int 0, .int 1, .int 0, .ref yq4, .ref yq5, .int 0, .ref yq6, .int (-1), .ref yq7, .int 0, .ref yq8, .ref yq9, .ref yq10, .ref yq11, .int 0, .int 0, .int 0, .int 0, .ref yq12, .ref yq13, .ref yq14, .ref yq15, .ref yq16]))] := hD
    have hw : r_9 = 0 := hw
    subst hw
    refine lv_istore (lv' := [(7, .int 0), (6, .int 1), (0, .ref b), (1, .ref x), (2, .ref y), (3, .ref o), (4, .ref od), (5, .int 0)]) hx hb dL_law_1977 hl (by decide) rfl (fun ls hl => ?_)
    refine lv_aload_n hx hb dL_law_1979 rfl (lv_at hl 4 rfl) ?_
    refine n_ci (wr := [(o, eJ G 1 (fun _ => 0))]) (va_runV (As := []) (rest := []) ⟨hx, hb, hml, hown, hts⟩ (mX12_thrown l G y yq1 yq2 yq3 yq4 yq5 yq6 yq7 yq8 yq9 yq10 yq11 yq12 yq13 yq14 yq15 yq16 0 0 1 0 0 (-1) 0 0 0 0 0 H.size) (cwV 0 hts gL_law_X12_thrown rfl rfl rfl (by decide +kernel) ⟨(Nat.le_of_ble_eq_true rfl), (Nat.le_of_ble_eq_true rfl)⟩) (n_prV (ci := 13) (q0 := 1) hK hP hD [1] rfl (by decide) rfl rfl) rfl rfl hl.1 rfl (lv_room (Nat.le_of_ble_eq_true rfl)) dL_law_1980 ⟨(Nat.le_of_ble_eq_true rfl), (Nat.le_of_ble_eq_true rfl)⟩) hP hD hS hA [1] [0] rfl rfl (by decide) (by decide) (fun r_11 u_12 H locs hP hD hS hw => ?_)
    have hP : va_P G.1 vwCl [(o, eJ G 1 (fun _ => 0)), (y, .inr (13, [.ref yq1, .ref yq2, .int 0, .ref yq3, .int 0, .int 1, .int 0, .ref yq4, .ref yq5, .int 0, .ref yq6, .int (-1), .ref yq7, .int 0, .ref yq8, .ref yq9, .ref yq10, .ref yq11, .int 0, .int 0, .int 0, .int 0, .ref yq12, .ref yq13, .ref yq14, .ref yq15, .ref yq16]))] H := hP
    have hD : va_D A [(o, eJ G 1 (fun _ => 0)), (y, .inr (13, [.ref yq1, .ref yq2, .int 0, .ref yq3, .int 0, .int 1, .int 0, .ref yq4, .ref yq5, .int 0, .ref yq6, .int (-1), .ref yq7, .int 0, .ref yq8, .ref yq9, .ref yq10, .ref yq11, .int 0, .int 0, .int 0, .int 0, .ref yq12, .ref yq13, .ref yq14, .ref yq15, .ref yq16]))] := hD
    have hw : r_11 = 1 := hw
    subst hw
    refine lv_iload hx hb dL_law_1983 (lv_at hl 1 rfl) ?_
    refine lv_icmp_eq (tgt := 1990) hx hb dL_law_1985 (by decide) (fun _ => ?_) (fun h9 => absurd (by decide) h9)
    refine lv_iload hx hb dL_law_1990 (lv_at hl 1 rfl) ?_
    refine lv_if_ne (tgt := 2007) hx hb dL_law_1992 (by decide) (fun _ => ?_) (fun h9 => absurd h9 (by decide))
    refine lv_goto (tgt := 2342) hx hb dL_law_2007 (by decide) ?_
    refine W.widen (k := 2000) (n := 60000) (Nat.le_of_ble_eq_true rfl) (Nat.le_of_ble_eq_true rfl) ?_
    exact hend H locs ls hS (lv_sub hl [2, 7] rfl)

set_option maxHeartbeats 8000000 in
set_option maxRecDepth 100000 in
theorem law_c26 {p : Program} {l : Launch} {e : Env} {s : State} {m : MethodId} {below : List Frame} {meth : Method} {c : Code} {args : Array Value} {Q : State → Prop} {A : Nat → Prop} (hl9 : l.stackTraces = false) (G : nG) (x : Nat) (xq1 : Nat) (xq4 : Nat) (xq25 : Nat) (xq46 : Nat) (xq71 : Nat) (xq75 : Nat) (xq82 : Nat) (xq84 : Nat) (xq2 : Nat) (xq6 : Nat) (xq7 : Nat) (xq8 : Nat) (xq9 : Nat) (xq10 : Nat) (xq11 : Nat) (xf12 : Nat → Int32) (xf13 : Nat → Int32) (xf14 : Nat → Int32) (xq15 : Nat) (xq16 : Nat) (xq17 : Nat) (xq18 : Nat) (xq19 : Nat) (y : Nat) (yq1 : Nat) (yq2 : Nat) (yq3 : Nat) (yq4 : Nat) (yq5 : Nat) (yq6 : Nat) (yq7 : Nat) (yq8 : Nat) (yq9 : Nat) (yq10 : Nat) (yq11 : Nat) (yq12 : Nat) (yq13 : Nat) (yq14 : Nat) (yq15 : Nat) (yq16 : Nat) (yf90 : Nat → Int32) (o : Nat) (od : Nat) (b : Nat) (xs : Nat → Int32) (hx : p.tables.exec = Jvm.exec) (hb : c.code = cL_law) (hml : c.maxLocals = 9) (hown : s.vm.findClass RL = some m.cls) (hts : ∀ w ∈ wsL_law, w.before args s = true) (hX : va_X b 5 xs s s.heap) (hbl : b < s.heap.size) (hbA : ¬ A b) (hA : ∀ q : Nat, s.heap.size ≤ q → A q) (hK : va_K G.1 vwCl (n_ty G) s) (hE : n_ex A s s.heap) (hfa16 : nMod yf90)
    (hend : ∀ (H : Heap) (locs : List Loc) (ls : Array Slot), va_S A s.heap H locs → lv_has ls 9 [(0, .ref b), (5, .int 0)] → W p l e room_1 s m args below meth c H locs 2000 60000 Q (F0 m 2342 ls []))
    (H : Heap) (locs : List Loc) (ls : Array Slot) (hP : va_P G.1 vwCl [(x, .inr (12, [.ref xq1, .ref xq4, .ref xq25, .ref xq46, .ref xq71, .ref xq75, .ref xq82, .ref xq84, .int 0])), (xq1, .inr (8, [.ref xq2, .int 0, .long 0, .int 0])), (xq4, .inr (5, [.ref xq6, .ref xq7, .ref xq8])), (xq6, .inr (2, [.ref xq9, .ref xq10, .ref xq11, .int 26])), (xq9, eI G 36 xf12), (xq10, eC G 36 xf13), (xq11, eC G 36 xf14), (xq7, .inr (9, [.ref xq15, .int 0])), (xq8, .inr (11, [.ref xq16, .ref xq17, .ref xq18, .ref xq19, .int 0])), (xq16, eI G 8 (fun _ => 0)), (xq17, eI G 8 (fun _ => 0)), (xq18, eI G 8 (fun _ => 0)), (xq19, eI G 8 (fun _ => 0)), (y, .inr (13, [.ref yq1, .ref yq2, .int 0, .ref yq3, .int 0, .int 0, .int 0, .ref yq4, .ref yq5, .int 0, .ref yq6, .int (-1), .ref yq7, .int 0, .ref yq8, .ref yq9, .ref yq10, .ref yq11, .int 0, .int 0, .int 0, .int 0, .ref yq12, .ref yq13, .ref yq14, .ref yq15, .ref yq16])), (yq1, eI G 1191 yf90), (o, eJ G 1 (fun _ => 0))] H) (hD : va_D A [(x, .inr (12, [.ref xq1, .ref xq4, .ref xq25, .ref xq46, .ref xq71, .ref xq75, .ref xq82, .ref xq84, .int 0])), (xq1, .inr (8, [.ref xq2, .int 0, .long 0, .int 0])), (xq4, .inr (5, [.ref xq6, .ref xq7, .ref xq8])), (xq6, .inr (2, [.ref xq9, .ref xq10, .ref xq11, .int 26])), (xq9, eI G 36 xf12), (xq10, eC G 36 xf13), (xq11, eC G 36 xf14), (xq7, .inr (9, [.ref xq15, .int 0])), (xq8, .inr (11, [.ref xq16, .ref xq17, .ref xq18, .ref xq19, .int 0])), (xq16, eI G 8 (fun _ => 0)), (xq17, eI G 8 (fun _ => 0)), (xq18, eI G 8 (fun _ => 0)), (xq19, eI G 8 (fun _ => 0)), (y, .inr (13, [.ref yq1, .ref yq2, .int 0, .ref yq3, .int 0, .int 0, .int 0, .ref yq4, .ref yq5, .int 0, .ref yq6, .int (-1), .ref yq7, .int 0, .ref yq8, .ref yq9, .ref yq10, .ref yq11, .int 0, .int 0, .int 0, .int 0, .ref yq12, .ref yq13, .ref yq14, .ref yq15, .ref yq16])), (yq1, eI G 1191 yf90), (o, eJ G 1 (fun _ => 0))]) (hS : va_S A s.heap H locs) (hl : lv_has ls 9 [(0, .ref b), (1, .ref x), (2, .ref y), (3, .ref o), (4, .ref od), (5, .int 0)]) : W p l e room_1 s m args below meth c H locs 609 18141 Q (F0 m 2010 ls []) := by
  refine lv_aload_n hx hb dL_law_2010 rfl (lv_at hl 1 rfl) ?_
  refine lv_aload_n hx hb dL_law_2011 rfl (lv_at hl 0 rfl) ?_
  refine lv_iload hx hb dL_law_2012 (lv_at hl 5 rfl) ?_
  refine lv_iconst (v := 1) hx hb dL_law_2014 (by decide) ?_
  refine lv_iadd hx hb dL_law_2015 ?_
  refine n_eqi (y := 1) (by decide) ?_
  refine va_sld hx hb hX hbl hbA hS (n_in (by decide)) dL_law_2016 ?_
  refine n_eqi (y := xs 1) rfl ?_
  refine lv_aload_n hx hb dL_law_2017 rfl (lv_at hl 3 rfl) ?_
  refine n_ci (wr := [(y, .inr (13, [.ref yq1, .ref yq2, .int 0, .ref yq3, .int 0, .int 0, .int 0, .ref yq4, .ref yq5, .int 0, .ref yq6, .int (-1), .ref yq7, .int 0, .ref yq8, .ref yq9, .ref yq10, .ref yq11, .int 0, .int 0, .int 0, .int 0, .ref yq12, .ref yq13, .ref yq14, .ref yq15, .ref yq16])), (yq1, eI G 1191 yf90)]) (vx_runSW (As := [.ref x, .int (xs 1), .ref o]) (rest := []) ⟨hx, hb, hml, hown, hts⟩ (mL_account l hl9 G x xq1 xq4 xq25 xq46 xq71 xq75 xq82 xq84 xq2 0 0 xq6 xq7 xq8 xq9 xq10 xq11 xf12 xf13 xf14 xq15 xq16 xq17 xq18 xq19 (fun _ => 0) (fun _ => 0) (fun _ => 0) (fun _ => 0) (xs 1) o (fun _ => 0) H.size) (vx_cwSW 3 hts gL_law_L_account rfl rfl rfl (by decide +kernel) ⟨(Nat.le_of_ble_eq_true rfl), (Nat.le_of_ble_eq_true rfl)⟩) (n_prX hK hP hD hS hA [0, 1, 2, 3, 4, 5, 6, 7, 8, 9, 10, 11, 12, 15] rfl (by decide) hE) rfl rfl hl.1 rfl (lv_room (Nat.le_of_ble_eq_true rfl)) dL_law_2018 ⟨(Nat.le_of_ble_eq_true rfl), (Nat.le_of_ble_eq_true rfl)⟩) hP hD hS hA [0, 1, 2, 3, 4, 5, 6, 7, 8, 9, 10, 11, 12, 15] [13, 14] rfl rfl (by decide) (by decide) (fun r_1 f_2 H locs hP hD hS hw => ?_)
  have hP : va_P G.1 vwCl [(y, .inr (13, [.ref yq1, .ref yq2, .int 0, .ref yq3, .int 0, .int 0, .int 0, .ref yq4, .ref yq5, .int 0, .ref yq6, .int (-1), .ref yq7, .int 0, .ref yq8, .ref yq9, .ref yq10, .ref yq11, .int 0, .int 0, .int 0, .int 0, .ref yq12, .ref yq13, .ref yq14, .ref yq15, .ref yq16])), (yq1, eI G 1191 yf90), (o, eJ G 1 f_2)] H := hP
  have hD : va_D A [(y, .inr (13, [.ref yq1, .ref yq2, .int 0, .ref yq3, .int 0, .int 0, .int 0, .ref yq4, .ref yq5, .int 0, .ref yq6, .int (-1), .ref yq7, .int 0, .ref yq8, .ref yq9, .ref yq10, .ref yq11, .int 0, .int 0, .int 0, .int 0, .ref yq12, .ref yq13, .ref yq14, .ref yq15, .ref yq16])), (yq1, eI G 1191 yf90), (o, eJ G 1 f_2)] := hD
  obtain ⟨hw, hf_4⟩ := hw
  have hw : r_1 = (nkC (xs 1)) := hw
  subst hw
  try dsimp only
  have hf_4 : nkC (xs 1) = 0 → f_2 0 = (nvC (xs 1) : Int32).toInt64 := hf_4
  refine lv_istore (lv' := [(6, .int (nkC (xs 1))), (0, .ref b), (1, .ref x), (2, .ref y), (3, .ref o), (4, .ref od), (5, .int 0)]) hx hb dL_law_2021 hl (by decide) rfl (fun ls hl => ?_)
  refine lv_aload_n hx hb dL_law_2023 rfl (lv_at hl 3 rfl) ?_
  refine lv_aload_n hx hb dL_law_2024 rfl (lv_at hl 1 rfl) ?_
  refine lv_iload hx hb dL_law_2025 (lv_at hl 6 rfl) ?_
  refine lv_iconst (v := 1) hx hb dL_law_2027 (by decide) ?_
  refine lv_iadd hx hb dL_law_2028 ?_
  refine n_eqi (y := 1) (by decide) ?_
  refine va_sld hx hb hX hbl hbA hS (n_in (by decide)) dL_law_2029 ?_
  refine n_eqi (y := xs 1) rfl ?_
  refine n_ci (wr := [(o, eJ G 1 f_2)]) (va_runV (As := [.int (xs 1)]) (rest := []) ⟨hx, hb, hml, hown, hts⟩ (mX12_account l G y yq1 yq2 yq3 yq4 yq5 yq6 yq7 yq8 yq9 yq10 yq11 yq12 yq13 yq14 yq15 yq16 0 0 0 0 (-1) 0 0 0 0 0 yf90 (xs 1) H.size hfa16) (cwV 1 hts gL_law_X12_account rfl rfl rfl (by decide +kernel) ⟨(Nat.le_of_ble_eq_true rfl), (Nat.le_of_ble_eq_true rfl)⟩) (n_prV (ci := 13) (q0 := 0) hK hP hD [0, 1] rfl (by decide) rfl rfl) rfl rfl hl.1 rfl (lv_room (Nat.le_of_ble_eq_true rfl)) dL_law_2030 ⟨(Nat.le_of_ble_eq_true rfl), (Nat.le_of_ble_eq_true rfl)⟩) hP hD hS hA [0, 1] [2] rfl rfl (by decide) (by decide) (fun r_5 k_6 H locs hP hD hS hw => ?_)
  have hP : va_P G.1 vwCl [(o, eJ G 1 f_2), (y, .inr (13, [.ref yq1, .ref yq2, .int 0, .ref yq3, .int 0, .int k_6, .int 0, .ref yq4, .ref yq5, .int 0, .ref yq6, .int (-1), .ref yq7, .int 0, .ref yq8, .ref yq9, .ref yq10, .ref yq11, .int 0, .int 0, .int 0, .int 0, .ref yq12, .ref yq13, .ref yq14, .ref yq15, .ref yq16]))] H := hP
  have hD : va_D A [(o, eJ G 1 f_2), (y, .inr (13, [.ref yq1, .ref yq2, .int 0, .ref yq3, .int 0, .int k_6, .int 0, .ref yq4, .ref yq5, .int 0, .ref yq6, .int (-1), .ref yq7, .int 0, .ref yq8, .ref yq9, .ref yq10, .ref yq11, .int 0, .int 0, .int 0, .int 0, .ref yq12, .ref yq13, .ref yq14, .ref yq15, .ref yq16]))] := hD
  have hr_8 : (k_6 = nkC (xs 1) ∧ (k_6 = 0 → r_5 = nvC (xs 1))) := hw
  obtain ⟨hk_10, hv_9⟩ := hr_8
  subst hk_10
  refine lv_istore (lv' := [(7, .int r_5), (6, .int (nkC (xs 1))), (0, .ref b), (1, .ref x), (2, .ref y), (3, .ref o), (4, .ref od), (5, .int 0)]) hx hb dL_law_2033 hl (by decide) rfl (fun ls hl => ?_)
  refine lv_aload_n hx hb dL_law_2035 rfl (lv_at hl 4 rfl) ?_
  refine n_ci (wr := [(o, eJ G 1 f_2)]) (va_runV (As := []) (rest := []) ⟨hx, hb, hml, hown, hts⟩ (mX12_thrown l G y yq1 yq2 yq3 yq4 yq5 yq6 yq7 yq8 yq9 yq10 yq11 yq12 yq13 yq14 yq15 yq16 0 0 (nkC (xs 1)) 0 0 (-1) 0 0 0 0 0 H.size) (cwV 0 hts gL_law_X12_thrown rfl rfl rfl (by decide +kernel) ⟨(Nat.le_of_ble_eq_true rfl), (Nat.le_of_ble_eq_true rfl)⟩) (n_prV (ci := 13) (q0 := 1) hK hP hD [1] rfl (by decide) rfl rfl) rfl rfl hl.1 rfl (lv_room (Nat.le_of_ble_eq_true rfl)) dL_law_2036 ⟨(Nat.le_of_ble_eq_true rfl), (Nat.le_of_ble_eq_true rfl)⟩) hP hD hS hA [1] [0] rfl rfl (by decide) (by decide) (fun r_11 u_12 H locs hP hD hS hw => ?_)
  have hP : va_P G.1 vwCl [(o, eJ G 1 f_2), (y, .inr (13, [.ref yq1, .ref yq2, .int 0, .ref yq3, .int 0, .int (nkC (xs 1)), .int 0, .ref yq4, .ref yq5, .int 0, .ref yq6, .int (-1), .ref yq7, .int 0, .ref yq8, .ref yq9, .ref yq10, .ref yq11, .int 0, .int 0, .int 0, .int 0, .ref yq12, .ref yq13, .ref yq14, .ref yq15, .ref yq16]))] H := hP
  have hD : va_D A [(o, eJ G 1 f_2), (y, .inr (13, [.ref yq1, .ref yq2, .int 0, .ref yq3, .int 0, .int (nkC (xs 1)), .int 0, .ref yq4, .ref yq5, .int 0, .ref yq6, .int (-1), .ref yq7, .int 0, .ref yq8, .ref yq9, .ref yq10, .ref yq11, .int 0, .int 0, .int 0, .int 0, .ref yq12, .ref yq13, .ref yq14, .ref yq15, .ref yq16]))] := hD
  have hw : r_11 = (nkC (xs 1)) := hw
  subst hw
  try dsimp only
  refine lv_iload hx hb dL_law_2039 (lv_at hl 1 rfl) ?_
  refine lv_icmp_eq (tgt := 2046) hx hb dL_law_2041 (by decide) (fun _ => ?_) (fun h9 => absurd rfl h9)
  refine lv_iload hx hb dL_law_2046 (lv_at hl 1 rfl) ?_
  refine lv_if_ne (tgt := 2063) hx hb dL_law_2048 (by decide) (fun c_2048 => ?_) (fun c_2048 => ?_)
  · skip
    refine lv_goto (tgt := 2342) hx hb dL_law_2063 (by decide) ?_
    refine W.widen (k := 2000) (n := 60000) (Nat.le_of_ble_eq_true rfl) (Nat.le_of_ble_eq_true rfl) ?_
    exact hend H locs ls hS (lv_sub hl [2, 7] rfl)
  · skip
    refine lv_aload_n hx hb dL_law_2051 rfl (lv_at hl 5 rfl) ?_
    refine lv_iconst (v := 0) hx hb dL_law_2052 (by decide) ?_
    refine va_lald hx hb hK hP 0 2 rfl rfl (n_in (by decide)) dL_law_2053 ?_
    refine n_eql (y := ((nvC (xs 1) : Int32).toInt64)) (hf_4 c_2048) ?_
    refine lv_iload hx hb dL_law_2054 (lv_at hl 0 rfl) ?_
    refine lv_i2l (v := (r_5 : Int32).toInt64) hx hb dL_law_2056 rfl ?_
    refine W.lcmp hx hb dL_law_2057 ?_
    refine n_eqi (y := 0) (by rw [hv_9 c_2048]; exact n_lg _) ?_
    refine lv_if_eq (tgt := 2063) hx hb dL_law_2058 (by decide) (fun _ => ?_) (fun h9 => absurd (by decide) h9)
    refine lv_goto (tgt := 2342) hx hb dL_law_2063 (by decide) ?_
    refine W.widen (k := 2000) (n := 60000) (Nat.le_of_ble_eq_true rfl) (Nat.le_of_ble_eq_true rfl) ?_
    exact hend H locs ls hS (lv_sub hl [2, 7] rfl)

set_option maxHeartbeats 8000000 in
set_option maxRecDepth 100000 in
theorem law_c27 {p : Program} {l : Launch} {e : Env} {s : State} {m : MethodId} {below : List Frame} {meth : Method} {c : Code} {args : Array Value} {Q : State → Prop} {A : Nat → Prop} (hl9 : l.stackTraces = false) (G : nG) (x : Nat) (xq1 : Nat) (xq4 : Nat) (xq25 : Nat) (xq46 : Nat) (xq71 : Nat) (xq75 : Nat) (xq82 : Nat) (xq84 : Nat) (xq6 : Nat) (xq7 : Nat) (xq8 : Nat) (xq15 : Nat) (y : Nat) (yq1 : Nat) (yq2 : Nat) (yq3 : Nat) (yq4 : Nat) (yq5 : Nat) (yq6 : Nat) (yq7 : Nat) (yq8 : Nat) (yq9 : Nat) (yq10 : Nat) (yq11 : Nat) (yq12 : Nat) (yq13 : Nat) (yq14 : Nat) (yq15 : Nat) (yq16 : Nat) (yf90 : Nat → Int32) (o : Nat) (od : Nat) (b : Nat) (xs : Nat → Int32) (hx : p.tables.exec = Jvm.exec) (hb : c.code = cL_law) (hml : c.maxLocals = 9) (hown : s.vm.findClass RL = some m.cls) (hts : ∀ w ∈ wsL_law, w.before args s = true) (hX : va_X b 5 xs s s.heap) (hbl : b < s.heap.size) (hbA : ¬ A b) (hA : ∀ q : Nat, s.heap.size ≤ q → A q) (hK : va_K G.1 vwCl (n_ty G) s) (hE : n_ex A s s.heap) (hfa16 : nMod yf90)
    (hend : ∀ (H : Heap) (locs : List Loc) (ls : Array Slot), va_S A s.heap H locs → lv_has ls 9 [(0, .ref b), (5, .int 0)] → W p l e room_1 s m args below meth c H locs 2000 60000 Q (F0 m 2342 ls []))
    (H : Heap) (locs : List Loc) (ls : Array Slot) (hP : va_P G.1 vwCl [(x, .inr (12, [.ref xq1, .ref xq4, .ref xq25, .ref xq46, .ref xq71, .ref xq75, .ref xq82, .ref xq84, .int 0])), (xq4, .inr (5, [.ref xq6, .ref xq7, .ref xq8])), (xq7, .inr (9, [.ref xq15, .int 0])), (y, .inr (13, [.ref yq1, .ref yq2, .int 0, .ref yq3, .int 0, .int 0, .int 0, .ref yq4, .ref yq5, .int 0, .ref yq6, .int (-1), .ref yq7, .int 0, .ref yq8, .ref yq9, .ref yq10, .ref yq11, .int 0, .int 0, .int 0, .int 0, .ref yq12, .ref yq13, .ref yq14, .ref yq15, .ref yq16])), (yq1, eI G 1191 yf90), (od, eW G 1 (fun _ => 0))] H) (hD : va_D A [(x, .inr (12, [.ref xq1, .ref xq4, .ref xq25, .ref xq46, .ref xq71, .ref xq75, .ref xq82, .ref xq84, .int 0])), (xq4, .inr (5, [.ref xq6, .ref xq7, .ref xq8])), (xq7, .inr (9, [.ref xq15, .int 0])), (y, .inr (13, [.ref yq1, .ref yq2, .int 0, .ref yq3, .int 0, .int 0, .int 0, .ref yq4, .ref yq5, .int 0, .ref yq6, .int (-1), .ref yq7, .int 0, .ref yq8, .ref yq9, .ref yq10, .ref yq11, .int 0, .int 0, .int 0, .int 0, .ref yq12, .ref yq13, .ref yq14, .ref yq15, .ref yq16])), (yq1, eI G 1191 yf90), (od, eW G 1 (fun _ => 0))]) (hS : va_S A s.heap H locs) (hl : lv_has ls 9 [(0, .ref b), (1, .ref x), (2, .ref y), (3, .ref o), (4, .ref od), (5, .int 0)]) : W p l e room_1 s m args below meth c H locs 609 18141 Q (F0 m 2066 ls []) := by
  refine lv_aload_n hx hb dL_law_2066 rfl (lv_at hl 1 rfl) ?_
  refine lv_aload hx hb dL_law_2067 (lv_at hl 4 rfl) ?_
  refine n_ci (wr := [(y, .inr (13, [.ref yq1, .ref yq2, .int 0, .ref yq3, .int 0, .int 0, .int 0, .ref yq4, .ref yq5, .int 0, .ref yq6, .int (-1), .ref yq7, .int 0, .ref yq8, .ref yq9, .ref yq10, .ref yq11, .int 0, .int 0, .int 0, .int 0, .ref yq12, .ref yq13, .ref yq14, .ref yq15, .ref yq16])), (yq1, eI G 1191 yf90)]) (vx_runSW (As := [.ref x, .ref od]) (rest := []) ⟨hx, hb, hml, hown, hts⟩ (mL_meanLength l hl9 G x xq1 xq4 xq25 xq46 xq71 xq75 xq82 xq84 xq6 xq7 xq8 xq15 od (fun _ => 0) H.size) (vx_cwSW 2 hts gL_law_L_meanLength rfl rfl rfl (by decide +kernel) ⟨(Nat.le_of_ble_eq_true rfl), (Nat.le_of_ble_eq_true rfl)⟩) (n_prX hK hP hD hS hA [0, 1, 2, 5] rfl (by decide) hE) rfl rfl hl.1 rfl (lv_room (Nat.le_of_ble_eq_true rfl)) dL_law_2069 ⟨(Nat.le_of_ble_eq_true rfl), (Nat.le_of_ble_eq_true rfl)⟩) hP hD hS hA [0, 1, 2, 5] [3, 4] rfl rfl (by decide) (by decide) (fun r_1 u_2 H locs hP hD hS hw => ?_)
  have hP : va_P G.1 vwCl [(y, .inr (13, [.ref yq1, .ref yq2, .int 0, .ref yq3, .int 0, .int 0, .int 0, .ref yq4, .ref yq5, .int 0, .ref yq6, .int (-1), .ref yq7, .int 0, .ref yq8, .ref yq9, .ref yq10, .ref yq11, .int 0, .int 0, .int 0, .int 0, .ref yq12, .ref yq13, .ref yq14, .ref yq15, .ref yq16])), (yq1, eI G 1191 yf90), (od, eW G 1 (fun _ => 0))] H := hP
  have hD : va_D A [(y, .inr (13, [.ref yq1, .ref yq2, .int 0, .ref yq3, .int 0, .int 0, .int 0, .ref yq4, .ref yq5, .int 0, .ref yq6, .int (-1), .ref yq7, .int 0, .ref yq8, .ref yq9, .ref yq10, .ref yq11, .int 0, .int 0, .int 0, .int 0, .ref yq12, .ref yq13, .ref yq14, .ref yq15, .ref yq16])), (yq1, eI G 1191 yf90), (od, eW G 1 (fun _ => 0))] := hD
  have hw : r_1 = 1 := hw
  subst hw
  refine lv_istore (lv' := [(6, .int 1), (0, .ref b), (1, .ref x), (2, .ref y), (3, .ref o), (4, .ref od), (5, .int 0)]) hx hb dL_law_2072 hl (by decide) rfl (fun ls hl => ?_)
  refine lv_aload_n hx hb dL_law_2074 rfl (lv_at hl 3 rfl) ?_
  refine n_cd (wr := [(od, eW G 1 (fun _ => 0))]) (va_runV (As := []) (rest := []) ⟨hx, hb, hml, hown, hts⟩ (mX12_meanLength l G y yq1 yq2 yq3 yq4 yq5 yq6 yq7 yq8 yq9 yq10 yq11 yq12 yq13 yq14 yq15 yq16 0 0 0 0 0 (-1) 0 0 0 0 0 yf90 H.size hfa16) (cwV 0 hts gL_law_X12_meanLength rfl rfl rfl (by decide +kernel) ⟨(Nat.le_of_ble_eq_true rfl), (Nat.le_of_ble_eq_true rfl)⟩) (n_prV (ci := 13) (q0 := 0) hK hP hD [0, 1] rfl (by decide) rfl rfl) rfl rfl hl.1 rfl (lv_room (Nat.le_of_ble_eq_true rfl)) dL_law_2075 ⟨(Nat.le_of_ble_eq_true rfl), (Nat.le_of_ble_eq_true rfl)⟩) hP hD hS hA [0, 1] [2] rfl rfl (by decide) (by decide) (fun r_3 u_4 H locs hP hD hS hw => ?_)
  have hP : va_P G.1 vwCl [(od, eW G 1 (fun _ => 0)), (y, .inr (13, [.ref yq1, .ref yq2, .int 0, .ref yq3, .int 0, .int 1, .int 0, .ref yq4, .ref yq5, .int 0, .ref yq6, .int (-1), .ref yq7, .int 0, .ref yq8, .ref yq9, .ref yq10, .ref yq11, .int 0, .int 0, .int 0, .int 0, .ref yq12, .ref yq13, .ref yq14, .ref yq15, .ref yq16]))] H := hP
  have hD : va_D A [(od, eW G 1 (fun _ => 0)), (y, .inr (13, [.ref yq1, .ref yq2, .int 0, .ref yq3, .int 0, .int 1, .int 0, .ref yq4, .ref yq5, .int 0, .ref yq6, .int (-1), .ref yq7, .int 0, .ref yq8, .ref yq9, .ref yq10, .ref yq11, .int 0, .int 0, .int 0, .int 0, .ref yq12, .ref yq13, .ref yq14, .ref yq15, .ref yq16]))] := hD
  have hw : r_3 = 0 := hw
  subst hw
  refine lv_dstore (lv' := [(7, .double 0), (6, .int 1), (0, .ref b), (1, .ref x), (2, .ref y), (3, .ref o), (4, .ref od), (5, .int 0)]) hx hb dL_law_2078 hl (by decide) rfl (fun ls hl => ?_)
  refine lv_aload_n hx hb dL_law_2080 rfl (lv_at hl 4 rfl) ?_
  refine n_ci (wr := [(od, eW G 1 (fun _ => 0))]) (va_runV (As := []) (rest := []) ⟨hx, hb, hml, hown, hts⟩ (mX12_thrown l G y yq1 yq2 yq3 yq4 yq5 yq6 yq7 yq8 yq9 yq10 yq11 yq12 yq13 yq14 yq15 yq16 0 0 1 0 0 (-1) 0 0 0 0 0 H.size) (cwV 0 hts gL_law_X12_thrown rfl rfl rfl (by decide +kernel) ⟨(Nat.le_of_ble_eq_true rfl), (Nat.le_of_ble_eq_true rfl)⟩) (n_prV (ci := 13) (q0 := 1) hK hP hD [1] rfl (by decide) rfl rfl) rfl rfl hl.1 rfl (lv_room (Nat.le_of_ble_eq_true rfl)) dL_law_2081 ⟨(Nat.le_of_ble_eq_true rfl), (Nat.le_of_ble_eq_true rfl)⟩) hP hD hS hA [1] [0] rfl rfl (by decide) (by decide) (fun r_5 u_6 H locs hP hD hS hw => ?_)
  have hP : va_P G.1 vwCl [(od, eW G 1 (fun _ => 0)), (y, .inr (13, [.ref yq1, .ref yq2, .int 0, .ref yq3, .int 0, .int 1, .int 0, .ref yq4, .ref yq5, .int 0, .ref yq6, .int (-1), .ref yq7, .int 0, .ref yq8, .ref yq9, .ref yq10, .ref yq11, .int 0, .int 0, .int 0, .int 0, .ref yq12, .ref yq13, .ref yq14, .ref yq15, .ref yq16]))] H := hP
  have hD : va_D A [(od, eW G 1 (fun _ => 0)), (y, .inr (13, [.ref yq1, .ref yq2, .int 0, .ref yq3, .int 0, .int 1, .int 0, .ref yq4, .ref yq5, .int 0, .ref yq6, .int (-1), .ref yq7, .int 0, .ref yq8, .ref yq9, .ref yq10, .ref yq11, .int 0, .int 0, .int 0, .int 0, .ref yq12, .ref yq13, .ref yq14, .ref yq15, .ref yq16]))] := hD
  have hw : r_5 = 1 := hw
  subst hw
  refine lv_iload hx hb dL_law_2084 (lv_at hl 1 rfl) ?_
  refine lv_icmp_eq (tgt := 2091) hx hb dL_law_2086 (by decide) (fun _ => ?_) (fun h9 => absurd (by decide) h9)
  refine lv_iload hx hb dL_law_2091 (lv_at hl 1 rfl) ?_
  refine lv_if_ne (tgt := 2128) hx hb dL_law_2093 (by decide) (fun _ => ?_) (fun h9 => absurd h9 (by decide))
  refine lv_goto (tgt := 2342) hx hb dL_law_2128 (by decide) ?_
  refine W.widen (k := 2000) (n := 60000) (Nat.le_of_ble_eq_true rfl) (Nat.le_of_ble_eq_true rfl) ?_
  exact hend H locs ls hS (lv_sub hl [2, 7] rfl)

set_option maxHeartbeats 8000000 in
set_option maxRecDepth 100000 in
theorem law_c28 {p : Program} {l : Launch} {e : Env} {s : State} {m : MethodId} {below : List Frame} {meth : Method} {c : Code} {args : Array Value} {Q : State → Prop} {A : Nat → Prop} (hl9 : l.stackTraces = false) (G : nG) (x : Nat) (xq1 : Nat) (xq4 : Nat) (xq25 : Nat) (xq46 : Nat) (xq71 : Nat) (xq75 : Nat) (xq82 : Nat) (xq84 : Nat) (xq6 : Nat) (xq7 : Nat) (xq8 : Nat) (xq15 : Nat) (y : Nat) (yq1 : Nat) (yq2 : Nat) (yq3 : Nat) (yq4 : Nat) (yq5 : Nat) (yq6 : Nat) (yq7 : Nat) (yq8 : Nat) (yq9 : Nat) (yq10 : Nat) (yq11 : Nat) (yq12 : Nat) (yq13 : Nat) (yq14 : Nat) (yq15 : Nat) (yq16 : Nat) (yf90 : Nat → Int32) (o : Nat) (od : Nat) (b : Nat) (xs : Nat → Int32) (hx : p.tables.exec = Jvm.exec) (hb : c.code = cL_law) (hml : c.maxLocals = 9) (hown : s.vm.findClass RL = some m.cls) (hts : ∀ w ∈ wsL_law, w.before args s = true) (hX : va_X b 5 xs s s.heap) (hbl : b < s.heap.size) (hbA : ¬ A b) (hA : ∀ q : Nat, s.heap.size ≤ q → A q) (hK : va_K G.1 vwCl (n_ty G) s) (hE : n_ex A s s.heap) (hfa16 : nMod yf90)
    (hend : ∀ (H : Heap) (locs : List Loc) (ls : Array Slot), va_S A s.heap H locs → lv_has ls 9 [(0, .ref b), (5, .int 0)] → W p l e room_1 s m args below meth c H locs 2000 60000 Q (F0 m 2342 ls []))
    (H : Heap) (locs : List Loc) (ls : Array Slot) (hP : va_P G.1 vwCl [(x, .inr (12, [.ref xq1, .ref xq4, .ref xq25, .ref xq46, .ref xq71, .ref xq75, .ref xq82, .ref xq84, .int 0])), (xq4, .inr (5, [.ref xq6, .ref xq7, .ref xq8])), (xq7, .inr (9, [.ref xq15, .int 0])), (y, .inr (13, [.ref yq1, .ref yq2, .int 0, .ref yq3, .int 0, .int 0, .int 0, .ref yq4, .ref yq5, .int 0, .ref yq6, .int (-1), .ref yq7, .int 0, .ref yq8, .ref yq9, .ref yq10, .ref yq11, .int 0, .int 0, .int 0, .int 0, .ref yq12, .ref yq13, .ref yq14, .ref yq15, .ref yq16])), (yq1, eI G 1191 yf90), (od, eW G 1 (fun _ => 0))] H) (hD : va_D A [(x, .inr (12, [.ref xq1, .ref xq4, .ref xq25, .ref xq46, .ref xq71, .ref xq75, .ref xq82, .ref xq84, .int 0])), (xq4, .inr (5, [.ref xq6, .ref xq7, .ref xq8])), (xq7, .inr (9, [.ref xq15, .int 0])), (y, .inr (13, [.ref yq1, .ref yq2, .int 0, .ref yq3, .int 0, .int 0, .int 0, .ref yq4, .ref yq5, .int 0, .ref yq6, .int (-1), .ref yq7, .int 0, .ref yq8, .ref yq9, .ref yq10, .ref yq11, .int 0, .int 0, .int 0, .int 0, .ref yq12, .ref yq13, .ref yq14, .ref yq15, .ref yq16])), (yq1, eI G 1191 yf90), (od, eW G 1 (fun _ => 0))]) (hS : va_S A s.heap H locs) (hl : lv_has ls 9 [(0, .ref b), (1, .ref x), (2, .ref y), (3, .ref o), (4, .ref od), (5, .int 0)]) : W p l e room_1 s m args below meth c H locs 609 18141 Q (F0 m 2131 ls []) := by
  refine lv_aload_n hx hb dL_law_2131 rfl (lv_at hl 1 rfl) ?_
  refine lv_aload hx hb dL_law_2132 (lv_at hl 4 rfl) ?_
  refine n_ci (wr := [(y, .inr (13, [.ref yq1, .ref yq2, .int 0, .ref yq3, .int 0, .int 0, .int 0, .ref yq4, .ref yq5, .int 0, .ref yq6, .int (-1), .ref yq7, .int 0, .ref yq8, .ref yq9, .ref yq10, .ref yq11, .int 0, .int 0, .int 0, .int 0, .ref yq12, .ref yq13, .ref yq14, .ref yq15, .ref yq16])), (yq1, eI G 1191 yf90)]) (vx_runSW (As := [.ref x, .ref od]) (rest := []) ⟨hx, hb, hml, hown, hts⟩ (mL_changedShare l hl9 G x xq1 xq4 xq25 xq46 xq71 xq75 xq82 xq84 xq6 xq7 xq8 xq15 od (fun _ => 0) H.size) (vx_cwSW 2 hts gL_law_L_changedShare rfl rfl rfl (by decide +kernel) ⟨(Nat.le_of_ble_eq_true rfl), (Nat.le_of_ble_eq_true rfl)⟩) (n_prX hK hP hD hS hA [0, 1, 2, 5] rfl (by decide) hE) rfl rfl hl.1 rfl (lv_room (Nat.le_of_ble_eq_true rfl)) dL_law_2134 ⟨(Nat.le_of_ble_eq_true rfl), (Nat.le_of_ble_eq_true rfl)⟩) hP hD hS hA [0, 1, 2, 5] [3, 4] rfl rfl (by decide) (by decide) (fun r_1 u_2 H locs hP hD hS hw => ?_)
  have hP : va_P G.1 vwCl [(y, .inr (13, [.ref yq1, .ref yq2, .int 0, .ref yq3, .int 0, .int 0, .int 0, .ref yq4, .ref yq5, .int 0, .ref yq6, .int (-1), .ref yq7, .int 0, .ref yq8, .ref yq9, .ref yq10, .ref yq11, .int 0, .int 0, .int 0, .int 0, .ref yq12, .ref yq13, .ref yq14, .ref yq15, .ref yq16])), (yq1, eI G 1191 yf90), (od, eW G 1 (fun _ => 0))] H := hP
  have hD : va_D A [(y, .inr (13, [.ref yq1, .ref yq2, .int 0, .ref yq3, .int 0, .int 0, .int 0, .ref yq4, .ref yq5, .int 0, .ref yq6, .int (-1), .ref yq7, .int 0, .ref yq8, .ref yq9, .ref yq10, .ref yq11, .int 0, .int 0, .int 0, .int 0, .ref yq12, .ref yq13, .ref yq14, .ref yq15, .ref yq16])), (yq1, eI G 1191 yf90), (od, eW G 1 (fun _ => 0))] := hD
  have hw : r_1 = 1 := hw
  subst hw
  refine lv_istore (lv' := [(6, .int 1), (0, .ref b), (1, .ref x), (2, .ref y), (3, .ref o), (4, .ref od), (5, .int 0)]) hx hb dL_law_2137 hl (by decide) rfl (fun ls hl => ?_)
  refine lv_aload_n hx hb dL_law_2139 rfl (lv_at hl 3 rfl) ?_
  refine n_cf (wr := [(od, eW G 1 (fun _ => 0))]) (va_runV (As := []) (rest := []) ⟨hx, hb, hml, hown, hts⟩ (mX12_changedShare l G y yq1 yq2 yq3 yq4 yq5 yq6 yq7 yq8 yq9 yq10 yq11 yq12 yq13 yq14 yq15 yq16 0 0 0 0 0 (-1) 0 0 0 0 0 yf90 H.size hfa16) (cwV 0 hts gL_law_X12_changedShare rfl rfl rfl (by decide +kernel) ⟨(Nat.le_of_ble_eq_true rfl), (Nat.le_of_ble_eq_true rfl)⟩) (n_prV (ci := 13) (q0 := 0) hK hP hD [0, 1] rfl (by decide) rfl rfl) rfl rfl hl.1 rfl (lv_room (Nat.le_of_ble_eq_true rfl)) dL_law_2140 ⟨(Nat.le_of_ble_eq_true rfl), (Nat.le_of_ble_eq_true rfl)⟩) hP hD hS hA [0, 1] [2] rfl rfl (by decide) (by decide) (fun r_3 u_4 H locs hP hD hS hw => ?_)
  have hP : va_P G.1 vwCl [(od, eW G 1 (fun _ => 0)), (y, .inr (13, [.ref yq1, .ref yq2, .int 0, .ref yq3, .int 0, .int 1, .int 0, .ref yq4, .ref yq5, .int 0, .ref yq6, .int (-1), .ref yq7, .int 0, .ref yq8, .ref yq9, .ref yq10, .ref yq11, .int 0, .int 0, .int 0, .int 0, .ref yq12, .ref yq13, .ref yq14, .ref yq15, .ref yq16]))] H := hP
  have hD : va_D A [(od, eW G 1 (fun _ => 0)), (y, .inr (13, [.ref yq1, .ref yq2, .int 0, .ref yq3, .int 0, .int 1, .int 0, .ref yq4, .ref yq5, .int 0, .ref yq6, .int (-1), .ref yq7, .int 0, .ref yq8, .ref yq9, .ref yq10, .ref yq11, .int 0, .int 0, .int 0, .int 0, .ref yq12, .ref yq13, .ref yq14, .ref yq15, .ref yq16]))] := hD
  have hw : r_3 = 0 := hw
  subst hw
  refine lv_fstore (lv' := [(7, .float 0), (6, .int 1), (0, .ref b), (1, .ref x), (2, .ref y), (3, .ref o), (4, .ref od), (5, .int 0)]) hx hb dL_law_2143 hl (by decide) rfl (fun ls hl => ?_)
  refine lv_aload_n hx hb dL_law_2145 rfl (lv_at hl 4 rfl) ?_
  refine n_ci (wr := [(od, eW G 1 (fun _ => 0))]) (va_runV (As := []) (rest := []) ⟨hx, hb, hml, hown, hts⟩ (mX12_thrown l G y yq1 yq2 yq3 yq4 yq5 yq6 yq7 yq8 yq9 yq10 yq11 yq12 yq13 yq14 yq15 yq16 0 0 1 0 0 (-1) 0 0 0 0 0 H.size) (cwV 0 hts gL_law_X12_thrown rfl rfl rfl (by decide +kernel) ⟨(Nat.le_of_ble_eq_true rfl), (Nat.le_of_ble_eq_true rfl)⟩) (n_prV (ci := 13) (q0 := 1) hK hP hD [1] rfl (by decide) rfl rfl) rfl rfl hl.1 rfl (lv_room (Nat.le_of_ble_eq_true rfl)) dL_law_2146 ⟨(Nat.le_of_ble_eq_true rfl), (Nat.le_of_ble_eq_true rfl)⟩) hP hD hS hA [1] [0] rfl rfl (by decide) (by decide) (fun r_5 u_6 H locs hP hD hS hw => ?_)
  have hP : va_P G.1 vwCl [(od, eW G 1 (fun _ => 0)), (y, .inr (13, [.ref yq1, .ref yq2, .int 0, .ref yq3, .int 0, .int 1, .int 0, .ref yq4, .ref yq5, .int 0, .ref yq6, .int (-1), .ref yq7, .int 0, .ref yq8, .ref yq9, .ref yq10, .ref yq11, .int 0, .int 0, .int 0, .int 0, .ref yq12, .ref yq13, .ref yq14, .ref yq15, .ref yq16]))] H := hP
  have hD : va_D A [(od, eW G 1 (fun _ => 0)), (y, .inr (13, [.ref yq1, .ref yq2, .int 0, .ref yq3, .int 0, .int 1, .int 0, .ref yq4, .ref yq5, .int 0, .ref yq6, .int (-1), .ref yq7, .int 0, .ref yq8, .ref yq9, .ref yq10, .ref yq11, .int 0, .int 0, .int 0, .int 0, .ref yq12, .ref yq13, .ref yq14, .ref yq15, .ref yq16]))] := hD
  have hw : r_5 = 1 := hw
  subst hw
  refine lv_iload hx hb dL_law_2149 (lv_at hl 1 rfl) ?_
  refine lv_icmp_eq (tgt := 2156) hx hb dL_law_2151 (by decide) (fun _ => ?_) (fun h9 => absurd (by decide) h9)
  refine lv_iload hx hb dL_law_2156 (lv_at hl 1 rfl) ?_
  refine lv_if_ne (tgt := 2194) hx hb dL_law_2158 (by decide) (fun _ => ?_) (fun h9 => absurd h9 (by decide))
  refine lv_goto (tgt := 2342) hx hb dL_law_2194 (by decide) ?_
  refine W.widen (k := 2000) (n := 60000) (Nat.le_of_ble_eq_true rfl) (Nat.le_of_ble_eq_true rfl) ?_
  exact hend H locs ls hS (lv_sub hl [2, 7] rfl)

set_option maxHeartbeats 8000000 in
set_option maxRecDepth 100000 in
theorem law_c29 {p : Program} {l : Launch} {e : Env} {s : State} {m : MethodId} {below : List Frame} {meth : Method} {c : Code} {args : Array Value} {Q : State → Prop} {A : Nat → Prop} (hl9 : l.stackTraces = false) (G : nG) (x : Nat) (xq1 : Nat) (xq4 : Nat) (xq25 : Nat) (xq46 : Nat) (xq71 : Nat) (xq75 : Nat) (xq82 : Nat) (xq84 : Nat) (xq2 : Nat) (xq77 : Nat) (xq78 : Nat) (xq79 : Nat) (xq80 : Nat) (xq81 : Nat) (y : Nat) (yq1 : Nat) (yq2 : Nat) (yq3 : Nat) (yq4 : Nat) (yq5 : Nat) (yq6 : Nat) (yq7 : Nat) (yq8 : Nat) (yq9 : Nat) (yq10 : Nat) (yq11 : Nat) (yq12 : Nat) (yq13 : Nat) (yq14 : Nat) (yq15 : Nat) (yq16 : Nat) (o : Nat) (od : Nat) (b : Nat) (xs : Nat → Int32) (hx : p.tables.exec = Jvm.exec) (hb : c.code = cL_law) (hml : c.maxLocals = 9) (hown : s.vm.findClass RL = some m.cls) (hts : ∀ w ∈ wsL_law, w.before args s = true) (hX : va_X b 5 xs s s.heap) (hbl : b < s.heap.size) (hbA : ¬ A b) (hA : ∀ q : Nat, s.heap.size ≤ q → A q) (hK : va_K G.1 vwCl (n_ty G) s) (hE : n_ex A s s.heap) 
    (hend : ∀ (H : Heap) (locs : List Loc) (ls : Array Slot), va_S A s.heap H locs → lv_has ls 9 [(0, .ref b), (5, .int 0)] → W p l e room_1 s m args below meth c H locs 2000 60000 Q (F0 m 2342 ls []))
    (H : Heap) (locs : List Loc) (ls : Array Slot) (hP : va_P G.1 vwCl [(x, .inr (12, [.ref xq1, .ref xq4, .ref xq25, .ref xq46, .ref xq71, .ref xq75, .ref xq82, .ref xq84, .int 0])), (xq1, .inr (8, [.ref xq2, .int 0, .long 0, .int 0])), (xq75, .inr (3, [.ref xq77, .ref xq78, .ref xq79, .ref xq80, .ref xq81, .int 0, .int 0])), (xq78, eI G 30 (fun _ => 0)), (xq79, eI G 30 (fun _ => 0)), (y, .inr (13, [.ref yq1, .ref yq2, .int 0, .ref yq3, .int 0, .int 0, .int 0, .ref yq4, .ref yq5, .int 0, .ref yq6, .int (-1), .ref yq7, .int 0, .ref yq8, .ref yq9, .ref yq10, .ref yq11, .int 0, .int 0, .int 0, .int 0, .ref yq12, .ref yq13, .ref yq14, .ref yq15, .ref yq16])), (yq12, eI G 60 (fun _ => 0)), (yq13, eI G 60 (fun _ => 0)), (o, eJ G 1 (fun _ => 0))] H) (hD : va_D A [(x, .inr (12, [.ref xq1, .ref xq4, .ref xq25, .ref xq46, .ref xq71, .ref xq75, .ref xq82, .ref xq84, .int 0])), (xq1, .inr (8, [.ref xq2, .int 0, .long 0, .int 0])), (xq75, .inr (3, [.ref xq77, .ref xq78, .ref xq79, .ref xq80, .ref xq81, .int 0, .int 0])), (xq78, eI G 30 (fun _ => 0)), (xq79, eI G 30 (fun _ => 0)), (y, .inr (13, [.ref yq1, .ref yq2, .int 0, .ref yq3, .int 0, .int 0, .int 0, .ref yq4, .ref yq5, .int 0, .ref yq6, .int (-1), .ref yq7, .int 0, .ref yq8, .ref yq9, .ref yq10, .ref yq11, .int 0, .int 0, .int 0, .int 0, .ref yq12, .ref yq13, .ref yq14, .ref yq15, .ref yq16])), (yq12, eI G 60 (fun _ => 0)), (yq13, eI G 60 (fun _ => 0)), (o, eJ G 1 (fun _ => 0))]) (hS : va_S A s.heap H locs) (hl : lv_has ls 9 [(0, .ref b), (1, .ref x), (2, .ref y), (3, .ref o), (4, .ref od), (5, .int 0)]) : W p l e room_1 s m args below meth c H locs 609 18141 Q (F0 m 2197 ls []) := by
  refine lv_aload_n hx hb dL_law_2197 rfl (lv_at hl 1 rfl) ?_
  refine lv_aload_n hx hb dL_law_2198 rfl (lv_at hl 3 rfl) ?_
  refine n_ci (wr := [(y, .inr (13, [.ref yq1, .ref yq2, .int 0, .ref yq3, .int 0, .int 0, .int 0, .ref yq4, .ref yq5, .int 0, .ref yq6, .int (-1), .ref yq7, .int 0, .ref yq8, .ref yq9, .ref yq10, .ref yq11, .int 0, .int 0, .int 0, .int 0, .ref yq12, .ref yq13, .ref yq14, .ref yq15, .ref yq16])), (yq12, eI G 60 (fun _ => 0)), (yq13, eI G 60 (fun _ => 0))]) (vx_runSW (As := [.ref x, .ref o]) (rest := []) ⟨hx, hb, hml, hown, hts⟩ (mL_perform l hl9 G x xq1 xq4 xq25 xq46 xq71 xq75 xq82 xq84 xq77 xq78 xq79 xq80 xq81 (fun _ => 0) (fun _ => 0) xq2 0 0 o (fun _ => 0) H.size) (vx_cwSW 2 hts gL_law_L_perform rfl rfl rfl (by decide +kernel) ⟨(Nat.le_of_ble_eq_true rfl), (Nat.le_of_ble_eq_true rfl)⟩) (n_prX hK hP hD hS hA [0, 2, 3, 4, 1, 8] rfl (by decide) hE) rfl rfl hl.1 rfl (lv_room (Nat.le_of_ble_eq_true rfl)) dL_law_2199 ⟨(Nat.le_of_ble_eq_true rfl), (Nat.le_of_ble_eq_true rfl)⟩) hP hD hS hA [0, 2, 3, 4, 1, 8] [5, 6, 7] rfl rfl (by decide) (by decide) (fun r_1 u_2 H locs hP hD hS hw => ?_)
  have hP : va_P G.1 vwCl [(y, .inr (13, [.ref yq1, .ref yq2, .int 0, .ref yq3, .int 0, .int 0, .int 0, .ref yq4, .ref yq5, .int 0, .ref yq6, .int (-1), .ref yq7, .int 0, .ref yq8, .ref yq9, .ref yq10, .ref yq11, .int 0, .int 0, .int 0, .int 0, .ref yq12, .ref yq13, .ref yq14, .ref yq15, .ref yq16])), (yq12, eI G 60 (fun _ => 0)), (yq13, eI G 60 (fun _ => 0)), (o, eJ G 1 (vp_updL (fun _ => 0) ((0 : Int32).toNatClampNeg) (((-100) : Int32).toInt64)))] H := hP
  have hD : va_D A [(y, .inr (13, [.ref yq1, .ref yq2, .int 0, .ref yq3, .int 0, .int 0, .int 0, .ref yq4, .ref yq5, .int 0, .ref yq6, .int (-1), .ref yq7, .int 0, .ref yq8, .ref yq9, .ref yq10, .ref yq11, .int 0, .int 0, .int 0, .int 0, .ref yq12, .ref yq13, .ref yq14, .ref yq15, .ref yq16])), (yq12, eI G 60 (fun _ => 0)), (yq13, eI G 60 (fun _ => 0)), (o, eJ G 1 (vp_updL (fun _ => 0) ((0 : Int32).toNatClampNeg) (((-100) : Int32).toInt64)))] := hD
  have hw : r_1 = 0 := hw
  subst hw
  refine lv_istore (lv' := [(6, .int 0), (0, .ref b), (1, .ref x), (2, .ref y), (3, .ref o), (4, .ref od), (5, .int 0)]) hx hb dL_law_2202 hl (by decide) rfl (fun ls hl => ?_)
  refine lv_aload_n hx hb dL_law_2204 rfl (lv_at hl 3 rfl) ?_
  refine n_ci (wr := [(o, eJ G 1 (vp_updL (fun _ => 0) ((0 : Int32).toNatClampNeg) (((-100) : Int32).toInt64)))]) (va_runV (As := []) (rest := []) ⟨hx, hb, hml, hown, hts⟩ (mX12_perform l G y yq1 yq2 yq3 yq4 yq5 yq6 yq7 yq8 yq9 yq10 yq11 yq12 yq13 yq14 yq15 yq16 0 0 0 0 (-1) 0 0 0 0 0 (fun _ => 0) (fun _ => 0) H.size) (cwV 0 hts gL_law_X12_perform rfl rfl rfl (by decide +kernel) ⟨(Nat.le_of_ble_eq_true rfl), (Nat.le_of_ble_eq_true rfl)⟩) (n_prV (ci := 13) (q0 := 0) hK hP hD [0, 2, 1] rfl (by decide) rfl rfl) rfl rfl hl.1 rfl (lv_room (Nat.le_of_ble_eq_true rfl)) dL_law_2205 ⟨(Nat.le_of_ble_eq_true rfl), (Nat.le_of_ble_eq_true rfl)⟩) hP hD hS hA [0, 2, 1] [3] rfl rfl (by decide) (by decide) (fun r_3 u_4 H locs hP hD hS hw => ?_)
  have hP : va_P G.1 vwCl [(o, eJ G 1 (vp_updL (fun _ => 0) ((0 : Int32).toNatClampNeg) (((-100) : Int32).toInt64))), (y, .inr (13, [.ref yq1, .ref yq2, .int 0, .ref yq3, .int 0, .int 0, .int 0, .ref yq4, .ref yq5, .int 0, .ref yq6, .int (-1), .ref yq7, .int 0, .ref yq8, .ref yq9, .ref yq10, .ref yq11, .int 0, .int 0, .int 1, .int 1, .ref yq12, .ref yq13, .ref yq14, .ref yq15, .ref yq16]))] H := hP
  have hD : va_D A [(o, eJ G 1 (vp_updL (fun _ => 0) ((0 : Int32).toNatClampNeg) (((-100) : Int32).toInt64))), (y, .inr (13, [.ref yq1, .ref yq2, .int 0, .ref yq3, .int 0, .int 0, .int 0, .ref yq4, .ref yq5, .int 0, .ref yq6, .int (-1), .ref yq7, .int 0, .ref yq8, .ref yq9, .ref yq10, .ref yq11, .int 0, .int 0, .int 1, .int 1, .ref yq12, .ref yq13, .ref yq14, .ref yq15, .ref yq16]))] := hD
  have hw : r_3 = (-100) := hw
  subst hw
  refine lv_istore (lv' := [(7, .int (-100)), (6, .int 0), (0, .ref b), (1, .ref x), (2, .ref y), (3, .ref o), (4, .ref od), (5, .int 0)]) hx hb dL_law_2208 hl (by decide) rfl (fun ls hl => ?_)
  refine lv_aload_n hx hb dL_law_2210 rfl (lv_at hl 4 rfl) ?_
  refine n_ci (wr := [(o, eJ G 1 (vp_updL (fun _ => 0) ((0 : Int32).toNatClampNeg) (((-100) : Int32).toInt64)))]) (va_runV (As := []) (rest := []) ⟨hx, hb, hml, hown, hts⟩ (mX12_thrown l G y yq1 yq2 yq3 yq4 yq5 yq6 yq7 yq8 yq9 yq10 yq11 yq12 yq13 yq14 yq15 yq16 0 0 0 0 0 (-1) 0 0 0 1 1 H.size) (cwV 0 hts gL_law_X12_thrown rfl rfl rfl (by decide +kernel) ⟨(Nat.le_of_ble_eq_true rfl), (Nat.le_of_ble_eq_true rfl)⟩) (n_prV (ci := 13) (q0 := 1) hK hP hD [1] rfl (by decide) rfl rfl) rfl rfl hl.1 rfl (lv_room (Nat.le_of_ble_eq_true rfl)) dL_law_2211 ⟨(Nat.le_of_ble_eq_true rfl), (Nat.le_of_ble_eq_true rfl)⟩) hP hD hS hA [1] [0] rfl rfl (by decide) (by decide) (fun r_5 u_6 H locs hP hD hS hw => ?_)
  have hP : va_P G.1 vwCl [(o, eJ G 1 (vp_updL (fun _ => 0) ((0 : Int32).toNatClampNeg) (((-100) : Int32).toInt64))), (y, .inr (13, [.ref yq1, .ref yq2, .int 0, .ref yq3, .int 0, .int 0, .int 0, .ref yq4, .ref yq5, .int 0, .ref yq6, .int (-1), .ref yq7, .int 0, .ref yq8, .ref yq9, .ref yq10, .ref yq11, .int 0, .int 0, .int 1, .int 1, .ref yq12, .ref yq13, .ref yq14, .ref yq15, .ref yq16]))] H := hP
  have hD : va_D A [(o, eJ G 1 (vp_updL (fun _ => 0) ((0 : Int32).toNatClampNeg) (((-100) : Int32).toInt64))), (y, .inr (13, [.ref yq1, .ref yq2, .int 0, .ref yq3, .int 0, .int 0, .int 0, .ref yq4, .ref yq5, .int 0, .ref yq6, .int (-1), .ref yq7, .int 0, .ref yq8, .ref yq9, .ref yq10, .ref yq11, .int 0, .int 0, .int 1, .int 1, .ref yq12, .ref yq13, .ref yq14, .ref yq15, .ref yq16]))] := hD
  have hw : r_5 = 0 := hw
  subst hw
  refine lv_iload hx hb dL_law_2214 (lv_at hl 1 rfl) ?_
  refine lv_icmp_eq (tgt := 2221) hx hb dL_law_2216 (by decide) (fun _ => ?_) (fun h9 => absurd (by decide) h9)
  refine lv_iload hx hb dL_law_2221 (lv_at hl 1 rfl) ?_
  refine lv_if_ne (tgt := 2238) hx hb dL_law_2223 (by decide) (fun h9 => absurd (by decide) h9) (fun _ => ?_)
  refine lv_aload_n hx hb dL_law_2226 rfl (lv_at hl 5 rfl) ?_
  refine lv_iconst (v := 0) hx hb dL_law_2227 (by decide) ?_
  refine va_lald hx hb hK hP 0 2 rfl rfl (n_in (by decide)) dL_law_2228 ?_
  refine n_eql (y := (((-100) : Int32).toInt64)) pk_uLs ?_
  refine lv_iload hx hb dL_law_2229 (lv_at hl 0 rfl) ?_
  refine lv_i2l (v := ((-100) : Int32).toInt64) hx hb dL_law_2231 rfl ?_
  refine W.lcmp hx hb dL_law_2232 ?_
  refine n_eqi (y := 0) (n_lg _) ?_
  refine lv_if_eq (tgt := 2238) hx hb dL_law_2233 (by decide) (fun _ => ?_) (fun h9 => absurd (by decide) h9)
  refine lv_goto (tgt := 2342) hx hb dL_law_2238 (by decide) ?_
  refine W.widen (k := 2000) (n := 60000) (Nat.le_of_ble_eq_true rfl) (Nat.le_of_ble_eq_true rfl) ?_
  exact hend H locs ls hS (lv_sub hl [2, 7] rfl)

set_option maxHeartbeats 8000000 in
set_option maxRecDepth 100000 in
theorem law_c30 {p : Program} {l : Launch} {e : Env} {s : State} {m : MethodId} {below : List Frame} {meth : Method} {c : Code} {args : Array Value} {Q : State → Prop} {A : Nat → Prop} (hl9 : l.stackTraces = false) (G : nG) (x : Nat) (xq1 : Nat) (xq4 : Nat) (xq25 : Nat) (xq46 : Nat) (xq71 : Nat) (xq75 : Nat) (xq82 : Nat) (xq84 : Nat) (xq48 : Nat) (y : Nat) (yq1 : Nat) (yq2 : Nat) (yq3 : Nat) (yq4 : Nat) (yq5 : Nat) (yq6 : Nat) (yq7 : Nat) (yq8 : Nat) (yq9 : Nat) (yq10 : Nat) (yq11 : Nat) (yq12 : Nat) (yq13 : Nat) (yq14 : Nat) (yq15 : Nat) (yq16 : Nat) (o : Nat) (od : Nat) (b : Nat) (xs : Nat → Int32) (hx : p.tables.exec = Jvm.exec) (hb : c.code = cL_law) (hml : c.maxLocals = 9) (hown : s.vm.findClass RL = some m.cls) (hts : ∀ w ∈ wsL_law, w.before args s = true) (hX : va_X b 5 xs s s.heap) (hbl : b < s.heap.size) (hbA : ¬ A b) (hA : ∀ q : Nat, s.heap.size ≤ q → A q) (hK : va_K G.1 vwCl (n_ty G) s) (hE : n_ex A s s.heap) 
    (hend : ∀ (H : Heap) (locs : List Loc) (ls : Array Slot), va_S A s.heap H locs → lv_has ls 9 [(0, .ref b), (5, .int 0)] → W p l e room_1 s m args below meth c H locs 2000 60000 Q (F0 m 2342 ls []))
    (H : Heap) (locs : List Loc) (ls : Array Slot) (hP : va_P G.1 vwCl [(x, .inr (12, [.ref xq1, .ref xq4, .ref xq25, .ref xq46, .ref xq71, .ref xq75, .ref xq82, .ref xq84, .int 0])), (xq46, .inr (7, [.ref xq48, .int 0, .int 0])), (y, .inr (13, [.ref yq1, .ref yq2, .int 0, .ref yq3, .int 0, .int 0, .int 0, .ref yq4, .ref yq5, .int 0, .ref yq6, .int (-1), .ref yq7, .int 0, .ref yq8, .ref yq9, .ref yq10, .ref yq11, .int 0, .int 0, .int 0, .int 0, .ref yq12, .ref yq13, .ref yq14, .ref yq15, .ref yq16])), (o, eJ G 1 (fun _ => 0))] H) (hD : va_D A [(x, .inr (12, [.ref xq1, .ref xq4, .ref xq25, .ref xq46, .ref xq71, .ref xq75, .ref xq82, .ref xq84, .int 0])), (xq46, .inr (7, [.ref xq48, .int 0, .int 0])), (y, .inr (13, [.ref yq1, .ref yq2, .int 0, .ref yq3, .int 0, .int 0, .int 0, .ref yq4, .ref yq5, .int 0, .ref yq6, .int (-1), .ref yq7, .int 0, .ref yq8, .ref yq9, .ref yq10, .ref yq11, .int 0, .int 0, .int 0, .int 0, .ref yq12, .ref yq13, .ref yq14, .ref yq15, .ref yq16])), (o, eJ G 1 (fun _ => 0))]) (hS : va_S A s.heap H locs) (hl : lv_has ls 9 [(0, .ref b), (1, .ref x), (2, .ref y), (3, .ref o), (4, .ref od), (5, .int 0)]) : W p l e room_1 s m args below meth c H locs 609 18141 Q (F0 m 2241 ls []) := by
  refine lv_aload_n hx hb dL_law_2241 rfl (lv_at hl 1 rfl) ?_
  refine lv_aload_n hx hb dL_law_2242 rfl (lv_at hl 3 rfl) ?_
  refine n_ci (wr := [(y, .inr (13, [.ref yq1, .ref yq2, .int 0, .ref yq3, .int 0, .int 0, .int 0, .ref yq4, .ref yq5, .int 0, .ref yq6, .int (-1), .ref yq7, .int 0, .ref yq8, .ref yq9, .ref yq10, .ref yq11, .int 0, .int 0, .int 0, .int 0, .ref yq12, .ref yq13, .ref yq14, .ref yq15, .ref yq16]))]) (vx_runSW (As := [.ref x, .ref o]) (rest := []) ⟨hx, hb, hml, hown, hts⟩ (mL_undo l hl9 G x xq1 xq4 xq25 xq46 xq71 xq75 xq82 xq84 xq48 o (fun _ => 0) H.size) (vx_cwSW 2 hts gL_law_L_undo rfl rfl rfl (by decide +kernel) ⟨(Nat.le_of_ble_eq_true rfl), (Nat.le_of_ble_eq_true rfl)⟩) (n_prX hK hP hD hS hA [0, 1, 3] rfl (by decide) hE) rfl rfl hl.1 rfl (lv_room (Nat.le_of_ble_eq_true rfl)) dL_law_2243 ⟨(Nat.le_of_ble_eq_true rfl), (Nat.le_of_ble_eq_true rfl)⟩) hP hD hS hA [0, 1, 3] [2] rfl rfl (by decide) (by decide) (fun r_1 u_2 H locs hP hD hS hw => ?_)
  have hP : va_P G.1 vwCl [(y, .inr (13, [.ref yq1, .ref yq2, .int 0, .ref yq3, .int 0, .int 0, .int 0, .ref yq4, .ref yq5, .int 0, .ref yq6, .int (-1), .ref yq7, .int 0, .ref yq8, .ref yq9, .ref yq10, .ref yq11, .int 0, .int 0, .int 0, .int 0, .ref yq12, .ref yq13, .ref yq14, .ref yq15, .ref yq16])), (o, eJ G 1 (fun _ => 0))] H := hP
  have hD : va_D A [(y, .inr (13, [.ref yq1, .ref yq2, .int 0, .ref yq3, .int 0, .int 0, .int 0, .ref yq4, .ref yq5, .int 0, .ref yq6, .int (-1), .ref yq7, .int 0, .ref yq8, .ref yq9, .ref yq10, .ref yq11, .int 0, .int 0, .int 0, .int 0, .ref yq12, .ref yq13, .ref yq14, .ref yq15, .ref yq16])), (o, eJ G 1 (fun _ => 0))] := hD
  have hw : r_1 = 1 := hw
  subst hw
  refine lv_istore (lv' := [(6, .int 1), (0, .ref b), (1, .ref x), (2, .ref y), (3, .ref o), (4, .ref od), (5, .int 0)]) hx hb dL_law_2246 hl (by decide) rfl (fun ls hl => ?_)
  refine lv_aload_n hx hb dL_law_2248 rfl (lv_at hl 3 rfl) ?_
  refine n_ci (wr := [(o, eJ G 1 (fun _ => 0))]) (va_runV (As := []) (rest := []) ⟨hx, hb, hml, hown, hts⟩ (mX12_undo l G y yq1 yq2 yq3 yq4 yq5 yq6 yq7 yq8 yq9 yq10 yq11 yq12 yq13 yq14 yq15 yq16 0 0 0 0 (-1) 0 0 0 0 0 H.size) (cwV 0 hts gL_law_X12_undo rfl rfl rfl (by decide +kernel) ⟨(Nat.le_of_ble_eq_true rfl), (Nat.le_of_ble_eq_true rfl)⟩) (n_prV (ci := 13) (q0 := 0) hK hP hD [0] rfl (by decide) rfl rfl) rfl rfl hl.1 rfl (lv_room (Nat.le_of_ble_eq_true rfl)) dL_law_2249 ⟨(Nat.le_of_ble_eq_true rfl), (Nat.le_of_ble_eq_true rfl)⟩) hP hD hS hA [0] [1] rfl rfl (by decide) (by decide) (fun r_3 u_4 H locs hP hD hS hw => ?_)
  have hP : va_P G.1 vwCl [(o, eJ G 1 (fun _ => 0)), (y, .inr (13, [.ref yq1, .ref yq2, .int 0, .ref yq3, .int 0, .int 1, .int 0, .ref yq4, .ref yq5, .int 0, .ref yq6, .int (-1), .ref yq7, .int 0, .ref yq8, .ref yq9, .ref yq10, .ref yq11, .int 0, .int 0, .int 0, .int 0, .ref yq12, .ref yq13, .ref yq14, .ref yq15, .ref yq16]))] H := hP
  have hD : va_D A [(o, eJ G 1 (fun _ => 0)), (y, .inr (13, [.ref yq1, .ref yq2, .int 0, .ref yq3, .int 0, .int 1, .int 0, .ref yq4, .ref yq5, .int 0, .ref yq6, .int (-1), .ref yq7, .int 0, .ref yq8, .ref yq9, .ref yq10, .ref yq11, .int 0, .int 0, .int 0, .int 0, .ref yq12, .ref yq13, .ref yq14, .ref yq15, .ref yq16]))] := hD
  have hw : r_3 = 0 := hw
  subst hw
  refine lv_istore (lv' := [(7, .int 0), (6, .int 1), (0, .ref b), (1, .ref x), (2, .ref y), (3, .ref o), (4, .ref od), (5, .int 0)]) hx hb dL_law_2252 hl (by decide) rfl (fun ls hl => ?_)
  refine lv_aload_n hx hb dL_law_2254 rfl (lv_at hl 4 rfl) ?_
  refine n_ci (wr := [(o, eJ G 1 (fun _ => 0))]) (va_runV (As := []) (rest := []) ⟨hx, hb, hml, hown, hts⟩ (mX12_thrown l G y yq1 yq2 yq3 yq4 yq5 yq6 yq7 yq8 yq9 yq10 yq11 yq12 yq13 yq14 yq15 yq16 0 0 1 0 0 (-1) 0 0 0 0 0 H.size) (cwV 0 hts gL_law_X12_thrown rfl rfl rfl (by decide +kernel) ⟨(Nat.le_of_ble_eq_true rfl), (Nat.le_of_ble_eq_true rfl)⟩) (n_prV (ci := 13) (q0 := 1) hK hP hD [1] rfl (by decide) rfl rfl) rfl rfl hl.1 rfl (lv_room (Nat.le_of_ble_eq_true rfl)) dL_law_2255 ⟨(Nat.le_of_ble_eq_true rfl), (Nat.le_of_ble_eq_true rfl)⟩) hP hD hS hA [1] [0] rfl rfl (by decide) (by decide) (fun r_5 u_6 H locs hP hD hS hw => ?_)
  have hP : va_P G.1 vwCl [(o, eJ G 1 (fun _ => 0)), (y, .inr (13, [.ref yq1, .ref yq2, .int 0, .ref yq3, .int 0, .int 1, .int 0, .ref yq4, .ref yq5, .int 0, .ref yq6, .int (-1), .ref yq7, .int 0, .ref yq8, .ref yq9, .ref yq10, .ref yq11, .int 0, .int 0, .int 0, .int 0, .ref yq12, .ref yq13, .ref yq14, .ref yq15, .ref yq16]))] H := hP
  have hD : va_D A [(o, eJ G 1 (fun _ => 0)), (y, .inr (13, [.ref yq1, .ref yq2, .int 0, .ref yq3, .int 0, .int 1, .int 0, .ref yq4, .ref yq5, .int 0, .ref yq6, .int (-1), .ref yq7, .int 0, .ref yq8, .ref yq9, .ref yq10, .ref yq11, .int 0, .int 0, .int 0, .int 0, .ref yq12, .ref yq13, .ref yq14, .ref yq15, .ref yq16]))] := hD
  have hw : r_5 = 1 := hw
  subst hw
  refine lv_iload hx hb dL_law_2258 (lv_at hl 1 rfl) ?_
  refine lv_icmp_eq (tgt := 2265) hx hb dL_law_2260 (by decide) (fun _ => ?_) (fun h9 => absurd (by decide) h9)
  refine lv_iload hx hb dL_law_2265 (lv_at hl 1 rfl) ?_
  refine lv_if_ne (tgt := 2282) hx hb dL_law_2267 (by decide) (fun _ => ?_) (fun h9 => absurd h9 (by decide))
  refine lv_goto (tgt := 2342) hx hb dL_law_2282 (by decide) ?_
  refine W.widen (k := 2000) (n := 60000) (Nat.le_of_ble_eq_true rfl) (Nat.le_of_ble_eq_true rfl) ?_
  exact hend H locs ls hS (lv_sub hl [2, 7] rfl)

set_option maxHeartbeats 8000000 in
set_option maxRecDepth 100000 in
theorem law_c31 {p : Program} {l : Launch} {e : Env} {s : State} {m : MethodId} {below : List Frame} {meth : Method} {c : Code} {args : Array Value} {Q : State → Prop} {A : Nat → Prop} (hl9 : l.stackTraces = false) (G : nG) (x : Nat) (xq1 : Nat) (xq4 : Nat) (xq25 : Nat) (xq46 : Nat) (xq71 : Nat) (xq75 : Nat) (xq82 : Nat) (xq84 : Nat) (xq6 : Nat) (xq7 : Nat) (xq8 : Nat) (xq9 : Nat) (xq10 : Nat) (xq11 : Nat) (xf12 : Nat → Int32) (xf13 : Nat → Int32) (xf14 : Nat → Int32) (xq15 : Nat) (xq16 : Nat) (xq17 : Nat) (xq18 : Nat) (xq19 : Nat) (xq27 : Nat) (xq28 : Nat) (xq29 : Nat) (xq30 : Nat) (xq31 : Nat) (xq32 : Nat) (xf33 : Nat → Int32) (xf34 : Nat → Int32) (xf35 : Nat → Int32) (xq36 : Nat) (xq37 : Nat) (xq38 : Nat) (xq39 : Nat) (xq40 : Nat) (y : Nat) (yq1 : Nat) (yq2 : Nat) (yq3 : Nat) (yq4 : Nat) (yq5 : Nat) (yq6 : Nat) (yq7 : Nat) (yq8 : Nat) (yq9 : Nat) (yq10 : Nat) (yq11 : Nat) (yq12 : Nat) (yq13 : Nat) (yq14 : Nat) (yq15 : Nat) (yq16 : Nat) (yf90 : Nat → Int32) (o : Nat) (od : Nat) (b : Nat) (xs : Nat → Int32) (hx : p.tables.exec = Jvm.exec) (hb : c.code = cL_law) (hml : c.maxLocals = 9) (hown : s.vm.findClass RL = some m.cls) (hts : ∀ w ∈ wsL_law, w.before args s = true) (hX : va_X b 5 xs s s.heap) (hbl : b < s.heap.size) (hbA : ¬ A b) (hA : ∀ q : Nat, s.heap.size ≤ q → A q) (hK : va_K G.1 vwCl (n_ty G) s) (hE : n_ex A s s.heap) (hfa3 : nFit xf13) (hfa4 : nFit xf14) (hfa16 : nMod yf90)
    (hend : ∀ (H : Heap) (locs : List Loc) (ls : Array Slot), va_S A s.heap H locs → lv_has ls 9 [(0, .ref b), (5, .int 0)] → W p l e room_1 s m args below meth c H locs 2000 60000 Q (F0 m 2342 ls []))
    (H : Heap) (locs : List Loc) (ls : Array Slot) (hP : va_P G.1 vwCl [(x, .inr (12, [.ref xq1, .ref xq4, .ref xq25, .ref xq46, .ref xq71, .ref xq75, .ref xq82, .ref xq84, .int 0])), (xq4, .inr (5, [.ref xq6, .ref xq7, .ref xq8])), (xq6, .inr (2, [.ref xq9, .ref xq10, .ref xq11, .int 26])), (xq9, eI G 36 xf12), (xq10, eC G 36 xf13), (xq11, eC G 36 xf14), (xq7, .inr (9, [.ref xq15, .int 0])), (xq8, .inr (11, [.ref xq16, .ref xq17, .ref xq18, .ref xq19, .int 0])), (xq16, eI G 8 (fun _ => 0)), (xq17, eI G 8 (fun _ => 0)), (xq18, eI G 8 (fun _ => 0)), (xq19, eI G 8 (fun _ => 0)), (xq25, .inr (5, [.ref xq27, .ref xq28, .ref xq29])), (xq27, .inr (2, [.ref xq30, .ref xq31, .ref xq32, .int 26])), (xq30, eI G 36 xf33), (xq31, eC G 36 xf34), (xq32, eC G 36 xf35), (xq28, .inr (9, [.ref xq36, .int 0])), (xq29, .inr (11, [.ref xq37, .ref xq38, .ref xq39, .ref xq40, .int 0])), (xq37, eI G 8 (fun _ => 0)), (xq38, eI G 8 (fun _ => 0)), (xq39, eI G 8 (fun _ => 0)), (xq40, eI G 8 (fun _ => 0)), (y, .inr (13, [.ref yq1, .ref yq2, .int 0, .ref yq3, .int 0, .int 0, .int 0, .ref yq4, .ref yq5, .int 0, .ref yq6, .int (-1), .ref yq7, .int 0, .ref yq8, .ref yq9, .ref yq10, .ref yq11, .int 0, .int 0, .int 0, .int 0, .ref yq12, .ref yq13, .ref yq14, .ref yq15, .ref yq16])), (yq1, eI G 1191 yf90), (yq2, eI G 1191 (fun _ => 0))] H) (hD : va_D A [(x, .inr (12, [.ref xq1, .ref xq4, .ref xq25, .ref xq46, .ref xq71, .ref xq75, .ref xq82, .ref xq84, .int 0])), (xq4, .inr (5, [.ref xq6, .ref xq7, .ref xq8])), (xq6, .inr (2, [.ref xq9, .ref xq10, .ref xq11, .int 26])), (xq9, eI G 36 xf12), (xq10, eC G 36 xf13), (xq11, eC G 36 xf14), (xq7, .inr (9, [.ref xq15, .int 0])), (xq8, .inr (11, [.ref xq16, .ref xq17, .ref xq18, .ref xq19, .int 0])), (xq16, eI G 8 (fun _ => 0)), (xq17, eI G 8 (fun _ => 0)), (xq18, eI G 8 (fun _ => 0)), (xq19, eI G 8 (fun _ => 0)), (xq25, .inr (5, [.ref xq27, .ref xq28, .ref xq29])), (xq27, .inr (2, [.ref xq30, .ref xq31, .ref xq32, .int 26])), (xq30, eI G 36 xf33), (xq31, eC G 36 xf34), (xq32, eC G 36 xf35), (xq28, .inr (9, [.ref xq36, .int 0])), (xq29, .inr (11, [.ref xq37, .ref xq38, .ref xq39, .ref xq40, .int 0])), (xq37, eI G 8 (fun _ => 0)), (xq38, eI G 8 (fun _ => 0)), (xq39, eI G 8 (fun _ => 0)), (xq40, eI G 8 (fun _ => 0)), (y, .inr (13, [.ref yq1, .ref yq2, .int 0, .ref yq3, .int 0, .int 0, .int 0, .ref yq4, .ref yq5, .int 0, .ref yq6, .int (-1), .ref yq7, .int 0, .ref yq8, .ref yq9, .ref yq10, .ref yq11, .int 0, .int 0, .int 0, .int 0, .ref yq12, .ref yq13, .ref yq14, .ref yq15, .ref yq16])), (yq1, eI G 1191 yf90), (yq2, eI G 1191 (fun _ => 0))]) (hS : va_S A s.heap H locs) (hl : lv_has ls 9 [(0, .ref b), (1, .ref x), (2, .ref y), (3, .ref o), (4, .ref od), (5, .int 0)]) : W p l e room_1 s m args below meth c H locs 609 18141 Q (F0 m 2285 ls []) := by
  refine lv_aload_n hx hb dL_law_2285 rfl (lv_at hl 1 rfl) ?_
  refine n_ci (wr := [(y, .inr (13, [.ref yq1, .ref yq2, .int 0, .ref yq3, .int 0, .int 0, .int 0, .ref yq4, .ref yq5, .int 0, .ref yq6, .int (-1), .ref yq7, .int 0, .ref yq8, .ref yq9, .ref yq10, .ref yq11, .int 0, .int 0, .int 0, .int 0, .ref yq12, .ref yq13, .ref yq14, .ref yq15, .ref yq16])), (yq1, eI G 1191 yf90), (yq2, eI G 1191 (fun _ => 0))]) (va_runV (As := []) (rest := []) ⟨hx, hb, hml, hown, hts⟩ (mX11_save l G x xq1 xq4 xq25 xq46 xq71 xq75 xq82 xq84 xq27 xq30 xq31 xq32 xf33 xf34 xf35 xq28 xq36 xq29 xq37 xq38 xq39 xq40 (fun _ => 0) (fun _ => 0) (fun _ => 0) (fun _ => 0) xq6 xq7 xq8 xq9 xq10 xq11 xf12 xf13 xf14 xq15 xq16 xq17 xq18 xq19 (fun _ => 0) (fun _ => 0) (fun _ => 0) (fun _ => 0) H.size hfa3 hfa4) (cwV 0 hts gL_law_X11_save rfl rfl rfl (by decide +kernel) ⟨(Nat.le_of_ble_eq_true rfl), (Nat.le_of_ble_eq_true rfl)⟩) (n_prV (ci := 12) (q0 := 0) hK hP hD [0, 12, 13, 14, 15, 16, 17, 18, 19, 20, 21, 22, 1, 2, 3, 4, 5, 6, 7, 8, 9, 10, 11] rfl (by decide) rfl rfl) rfl rfl hl.1 rfl (lv_room (Nat.le_of_ble_eq_true rfl)) dL_law_2286 ⟨(Nat.le_of_ble_eq_true rfl), (Nat.le_of_ble_eq_true rfl)⟩) hP hD hS hA [0, 12, 13, 14, 15, 16, 17, 18, 19, 20, 21, 22, 1, 2, 3, 4, 5, 6, 7, 8, 9, 10, 11] [23, 24, 25] rfl rfl (by decide) (by decide) (fun r_1 u_2 H locs hP hD hS hw => ?_)
  have hP : va_P G.1 vwCl [(y, .inr (13, [.ref yq1, .ref yq2, .int 0, .ref yq3, .int 0, .int 0, .int 0, .ref yq4, .ref yq5, .int 0, .ref yq6, .int (-1), .ref yq7, .int 0, .ref yq8, .ref yq9, .ref yq10, .ref yq11, .int 0, .int 0, .int 0, .int 0, .ref yq12, .ref yq13, .ref yq14, .ref yq15, .ref yq16])), (yq1, eI G 1191 yf90), (yq2, eI G 1191 (fun _ => 0))] H := hP
  have hD : va_D A [(y, .inr (13, [.ref yq1, .ref yq2, .int 0, .ref yq3, .int 0, .int 0, .int 0, .ref yq4, .ref yq5, .int 0, .ref yq6, .int (-1), .ref yq7, .int 0, .ref yq8, .ref yq9, .ref yq10, .ref yq11, .int 0, .int 0, .int 0, .int 0, .ref yq12, .ref yq13, .ref yq14, .ref yq15, .ref yq16])), (yq1, eI G 1191 yf90), (yq2, eI G 1191 (fun _ => 0))] := hD
  have hw : r_1 = 0 := hw
  subst hw
  refine lv_aload_n hx hb dL_law_2289 rfl (lv_at hl 2 rfl) ?_
  refine n_ci (wr := []) (va_runV (As := []) (rest := [.int 0]) ⟨hx, hb, hml, hown, hts⟩ (mX12_save l G y yq1 yq2 yq3 yq4 yq5 yq6 yq7 yq8 yq9 yq10 yq11 yq12 yq13 yq14 yq15 yq16 0 0 0 0 0 (-1) 0 0 0 0 0 yf90 (fun _ => 0) H.size hfa16) (cwV 0 hts gL_law_X12_save rfl rfl rfl (by decide +kernel) ⟨(Nat.le_of_ble_eq_true rfl), (Nat.le_of_ble_eq_true rfl)⟩) (n_prV (ci := 13) (q0 := 0) hK hP hD [0, 1, 2] rfl (by decide) rfl rfl) rfl rfl hl.1 rfl (lv_room (Nat.le_of_ble_eq_true rfl)) dL_law_2290 ⟨(Nat.le_of_ble_eq_true rfl), (Nat.le_of_ble_eq_true rfl)⟩) hP hD hS hA [0, 1, 2] [] rfl rfl (by decide) (by decide) (fun r_3 u_4 H locs hP hD hS hw => ?_)
  have hP : va_P G.1 vwCl [(y, .inr (13, [.ref yq1, .ref yq2, .int 1, .ref yq3, .int 0, .int 0, .int 0, .ref yq4, .ref yq5, .int 0, .ref yq6, .int (-1), .ref yq7, .int 0, .ref yq8, .ref yq9, .ref yq10, .ref yq11, .int 0, .int 0, .int 0, .int 0, .ref yq12, .ref yq13, .ref yq14, .ref yq15, .ref yq16]))] H := hP
  have hD : va_D A [(y, .inr (13, [.ref yq1, .ref yq2, .int 1, .ref yq3, .int 0, .int 0, .int 0, .ref yq4, .ref yq5, .int 0, .ref yq6, .int (-1), .ref yq7, .int 0, .ref yq8, .ref yq9, .ref yq10, .ref yq11, .int 0, .int 0, .int 0, .int 0, .ref yq12, .ref yq13, .ref yq14, .ref yq15, .ref yq16]))] := hD
  have hw : r_3 = 0 := hw
  subst hw
  refine lv_icmp_eq (tgt := 2342) hx hb dL_law_2293 (by decide) (fun _ => ?_) (fun h9 => absurd (by decide) h9)
  refine W.widen (k := 2000) (n := 60000) (Nat.le_of_ble_eq_true rfl) (Nat.le_of_ble_eq_true rfl) ?_
  exact hend H locs ls hS (lv_sub hl [0, 5] rfl)

set_option maxHeartbeats 8000000 in
set_option maxRecDepth 100000 in
theorem law_c32 {p : Program} {l : Launch} {e : Env} {s : State} {m : MethodId} {below : List Frame} {meth : Method} {c : Code} {args : Array Value} {Q : State → Prop} {A : Nat → Prop} (hl9 : l.stackTraces = false) (G : nG) (x : Nat) (xq1 : Nat) (xq4 : Nat) (xq25 : Nat) (xq46 : Nat) (xq71 : Nat) (xq75 : Nat) (xq82 : Nat) (xq84 : Nat) (y : Nat) (yq1 : Nat) (yq2 : Nat) (yq3 : Nat) (yq4 : Nat) (yq5 : Nat) (yq6 : Nat) (yq7 : Nat) (yq8 : Nat) (yq9 : Nat) (yq10 : Nat) (yq11 : Nat) (yq12 : Nat) (yq13 : Nat) (yq14 : Nat) (yq15 : Nat) (yq16 : Nat) (o : Nat) (od : Nat) (b : Nat) (xs : Nat → Int32) (hx : p.tables.exec = Jvm.exec) (hb : c.code = cL_law) (hml : c.maxLocals = 9) (hown : s.vm.findClass RL = some m.cls) (hts : ∀ w ∈ wsL_law, w.before args s = true) (hX : va_X b 5 xs s s.heap) (hbl : b < s.heap.size) (hbA : ¬ A b) (hA : ∀ q : Nat, s.heap.size ≤ q → A q) (hK : va_K G.1 vwCl (n_ty G) s) (hE : n_ex A s s.heap) 
    (hend : ∀ (H : Heap) (locs : List Loc) (ls : Array Slot), va_S A s.heap H locs → lv_has ls 9 [(0, .ref b), (5, .int 0)] → W p l e room_1 s m args below meth c H locs 2000 60000 Q (F0 m 2342 ls []))
    (H : Heap) (locs : List Loc) (ls : Array Slot) (hP : va_P G.1 vwCl [(x, .inr (12, [.ref xq1, .ref xq4, .ref xq25, .ref xq46, .ref xq71, .ref xq75, .ref xq82, .ref xq84, .int 0])), (y, .inr (13, [.ref yq1, .ref yq2, .int 0, .ref yq3, .int 0, .int 0, .int 0, .ref yq4, .ref yq5, .int 0, .ref yq6, .int (-1), .ref yq7, .int 0, .ref yq8, .ref yq9, .ref yq10, .ref yq11, .int 0, .int 0, .int 0, .int 0, .ref yq12, .ref yq13, .ref yq14, .ref yq15, .ref yq16])), (o, eJ G 1 (fun _ => 0))] H) (hD : va_D A [(x, .inr (12, [.ref xq1, .ref xq4, .ref xq25, .ref xq46, .ref xq71, .ref xq75, .ref xq82, .ref xq84, .int 0])), (y, .inr (13, [.ref yq1, .ref yq2, .int 0, .ref yq3, .int 0, .int 0, .int 0, .ref yq4, .ref yq5, .int 0, .ref yq6, .int (-1), .ref yq7, .int 0, .ref yq8, .ref yq9, .ref yq10, .ref yq11, .int 0, .int 0, .int 0, .int 0, .ref yq12, .ref yq13, .ref yq14, .ref yq15, .ref yq16])), (o, eJ G 1 (fun _ => 0))]) (hS : va_S A s.heap H locs) (hl : lv_has ls 9 [(0, .ref b), (1, .ref x), (2, .ref y), (3, .ref o), (4, .ref od), (5, .int 0)]) : W p l e room_1 s m args below meth c H locs 609 18141 Q (F0 m 2298 ls []) := by
  refine lv_aload_n hx hb dL_law_2298 rfl (lv_at hl 1 rfl) ?_
  refine lv_aload_n hx hb dL_law_2299 rfl (lv_at hl 3 rfl) ?_
  refine n_ci (wr := [(y, .inr (13, [.ref yq1, .ref yq2, .int 0, .ref yq3, .int 0, .int 0, .int 0, .ref yq4, .ref yq5, .int 0, .ref yq6, .int (-1), .ref yq7, .int 0, .ref yq8, .ref yq9, .ref yq10, .ref yq11, .int 0, .int 0, .int 0, .int 0, .ref yq12, .ref yq13, .ref yq14, .ref yq15, .ref yq16]))]) (vx_runSW (As := [.ref x, .ref o]) (rest := []) ⟨hx, hb, hml, hown, hts⟩ (mL_restore l hl9 G x xq1 xq4 xq25 xq46 xq71 xq75 xq82 xq84 o (fun _ => 0) H.size) (vx_cwSW 2 hts gL_law_L_restore rfl rfl rfl (by decide +kernel) ⟨(Nat.le_of_ble_eq_true rfl), (Nat.le_of_ble_eq_true rfl)⟩) (n_prX hK hP hD hS hA [0, 2] rfl (by decide) hE) rfl rfl hl.1 rfl (lv_room (Nat.le_of_ble_eq_true rfl)) dL_law_2300 ⟨(Nat.le_of_ble_eq_true rfl), (Nat.le_of_ble_eq_true rfl)⟩) hP hD hS hA [0, 2] [1] rfl rfl (by decide) (by decide) (fun r_1 u_2 H locs hP hD hS hw => ?_)
  have hP : va_P G.1 vwCl [(y, .inr (13, [.ref yq1, .ref yq2, .int 0, .ref yq3, .int 0, .int 0, .int 0, .ref yq4, .ref yq5, .int 0, .ref yq6, .int (-1), .ref yq7, .int 0, .ref yq8, .ref yq9, .ref yq10, .ref yq11, .int 0, .int 0, .int 0, .int 0, .ref yq12, .ref yq13, .ref yq14, .ref yq15, .ref yq16])), (o, eJ G 1 (fun _ => 0))] H := hP
  have hD : va_D A [(y, .inr (13, [.ref yq1, .ref yq2, .int 0, .ref yq3, .int 0, .int 0, .int 0, .ref yq4, .ref yq5, .int 0, .ref yq6, .int (-1), .ref yq7, .int 0, .ref yq8, .ref yq9, .ref yq10, .ref yq11, .int 0, .int 0, .int 0, .int 0, .ref yq12, .ref yq13, .ref yq14, .ref yq15, .ref yq16])), (o, eJ G 1 (fun _ => 0))] := hD
  have hw : r_1 = 1 := hw
  subst hw
  refine lv_istore (lv' := [(6, .int 1), (0, .ref b), (1, .ref x), (2, .ref y), (3, .ref o), (4, .ref od), (5, .int 0)]) hx hb dL_law_2303 hl (by decide) rfl (fun ls hl => ?_)
  refine lv_aload_n hx hb dL_law_2305 rfl (lv_at hl 3 rfl) ?_
  refine n_ci (wr := [(o, eJ G 1 (fun _ => 0))]) (va_runV (As := []) (rest := []) ⟨hx, hb, hml, hown, hts⟩ (mX12_restore l G y yq1 yq2 yq3 yq4 yq5 yq6 yq7 yq8 yq9 yq10 yq11 yq12 yq13 yq14 yq15 yq16 0 0 0 0 (-1) 0 0 0 0 0 H.size) (cwV 0 hts gL_law_X12_restore rfl rfl rfl (by decide +kernel) ⟨(Nat.le_of_ble_eq_true rfl), (Nat.le_of_ble_eq_true rfl)⟩) (n_prV (ci := 13) (q0 := 0) hK hP hD [0] rfl (by decide) rfl rfl) rfl rfl hl.1 rfl (lv_room (Nat.le_of_ble_eq_true rfl)) dL_law_2306 ⟨(Nat.le_of_ble_eq_true rfl), (Nat.le_of_ble_eq_true rfl)⟩) hP hD hS hA [0] [1] rfl rfl (by decide) (by decide) (fun r_3 u_4 H locs hP hD hS hw => ?_)
  have hP : va_P G.1 vwCl [(o, eJ G 1 (fun _ => 0)), (y, .inr (13, [.ref yq1, .ref yq2, .int 0, .ref yq3, .int 0, .int 1, .int 0, .ref yq4, .ref yq5, .int 0, .ref yq6, .int (-1), .ref yq7, .int 0, .ref yq8, .ref yq9, .ref yq10, .ref yq11, .int 0, .int 0, .int 0, .int 0, .ref yq12, .ref yq13, .ref yq14, .ref yq15, .ref yq16]))] H := hP
  have hD : va_D A [(o, eJ G 1 (fun _ => 0)), (y, .inr (13, [.ref yq1, .ref yq2, .int 0, .ref yq3, .int 0, .int 1, .int 0, .ref yq4, .ref yq5, .int 0, .ref yq6, .int (-1), .ref yq7, .int 0, .ref yq8, .ref yq9, .ref yq10, .ref yq11, .int 0, .int 0, .int 0, .int 0, .ref yq12, .ref yq13, .ref yq14, .ref yq15, .ref yq16]))] := hD
  have hw : r_3 = 0 := hw
  subst hw
  refine lv_istore (lv' := [(7, .int 0), (6, .int 1), (0, .ref b), (1, .ref x), (2, .ref y), (3, .ref o), (4, .ref od), (5, .int 0)]) hx hb dL_law_2309 hl (by decide) rfl (fun ls hl => ?_)
  refine lv_aload_n hx hb dL_law_2311 rfl (lv_at hl 4 rfl) ?_
  refine n_ci (wr := [(o, eJ G 1 (fun _ => 0))]) (va_runV (As := []) (rest := []) ⟨hx, hb, hml, hown, hts⟩ (mX12_thrown l G y yq1 yq2 yq3 yq4 yq5 yq6 yq7 yq8 yq9 yq10 yq11 yq12 yq13 yq14 yq15 yq16 0 0 1 0 0 (-1) 0 0 0 0 0 H.size) (cwV 0 hts gL_law_X12_thrown rfl rfl rfl (by decide +kernel) ⟨(Nat.le_of_ble_eq_true rfl), (Nat.le_of_ble_eq_true rfl)⟩) (n_prV (ci := 13) (q0 := 1) hK hP hD [1] rfl (by decide) rfl rfl) rfl rfl hl.1 rfl (lv_room (Nat.le_of_ble_eq_true rfl)) dL_law_2312 ⟨(Nat.le_of_ble_eq_true rfl), (Nat.le_of_ble_eq_true rfl)⟩) hP hD hS hA [1] [0] rfl rfl (by decide) (by decide) (fun r_5 u_6 H locs hP hD hS hw => ?_)
  have hP : va_P G.1 vwCl [(o, eJ G 1 (fun _ => 0)), (y, .inr (13, [.ref yq1, .ref yq2, .int 0, .ref yq3, .int 0, .int 1, .int 0, .ref yq4, .ref yq5, .int 0, .ref yq6, .int (-1), .ref yq7, .int 0, .ref yq8, .ref yq9, .ref yq10, .ref yq11, .int 0, .int 0, .int 0, .int 0, .ref yq12, .ref yq13, .ref yq14, .ref yq15, .ref yq16]))] H := hP
  have hD : va_D A [(o, eJ G 1 (fun _ => 0)), (y, .inr (13, [.ref yq1, .ref yq2, .int 0, .ref yq3, .int 0, .int 1, .int 0, .ref yq4, .ref yq5, .int 0, .ref yq6, .int (-1), .ref yq7, .int 0, .ref yq8, .ref yq9, .ref yq10, .ref yq11, .int 0, .int 0, .int 0, .int 0, .ref yq12, .ref yq13, .ref yq14, .ref yq15, .ref yq16]))] := hD
  have hw : r_5 = 1 := hw
  subst hw
  refine lv_iload hx hb dL_law_2315 (lv_at hl 1 rfl) ?_
  refine lv_icmp_eq (tgt := 2322) hx hb dL_law_2317 (by decide) (fun _ => ?_) (fun h9 => absurd (by decide) h9)
  refine lv_iload hx hb dL_law_2322 (lv_at hl 1 rfl) ?_
  refine lv_if_ne (tgt := 2339) hx hb dL_law_2324 (by decide) (fun _ => ?_) (fun h9 => absurd h9 (by decide))
  refine lv_goto (tgt := 2342) hx hb dL_law_2339 (by decide) ?_
  refine W.widen (k := 2000) (n := 60000) (Nat.le_of_ble_eq_true rfl) (Nat.le_of_ble_eq_true rfl) ?_
  exact hend H locs ls hS (lv_sub hl [2, 7] rfl)
