set_option maxHeartbeats 4000000 in
set_option maxRecDepth 100000 in
theorem mX12_init (l : Launch) (G : nG) (h0 : Nat) (sz : Nat) : Met l yX12_init wsX12_init ({ frames := 1, cells := 16, slots := 13926, locals := 12 }) (va_Pc [.ref h0] (n_pp G [(h0, .inr (13, [.null, .null, .int 0, .null, .int 0, .int 0, .int 0, .null, .null, .int 0, .null, .int 0, .null, .int 0, .null, .null, .null, .null, .int 0, .int 0, .int 0, .int 0, .null, .null, .null, .null, .null]))] sz)) (va_Qv (fun (u9 : Nat × Nat × Nat × Nat × Nat × Nat × Nat × Nat × Nat × Nat × Nat × Nat × Nat × Nat × Nat × Nat × (Nat → Int32)) => match u9 with | (q_1, q_2, q_3, q_4, q_5, q_6, q_7, q_8, q_9, q_10, q_11, q_12, q_13, q_14, q_15, q_16, f_90) => nMod f_90) (fun (u9 : Nat × Nat × Nat × Nat × Nat × Nat × Nat × Nat × Nat × Nat × Nat × Nat × Nat × Nat × Nat × Nat × (Nat → Int32)) (t : State) => match u9 with | (q_1, q_2, q_3, q_4, q_5, q_6, q_7, q_8, q_9, q_10, q_11, q_12, q_13, q_14, q_15, q_16, f_90) => n_po G (va_A [(h0, .inr (13, [.null, .null, .int 0, .null, .int 0, .int 0, .int 0, .null, .null, .int 0, .null, .int 0, .null, .int 0, .null, .null, .null, .null, .int 0, .int 0, .int 0, .int 0, .null, .null, .null, .null, .null]))] sz) [(h0, .inr (13, [.ref q_1, .ref q_2, .int 0, .ref q_3, .int 0, .int 0, .int 0, .ref q_4, .ref q_5, .int 0, .ref q_6, .int (-1), .ref q_7, .int 0, .ref q_8, .ref q_9, .ref q_10, .ref q_11, .int 0, .int 0, .int 0, .int 0, .ref q_12, .ref q_13, .ref q_14, .ref q_15, .ref q_16])), (q_1, eI G 1191 f_90), (q_2, eI G 1191 (fun _ => 0)), (q_3, eI G 9528 (fun _ => 0)), (q_4, eI G 60 (fun _ => 0)), (q_5, eI G 9 (fun _ => 0)), (q_6, eI G 6 (fun _ => 0)), (q_7, eI G 1191 (fun _ => 0)), (q_8, eI G 81 (fun _ => 0)), (q_9, eI G 9 (fun _ => 0)), (q_10, eI G 180 (fun _ => 0)), (q_11, eI G 180 (fun _ => 0)), (q_12, eI G 60 (fun _ => 0)), (q_13, eI G 60 (fun _ => 0)), (q_14, eI G 60 (fun _ => 0)), (q_15, eI G 60 (fun _ => 0)), (q_16, eI G 60 (fun _ => 0))] t) (va_A [(h0, .inr (13, [.null, .null, .int 0, .null, .int 0, .int 0, .int 0, .null, .null, .int 0, .null, .int 0, .null, .int 0, .null, .null, .null, .null, .int 0, .int 0, .int 0, .int 0, .null, .null, .null, .null, .null]))] sz)) 16 13926 (va_A [(h0, .inr (13, [.null, .null, .int 0, .null, .int 0, .int 0, .int 0, .null, .null, .int 0, .null, .int 0, .null, .int 0, .null, .null, .null, .null, .int 0, .int 0, .int 0, .int 0, .null, .null, .null, .null, .null]))] sz) := by
  refine Met.ofW (cc := cX12_init) (maxL := 2) (ret := none) (by decide) rfl ?_
  intro p e s m args below meth c s₁ B hml hv
  obtain ⟨rfl, hsz, hP, hK, hD0⟩ := hv
  have hx := B.exec
  have hb := B.bytes
  have hr := B.returns
  have hts := atoms_spec (ws := wsX12_init) B.pre
  have hown : s.vm.findClass RX12 = some m.cls := findClass_of_methodNamed B.named
  have hlocks := B.notSynchronized
  have hin : meth.name = "<init>" := (name_of_methodNamed B.named B.method).1
  subst hsz
  have hD := hD0.self (sz := s.heap.size)
  generalize hAe : va_A [(h0, .inr (13, [.null, .null, .int 0, .null, .int 0, .int 0, .int 0, .null, .null, .int 0, .null, .int 0, .null, .int 0, .null, .null, .null, .null, .int 0, .int 0, .int 0, .int 0, .null, .null, .null, .null, .null]))] s.heap.size = A at hD ⊢
  have hA : ∀ q : Nat, s.heap.size ≤ q → A q := fun q h => by rw [← hAe]; exact Or.inr h
  have hS : va_S A s.heap s.heap [] := va_S.rf
  have hP : va_P G.1 vwCl [(h0, .inr (13, [.null, .null, .int 0, .null, .int 0, .int 0, .int 0, .null, .null, .int 0, .null, .int 0, .null, .int 0, .null, .null, .null, .null, .int 0, .int 0, .int 0, .int 0, .null, .null, .null, .null, .null]))] s.heap := hP
  have hl := lv_entry ([.ref h0]) (n := 2) (Nat.le_of_ble_eq_true rfl)
  rw [lg_entry_eq]
  generalize (lg_sl ([.ref h0]) ++ List.replicate (2 - (lg_sl ([.ref h0])).length) Slot.unset).toArray = ls at hl ⊢
  have hl : lv_has ls 2 [(0, .ref h0)] := hl
  obtain ⟨H, hH⟩ : ∃ z, z = s.heap := ⟨_, rfl⟩
  have hS : va_S A s.heap H [] := by rw [hH]; exact hS
  have hP : va_P G.1 vwCl [(h0, .inr (13, [.null, .null, .int 0, .null, .int 0, .int 0, .int 0, .null, .null, .int 0, .null, .int 0, .null, .int 0, .null, .null, .null, .null, .int 0, .int 0, .int 0, .int 0, .null, .null, .null, .null, .null]))] H := by rw [hH]; exact hP
  refine n_heap hH ?_
  generalize ([] : List Loc) = locs at hS ⊢
  have hiX12 : ∀ w ∈ u_ws RX12 TX12 27, w ∈ wsX12_init := by decide +kernel
  refine lv_aload_n hx hb dX12_init_0 rfl (lv_at hl 0 rfl) ?_
  refine W.objInit hx hb hown (hts (.methodLink RX12 1 objectInit) (by decide +kernel)) (hts (.instanceMethod objectInit) (by decide +kernel)) (hts _ (show _ ∈ wsX12_init from List.mem_of_getElem? (i := 3) rfl)) rfl (by rw [hml]; exact hl.1) rfl dX12_init_1 (Nat.le_of_ble_eq_true rfl) (Nat.le_of_ble_eq_true rfl) ?_
  refine W.eq (g2 := F0 m 4 ls []) rfl ?_
  refine lv_aload_n hx hb dX12_init_4 rfl (lv_at hl 0 rfl) ?_
  refine lv_sipush (v := 1191) hx hb dX12_init_5 (by decide) ?_
  refine n_newa (atype := .int) (ty := .int) (a0 := (1191, .inl (fun _ => 0))) hx hb (hts (.arrayClass .int) (by decide +kernel)) rfl hK hP hD hS hA 0 rfl (fun _ => rfl) (by decide) rfl (Nat.le_of_ble_eq_true rfl) (Nat.le_of_ble_eq_true rfl) (Nat.le_of_ble_eq_true rfl) dX12_init_8 (fun q_1 H hP hD hS => ?_)
  have hP : va_P G.1 vwCl [(h0, .inr (13, [.null, .null, .int 0, .null, .int 0, .int 0, .int 0, .null, .null, .int 0, .null, .int 0, .null, .int 0, .null, .null, .null, .null, .int 0, .int 0, .int 0, .int 0, .null, .null, .null, .null, .null])), (q_1, eI G 1191 (fun _ => 0))] H := hP
  have hD : va_D A [(h0, .inr (13, [.null, .null, .int 0, .null, .int 0, .int 0, .int 0, .null, .null, .int 0, .null, .int 0, .null, .int 0, .null, .null, .null, .null, .int 0, .int 0, .int 0, .int 0, .null, .null, .null, .null, .null])), (q_1, eI G 1191 (fun _ => 0))] := hD
  refine va_putF (D := G.1) (ci := 13) (v := .ref q_1) (ty := .array .int) (C := RX12) (T := TX12) (N := 27) hx hb hts hiX12 tyX12 tyX12_ok nmX12 hown hK hP hD hS 0 rfl rfl 0 (by decide) (hts (.fieldLink RX12 9 "DialectDictionaryModel" "m" "[I") (by decide +kernel)) (fun _ h9 => h9) rfl hin rfl (by decide +kernel) rfl rfl (Nat.le_of_ble_eq_true rfl) dX12_init_10 (fun H locs hP hD hS => ?_)
  have hP : va_P G.1 vwCl [(h0, .inr (13, [.ref q_1, .null, .int 0, .null, .int 0, .int 0, .int 0, .null, .null, .int 0, .null, .int 0, .null, .int 0, .null, .null, .null, .null, .int 0, .int 0, .int 0, .int 0, .null, .null, .null, .null, .null])), (q_1, eI G 1191 (fun _ => 0))] H := hP
  have hD : va_D A [(h0, .inr (13, [.ref q_1, .null, .int 0, .null, .int 0, .int 0, .int 0, .null, .null, .int 0, .null, .int 0, .null, .int 0, .null, .null, .null, .null, .int 0, .int 0, .int 0, .int 0, .null, .null, .null, .null, .null])), (q_1, eI G 1191 (fun _ => 0))] := hD
  refine lv_aload_n hx hb dX12_init_13 rfl (lv_at hl 0 rfl) ?_
  refine lv_sipush (v := 1191) hx hb dX12_init_14 (by decide) ?_
  refine n_newa (atype := .int) (ty := .int) (a0 := (1191, .inl (fun _ => 0))) hx hb (hts (.arrayClass .int) (by decide +kernel)) rfl hK hP hD hS hA 0 rfl (fun _ => rfl) (by decide) rfl (Nat.le_of_ble_eq_true rfl) (Nat.le_of_ble_eq_true rfl) (Nat.le_of_ble_eq_true rfl) dX12_init_17 (fun q_2 H hP hD hS => ?_)
  have hP : va_P G.1 vwCl [(h0, .inr (13, [.ref q_1, .null, .int 0, .null, .int 0, .int 0, .int 0, .null, .null, .int 0, .null, .int 0, .null, .int 0, .null, .null, .null, .null, .int 0, .int 0, .int 0, .int 0, .null, .null, .null, .null, .null])), (q_1, eI G 1191 (fun _ => 0)), (q_2, eI G 1191 (fun _ => 0))] H := hP
  have hD : va_D A [(h0, .inr (13, [.ref q_1, .null, .int 0, .null, .int 0, .int 0, .int 0, .null, .null, .int 0, .null, .int 0, .null, .int 0, .null, .null, .null, .null, .int 0, .int 0, .int 0, .int 0, .null, .null, .null, .null, .null])), (q_1, eI G 1191 (fun _ => 0)), (q_2, eI G 1191 (fun _ => 0))] := hD
  refine va_putF (D := G.1) (ci := 13) (v := .ref q_2) (ty := .array .int) (C := RX12) (T := TX12) (N := 27) hx hb hts hiX12 tyX12 tyX12_ok nmX12 hown hK hP hD hS 0 rfl rfl 1 (by decide) (hts (.fieldLink RX12 13 "DialectDictionaryModel" "saved" "[I") (by decide +kernel)) (fun _ h9 => h9) rfl hin rfl (by decide +kernel) rfl rfl (Nat.le_of_ble_eq_true rfl) dX12_init_19 (fun H locs hP hD hS => ?_)
  have hP : va_P G.1 vwCl [(h0, .inr (13, [.ref q_1, .ref q_2, .int 0, .null, .int 0, .int 0, .int 0, .null, .null, .int 0, .null, .int 0, .null, .int 0, .null, .null, .null, .null, .int 0, .int 0, .int 0, .int 0, .null, .null, .null, .null, .null])), (q_1, eI G 1191 (fun _ => 0)), (q_2, eI G 1191 (fun _ => 0))] H := hP
  have hD : va_D A [(h0, .inr (13, [.ref q_1, .ref q_2, .int 0, .null, .int 0, .int 0, .int 0, .null, .null, .int 0, .null, .int 0, .null, .int 0, .null, .null, .null, .null, .int 0, .int 0, .int 0, .int 0, .null, .null, .null, .null, .null])), (q_1, eI G 1191 (fun _ => 0)), (q_2, eI G 1191 (fun _ => 0))] := hD
  refine lv_aload_n hx hb dX12_init_22 rfl (lv_at hl 0 rfl) ?_
  refine lv_sipush (v := 9528) hx hb dX12_init_23 (by decide) ?_
  refine n_newa (atype := .int) (ty := .int) (a0 := (9528, .inl (fun _ => 0))) hx hb (hts (.arrayClass .int) (by decide +kernel)) rfl hK hP hD hS hA 0 rfl (fun _ => rfl) (by decide) rfl (Nat.le_of_ble_eq_true rfl) (Nat.le_of_ble_eq_true rfl) (Nat.le_of_ble_eq_true rfl) dX12_init_26 (fun q_3 H hP hD hS => ?_)
  have hP : va_P G.1 vwCl [(h0, .inr (13, [.ref q_1, .ref q_2, .int 0, .null, .int 0, .int 0, .int 0, .null, .null, .int 0, .null, .int 0, .null, .int 0, .null, .null, .null, .null, .int 0, .int 0, .int 0, .int 0, .null, .null, .null, .null, .null])), (q_1, eI G 1191 (fun _ => 0)), (q_2, eI G 1191 (fun _ => 0)), (q_3, eI G 9528 (fun _ => 0))] H := hP
  have hD : va_D A [(h0, .inr (13, [.ref q_1, .ref q_2, .int 0, .null, .int 0, .int 0, .int 0, .null, .null, .int 0, .null, .int 0, .null, .int 0, .null, .null, .null, .null, .int 0, .int 0, .int 0, .int 0, .null, .null, .null, .null, .null])), (q_1, eI G 1191 (fun _ => 0)), (q_2, eI G 1191 (fun _ => 0)), (q_3, eI G 9528 (fun _ => 0))] := hD
  refine va_putF (D := G.1) (ci := 13) (v := .ref q_3) (ty := .array .int) (C := RX12) (T := TX12) (N := 27) hx hb hts hiX12 tyX12 tyX12_ok nmX12 hown hK hP hD hS 0 rfl rfl 3 (by decide) (hts (.fieldLink RX12 16 "DialectDictionaryModel" "past" "[I") (by decide +kernel)) (fun _ h9 => h9) rfl hin rfl (by decide +kernel) rfl rfl (Nat.le_of_ble_eq_true rfl) dX12_init_28 (fun H locs hP hD hS => ?_)
  have hP : va_P G.1 vwCl [(h0, .inr (13, [.ref q_1, .ref q_2, .int 0, .ref q_3, .int 0, .int 0, .int 0, .null, .null, .int 0, .null, .int 0, .null, .int 0, .null, .null, .null, .null, .int 0, .int 0, .int 0, .int 0, .null, .null, .null, .null, .null])), (q_1, eI G 1191 (fun _ => 0)), (q_2, eI G 1191 (fun _ => 0)), (q_3, eI G 9528 (fun _ => 0))] H := hP
  have hD : va_D A [(h0, .inr (13, [.ref q_1, .ref q_2, .int 0, .ref q_3, .int 0, .int 0, .int 0, .null, .null, .int 0, .null, .int 0, .null, .int 0, .null, .null, .null, .null, .int 0, .int 0, .int 0, .int 0, .null, .null, .null, .null, .null])), (q_1, eI G 1191 (fun _ => 0)), (q_2, eI G 1191 (fun _ => 0)), (q_3, eI G 9528 (fun _ => 0))] := hD
  refine lv_aload_n hx hb dX12_init_31 rfl (lv_at hl 0 rfl) ?_
  refine lv_bipush (v := 60) hx hb dX12_init_32 (by decide) ?_
  refine n_newa (atype := .int) (ty := .int) (a0 := (60, .inl (fun _ => 0))) hx hb (hts (.arrayClass .int) (by decide +kernel)) rfl hK hP hD hS hA 0 rfl (fun _ => rfl) (by decide) rfl (Nat.le_of_ble_eq_true rfl) (Nat.le_of_ble_eq_true rfl) (Nat.le_of_ble_eq_true rfl) dX12_init_34 (fun q_4 H hP hD hS => ?_)
  have hP : va_P G.1 vwCl [(h0, .inr (13, [.ref q_1, .ref q_2, .int 0, .ref q_3, .int 0, .int 0, .int 0, .null, .null, .int 0, .null, .int 0, .null, .int 0, .null, .null, .null, .null, .int 0, .int 0, .int 0, .int 0, .null, .null, .null, .null, .null])), (q_1, eI G 1191 (fun _ => 0)), (q_2, eI G 1191 (fun _ => 0)), (q_3, eI G 9528 (fun _ => 0)), (q_4, eI G 60 (fun _ => 0))] H := hP
  have hD : va_D A [(h0, .inr (13, [.ref q_1, .ref q_2, .int 0, .ref q_3, .int 0, .int 0, .int 0, .null, .null, .int 0, .null, .int 0, .null, .int 0, .null, .null, .null, .null, .int 0, .int 0, .int 0, .int 0, .null, .null, .null, .null, .null])), (q_1, eI G 1191 (fun _ => 0)), (q_2, eI G 1191 (fun _ => 0)), (q_3, eI G 9528 (fun _ => 0)), (q_4, eI G 60 (fun _ => 0))] := hD
  refine va_putF (D := G.1) (ci := 13) (v := .ref q_4) (ty := .array .int) (C := RX12) (T := TX12) (N := 27) hx hb hts hiX12 tyX12 tyX12_ok nmX12 hown hK hP hD hS 0 rfl rfl 7 (by decide) (hts (.fieldLink RX12 19 "DialectDictionaryModel" "input" "[I") (by decide +kernel)) (fun _ h9 => h9) rfl hin rfl (by decide +kernel) rfl rfl (Nat.le_of_ble_eq_true rfl) dX12_init_36 (fun H locs hP hD hS => ?_)
  have hP : va_P G.1 vwCl [(h0, .inr (13, [.ref q_1, .ref q_2, .int 0, .ref q_3, .int 0, .int 0, .int 0, .ref q_4, .null, .int 0, .null, .int 0, .null, .int 0, .null, .null, .null, .null, .int 0, .int 0, .int 0, .int 0, .null, .null, .null, .null, .null])), (q_1, eI G 1191 (fun _ => 0)), (q_2, eI G 1191 (fun _ => 0)), (q_3, eI G 9528 (fun _ => 0)), (q_4, eI G 60 (fun _ => 0))] H := hP
  have hD : va_D A [(h0, .inr (13, [.ref q_1, .ref q_2, .int 0, .ref q_3, .int 0, .int 0, .int 0, .ref q_4, .null, .int 0, .null, .int 0, .null, .int 0, .null, .null, .null, .null, .int 0, .int 0, .int 0, .int 0, .null, .null, .null, .null, .null])), (q_1, eI G 1191 (fun _ => 0)), (q_2, eI G 1191 (fun _ => 0)), (q_3, eI G 9528 (fun _ => 0)), (q_4, eI G 60 (fun _ => 0))] := hD
  refine lv_aload_n hx hb dX12_init_39 rfl (lv_at hl 0 rfl) ?_
  refine lv_bipush (v := 9) hx hb dX12_init_40 (by decide) ?_
  refine n_newa (atype := .int) (ty := .int) (a0 := (9, .inl (fun _ => 0))) hx hb (hts (.arrayClass .int) (by decide +kernel)) rfl hK hP hD hS hA 0 rfl (fun _ => rfl) (by decide) rfl (Nat.le_of_ble_eq_true rfl) (Nat.le_of_ble_eq_true rfl) (Nat.le_of_ble_eq_true rfl) dX12_init_42 (fun q_5 H hP hD hS => ?_)
  have hP : va_P G.1 vwCl [(h0, .inr (13, [.ref q_1, .ref q_2, .int 0, .ref q_3, .int 0, .int 0, .int 0, .ref q_4, .null, .int 0, .null, .int 0, .null, .int 0, .null, .null, .null, .null, .int 0, .int 0, .int 0, .int 0, .null, .null, .null, .null, .null])), (q_1, eI G 1191 (fun _ => 0)), (q_2, eI G 1191 (fun _ => 0)), (q_3, eI G 9528 (fun _ => 0)), (q_4, eI G 60 (fun _ => 0)), (q_5, eI G 9 (fun _ => 0))] H := hP
  have hD : va_D A [(h0, .inr (13, [.ref q_1, .ref q_2, .int 0, .ref q_3, .int 0, .int 0, .int 0, .ref q_4, .null, .int 0, .null, .int 0, .null, .int 0, .null, .null, .null, .null, .int 0, .int 0, .int 0, .int 0, .null, .null, .null, .null, .null])), (q_1, eI G 1191 (fun _ => 0)), (q_2, eI G 1191 (fun _ => 0)), (q_3, eI G 9528 (fun _ => 0)), (q_4, eI G 60 (fun _ => 0)), (q_5, eI G 9 (fun _ => 0))] := hD
  refine va_putF (D := G.1) (ci := 13) (v := .ref q_5) (ty := .array .int) (C := RX12) (T := TX12) (N := 27) hx hb hts hiX12 tyX12 tyX12_ok nmX12 hown hK hP hD hS 0 rfl rfl 8 (by decide) (hts (.fieldLink RX12 22 "DialectDictionaryModel" "form" "[I") (by decide +kernel)) (fun _ h9 => h9) rfl hin rfl (by decide +kernel) rfl rfl (Nat.le_of_ble_eq_true rfl) dX12_init_44 (fun H locs hP hD hS => ?_)
  have hP : va_P G.1 vwCl [(h0, .inr (13, [.ref q_1, .ref q_2, .int 0, .ref q_3, .int 0, .int 0, .int 0, .ref q_4, .ref q_5, .int 0, .null, .int 0, .null, .int 0, .null, .null, .null, .null, .int 0, .int 0, .int 0, .int 0, .null, .null, .null, .null, .null])), (q_1, eI G 1191 (fun _ => 0)), (q_2, eI G 1191 (fun _ => 0)), (q_3, eI G 9528 (fun _ => 0)), (q_4, eI G 60 (fun _ => 0)), (q_5, eI G 9 (fun _ => 0))] H := hP
  have hD : va_D A [(h0, .inr (13, [.ref q_1, .ref q_2, .int 0, .ref q_3, .int 0, .int 0, .int 0, .ref q_4, .ref q_5, .int 0, .null, .int 0, .null, .int 0, .null, .null, .null, .null, .int 0, .int 0, .int 0, .int 0, .null, .null, .null, .null, .null])), (q_1, eI G 1191 (fun _ => 0)), (q_2, eI G 1191 (fun _ => 0)), (q_3, eI G 9528 (fun _ => 0)), (q_4, eI G 60 (fun _ => 0)), (q_5, eI G 9 (fun _ => 0))] := hD
  refine lv_aload_n hx hb dX12_init_47 rfl (lv_at hl 0 rfl) ?_
  refine lv_bipush (v := 6) hx hb dX12_init_48 (by decide) ?_
  refine n_newa (atype := .int) (ty := .int) (a0 := (6, .inl (fun _ => 0))) hx hb (hts (.arrayClass .int) (by decide +kernel)) rfl hK hP hD hS hA 0 rfl (fun _ => rfl) (by decide) rfl (Nat.le_of_ble_eq_true rfl) (Nat.le_of_ble_eq_true rfl) (Nat.le_of_ble_eq_true rfl) dX12_init_50 (fun q_6 H hP hD hS => ?_)
  have hP : va_P G.1 vwCl [(h0, .inr (13, [.ref q_1, .ref q_2, .int 0, .ref q_3, .int 0, .int 0, .int 0, .ref q_4, .ref q_5, .int 0, .null, .int 0, .null, .int 0, .null, .null, .null, .null, .int 0, .int 0, .int 0, .int 0, .null, .null, .null, .null, .null])), (q_1, eI G 1191 (fun _ => 0)), (q_2, eI G 1191 (fun _ => 0)), (q_3, eI G 9528 (fun _ => 0)), (q_4, eI G 60 (fun _ => 0)), (q_5, eI G 9 (fun _ => 0)), (q_6, eI G 6 (fun _ => 0))] H := hP
  have hD : va_D A [(h0, .inr (13, [.ref q_1, .ref q_2, .int 0, .ref q_3, .int 0, .int 0, .int 0, .ref q_4, .ref q_5, .int 0, .null, .int 0, .null, .int 0, .null, .null, .null, .null, .int 0, .int 0, .int 0, .int 0, .null, .null, .null, .null, .null])), (q_1, eI G 1191 (fun _ => 0)), (q_2, eI G 1191 (fun _ => 0)), (q_3, eI G 9528 (fun _ => 0)), (q_4, eI G 60 (fun _ => 0)), (q_5, eI G 9 (fun _ => 0)), (q_6, eI G 6 (fun _ => 0))] := hD
  refine va_putF (D := G.1) (ci := 13) (v := .ref q_6) (ty := .array .int) (C := RX12) (T := TX12) (N := 27) hx hb hts hiX12 tyX12 tyX12_ok nmX12 hown hK hP hD hS 0 rfl rfl 10 (by decide) (hts (.fieldLink RX12 25 "DialectDictionaryModel" "report" "[I") (by decide +kernel)) (fun _ h9 => h9) rfl hin rfl (by decide +kernel) rfl rfl (Nat.le_of_ble_eq_true rfl) dX12_init_52 (fun H locs hP hD hS => ?_)
  have hP : va_P G.1 vwCl [(h0, .inr (13, [.ref q_1, .ref q_2, .int 0, .ref q_3, .int 0, .int 0, .int 0, .ref q_4, .ref q_5, .int 0, .ref q_6, .int 0, .null, .int 0, .null, .null, .null, .null, .int 0, .int 0, .int 0, .int 0, .null, .null, .null, .null, .null])), (q_1, eI G 1191 (fun _ => 0)), (q_2, eI G 1191 (fun _ => 0)), (q_3, eI G 9528 (fun _ => 0)), (q_4, eI G 60 (fun _ => 0)), (q_5, eI G 9 (fun _ => 0)), (q_6, eI G 6 (fun _ => 0))] H := hP
  have hD : va_D A [(h0, .inr (13, [.ref q_1, .ref q_2, .int 0, .ref q_3, .int 0, .int 0, .int 0, .ref q_4, .ref q_5, .int 0, .ref q_6, .int 0, .null, .int 0, .null, .null, .null, .null, .int 0, .int 0, .int 0, .int 0, .null, .null, .null, .null, .null])), (q_1, eI G 1191 (fun _ => 0)), (q_2, eI G 1191 (fun _ => 0)), (q_3, eI G 9528 (fun _ => 0)), (q_4, eI G 60 (fun _ => 0)), (q_5, eI G 9 (fun _ => 0)), (q_6, eI G 6 (fun _ => 0))] := hD
  refine lv_aload_n hx hb dX12_init_55 rfl (lv_at hl 0 rfl) ?_
  refine lv_iconst (v := -1) hx hb dX12_init_56 (by decide) ?_
  refine va_put (D := G.1) (ci := 13) (v := .int (-1)) (ty := .int) (C := RX12) (T := TX12) (N := 27) hx hb hts hiX12 tyX12 tyX12_ok nmX12 hown hK hP hD hS 0 rfl rfl 11 (by decide) (hts (.fieldLink RX12 28 "DialectDictionaryModel" "command" "I") (by decide +kernel)) (fun _ h9 => h9) rfl (by decide +kernel) rfl rfl (Nat.le_of_ble_eq_true rfl) dX12_init_57 (fun H locs hP hD hS => ?_)
  have hP : va_P G.1 vwCl [(h0, .inr (13, [.ref q_1, .ref q_2, .int 0, .ref q_3, .int 0, .int 0, .int 0, .ref q_4, .ref q_5, .int 0, .ref q_6, .int (-1), .null, .int 0, .null, .null, .null, .null, .int 0, .int 0, .int 0, .int 0, .null, .null, .null, .null, .null])), (q_1, eI G 1191 (fun _ => 0)), (q_2, eI G 1191 (fun _ => 0)), (q_3, eI G 9528 (fun _ => 0)), (q_4, eI G 60 (fun _ => 0)), (q_5, eI G 9 (fun _ => 0)), (q_6, eI G 6 (fun _ => 0))] H := hP
  have hD : va_D A [(h0, .inr (13, [.ref q_1, .ref q_2, .int 0, .ref q_3, .int 0, .int 0, .int 0, .ref q_4, .ref q_5, .int 0, .ref q_6, .int (-1), .null, .int 0, .null, .null, .null, .null, .int 0, .int 0, .int 0, .int 0, .null, .null, .null, .null, .null])), (q_1, eI G 1191 (fun _ => 0)), (q_2, eI G 1191 (fun _ => 0)), (q_3, eI G 9528 (fun _ => 0)), (q_4, eI G 60 (fun _ => 0)), (q_5, eI G 9 (fun _ => 0)), (q_6, eI G 6 (fun _ => 0))] := hD
  refine lv_aload_n hx hb dX12_init_60 rfl (lv_at hl 0 rfl) ?_
  refine lv_sipush (v := 1191) hx hb dX12_init_61 (by decide) ?_
  refine n_newa (atype := .int) (ty := .int) (a0 := (1191, .inl (fun _ => 0))) hx hb (hts (.arrayClass .int) (by decide +kernel)) rfl hK hP hD hS hA 0 rfl (fun _ => rfl) (by decide) rfl (Nat.le_of_ble_eq_true rfl) (Nat.le_of_ble_eq_true rfl) (Nat.le_of_ble_eq_true rfl) dX12_init_64 (fun q_7 H hP hD hS => ?_)
  have hP : va_P G.1 vwCl [(h0, .inr (13, [.ref q_1, .ref q_2, .int 0, .ref q_3, .int 0, .int 0, .int 0, .ref q_4, .ref q_5, .int 0, .ref q_6, .int (-1), .null, .int 0, .null, .null, .null, .null, .int 0, .int 0, .int 0, .int 0, .null, .null, .null, .null, .null])), (q_1, eI G 1191 (fun _ => 0)), (q_2, eI G 1191 (fun _ => 0)), (q_3, eI G 9528 (fun _ => 0)), (q_4, eI G 60 (fun _ => 0)), (q_5, eI G 9 (fun _ => 0)), (q_6, eI G 6 (fun _ => 0)), (q_7, eI G 1191 (fun _ => 0))] H := hP
  have hD : va_D A [(h0, .inr (13, [.ref q_1, .ref q_2, .int 0, .ref q_3, .int 0, .int 0, .int 0, .ref q_4, .ref q_5, .int 0, .ref q_6, .int (-1), .null, .int 0, .null, .null, .null, .null, .int 0, .int 0, .int 0, .int 0, .null, .null, .null, .null, .null])), (q_1, eI G 1191 (fun _ => 0)), (q_2, eI G 1191 (fun _ => 0)), (q_3, eI G 9528 (fun _ => 0)), (q_4, eI G 60 (fun _ => 0)), (q_5, eI G 9 (fun _ => 0)), (q_6, eI G 6 (fun _ => 0)), (q_7, eI G 1191 (fun _ => 0))] := hD
  refine va_putF (D := G.1) (ci := 13) (v := .ref q_7) (ty := .array .int) (C := RX12) (T := TX12) (N := 27) hx hb hts hiX12 tyX12 tyX12_ok nmX12 hown hK hP hD hS 0 rfl rfl 12 (by decide) (hts (.fieldLink RX12 32 "DialectDictionaryModel" "ahead" "[I") (by decide +kernel)) (fun _ h9 => h9) rfl hin rfl (by decide +kernel) rfl rfl (Nat.le_of_ble_eq_true rfl) dX12_init_66 (fun H locs hP hD hS => ?_)
  have hP : va_P G.1 vwCl [(h0, .inr (13, [.ref q_1, .ref q_2, .int 0, .ref q_3, .int 0, .int 0, .int 0, .ref q_4, .ref q_5, .int 0, .ref q_6, .int (-1), .ref q_7, .int 0, .null, .null, .null, .null, .int 0, .int 0, .int 0, .int 0, .null, .null, .null, .null, .null])), (q_1, eI G 1191 (fun _ => 0)), (q_2, eI G 1191 (fun _ => 0)), (q_3, eI G 9528 (fun _ => 0)), (q_4, eI G 60 (fun _ => 0)), (q_5, eI G 9 (fun _ => 0)), (q_6, eI G 6 (fun _ => 0)), (q_7, eI G 1191 (fun _ => 0))] H := hP
  have hD : va_D A [(h0, .inr (13, [.ref q_1, .ref q_2, .int 0, .ref q_3, .int 0, .int 0, .int 0, .ref q_4, .ref q_5, .int 0, .ref q_6, .int (-1), .ref q_7, .int 0, .null, .null, .null, .null, .int 0, .int 0, .int 0, .int 0, .null, .null, .null, .null, .null])), (q_1, eI G 1191 (fun _ => 0)), (q_2, eI G 1191 (fun _ => 0)), (q_3, eI G 9528 (fun _ => 0)), (q_4, eI G 60 (fun _ => 0)), (q_5, eI G 9 (fun _ => 0)), (q_6, eI G 6 (fun _ => 0)), (q_7, eI G 1191 (fun _ => 0))] := hD
  refine lv_aload_n hx hb dX12_init_69 rfl (lv_at hl 0 rfl) ?_
  refine lv_bipush (v := 81) hx hb dX12_init_70 (by decide) ?_
  refine n_newa (atype := .int) (ty := .int) (a0 := (81, .inl (fun _ => 0))) hx hb (hts (.arrayClass .int) (by decide +kernel)) rfl hK hP hD hS hA 0 rfl (fun _ => rfl) (by decide) rfl (Nat.le_of_ble_eq_true rfl) (Nat.le_of_ble_eq_true rfl) (Nat.le_of_ble_eq_true rfl) dX12_init_72 (fun q_8 H hP hD hS => ?_)
  have hP : va_P G.1 vwCl [(h0, .inr (13, [.ref q_1, .ref q_2, .int 0, .ref q_3, .int 0, .int 0, .int 0, .ref q_4, .ref q_5, .int 0, .ref q_6, .int (-1), .ref q_7, .int 0, .null, .null, .null, .null, .int 0, .int 0, .int 0, .int 0, .null, .null, .null, .null, .null])), (q_1, eI G 1191 (fun _ => 0)), (q_2, eI G 1191 (fun _ => 0)), (q_3, eI G 9528 (fun _ => 0)), (q_4, eI G 60 (fun _ => 0)), (q_5, eI G 9 (fun _ => 0)), (q_6, eI G 6 (fun _ => 0)), (q_7, eI G 1191 (fun _ => 0)), (q_8, eI G 81 (fun _ => 0))] H := hP
  have hD : va_D A [(h0, .inr (13, [.ref q_1, .ref q_2, .int 0, .ref q_3, .int 0, .int 0, .int 0, .ref q_4, .ref q_5, .int 0, .ref q_6, .int (-1), .ref q_7, .int 0, .null, .null, .null, .null, .int 0, .int 0, .int 0, .int 0, .null, .null, .null, .null, .null])), (q_1, eI G 1191 (fun _ => 0)), (q_2, eI G 1191 (fun _ => 0)), (q_3, eI G 9528 (fun _ => 0)), (q_4, eI G 60 (fun _ => 0)), (q_5, eI G 9 (fun _ => 0)), (q_6, eI G 6 (fun _ => 0)), (q_7, eI G 1191 (fun _ => 0)), (q_8, eI G 81 (fun _ => 0))] := hD
  refine va_putF (D := G.1) (ci := 13) (v := .ref q_8) (ty := .array .int) (C := RX12) (T := TX12) (N := 27) hx hb hts hiX12 tyX12 tyX12_ok nmX12 hown hK hP hD hS 0 rfl rfl 14 (by decide) (hts (.fieldLink RX12 35 "DialectDictionaryModel" "rows" "[I") (by decide +kernel)) (fun _ h9 => h9) rfl hin rfl (by decide +kernel) rfl rfl (Nat.le_of_ble_eq_true rfl) dX12_init_74 (fun H locs hP hD hS => ?_)
  have hP : va_P G.1 vwCl [(h0, .inr (13, [.ref q_1, .ref q_2, .int 0, .ref q_3, .int 0, .int 0, .int 0, .ref q_4, .ref q_5, .int 0, .ref q_6, .int (-1), .ref q_7, .int 0, .ref q_8, .null, .null, .null, .int 0, .int 0, .int 0, .int 0, .null, .null, .null, .null, .null])), (q_1, eI G 1191 (fun _ => 0)), (q_2, eI G 1191 (fun _ => 0)), (q_3, eI G 9528 (fun _ => 0)), (q_4, eI G 60 (fun _ => 0)), (q_5, eI G 9 (fun _ => 0)), (q_6, eI G 6 (fun _ => 0)), (q_7, eI G 1191 (fun _ => 0)), (q_8, eI G 81 (fun _ => 0))] H := hP
  have hD : va_D A [(h0, .inr (13, [.ref q_1, .ref q_2, .int 0, .ref q_3, .int 0, .int 0, .int 0, .ref q_4, .ref q_5, .int 0, .ref q_6, .int (-1), .ref q_7, .int 0, .ref q_8, .null, .null, .null, .int 0, .int 0, .int 0, .int 0, .null, .null, .null, .null, .null])), (q_1, eI G 1191 (fun _ => 0)), (q_2, eI G 1191 (fun _ => 0)), (q_3, eI G 9528 (fun _ => 0)), (q_4, eI G 60 (fun _ => 0)), (q_5, eI G 9 (fun _ => 0)), (q_6, eI G 6 (fun _ => 0)), (q_7, eI G 1191 (fun _ => 0)), (q_8, eI G 81 (fun _ => 0))] := hD
  refine lv_aload_n hx hb dX12_init_77 rfl (lv_at hl 0 rfl) ?_
  refine lv_bipush (v := 9) hx hb dX12_init_78 (by decide) ?_
  refine n_newa (atype := .int) (ty := .int) (a0 := (9, .inl (fun _ => 0))) hx hb (hts (.arrayClass .int) (by decide +kernel)) rfl hK hP hD hS hA 0 rfl (fun _ => rfl) (by decide) rfl (Nat.le_of_ble_eq_true rfl) (Nat.le_of_ble_eq_true rfl) (Nat.le_of_ble_eq_true rfl) dX12_init_80 (fun q_9 H hP hD hS => ?_)
  have hP : va_P G.1 vwCl [(h0, .inr (13, [.ref q_1, .ref q_2, .int 0, .ref q_3, .int 0, .int 0, .int 0, .ref q_4, .ref q_5, .int 0, .ref q_6, .int (-1), .ref q_7, .int 0, .ref q_8, .null, .null, .null, .int 0, .int 0, .int 0, .int 0, .null, .null, .null, .null, .null])), (q_1, eI G 1191 (fun _ => 0)), (q_2, eI G 1191 (fun _ => 0)), (q_3, eI G 9528 (fun _ => 0)), (q_4, eI G 60 (fun _ => 0)), (q_5, eI G 9 (fun _ => 0)), (q_6, eI G 6 (fun _ => 0)), (q_7, eI G 1191 (fun _ => 0)), (q_8, eI G 81 (fun _ => 0)), (q_9, eI G 9 (fun _ => 0))] H := hP
  have hD : va_D A [(h0, .inr (13, [.ref q_1, .ref q_2, .int 0, .ref q_3, .int 0, .int 0, .int 0, .ref q_4, .ref q_5, .int 0, .ref q_6, .int (-1), .ref q_7, .int 0, .ref q_8, .null, .null, .null, .int 0, .int 0, .int 0, .int 0, .null, .null, .null, .null, .null])), (q_1, eI G 1191 (fun _ => 0)), (q_2, eI G 1191 (fun _ => 0)), (q_3, eI G 9528 (fun _ => 0)), (q_4, eI G 60 (fun _ => 0)), (q_5, eI G 9 (fun _ => 0)), (q_6, eI G 6 (fun _ => 0)), (q_7, eI G 1191 (fun _ => 0)), (q_8, eI G 81 (fun _ => 0)), (q_9, eI G 9 (fun _ => 0))] := hD
  refine va_putF (D := G.1) (ci := 13) (v := .ref q_9) (ty := .array .int) (C := RX12) (T := TX12) (N := 27) hx hb hts hiX12 tyX12 tyX12_ok nmX12 hown hK hP hD hS 0 rfl rfl 15 (by decide) (hts (.fieldLink RX12 38 "DialectDictionaryModel" "rowRule" "[I") (by decide +kernel)) (fun _ h9 => h9) rfl hin rfl (by decide +kernel) rfl rfl (Nat.le_of_ble_eq_true rfl) dX12_init_82 (fun H locs hP hD hS => ?_)
  have hP : va_P G.1 vwCl [(h0, .inr (13, [.ref q_1, .ref q_2, .int 0, .ref q_3, .int 0, .int 0, .int 0, .ref q_4, .ref q_5, .int 0, .ref q_6, .int (-1), .ref q_7, .int 0, .ref q_8, .ref q_9, .null, .null, .int 0, .int 0, .int 0, .int 0, .null, .null, .null, .null, .null])), (q_1, eI G 1191 (fun _ => 0)), (q_2, eI G 1191 (fun _ => 0)), (q_3, eI G 9528 (fun _ => 0)), (q_4, eI G 60 (fun _ => 0)), (q_5, eI G 9 (fun _ => 0)), (q_6, eI G 6 (fun _ => 0)), (q_7, eI G 1191 (fun _ => 0)), (q_8, eI G 81 (fun _ => 0)), (q_9, eI G 9 (fun _ => 0))] H := hP
  have hD : va_D A [(h0, .inr (13, [.ref q_1, .ref q_2, .int 0, .ref q_3, .int 0, .int 0, .int 0, .ref q_4, .ref q_5, .int 0, .ref q_6, .int (-1), .ref q_7, .int 0, .ref q_8, .ref q_9, .null, .null, .int 0, .int 0, .int 0, .int 0, .null, .null, .null, .null, .null])), (q_1, eI G 1191 (fun _ => 0)), (q_2, eI G 1191 (fun _ => 0)), (q_3, eI G 9528 (fun _ => 0)), (q_4, eI G 60 (fun _ => 0)), (q_5, eI G 9 (fun _ => 0)), (q_6, eI G 6 (fun _ => 0)), (q_7, eI G 1191 (fun _ => 0)), (q_8, eI G 81 (fun _ => 0)), (q_9, eI G 9 (fun _ => 0))] := hD
  refine lv_aload_n hx hb dX12_init_85 rfl (lv_at hl 0 rfl) ?_
  refine lv_sipush (v := 180) hx hb dX12_init_86 (by decide) ?_
  refine n_newa (atype := .int) (ty := .int) (a0 := (180, .inl (fun _ => 0))) hx hb (hts (.arrayClass .int) (by decide +kernel)) rfl hK hP hD hS hA 0 rfl (fun _ => rfl) (by decide) rfl (Nat.le_of_ble_eq_true rfl) (Nat.le_of_ble_eq_true rfl) (Nat.le_of_ble_eq_true rfl) dX12_init_89 (fun q_10 H hP hD hS => ?_)
  have hP : va_P G.1 vwCl [(h0, .inr (13, [.ref q_1, .ref q_2, .int 0, .ref q_3, .int 0, .int 0, .int 0, .ref q_4, .ref q_5, .int 0, .ref q_6, .int (-1), .ref q_7, .int 0, .ref q_8, .ref q_9, .null, .null, .int 0, .int 0, .int 0, .int 0, .null, .null, .null, .null, .null])), (q_1, eI G 1191 (fun _ => 0)), (q_2, eI G 1191 (fun _ => 0)), (q_3, eI G 9528 (fun _ => 0)), (q_4, eI G 60 (fun _ => 0)), (q_5, eI G 9 (fun _ => 0)), (q_6, eI G 6 (fun _ => 0)), (q_7, eI G 1191 (fun _ => 0)), (q_8, eI G 81 (fun _ => 0)), (q_9, eI G 9 (fun _ => 0)), (q_10, eI G 180 (fun _ => 0))] H := hP
  have hD : va_D A [(h0, .inr (13, [.ref q_1, .ref q_2, .int 0, .ref q_3, .int 0, .int 0, .int 0, .ref q_4, .ref q_5, .int 0, .ref q_6, .int (-1), .ref q_7, .int 0, .ref q_8, .ref q_9, .null, .null, .int 0, .int 0, .int 0, .int 0, .null, .null, .null, .null, .null])), (q_1, eI G 1191 (fun _ => 0)), (q_2, eI G 1191 (fun _ => 0)), (q_3, eI G 9528 (fun _ => 0)), (q_4, eI G 60 (fun _ => 0)), (q_5, eI G 9 (fun _ => 0)), (q_6, eI G 6 (fun _ => 0)), (q_7, eI G 1191 (fun _ => 0)), (q_8, eI G 81 (fun _ => 0)), (q_9, eI G 9 (fun _ => 0)), (q_10, eI G 180 (fun _ => 0))] := hD
  refine va_putF (D := G.1) (ci := 13) (v := .ref q_10) (ty := .array .int) (C := RX12) (T := TX12) (N := 27) hx hb hts hiX12 tyX12 tyX12_ok nmX12 hown hK hP hD hS 0 rfl rfl 16 (by decide) (hts (.fieldLink RX12 41 "DialectDictionaryModel" "result" "[I") (by decide +kernel)) (fun _ h9 => h9) rfl hin rfl (by decide +kernel) rfl rfl (Nat.le_of_ble_eq_true rfl) dX12_init_91 (fun H locs hP hD hS => ?_)
  have hP : va_P G.1 vwCl [(h0, .inr (13, [.ref q_1, .ref q_2, .int 0, .ref q_3, .int 0, .int 0, .int 0, .ref q_4, .ref q_5, .int 0, .ref q_6, .int (-1), .ref q_7, .int 0, .ref q_8, .ref q_9, .ref q_10, .null, .int 0, .int 0, .int 0, .int 0, .null, .null, .null, .null, .null])), (q_1, eI G 1191 (fun _ => 0)), (q_2, eI G 1191 (fun _ => 0)), (q_3, eI G 9528 (fun _ => 0)), (q_4, eI G 60 (fun _ => 0)), (q_5, eI G 9 (fun _ => 0)), (q_6, eI G 6 (fun _ => 0)), (q_7, eI G 1191 (fun _ => 0)), (q_8, eI G 81 (fun _ => 0)), (q_9, eI G 9 (fun _ => 0)), (q_10, eI G 180 (fun _ => 0))] H := hP
  have hD : va_D A [(h0, .inr (13, [.ref q_1, .ref q_2, .int 0, .ref q_3, .int 0, .int 0, .int 0, .ref q_4, .ref q_5, .int 0, .ref q_6, .int (-1), .ref q_7, .int 0, .ref q_8, .ref q_9, .ref q_10, .null, .int 0, .int 0, .int 0, .int 0, .null, .null, .null, .null, .null])), (q_1, eI G 1191 (fun _ => 0)), (q_2, eI G 1191 (fun _ => 0)), (q_3, eI G 9528 (fun _ => 0)), (q_4, eI G 60 (fun _ => 0)), (q_5, eI G 9 (fun _ => 0)), (q_6, eI G 6 (fun _ => 0)), (q_7, eI G 1191 (fun _ => 0)), (q_8, eI G 81 (fun _ => 0)), (q_9, eI G 9 (fun _ => 0)), (q_10, eI G 180 (fun _ => 0))] := hD
  refine lv_aload_n hx hb dX12_init_94 rfl (lv_at hl 0 rfl) ?_
  refine lv_sipush (v := 180) hx hb dX12_init_95 (by decide) ?_
  refine n_newa (atype := .int) (ty := .int) (a0 := (180, .inl (fun _ => 0))) hx hb (hts (.arrayClass .int) (by decide +kernel)) rfl hK hP hD hS hA 0 rfl (fun _ => rfl) (by decide) rfl (Nat.le_of_ble_eq_true rfl) (Nat.le_of_ble_eq_true rfl) (Nat.le_of_ble_eq_true rfl) dX12_init_98 (fun q_11 H hP hD hS => ?_)
  have hP : va_P G.1 vwCl [(h0, .inr (13, [.ref q_1, .ref q_2, .int 0, .ref q_3, .int 0, .int 0, .int 0, .ref q_4, .ref q_5, .int 0, .ref q_6, .int (-1), .ref q_7, .int 0, .ref q_8, .ref q_9, .ref q_10, .null, .int 0, .int 0, .int 0, .int 0, .null, .null, .null, .null, .null])), (q_1, eI G 1191 (fun _ => 0)), (q_2, eI G 1191 (fun _ => 0)), (q_3, eI G 9528 (fun _ => 0)), (q_4, eI G 60 (fun _ => 0)), (q_5, eI G 9 (fun _ => 0)), (q_6, eI G 6 (fun _ => 0)), (q_7, eI G 1191 (fun _ => 0)), (q_8, eI G 81 (fun _ => 0)), (q_9, eI G 9 (fun _ => 0)), (q_10, eI G 180 (fun _ => 0)), (q_11, eI G 180 (fun _ => 0))] H := hP
  have hD : va_D A [(h0, .inr (13, [.ref q_1, .ref q_2, .int 0, .ref q_3, .int 0, .int 0, .int 0, .ref q_4, .ref q_5, .int 0, .ref q_6, .int (-1), .ref q_7, .int 0, .ref q_8, .ref q_9, .ref q_10, .null, .int 0, .int 0, .int 0, .int 0, .null, .null, .null, .null, .null])), (q_1, eI G 1191 (fun _ => 0)), (q_2, eI G 1191 (fun _ => 0)), (q_3, eI G 9528 (fun _ => 0)), (q_4, eI G 60 (fun _ => 0)), (q_5, eI G 9 (fun _ => 0)), (q_6, eI G 6 (fun _ => 0)), (q_7, eI G 1191 (fun _ => 0)), (q_8, eI G 81 (fun _ => 0)), (q_9, eI G 9 (fun _ => 0)), (q_10, eI G 180 (fun _ => 0)), (q_11, eI G 180 (fun _ => 0))] := hD
  refine va_putF (D := G.1) (ci := 13) (v := .ref q_11) (ty := .array .int) (C := RX12) (T := TX12) (N := 27) hx hb hts hiX12 tyX12 tyX12_ok nmX12 hown hK hP hD hS 0 rfl rfl 17 (by decide) (hts (.fieldLink RX12 44 "DialectDictionaryModel" "resultBefore" "[I") (by decide +kernel)) (fun _ h9 => h9) rfl hin rfl (by decide +kernel) rfl rfl (Nat.le_of_ble_eq_true rfl) dX12_init_100 (fun H locs hP hD hS => ?_)
  have hP : va_P G.1 vwCl [(h0, .inr (13, [.ref q_1, .ref q_2, .int 0, .ref q_3, .int 0, .int 0, .int 0, .ref q_4, .ref q_5, .int 0, .ref q_6, .int (-1), .ref q_7, .int 0, .ref q_8, .ref q_9, .ref q_10, .ref q_11, .int 0, .int 0, .int 0, .int 0, .null, .null, .null, .null, .null])), (q_1, eI G 1191 (fun _ => 0)), (q_2, eI G 1191 (fun _ => 0)), (q_3, eI G 9528 (fun _ => 0)), (q_4, eI G 60 (fun _ => 0)), (q_5, eI G 9 (fun _ => 0)), (q_6, eI G 6 (fun _ => 0)), (q_7, eI G 1191 (fun _ => 0)), (q_8, eI G 81 (fun _ => 0)), (q_9, eI G 9 (fun _ => 0)), (q_10, eI G 180 (fun _ => 0)), (q_11, eI G 180 (fun _ => 0))] H := hP
  have hD : va_D A [(h0, .inr (13, [.ref q_1, .ref q_2, .int 0, .ref q_3, .int 0, .int 0, .int 0, .ref q_4, .ref q_5, .int 0, .ref q_6, .int (-1), .ref q_7, .int 0, .ref q_8, .ref q_9, .ref q_10, .ref q_11, .int 0, .int 0, .int 0, .int 0, .null, .null, .null, .null, .null])), (q_1, eI G 1191 (fun _ => 0)), (q_2, eI G 1191 (fun _ => 0)), (q_3, eI G 9528 (fun _ => 0)), (q_4, eI G 60 (fun _ => 0)), (q_5, eI G 9 (fun _ => 0)), (q_6, eI G 6 (fun _ => 0)), (q_7, eI G 1191 (fun _ => 0)), (q_8, eI G 81 (fun _ => 0)), (q_9, eI G 9 (fun _ => 0)), (q_10, eI G 180 (fun _ => 0)), (q_11, eI G 180 (fun _ => 0))] := hD
  refine lv_aload_n hx hb dX12_init_103 rfl (lv_at hl 0 rfl) ?_
  refine lv_bipush (v := 60) hx hb dX12_init_104 (by decide) ?_
  refine n_newa (atype := .int) (ty := .int) (a0 := (60, .inl (fun _ => 0))) hx hb (hts (.arrayClass .int) (by decide +kernel)) rfl hK hP hD hS hA 0 rfl (fun _ => rfl) (by decide) rfl (Nat.le_of_ble_eq_true rfl) (Nat.le_of_ble_eq_true rfl) (Nat.le_of_ble_eq_true rfl) dX12_init_106 (fun q_12 H hP hD hS => ?_)
  have hP : va_P G.1 vwCl [(h0, .inr (13, [.ref q_1, .ref q_2, .int 0, .ref q_3, .int 0, .int 0, .int 0, .ref q_4, .ref q_5, .int 0, .ref q_6, .int (-1), .ref q_7, .int 0, .ref q_8, .ref q_9, .ref q_10, .ref q_11, .int 0, .int 0, .int 0, .int 0, .null, .null, .null, .null, .null])), (q_1, eI G 1191 (fun _ => 0)), (q_2, eI G 1191 (fun _ => 0)), (q_3, eI G 9528 (fun _ => 0)), (q_4, eI G 60 (fun _ => 0)), (q_5, eI G 9 (fun _ => 0)), (q_6, eI G 6 (fun _ => 0)), (q_7, eI G 1191 (fun _ => 0)), (q_8, eI G 81 (fun _ => 0)), (q_9, eI G 9 (fun _ => 0)), (q_10, eI G 180 (fun _ => 0)), (q_11, eI G 180 (fun _ => 0)), (q_12, eI G 60 (fun _ => 0))] H := hP
  have hD : va_D A [(h0, .inr (13, [.ref q_1, .ref q_2, .int 0, .ref q_3, .int 0, .int 0, .int 0, .ref q_4, .ref q_5, .int 0, .ref q_6, .int (-1), .ref q_7, .int 0, .ref q_8, .ref q_9, .ref q_10, .ref q_11, .int 0, .int 0, .int 0, .int 0, .null, .null, .null, .null, .null])), (q_1, eI G 1191 (fun _ => 0)), (q_2, eI G 1191 (fun _ => 0)), (q_3, eI G 9528 (fun _ => 0)), (q_4, eI G 60 (fun _ => 0)), (q_5, eI G 9 (fun _ => 0)), (q_6, eI G 6 (fun _ => 0)), (q_7, eI G 1191 (fun _ => 0)), (q_8, eI G 81 (fun _ => 0)), (q_9, eI G 9 (fun _ => 0)), (q_10, eI G 180 (fun _ => 0)), (q_11, eI G 180 (fun _ => 0)), (q_12, eI G 60 (fun _ => 0))] := hD
  refine va_putF (D := G.1) (ci := 13) (v := .ref q_12) (ty := .array .int) (C := RX12) (T := TX12) (N := 27) hx hb hts hiX12 tyX12 tyX12_ok nmX12 hown hK hP hD hS 0 rfl rfl 22 (by decide) (hts (.fieldLink RX12 47 "DialectDictionaryModel" "sort" "[I") (by decide +kernel)) (fun _ h9 => h9) rfl hin rfl (by decide +kernel) rfl rfl (Nat.le_of_ble_eq_true rfl) dX12_init_108 (fun H locs hP hD hS => ?_)
  have hP : va_P G.1 vwCl [(h0, .inr (13, [.ref q_1, .ref q_2, .int 0, .ref q_3, .int 0, .int 0, .int 0, .ref q_4, .ref q_5, .int 0, .ref q_6, .int (-1), .ref q_7, .int 0, .ref q_8, .ref q_9, .ref q_10, .ref q_11, .int 0, .int 0, .int 0, .int 0, .ref q_12, .null, .null, .null, .null])), (q_1, eI G 1191 (fun _ => 0)), (q_2, eI G 1191 (fun _ => 0)), (q_3, eI G 9528 (fun _ => 0)), (q_4, eI G 60 (fun _ => 0)), (q_5, eI G 9 (fun _ => 0)), (q_6, eI G 6 (fun _ => 0)), (q_7, eI G 1191 (fun _ => 0)), (q_8, eI G 81 (fun _ => 0)), (q_9, eI G 9 (fun _ => 0)), (q_10, eI G 180 (fun _ => 0)), (q_11, eI G 180 (fun _ => 0)), (q_12, eI G 60 (fun _ => 0))] H := hP
  have hD : va_D A [(h0, .inr (13, [.ref q_1, .ref q_2, .int 0, .ref q_3, .int 0, .int 0, .int 0, .ref q_4, .ref q_5, .int 0, .ref q_6, .int (-1), .ref q_7, .int 0, .ref q_8, .ref q_9, .ref q_10, .ref q_11, .int 0, .int 0, .int 0, .int 0, .ref q_12, .null, .null, .null, .null])), (q_1, eI G 1191 (fun _ => 0)), (q_2, eI G 1191 (fun _ => 0)), (q_3, eI G 9528 (fun _ => 0)), (q_4, eI G 60 (fun _ => 0)), (q_5, eI G 9 (fun _ => 0)), (q_6, eI G 6 (fun _ => 0)), (q_7, eI G 1191 (fun _ => 0)), (q_8, eI G 81 (fun _ => 0)), (q_9, eI G 9 (fun _ => 0)), (q_10, eI G 180 (fun _ => 0)), (q_11, eI G 180 (fun _ => 0)), (q_12, eI G 60 (fun _ => 0))] := hD
  refine lv_aload_n hx hb dX12_init_111 rfl (lv_at hl 0 rfl) ?_
  refine lv_bipush (v := 60) hx hb dX12_init_112 (by decide) ?_
  refine n_newa (atype := .int) (ty := .int) (a0 := (60, .inl (fun _ => 0))) hx hb (hts (.arrayClass .int) (by decide +kernel)) rfl hK hP hD hS hA 0 rfl (fun _ => rfl) (by decide) rfl (Nat.le_of_ble_eq_true rfl) (Nat.le_of_ble_eq_true rfl) (Nat.le_of_ble_eq_true rfl) dX12_init_114 (fun q_13 H hP hD hS => ?_)
  have hP : va_P G.1 vwCl [(h0, .inr (13, [.ref q_1, .ref q_2, .int 0, .ref q_3, .int 0, .int 0, .int 0, .ref q_4, .ref q_5, .int 0, .ref q_6, .int (-1), .ref q_7, .int 0, .ref q_8, .ref q_9, .ref q_10, .ref q_11, .int 0, .int 0, .int 0, .int 0, .ref q_12, .null, .null, .null, .null])), (q_1, eI G 1191 (fun _ => 0)), (q_2, eI G 1191 (fun _ => 0)), (q_3, eI G 9528 (fun _ => 0)), (q_4, eI G 60 (fun _ => 0)), (q_5, eI G 9 (fun _ => 0)), (q_6, eI G 6 (fun _ => 0)), (q_7, eI G 1191 (fun _ => 0)), (q_8, eI G 81 (fun _ => 0)), (q_9, eI G 9 (fun _ => 0)), (q_10, eI G 180 (fun _ => 0)), (q_11, eI G 180 (fun _ => 0)), (q_12, eI G 60 (fun _ => 0)), (q_13, eI G 60 (fun _ => 0))] H := hP
  have hD : va_D A [(h0, .inr (13, [.ref q_1, .ref q_2, .int 0, .ref q_3, .int 0, .int 0, .int 0, .ref q_4, .ref q_5, .int 0, .ref q_6, .int (-1), .ref q_7, .int 0, .ref q_8, .ref q_9, .ref q_10, .ref q_11, .int 0, .int 0, .int 0, .int 0, .ref q_12, .null, .null, .null, .null])), (q_1, eI G 1191 (fun _ => 0)), (q_2, eI G 1191 (fun _ => 0)), (q_3, eI G 9528 (fun _ => 0)), (q_4, eI G 60 (fun _ => 0)), (q_5, eI G 9 (fun _ => 0)), (q_6, eI G 6 (fun _ => 0)), (q_7, eI G 1191 (fun _ => 0)), (q_8, eI G 81 (fun _ => 0)), (q_9, eI G 9 (fun _ => 0)), (q_10, eI G 180 (fun _ => 0)), (q_11, eI G 180 (fun _ => 0)), (q_12, eI G 60 (fun _ => 0)), (q_13, eI G 60 (fun _ => 0))] := hD
  refine va_putF (D := G.1) (ci := 13) (v := .ref q_13) (ty := .array .int) (C := RX12) (T := TX12) (N := 27) hx hb hts hiX12 tyX12 tyX12_ok nmX12 hown hK hP hD hS 0 rfl rfl 23 (by decide) (hts (.fieldLink RX12 50 "DialectDictionaryModel" "number" "[I") (by decide +kernel)) (fun _ h9 => h9) rfl hin rfl (by decide +kernel) rfl rfl (Nat.le_of_ble_eq_true rfl) dX12_init_116 (fun H locs hP hD hS => ?_)
  have hP : va_P G.1 vwCl [(h0, .inr (13, [.ref q_1, .ref q_2, .int 0, .ref q_3, .int 0, .int 0, .int 0, .ref q_4, .ref q_5, .int 0, .ref q_6, .int (-1), .ref q_7, .int 0, .ref q_8, .ref q_9, .ref q_10, .ref q_11, .int 0, .int 0, .int 0, .int 0, .ref q_12, .ref q_13, .null, .null, .null])), (q_1, eI G 1191 (fun _ => 0)), (q_2, eI G 1191 (fun _ => 0)), (q_3, eI G 9528 (fun _ => 0)), (q_4, eI G 60 (fun _ => 0)), (q_5, eI G 9 (fun _ => 0)), (q_6, eI G 6 (fun _ => 0)), (q_7, eI G 1191 (fun _ => 0)), (q_8, eI G 81 (fun _ => 0)), (q_9, eI G 9 (fun _ => 0)), (q_10, eI G 180 (fun _ => 0)), (q_11, eI G 180 (fun _ => 0)), (q_12, eI G 60 (fun _ => 0)), (q_13, eI G 60 (fun _ => 0))] H := hP
  have hD : va_D A [(h0, .inr (13, [.ref q_1, .ref q_2, .int 0, .ref q_3, .int 0, .int 0, .int 0, .ref q_4, .ref q_5, .int 0, .ref q_6, .int (-1), .ref q_7, .int 0, .ref q_8, .ref q_9, .ref q_10, .ref q_11, .int 0, .int 0, .int 0, .int 0, .ref q_12, .ref q_13, .null, .null, .null])), (q_1, eI G 1191 (fun _ => 0)), (q_2, eI G 1191 (fun _ => 0)), (q_3, eI G 9528 (fun _ => 0)), (q_4, eI G 60 (fun _ => 0)), (q_5, eI G 9 (fun _ => 0)), (q_6, eI G 6 (fun _ => 0)), (q_7, eI G 1191 (fun _ => 0)), (q_8, eI G 81 (fun _ => 0)), (q_9, eI G 9 (fun _ => 0)), (q_10, eI G 180 (fun _ => 0)), (q_11, eI G 180 (fun _ => 0)), (q_12, eI G 60 (fun _ => 0)), (q_13, eI G 60 (fun _ => 0))] := hD
  refine lv_aload_n hx hb dX12_init_119 rfl (lv_at hl 0 rfl) ?_
  refine lv_bipush (v := 60) hx hb dX12_init_120 (by decide) ?_
  refine n_newa (atype := .int) (ty := .int) (a0 := (60, .inl (fun _ => 0))) hx hb (hts (.arrayClass .int) (by decide +kernel)) rfl hK hP hD hS hA 0 rfl (fun _ => rfl) (by decide) rfl (Nat.le_of_ble_eq_true rfl) (Nat.le_of_ble_eq_true rfl) (Nat.le_of_ble_eq_true rfl) dX12_init_122 (fun q_14 H hP hD hS => ?_)
  have hP : va_P G.1 vwCl [(h0, .inr (13, [.ref q_1, .ref q_2, .int 0, .ref q_3, .int 0, .int 0, .int 0, .ref q_4, .ref q_5, .int 0, .ref q_6, .int (-1), .ref q_7, .int 0, .ref q_8, .ref q_9, .ref q_10, .ref q_11, .int 0, .int 0, .int 0, .int 0, .ref q_12, .ref q_13, .null, .null, .null])), (q_1, eI G 1191 (fun _ => 0)), (q_2, eI G 1191 (fun _ => 0)), (q_3, eI G 9528 (fun _ => 0)), (q_4, eI G 60 (fun _ => 0)), (q_5, eI G 9 (fun _ => 0)), (q_6, eI G 6 (fun _ => 0)), (q_7, eI G 1191 (fun _ => 0)), (q_8, eI G 81 (fun _ => 0)), (q_9, eI G 9 (fun _ => 0)), (q_10, eI G 180 (fun _ => 0)), (q_11, eI G 180 (fun _ => 0)), (q_12, eI G 60 (fun _ => 0)), (q_13, eI G 60 (fun _ => 0)), (q_14, eI G 60 (fun _ => 0))] H := hP
  have hD : va_D A [(h0, .inr (13, [.ref q_1, .ref q_2, .int 0, .ref q_3, .int 0, .int 0, .int 0, .ref q_4, .ref q_5, .int 0, .ref q_6, .int (-1), .ref q_7, .int 0, .ref q_8, .ref q_9, .ref q_10, .ref q_11, .int 0, .int 0, .int 0, .int 0, .ref q_12, .ref q_13, .null, .null, .null])), (q_1, eI G 1191 (fun _ => 0)), (q_2, eI G 1191 (fun _ => 0)), (q_3, eI G 9528 (fun _ => 0)), (q_4, eI G 60 (fun _ => 0)), (q_5, eI G 9 (fun _ => 0)), (q_6, eI G 6 (fun _ => 0)), (q_7, eI G 1191 (fun _ => 0)), (q_8, eI G 81 (fun _ => 0)), (q_9, eI G 9 (fun _ => 0)), (q_10, eI G 180 (fun _ => 0)), (q_11, eI G 180 (fun _ => 0)), (q_12, eI G 60 (fun _ => 0)), (q_13, eI G 60 (fun _ => 0)), (q_14, eI G 60 (fun _ => 0))] := hD
  refine va_putF (D := G.1) (ci := 13) (v := .ref q_14) (ty := .array .int) (C := RX12) (T := TX12) (N := 27) hx hb hts hiX12 tyX12 tyX12_ok nmX12 hown hK hP hD hS 0 rfl rfl 24 (by decide) (hts (.fieldLink RX12 53 "DialectDictionaryModel" "second" "[I") (by decide +kernel)) (fun _ h9 => h9) rfl hin rfl (by decide +kernel) rfl rfl (Nat.le_of_ble_eq_true rfl) dX12_init_124 (fun H locs hP hD hS => ?_)
  have hP : va_P G.1 vwCl [(h0, .inr (13, [.ref q_1, .ref q_2, .int 0, .ref q_3, .int 0, .int 0, .int 0, .ref q_4, .ref q_5, .int 0, .ref q_6, .int (-1), .ref q_7, .int 0, .ref q_8, .ref q_9, .ref q_10, .ref q_11, .int 0, .int 0, .int 0, .int 0, .ref q_12, .ref q_13, .ref q_14, .null, .null])), (q_1, eI G 1191 (fun _ => 0)), (q_2, eI G 1191 (fun _ => 0)), (q_3, eI G 9528 (fun _ => 0)), (q_4, eI G 60 (fun _ => 0)), (q_5, eI G 9 (fun _ => 0)), (q_6, eI G 6 (fun _ => 0)), (q_7, eI G 1191 (fun _ => 0)), (q_8, eI G 81 (fun _ => 0)), (q_9, eI G 9 (fun _ => 0)), (q_10, eI G 180 (fun _ => 0)), (q_11, eI G 180 (fun _ => 0)), (q_12, eI G 60 (fun _ => 0)), (q_13, eI G 60 (fun _ => 0)), (q_14, eI G 60 (fun _ => 0))] H := hP
  have hD : va_D A [(h0, .inr (13, [.ref q_1, .ref q_2, .int 0, .ref q_3, .int 0, .int 0, .int 0, .ref q_4, .ref q_5, .int 0, .ref q_6, .int (-1), .ref q_7, .int 0, .ref q_8, .ref q_9, .ref q_10, .ref q_11, .int 0, .int 0, .int 0, .int 0, .ref q_12, .ref q_13, .ref q_14, .null, .null])), (q_1, eI G 1191 (fun _ => 0)), (q_2, eI G 1191 (fun _ => 0)), (q_3, eI G 9528 (fun _ => 0)), (q_4, eI G 60 (fun _ => 0)), (q_5, eI G 9 (fun _ => 0)), (q_6, eI G 6 (fun _ => 0)), (q_7, eI G 1191 (fun _ => 0)), (q_8, eI G 81 (fun _ => 0)), (q_9, eI G 9 (fun _ => 0)), (q_10, eI G 180 (fun _ => 0)), (q_11, eI G 180 (fun _ => 0)), (q_12, eI G 60 (fun _ => 0)), (q_13, eI G 60 (fun _ => 0)), (q_14, eI G 60 (fun _ => 0))] := hD
  refine lv_aload_n hx hb dX12_init_127 rfl (lv_at hl 0 rfl) ?_
  refine lv_bipush (v := 60) hx hb dX12_init_128 (by decide) ?_
  refine n_newa (atype := .int) (ty := .int) (a0 := (60, .inl (fun _ => 0))) hx hb (hts (.arrayClass .int) (by decide +kernel)) rfl hK hP hD hS hA 0 rfl (fun _ => rfl) (by decide) rfl (Nat.le_of_ble_eq_true rfl) (Nat.le_of_ble_eq_true rfl) (Nat.le_of_ble_eq_true rfl) dX12_init_130 (fun q_15 H hP hD hS => ?_)
  have hP : va_P G.1 vwCl [(h0, .inr (13, [.ref q_1, .ref q_2, .int 0, .ref q_3, .int 0, .int 0, .int 0, .ref q_4, .ref q_5, .int 0, .ref q_6, .int (-1), .ref q_7, .int 0, .ref q_8, .ref q_9, .ref q_10, .ref q_11, .int 0, .int 0, .int 0, .int 0, .ref q_12, .ref q_13, .ref q_14, .null, .null])), (q_1, eI G 1191 (fun _ => 0)), (q_2, eI G 1191 (fun _ => 0)), (q_3, eI G 9528 (fun _ => 0)), (q_4, eI G 60 (fun _ => 0)), (q_5, eI G 9 (fun _ => 0)), (q_6, eI G 6 (fun _ => 0)), (q_7, eI G 1191 (fun _ => 0)), (q_8, eI G 81 (fun _ => 0)), (q_9, eI G 9 (fun _ => 0)), (q_10, eI G 180 (fun _ => 0)), (q_11, eI G 180 (fun _ => 0)), (q_12, eI G 60 (fun _ => 0)), (q_13, eI G 60 (fun _ => 0)), (q_14, eI G 60 (fun _ => 0)), (q_15, eI G 60 (fun _ => 0))] H := hP
  have hD : va_D A [(h0, .inr (13, [.ref q_1, .ref q_2, .int 0, .ref q_3, .int 0, .int 0, .int 0, .ref q_4, .ref q_5, .int 0, .ref q_6, .int (-1), .ref q_7, .int 0, .ref q_8, .ref q_9, .ref q_10, .ref q_11, .int 0, .int 0, .int 0, .int 0, .ref q_12, .ref q_13, .ref q_14, .null, .null])), (q_1, eI G 1191 (fun _ => 0)), (q_2, eI G 1191 (fun _ => 0)), (q_3, eI G 9528 (fun _ => 0)), (q_4, eI G 60 (fun _ => 0)), (q_5, eI G 9 (fun _ => 0)), (q_6, eI G 6 (fun _ => 0)), (q_7, eI G 1191 (fun _ => 0)), (q_8, eI G 81 (fun _ => 0)), (q_9, eI G 9 (fun _ => 0)), (q_10, eI G 180 (fun _ => 0)), (q_11, eI G 180 (fun _ => 0)), (q_12, eI G 60 (fun _ => 0)), (q_13, eI G 60 (fun _ => 0)), (q_14, eI G 60 (fun _ => 0)), (q_15, eI G 60 (fun _ => 0))] := hD
  refine va_putF (D := G.1) (ci := 13) (v := .ref q_15) (ty := .array .int) (C := RX12) (T := TX12) (N := 27) hx hb hts hiX12 tyX12 tyX12_ok nmX12 hown hK hP hD hS 0 rfl rfl 25 (by decide) (hts (.fieldLink RX12 56 "DialectDictionaryModel" "begin" "[I") (by decide +kernel)) (fun _ h9 => h9) rfl hin rfl (by decide +kernel) rfl rfl (Nat.le_of_ble_eq_true rfl) dX12_init_132 (fun H locs hP hD hS => ?_)
  have hP : va_P G.1 vwCl [(h0, .inr (13, [.ref q_1, .ref q_2, .int 0, .ref q_3, .int 0, .int 0, .int 0, .ref q_4, .ref q_5, .int 0, .ref q_6, .int (-1), .ref q_7, .int 0, .ref q_8, .ref q_9, .ref q_10, .ref q_11, .int 0, .int 0, .int 0, .int 0, .ref q_12, .ref q_13, .ref q_14, .ref q_15, .null])), (q_1, eI G 1191 (fun _ => 0)), (q_2, eI G 1191 (fun _ => 0)), (q_3, eI G 9528 (fun _ => 0)), (q_4, eI G 60 (fun _ => 0)), (q_5, eI G 9 (fun _ => 0)), (q_6, eI G 6 (fun _ => 0)), (q_7, eI G 1191 (fun _ => 0)), (q_8, eI G 81 (fun _ => 0)), (q_9, eI G 9 (fun _ => 0)), (q_10, eI G 180 (fun _ => 0)), (q_11, eI G 180 (fun _ => 0)), (q_12, eI G 60 (fun _ => 0)), (q_13, eI G 60 (fun _ => 0)), (q_14, eI G 60 (fun _ => 0)), (q_15, eI G 60 (fun _ => 0))] H := hP
  have hD : va_D A [(h0, .inr (13, [.ref q_1, .ref q_2, .int 0, .ref q_3, .int 0, .int 0, .int 0, .ref q_4, .ref q_5, .int 0, .ref q_6, .int (-1), .ref q_7, .int 0, .ref q_8, .ref q_9, .ref q_10, .ref q_11, .int 0, .int 0, .int 0, .int 0, .ref q_12, .ref q_13, .ref q_14, .ref q_15, .null])), (q_1, eI G 1191 (fun _ => 0)), (q_2, eI G 1191 (fun _ => 0)), (q_3, eI G 9528 (fun _ => 0)), (q_4, eI G 60 (fun _ => 0)), (q_5, eI G 9 (fun _ => 0)), (q_6, eI G 6 (fun _ => 0)), (q_7, eI G 1191 (fun _ => 0)), (q_8, eI G 81 (fun _ => 0)), (q_9, eI G 9 (fun _ => 0)), (q_10, eI G 180 (fun _ => 0)), (q_11, eI G 180 (fun _ => 0)), (q_12, eI G 60 (fun _ => 0)), (q_13, eI G 60 (fun _ => 0)), (q_14, eI G 60 (fun _ => 0)), (q_15, eI G 60 (fun _ => 0))] := hD
  refine lv_aload_n hx hb dX12_init_135 rfl (lv_at hl 0 rfl) ?_
  refine lv_bipush (v := 60) hx hb dX12_init_136 (by decide) ?_
  refine n_newa (atype := .int) (ty := .int) (a0 := (60, .inl (fun _ => 0))) hx hb (hts (.arrayClass .int) (by decide +kernel)) rfl hK hP hD hS hA 0 rfl (fun _ => rfl) (by decide) rfl (Nat.le_of_ble_eq_true rfl) (Nat.le_of_ble_eq_true rfl) (Nat.le_of_ble_eq_true rfl) dX12_init_138 (fun q_16 H hP hD hS => ?_)
  have hP : va_P G.1 vwCl [(h0, .inr (13, [.ref q_1, .ref q_2, .int 0, .ref q_3, .int 0, .int 0, .int 0, .ref q_4, .ref q_5, .int 0, .ref q_6, .int (-1), .ref q_7, .int 0, .ref q_8, .ref q_9, .ref q_10, .ref q_11, .int 0, .int 0, .int 0, .int 0, .ref q_12, .ref q_13, .ref q_14, .ref q_15, .null])), (q_1, eI G 1191 (fun _ => 0)), (q_2, eI G 1191 (fun _ => 0)), (q_3, eI G 9528 (fun _ => 0)), (q_4, eI G 60 (fun _ => 0)), (q_5, eI G 9 (fun _ => 0)), (q_6, eI G 6 (fun _ => 0)), (q_7, eI G 1191 (fun _ => 0)), (q_8, eI G 81 (fun _ => 0)), (q_9, eI G 9 (fun _ => 0)), (q_10, eI G 180 (fun _ => 0)), (q_11, eI G 180 (fun _ => 0)), (q_12, eI G 60 (fun _ => 0)), (q_13, eI G 60 (fun _ => 0)), (q_14, eI G 60 (fun _ => 0)), (q_15, eI G 60 (fun _ => 0)), (q_16, eI G 60 (fun _ => 0))] H := hP
  have hD : va_D A [(h0, .inr (13, [.ref q_1, .ref q_2, .int 0, .ref q_3, .int 0, .int 0, .int 0, .ref q_4, .ref q_5, .int 0, .ref q_6, .int (-1), .ref q_7, .int 0, .ref q_8, .ref q_9, .ref q_10, .ref q_11, .int 0, .int 0, .int 0, .int 0, .ref q_12, .ref q_13, .ref q_14, .ref q_15, .null])), (q_1, eI G 1191 (fun _ => 0)), (q_2, eI G 1191 (fun _ => 0)), (q_3, eI G 9528 (fun _ => 0)), (q_4, eI G 60 (fun _ => 0)), (q_5, eI G 9 (fun _ => 0)), (q_6, eI G 6 (fun _ => 0)), (q_7, eI G 1191 (fun _ => 0)), (q_8, eI G 81 (fun _ => 0)), (q_9, eI G 9 (fun _ => 0)), (q_10, eI G 180 (fun _ => 0)), (q_11, eI G 180 (fun _ => 0)), (q_12, eI G 60 (fun _ => 0)), (q_13, eI G 60 (fun _ => 0)), (q_14, eI G 60 (fun _ => 0)), (q_15, eI G 60 (fun _ => 0)), (q_16, eI G 60 (fun _ => 0))] := hD
  refine va_putF (D := G.1) (ci := 13) (v := .ref q_16) (ty := .array .int) (C := RX12) (T := TX12) (N := 27) hx hb hts hiX12 tyX12 tyX12_ok nmX12 hown hK hP hD hS 0 rfl rfl 26 (by decide) (hts (.fieldLink RX12 59 "DialectDictionaryModel" "end" "[I") (by decide +kernel)) (fun _ h9 => h9) rfl hin rfl (by decide +kernel) rfl rfl (Nat.le_of_ble_eq_true rfl) dX12_init_140 (fun H locs hP hD hS => ?_)
  have hP : va_P G.1 vwCl [(h0, .inr (13, [.ref q_1, .ref q_2, .int 0, .ref q_3, .int 0, .int 0, .int 0, .ref q_4, .ref q_5, .int 0, .ref q_6, .int (-1), .ref q_7, .int 0, .ref q_8, .ref q_9, .ref q_10, .ref q_11, .int 0, .int 0, .int 0, .int 0, .ref q_12, .ref q_13, .ref q_14, .ref q_15, .ref q_16])), (q_1, eI G 1191 (fun _ => 0)), (q_2, eI G 1191 (fun _ => 0)), (q_3, eI G 9528 (fun _ => 0)), (q_4, eI G 60 (fun _ => 0)), (q_5, eI G 9 (fun _ => 0)), (q_6, eI G 6 (fun _ => 0)), (q_7, eI G 1191 (fun _ => 0)), (q_8, eI G 81 (fun _ => 0)), (q_9, eI G 9 (fun _ => 0)), (q_10, eI G 180 (fun _ => 0)), (q_11, eI G 180 (fun _ => 0)), (q_12, eI G 60 (fun _ => 0)), (q_13, eI G 60 (fun _ => 0)), (q_14, eI G 60 (fun _ => 0)), (q_15, eI G 60 (fun _ => 0)), (q_16, eI G 60 (fun _ => 0))] H := hP
  have hD : va_D A [(h0, .inr (13, [.ref q_1, .ref q_2, .int 0, .ref q_3, .int 0, .int 0, .int 0, .ref q_4, .ref q_5, .int 0, .ref q_6, .int (-1), .ref q_7, .int 0, .ref q_8, .ref q_9, .ref q_10, .ref q_11, .int 0, .int 0, .int 0, .int 0, .ref q_12, .ref q_13, .ref q_14, .ref q_15, .ref q_16])), (q_1, eI G 1191 (fun _ => 0)), (q_2, eI G 1191 (fun _ => 0)), (q_3, eI G 9528 (fun _ => 0)), (q_4, eI G 60 (fun _ => 0)), (q_5, eI G 9 (fun _ => 0)), (q_6, eI G 6 (fun _ => 0)), (q_7, eI G 1191 (fun _ => 0)), (q_8, eI G 81 (fun _ => 0)), (q_9, eI G 9 (fun _ => 0)), (q_10, eI G 180 (fun _ => 0)), (q_11, eI G 180 (fun _ => 0)), (q_12, eI G 60 (fun _ => 0)), (q_13, eI G 60 (fun _ => 0)), (q_14, eI G 60 (fun _ => 0)), (q_15, eI G 60 (fun _ => 0)), (q_16, eI G 60 (fun _ => 0))] := hD
  refine lv_aload_n hx hb dX12_init_143 rfl (lv_at hl 0 rfl) ?_
  refine va_get (D := G.1) (ci := 13) (v := .ref q_1) (C := RX12) (T := TX12) (N := 27) hx hb hts hiX12 hown hK hP 0 rfl rfl 0 (by decide) (hts (.fieldLink RX12 9 "DialectDictionaryModel" "m" "[I") (by decide +kernel)) (fun _ h9 => h9) rfl dX12_init_144 ?_
  refine lv_iconst (v := 0) hx hb dX12_init_147 (by decide) ?_
  refine lv_bipush (v := 26) hx hb dX12_init_148 (by decide) ?_
  refine va_iast hx hb hK hP hD hS 1 0 rfl rfl (n_in (by decide)) dX12_init_150 (fun H locs hP hD hS => ?_)
  have hP : va_P G.1 vwCl [(h0, .inr (13, [.ref q_1, .ref q_2, .int 0, .ref q_3, .int 0, .int 0, .int 0, .ref q_4, .ref q_5, .int 0, .ref q_6, .int (-1), .ref q_7, .int 0, .ref q_8, .ref q_9, .ref q_10, .ref q_11, .int 0, .int 0, .int 0, .int 0, .ref q_12, .ref q_13, .ref q_14, .ref q_15, .ref q_16])), (q_1, eI G 1191 (upd (fun _ => 0) ((0 : Int32).toNatClampNeg) 26)), (q_2, eI G 1191 (fun _ => 0)), (q_3, eI G 9528 (fun _ => 0)), (q_4, eI G 60 (fun _ => 0)), (q_5, eI G 9 (fun _ => 0)), (q_6, eI G 6 (fun _ => 0)), (q_7, eI G 1191 (fun _ => 0)), (q_8, eI G 81 (fun _ => 0)), (q_9, eI G 9 (fun _ => 0)), (q_10, eI G 180 (fun _ => 0)), (q_11, eI G 180 (fun _ => 0)), (q_12, eI G 60 (fun _ => 0)), (q_13, eI G 60 (fun _ => 0)), (q_14, eI G 60 (fun _ => 0)), (q_15, eI G 60 (fun _ => 0)), (q_16, eI G 60 (fun _ => 0))] H := hP
  have hD : va_D A [(h0, .inr (13, [.ref q_1, .ref q_2, .int 0, .ref q_3, .int 0, .int 0, .int 0, .ref q_4, .ref q_5, .int 0, .ref q_6, .int (-1), .ref q_7, .int 0, .ref q_8, .ref q_9, .ref q_10, .ref q_11, .int 0, .int 0, .int 0, .int 0, .ref q_12, .ref q_13, .ref q_14, .ref q_15, .ref q_16])), (q_1, eI G 1191 (upd (fun _ => 0) ((0 : Int32).toNatClampNeg) 26)), (q_2, eI G 1191 (fun _ => 0)), (q_3, eI G 9528 (fun _ => 0)), (q_4, eI G 60 (fun _ => 0)), (q_5, eI G 9 (fun _ => 0)), (q_6, eI G 6 (fun _ => 0)), (q_7, eI G 1191 (fun _ => 0)), (q_8, eI G 81 (fun _ => 0)), (q_9, eI G 9 (fun _ => 0)), (q_10, eI G 180 (fun _ => 0)), (q_11, eI G 180 (fun _ => 0)), (q_12, eI G 60 (fun _ => 0)), (q_13, eI G 60 (fun _ => 0)), (q_14, eI G 60 (fun _ => 0)), (q_15, eI G 60 (fun _ => 0)), (q_16, eI G 60 (fun _ => 0))] := hD
  refine lv_iconst (v := 0) hx hb dX12_init_151 (by decide) ?_
  refine lv_istore_n (lv' := [(1, .int 0), (0, .ref h0)]) hx hb dX12_init_152 rfl hl (by decide) rfl (fun ls hl => ?_)
  refine W.widen (k := 16) (n := 13926) (Nat.le_of_ble_eq_true rfl) (Nat.le_of_ble_eq_true rfl) ?_
  have key : ∀ (n i : Nat), i + n = 26 → ∀ (f_90 : Nat → Int32) (H : Heap) (locs : List Loc) (ls : Array Slot), nModN f_90 i → va_P G.1 vwCl [(h0, .inr (13, [.ref q_1, .ref q_2, .int 0, .ref q_3, .int 0, .int 0, .int 0, .ref q_4, .ref q_5, .int 0, .ref q_6, .int (-1), .ref q_7, .int 0, .ref q_8, .ref q_9, .ref q_10, .ref q_11, .int 0, .int 0, .int 0, .int 0, .ref q_12, .ref q_13, .ref q_14, .ref q_15, .ref q_16])), (q_1, eI G 1191 f_90), (q_2, eI G 1191 (fun _ => 0)), (q_3, eI G 9528 (fun _ => 0)), (q_4, eI G 60 (fun _ => 0)), (q_5, eI G 9 (fun _ => 0)), (q_6, eI G 6 (fun _ => 0)), (q_7, eI G 1191 (fun _ => 0)), (q_8, eI G 81 (fun _ => 0)), (q_9, eI G 9 (fun _ => 0)), (q_10, eI G 180 (fun _ => 0)), (q_11, eI G 180 (fun _ => 0)), (q_12, eI G 60 (fun _ => 0)), (q_13, eI G 60 (fun _ => 0)), (q_14, eI G 60 (fun _ => 0)), (q_15, eI G 60 (fun _ => 0)), (q_16, eI G 60 (fun _ => 0))] H → va_D A [(h0, .inr (13, [.ref q_1, .ref q_2, .int 0, .ref q_3, .int 0, .int 0, .int 0, .ref q_4, .ref q_5, .int 0, .ref q_6, .int (-1), .ref q_7, .int 0, .ref q_8, .ref q_9, .ref q_10, .ref q_11, .int 0, .int 0, .int 0, .int 0, .ref q_12, .ref q_13, .ref q_14, .ref q_15, .ref q_16])), (q_1, eI G 1191 f_90), (q_2, eI G 1191 (fun _ => 0)), (q_3, eI G 9528 (fun _ => 0)), (q_4, eI G 60 (fun _ => 0)), (q_5, eI G 9 (fun _ => 0)), (q_6, eI G 6 (fun _ => 0)), (q_7, eI G 1191 (fun _ => 0)), (q_8, eI G 81 (fun _ => 0)), (q_9, eI G 9 (fun _ => 0)), (q_10, eI G 180 (fun _ => 0)), (q_11, eI G 180 (fun _ => 0)), (q_12, eI G 60 (fun _ => 0)), (q_13, eI G 60 (fun _ => 0)), (q_14, eI G 60 (fun _ => 0)), (q_15, eI G 60 (fun _ => 0)), (q_16, eI G 60 (fun _ => 0))] → va_S A s.heap H locs → lv_has ls 2 [(1, .int (nI i)), (0, .ref h0)] → W p l e (headSpec wsX12_init ({ frames := 1, cells := 16, slots := 13926, locals := 12 })).room s m (([.ref h0] : List Value).toArray) below meth c H locs 16 13926 (MQ below (va_Qv (fun (u9 : Nat × Nat × Nat × Nat × Nat × Nat × Nat × Nat × Nat × Nat × Nat × Nat × Nat × Nat × Nat × Nat × (Nat → Int32)) => match u9 with | (q_1, q_2, q_3, q_4, q_5, q_6, q_7, q_8, q_9, q_10, q_11, q_12, q_13, q_14, q_15, q_16, f_90) => nMod f_90) (fun (u9 : Nat × Nat × Nat × Nat × Nat × Nat × Nat × Nat × Nat × Nat × Nat × Nat × Nat × Nat × Nat × Nat × (Nat → Int32)) (t : State) => match u9 with | (q_1, q_2, q_3, q_4, q_5, q_6, q_7, q_8, q_9, q_10, q_11, q_12, q_13, q_14, q_15, q_16, f_90) => n_po G A [(h0, .inr (13, [.ref q_1, .ref q_2, .int 0, .ref q_3, .int 0, .int 0, .int 0, .ref q_4, .ref q_5, .int 0, .ref q_6, .int (-1), .ref q_7, .int 0, .ref q_8, .ref q_9, .ref q_10, .ref q_11, .int 0, .int 0, .int 0, .int 0, .ref q_12, .ref q_13, .ref q_14, .ref q_15, .ref q_16])), (q_1, eI G 1191 f_90), (q_2, eI G 1191 (fun _ => 0)), (q_3, eI G 9528 (fun _ => 0)), (q_4, eI G 60 (fun _ => 0)), (q_5, eI G 9 (fun _ => 0)), (q_6, eI G 6 (fun _ => 0)), (q_7, eI G 1191 (fun _ => 0)), (q_8, eI G 81 (fun _ => 0)), (q_9, eI G 9 (fun _ => 0)), (q_10, eI G 180 (fun _ => 0)), (q_11, eI G 180 (fun _ => 0)), (q_12, eI G 60 (fun _ => 0)), (q_13, eI G 60 (fun _ => 0)), (q_14, eI G 60 (fun _ => 0)), (q_15, eI G 60 (fun _ => 0)), (q_16, eI G 60 (fun _ => 0))] t) A) (([.ref h0] : List Value).toArray) s 16 13926 A) (F0 m 153 ls []) := by
    intro n
    induction n with
    | zero =>
      intro i hi f_90 H locs ls hf hP hD hS hl
      obtain rfl : i = 26 := by omega
      refine lv_iload_n hx hb dX12_init_153 rfl (lv_at hl 0 rfl) ?_
      refine lv_bipush (v := 26) hx hb dX12_init_154 (by decide) ?_
      refine lv_icmp_ge (tgt := 177) hx hb dX12_init_156 (by decide) (fun _ => ?_) (fun h9 => absurd (by decide) h9)
      have hP9 := n_Psub (wc := [(h0, .inr (13, [.ref q_1, .ref q_2, .int 0, .ref q_3, .int 0, .int 0, .int 0, .ref q_4, .ref q_5, .int 0, .ref q_6, .int (-1), .ref q_7, .int 0, .ref q_8, .ref q_9, .ref q_10, .ref q_11, .int 0, .int 0, .int 0, .int 0, .ref q_12, .ref q_13, .ref q_14, .ref q_15, .ref q_16])), (q_1, eI G 1191 f_90), (q_2, eI G 1191 (fun _ => 0)), (q_3, eI G 9528 (fun _ => 0)), (q_4, eI G 60 (fun _ => 0)), (q_5, eI G 9 (fun _ => 0)), (q_6, eI G 6 (fun _ => 0)), (q_7, eI G 1191 (fun _ => 0)), (q_8, eI G 81 (fun _ => 0)), (q_9, eI G 9 (fun _ => 0)), (q_10, eI G 180 (fun _ => 0)), (q_11, eI G 180 (fun _ => 0)), (q_12, eI G 60 (fun _ => 0)), (q_13, eI G 60 (fun _ => 0)), (q_14, eI G 60 (fun _ => 0)), (q_15, eI G 60 (fun _ => 0)), (q_16, eI G 60 (fun _ => 0))]) hP [0, 1, 2, 3, 4, 5, 6, 7, 8, 9, 10, 11, 12, 13, 14, 15, 16] rfl
      have hD9 := hD.sub (ws' := [(h0, .inr (13, [.ref q_1, .ref q_2, .int 0, .ref q_3, .int 0, .int 0, .int 0, .ref q_4, .ref q_5, .int 0, .ref q_6, .int (-1), .ref q_7, .int 0, .ref q_8, .ref q_9, .ref q_10, .ref q_11, .int 0, .int 0, .int 0, .int 0, .ref q_12, .ref q_13, .ref q_14, .ref q_15, .ref q_16])), (q_1, eI G 1191 f_90), (q_2, eI G 1191 (fun _ => 0)), (q_3, eI G 9528 (fun _ => 0)), (q_4, eI G 60 (fun _ => 0)), (q_5, eI G 9 (fun _ => 0)), (q_6, eI G 6 (fun _ => 0)), (q_7, eI G 1191 (fun _ => 0)), (q_8, eI G 81 (fun _ => 0)), (q_9, eI G 9 (fun _ => 0)), (q_10, eI G 180 (fun _ => 0)), (q_11, eI G 180 (fun _ => 0)), (q_12, eI G 60 (fun _ => 0)), (q_13, eI G 60 (fun _ => 0)), (q_14, eI G 60 (fun _ => 0)), (q_15, eI G 60 (fun _ => 0)), (q_16, eI G 60 (fun _ => 0))]) [0, 1, 2, 3, 4, 5, 6, 7, 8, 9, 10, 11, 12, 13, 14, 15, 16] (by decide) rfl
      refine W.widen (k := 16) (n := 13926) (Nat.le_of_ble_eq_true rfl) (Nat.le_of_ble_eq_true rfl) ?_
      exact W.vret hx hb hr (fun t ht hW => ⟨⟨(q_1, q_2, q_3, q_4, q_5, q_6, q_7, q_8, q_9, q_10, q_11, q_12, q_13, q_14, q_15, q_16, f_90), rfl, (nModN_to hf), by rw [ht]; exact hP9, va_K.moved hW.alike hK, hD9⟩, hS.F ht⟩) hS.2.2 dX12_init_177
    | succ n ih =>
      intro i hi f_90 H locs ls hf hP hD hS hl
      refine lv_iload_n hx hb dX12_init_153 rfl (lv_at hl 0 rfl) ?_
      refine lv_bipush (v := 26) hx hb dX12_init_154 (by decide) ?_
      refine lv_icmp_ge (tgt := 177) hx hb dX12_init_156 (by decide) (fun h9 => absurd h9 (nI_ge (b := 26) (by omega) (by decide))) (fun _ => ?_)
      refine lv_aload_n hx hb dX12_init_159 rfl (lv_at hl 1 rfl) ?_
      refine va_get (D := G.1) (ci := 13) (v := .ref q_1) (C := RX12) (T := TX12) (N := 27) hx hb hts hiX12 hown hK hP 0 rfl rfl 0 (by decide) (hts (.fieldLink RX12 9 "DialectDictionaryModel" "m" "[I") (by decide +kernel)) (fun _ h9 => h9) rfl dX12_init_160 ?_
      refine lv_iconst (v := 1) hx hb dX12_init_163 (by decide) ?_
      refine lv_iload_n hx hb dX12_init_164 rfl (lv_at hl 0 rfl) ?_
      refine lv_iadd hx hb dX12_init_165 ?_
      refine n_eqi (y := (nI (1 + i))) (nI_add 1 i) ?_
      refine lv_bipush (v := 97) hx hb dX12_init_166 (by decide) ?_
      refine lv_iload_n hx hb dX12_init_168 rfl (lv_at hl 0 rfl) ?_
      refine lv_iadd hx hb dX12_init_169 ?_
      refine n_eqi (y := (nI (97 + i))) (nI_add 97 i) ?_
      refine va_iast hx hb hK hP hD hS 1 0 rfl rfl (vp_in_nI (n := (1 + i)) (by omega) (by omega)) dX12_init_170 (fun H locs hP hD hS => ?_)
      have hP : va_P G.1 vwCl [(h0, .inr (13, [.ref q_1, .ref q_2, .int 0, .ref q_3, .int 0, .int 0, .int 0, .ref q_4, .ref q_5, .int 0, .ref q_6, .int (-1), .ref q_7, .int 0, .ref q_8, .ref q_9, .ref q_10, .ref q_11, .int 0, .int 0, .int 0, .int 0, .ref q_12, .ref q_13, .ref q_14, .ref q_15, .ref q_16])), (q_1, eI G 1191 (upd f_90 (((nI (1 + i)) : Int32).toNatClampNeg) (nI (97 + i)))), (q_2, eI G 1191 (fun _ => 0)), (q_3, eI G 9528 (fun _ => 0)), (q_4, eI G 60 (fun _ => 0)), (q_5, eI G 9 (fun _ => 0)), (q_6, eI G 6 (fun _ => 0)), (q_7, eI G 1191 (fun _ => 0)), (q_8, eI G 81 (fun _ => 0)), (q_9, eI G 9 (fun _ => 0)), (q_10, eI G 180 (fun _ => 0)), (q_11, eI G 180 (fun _ => 0)), (q_12, eI G 60 (fun _ => 0)), (q_13, eI G 60 (fun _ => 0)), (q_14, eI G 60 (fun _ => 0)), (q_15, eI G 60 (fun _ => 0)), (q_16, eI G 60 (fun _ => 0))] H := hP
      have hD : va_D A [(h0, .inr (13, [.ref q_1, .ref q_2, .int 0, .ref q_3, .int 0, .int 0, .int 0, .ref q_4, .ref q_5, .int 0, .ref q_6, .int (-1), .ref q_7, .int 0, .ref q_8, .ref q_9, .ref q_10, .ref q_11, .int 0, .int 0, .int 0, .int 0, .ref q_12, .ref q_13, .ref q_14, .ref q_15, .ref q_16])), (q_1, eI G 1191 (upd f_90 (((nI (1 + i)) : Int32).toNatClampNeg) (nI (97 + i)))), (q_2, eI G 1191 (fun _ => 0)), (q_3, eI G 9528 (fun _ => 0)), (q_4, eI G 60 (fun _ => 0)), (q_5, eI G 9 (fun _ => 0)), (q_6, eI G 6 (fun _ => 0)), (q_7, eI G 1191 (fun _ => 0)), (q_8, eI G 81 (fun _ => 0)), (q_9, eI G 9 (fun _ => 0)), (q_10, eI G 180 (fun _ => 0)), (q_11, eI G 180 (fun _ => 0)), (q_12, eI G 60 (fun _ => 0)), (q_13, eI G 60 (fun _ => 0)), (q_14, eI G 60 (fun _ => 0)), (q_15, eI G 60 (fun _ => 0)), (q_16, eI G 60 (fun _ => 0))] := hD
      refine lv_iinc (v := (nI (i + 1))) (lv' := [(1, .int (nI (i + 1))), (0, .ref h0)]) hx hb dX12_init_171 hl (k := 0) rfl (nI_1 i) (by decide) rfl (fun ls hl => ?_)
      refine lv_goto (tgt := 153) hx hb dX12_init_174 (by decide) ?_
      exact ih (i + 1) (by omega) _ H locs ls (nModN_s hf (by omega)) hP hD hS hl
  exact key 26 0 rfl _ H locs ls nModN_0 hP hD hS hl

set_option maxHeartbeats 4000000 in
set_option maxRecDepth 100000 in
theorem mX12_in1 (l : Launch) (G : nG) (sz : Nat) : Met l yX12_in wsX12_in ({ frames := 0, cells := 0, slots := 0, locals := 0 }) (va_Pc [.int (-1), .int 48, .int 57] (n_pp G [] sz)) (va_Qi (fun (r : Int32) (_ : Unit) => r = 0) (fun (_ : Unit) (t : State) => n_po G (va_A [] sz) [] t) (va_A [] sz)) 0 0 (va_A [] sz) := by
  refine Met.ofW (cc := cX12_in) (maxL := 3) (ret := (some .boolean)) (by decide) rfl ?_
  intro p e s m args below meth c s₁ B hml hv
  obtain ⟨rfl, hsz, hP, hK, hD0⟩ := hv
  have hx := B.exec
  have hb := B.bytes
  have hr := B.returns
  have hts := atoms_spec (ws := wsX12_in) B.pre
  have hown : s.vm.findClass RX12 = some m.cls := findClass_of_methodNamed B.named
  have hlocks := B.notSynchronized
  subst hsz
  have hD := hD0.self (sz := s.heap.size)
  generalize hAe : va_A [] s.heap.size = A at hD ⊢
  have hA : ∀ q : Nat, s.heap.size ≤ q → A q := fun q h => by rw [← hAe]; exact Or.inr h
  have hS : va_S A s.heap s.heap [] := va_S.rf
  have hP : va_P G.1 vwCl [] s.heap := hP
  have hl := lv_entry ([.int (-1), .int 48, .int 57]) (n := 3) (Nat.le_of_ble_eq_true rfl)
  rw [lg_entry_eq]
  generalize (lg_sl ([.int (-1), .int 48, .int 57]) ++ List.replicate (3 - (lg_sl ([.int (-1), .int 48, .int 57])).length) Slot.unset).toArray = ls at hl ⊢
  have hl : lv_has ls 3 [(0, .int (-1)), (1, .int 48), (2, .int 57)] := hl
  obtain ⟨H, hH⟩ : ∃ z, z = s.heap := ⟨_, rfl⟩
  have hS : va_S A s.heap H [] := by rw [hH]; exact hS
  have hP : va_P G.1 vwCl [] H := by rw [hH]; exact hP
  refine n_heap hH ?_
  generalize ([] : List Loc) = locs at hS ⊢
  refine lv_iload_n hx hb dX12_in_0 rfl (lv_at hl 0 rfl) ?_
  refine lv_iload_n hx hb dX12_in_1 rfl (lv_at hl 1 rfl) ?_
  refine lv_icmp_lt (tgt := 14) hx hb dX12_in_2 (by decide) (fun _ => ?_) (fun h9 => absurd (by decide) h9)
  refine lv_iconst (v := 0) hx hb dX12_in_14 (by decide) ?_
  have hP9 := n_Psub (wc := []) hP [] rfl
  have hD9 := hD.sub (ws' := []) [] (by decide) rfl
  refine W.widen (k := 0) (n := 0) (Nat.le_of_ble_eq_true rfl) (Nat.le_of_ble_eq_true rfl) ?_
  exact W.zret (v := 0) (ty := .boolean) hx hb hr rfl (fun t ht hW => ⟨⟨0, (), rfl, rfl, by rw [ht]; exact hP9, va_K.moved hW.alike hK, hD9⟩, hS.F ht⟩) hS.2.2 dX12_in_15

set_option maxHeartbeats 4000000 in
set_option maxRecDepth 100000 in
theorem mX12_in2 (l : Launch) (G : nG) (q : Int32) (sz : Nat) : Met l yX12_in wsX12_in ({ frames := 0, cells := 0, slots := 0, locals := 0 }) (va_Pc [.int q, .int 0, .int (-1)] (n_pp G [] sz)) (va_Qi (fun (r : Int32) (_ : Unit) => r = 0) (fun (_ : Unit) (t : State) => n_po G (va_A [] sz) [] t) (va_A [] sz)) 0 0 (va_A [] sz) := by
  refine Met.ofW (cc := cX12_in) (maxL := 3) (ret := (some .boolean)) (by decide) rfl ?_
  intro p e s m args below meth c s₁ B hml hv
  obtain ⟨rfl, hsz, hP, hK, hD0⟩ := hv
  have hx := B.exec
  have hb := B.bytes
  have hr := B.returns
  have hts := atoms_spec (ws := wsX12_in) B.pre
  have hown : s.vm.findClass RX12 = some m.cls := findClass_of_methodNamed B.named
  have hlocks := B.notSynchronized
  subst hsz
  have hD := hD0.self (sz := s.heap.size)
  generalize hAe : va_A [] s.heap.size = A at hD ⊢
  have hA : ∀ q : Nat, s.heap.size ≤ q → A q := fun q h => by rw [← hAe]; exact Or.inr h
  have hS : va_S A s.heap s.heap [] := va_S.rf
  have hP : va_P G.1 vwCl [] s.heap := hP
  have hl := lv_entry ([.int q, .int 0, .int (-1)]) (n := 3) (Nat.le_of_ble_eq_true rfl)
  rw [lg_entry_eq]
  generalize (lg_sl ([.int q, .int 0, .int (-1)]) ++ List.replicate (3 - (lg_sl ([.int q, .int 0, .int (-1)])).length) Slot.unset).toArray = ls at hl ⊢
  have hl : lv_has ls 3 [(0, .int q), (1, .int 0), (2, .int (-1))] := hl
  obtain ⟨H, hH⟩ : ∃ z, z = s.heap := ⟨_, rfl⟩
  have hS : va_S A s.heap H [] := by rw [hH]; exact hS
  have hP : va_P G.1 vwCl [] H := by rw [hH]; exact hP
  refine n_heap hH ?_
  generalize ([] : List Loc) = locs at hS ⊢
  refine lv_iload_n hx hb dX12_in_0 rfl (lv_at hl 0 rfl) ?_
  refine lv_iload_n hx hb dX12_in_1 rfl (lv_at hl 1 rfl) ?_
  refine lv_icmp_lt (tgt := 14) hx hb dX12_in_2 (by decide) (fun c_2 => ?_) (fun c_2 => ?_)
  · skip
    refine lv_iconst (v := 0) hx hb dX12_in_14 (by decide) ?_
    have hP9 := n_Psub (wc := []) hP [] rfl
    have hD9 := hD.sub (ws' := []) [] (by decide) rfl
    refine W.widen (k := 0) (n := 0) (Nat.le_of_ble_eq_true rfl) (Nat.le_of_ble_eq_true rfl) ?_
    exact W.zret (v := 0) (ty := .boolean) hx hb hr rfl (fun t ht hW => ⟨⟨0, (), rfl, rfl, by rw [ht]; exact hP9, va_K.moved hW.alike hK, hD9⟩, hS.F ht⟩) hS.2.2 dX12_in_15
  · skip
    refine lv_iload_n hx hb dX12_in_5 rfl (lv_at hl 0 rfl) ?_
    refine lv_iload_n hx hb dX12_in_6 rfl (lv_at hl 2 rfl) ?_
    refine lv_icmp_gt (tgt := 14) hx hb dX12_in_7 (by decide) (fun _ => ?_) (fun h9 => absurd (n_m1 c_2) h9)
    refine lv_iconst (v := 0) hx hb dX12_in_14 (by decide) ?_
    have hP9 := n_Psub (wc := []) hP [] rfl
    have hD9 := hD.sub (ws' := []) [] (by decide) rfl
    refine W.widen (k := 0) (n := 0) (Nat.le_of_ble_eq_true rfl) (Nat.le_of_ble_eq_true rfl) ?_
    exact W.zret (v := 0) (ty := .boolean) hx hb hr rfl (fun t ht hW => ⟨⟨0, (), rfl, rfl, by rw [ht]; exact hP9, va_K.moved hW.alike hK, hD9⟩, hS.F ht⟩) hS.2.2 dX12_in_15

set_option maxHeartbeats 4000000 in
set_option maxRecDepth 100000 in
theorem mX12_in3 (l : Launch) (G : nG) (q : Int32) (sz : Nat) : Met l yX12_in wsX12_in ({ frames := 0, cells := 0, slots := 0, locals := 0 }) (va_Pc [.int q, .int 97, .int 122] (n_pp G [] sz)) (va_Qi (fun (r : Int32) (_ : Unit) => r = (nsm q)) (fun (_ : Unit) (t : State) => n_po G (va_A [] sz) [] t) (va_A [] sz)) 0 0 (va_A [] sz) := by
  refine Met.ofW (cc := cX12_in) (maxL := 3) (ret := (some .boolean)) (by decide) rfl ?_
  intro p e s m args below meth c s₁ B hml hv
  obtain ⟨rfl, hsz, hP, hK, hD0⟩ := hv
  have hx := B.exec
  have hb := B.bytes
  have hr := B.returns
  have hts := atoms_spec (ws := wsX12_in) B.pre
  have hown : s.vm.findClass RX12 = some m.cls := findClass_of_methodNamed B.named
  have hlocks := B.notSynchronized
  subst hsz
  have hD := hD0.self (sz := s.heap.size)
  generalize hAe : va_A [] s.heap.size = A at hD ⊢
  have hA : ∀ q : Nat, s.heap.size ≤ q → A q := fun q h => by rw [← hAe]; exact Or.inr h
  have hS : va_S A s.heap s.heap [] := va_S.rf
  have hP : va_P G.1 vwCl [] s.heap := hP
  have hl := lv_entry ([.int q, .int 97, .int 122]) (n := 3) (Nat.le_of_ble_eq_true rfl)
  rw [lg_entry_eq]
  generalize (lg_sl ([.int q, .int 97, .int 122]) ++ List.replicate (3 - (lg_sl ([.int q, .int 97, .int 122])).length) Slot.unset).toArray = ls at hl ⊢
  have hl : lv_has ls 3 [(0, .int q), (1, .int 97), (2, .int 122)] := hl
  obtain ⟨H, hH⟩ : ∃ z, z = s.heap := ⟨_, rfl⟩
  have hS : va_S A s.heap H [] := by rw [hH]; exact hS
  have hP : va_P G.1 vwCl [] H := by rw [hH]; exact hP
  refine n_heap hH ?_
  generalize ([] : List Loc) = locs at hS ⊢
  refine lv_iload_n hx hb dX12_in_0 rfl (lv_at hl 0 rfl) ?_
  refine lv_iload_n hx hb dX12_in_1 rfl (lv_at hl 1 rfl) ?_
  refine lv_icmp_lt (tgt := 14) hx hb dX12_in_2 (by decide) (fun c_2 => ?_) (fun c_2 => ?_)
  · skip
    refine lv_iconst (v := 0) hx hb dX12_in_14 (by decide) ?_
    have hP9 := n_Psub (wc := []) hP [] rfl
    have hD9 := hD.sub (ws' := []) [] (by decide) rfl
    refine W.widen (k := 0) (n := 0) (Nat.le_of_ble_eq_true rfl) (Nat.le_of_ble_eq_true rfl) ?_
    exact W.zret (v := 0) (ty := .boolean) hx hb hr rfl (fun t ht hW => ⟨⟨0, (), rfl, (by rw [nsm, if_pos c_2]), by rw [ht]; exact hP9, va_K.moved hW.alike hK, hD9⟩, hS.F ht⟩) hS.2.2 dX12_in_15
  · skip
    refine lv_iload_n hx hb dX12_in_5 rfl (lv_at hl 0 rfl) ?_
    refine lv_iload_n hx hb dX12_in_6 rfl (lv_at hl 2 rfl) ?_
    refine lv_icmp_gt (tgt := 14) hx hb dX12_in_7 (by decide) (fun c_7 => ?_) (fun c_7 => ?_)
    · skip
      refine lv_iconst (v := 0) hx hb dX12_in_14 (by decide) ?_
      have hP9 := n_Psub (wc := []) hP [] rfl
      have hD9 := hD.sub (ws' := []) [] (by decide) rfl
      refine W.widen (k := 0) (n := 0) (Nat.le_of_ble_eq_true rfl) (Nat.le_of_ble_eq_true rfl) ?_
      exact W.zret (v := 0) (ty := .boolean) hx hb hr rfl (fun t ht hW => ⟨⟨0, (), rfl, (by rw [nsm, if_neg c_2, if_pos c_7]), by rw [ht]; exact hP9, va_K.moved hW.alike hK, hD9⟩, hS.F ht⟩) hS.2.2 dX12_in_15
    · skip
      refine lv_iconst (v := 1) hx hb dX12_in_10 (by decide) ?_
      refine lv_goto (tgt := 15) hx hb dX12_in_11 (by decide) ?_
      have hP9 := n_Psub (wc := []) hP [] rfl
      have hD9 := hD.sub (ws' := []) [] (by decide) rfl
      refine W.widen (k := 0) (n := 0) (Nat.le_of_ble_eq_true rfl) (Nat.le_of_ble_eq_true rfl) ?_
      exact W.zret (v := 1) (ty := .boolean) hx hb hr rfl (fun t ht hW => ⟨⟨1, (), rfl, (by rw [nsm, if_neg c_2, if_neg c_7]), by rw [ht]; exact hP9, va_K.moved hW.alike hK, hD9⟩, hS.F ht⟩) hS.2.2 dX12_in_15

set_option maxHeartbeats 4000000 in
set_option maxRecDepth 100000 in
theorem mX12_in4 (l : Launch) (G : nG) (q : Int32) (sz : Nat) : Met l yX12_in wsX12_in ({ frames := 0, cells := 0, slots := 0, locals := 0 }) (va_Pc [.int q, .int 0, .int 25] (n_pp G [] sz)) (va_Qi (fun (r : Int32) (_ : Unit) => r = (nhp 26 q)) (fun (_ : Unit) (t : State) => n_po G (va_A [] sz) [] t) (va_A [] sz)) 0 0 (va_A [] sz) := by
  refine Met.ofW (cc := cX12_in) (maxL := 3) (ret := (some .boolean)) (by decide) rfl ?_
  intro p e s m args below meth c s₁ B hml hv
  obtain ⟨rfl, hsz, hP, hK, hD0⟩ := hv
  have hx := B.exec
  have hb := B.bytes
  have hr := B.returns
  have hts := atoms_spec (ws := wsX12_in) B.pre
  have hown : s.vm.findClass RX12 = some m.cls := findClass_of_methodNamed B.named
  have hlocks := B.notSynchronized
  subst hsz
  have hD := hD0.self (sz := s.heap.size)
  generalize hAe : va_A [] s.heap.size = A at hD ⊢
  have hA : ∀ q : Nat, s.heap.size ≤ q → A q := fun q h => by rw [← hAe]; exact Or.inr h
  have hS : va_S A s.heap s.heap [] := va_S.rf
  have hP : va_P G.1 vwCl [] s.heap := hP
  have hl := lv_entry ([.int q, .int 0, .int 25]) (n := 3) (Nat.le_of_ble_eq_true rfl)
  rw [lg_entry_eq]
  generalize (lg_sl ([.int q, .int 0, .int 25]) ++ List.replicate (3 - (lg_sl ([.int q, .int 0, .int 25])).length) Slot.unset).toArray = ls at hl ⊢
  have hl : lv_has ls 3 [(0, .int q), (1, .int 0), (2, .int 25)] := hl
  obtain ⟨H, hH⟩ : ∃ z, z = s.heap := ⟨_, rfl⟩
  have hS : va_S A s.heap H [] := by rw [hH]; exact hS
  have hP : va_P G.1 vwCl [] H := by rw [hH]; exact hP
  refine n_heap hH ?_
  generalize ([] : List Loc) = locs at hS ⊢
  refine lv_iload_n hx hb dX12_in_0 rfl (lv_at hl 0 rfl) ?_
  refine lv_iload_n hx hb dX12_in_1 rfl (lv_at hl 1 rfl) ?_
  refine lv_icmp_lt (tgt := 14) hx hb dX12_in_2 (by decide) (fun c_2 => ?_) (fun c_2 => ?_)
  · skip
    refine lv_iconst (v := 0) hx hb dX12_in_14 (by decide) ?_
    have hP9 := n_Psub (wc := []) hP [] rfl
    have hD9 := hD.sub (ws' := []) [] (by decide) rfl
    refine W.widen (k := 0) (n := 0) (Nat.le_of_ble_eq_true rfl) (Nat.le_of_ble_eq_true rfl) ?_
    exact W.zret (v := 0) (ty := .boolean) hx hb hr rfl (fun t ht hW => ⟨⟨0, (), rfl, (by rw [nhp25, if_pos c_2]), by rw [ht]; exact hP9, va_K.moved hW.alike hK, hD9⟩, hS.F ht⟩) hS.2.2 dX12_in_15
  · skip
    refine lv_iload_n hx hb dX12_in_5 rfl (lv_at hl 0 rfl) ?_
    refine lv_iload_n hx hb dX12_in_6 rfl (lv_at hl 2 rfl) ?_
    refine lv_icmp_gt (tgt := 14) hx hb dX12_in_7 (by decide) (fun c_7 => ?_) (fun c_7 => ?_)
    · skip
      refine lv_iconst (v := 0) hx hb dX12_in_14 (by decide) ?_
      have hP9 := n_Psub (wc := []) hP [] rfl
      have hD9 := hD.sub (ws' := []) [] (by decide) rfl
      refine W.widen (k := 0) (n := 0) (Nat.le_of_ble_eq_true rfl) (Nat.le_of_ble_eq_true rfl) ?_
      exact W.zret (v := 0) (ty := .boolean) hx hb hr rfl (fun t ht hW => ⟨⟨0, (), rfl, (by rw [nhp25, if_neg c_2, if_pos c_7]), by rw [ht]; exact hP9, va_K.moved hW.alike hK, hD9⟩, hS.F ht⟩) hS.2.2 dX12_in_15
    · skip
      refine lv_iconst (v := 1) hx hb dX12_in_10 (by decide) ?_
      refine lv_goto (tgt := 15) hx hb dX12_in_11 (by decide) ?_
      have hP9 := n_Psub (wc := []) hP [] rfl
      have hD9 := hD.sub (ws' := []) [] (by decide) rfl
      refine W.widen (k := 0) (n := 0) (Nat.le_of_ble_eq_true rfl) (Nat.le_of_ble_eq_true rfl) ?_
      exact W.zret (v := 1) (ty := .boolean) hx hb hr rfl (fun t ht hW => ⟨⟨1, (), rfl, (by rw [nhp25, if_neg c_2, if_neg c_7]), by rw [ht]; exact hP9, va_K.moved hW.alike hK, hD9⟩, hS.F ht⟩) hS.2.2 dX12_in_15

set_option maxHeartbeats 4000000 in
set_option maxRecDepth 100000 in
theorem mX12_in5 (l : Launch) (G : nG) (q : Int32) (sz : Nat) : Met l yX12_in wsX12_in ({ frames := 0, cells := 0, slots := 0, locals := 0 }) (va_Pc [.int q, .int 0, .int 3] (n_pp G [] sz)) (va_Qi (fun (r : Int32) (_ : Unit) => r = (ncd q)) (fun (_ : Unit) (t : State) => n_po G (va_A [] sz) [] t) (va_A [] sz)) 0 0 (va_A [] sz) := by
  refine Met.ofW (cc := cX12_in) (maxL := 3) (ret := (some .boolean)) (by decide) rfl ?_
  intro p e s m args below meth c s₁ B hml hv
  obtain ⟨rfl, hsz, hP, hK, hD0⟩ := hv
  have hx := B.exec
  have hb := B.bytes
  have hr := B.returns
  have hts := atoms_spec (ws := wsX12_in) B.pre
  have hown : s.vm.findClass RX12 = some m.cls := findClass_of_methodNamed B.named
  have hlocks := B.notSynchronized
  subst hsz
  have hD := hD0.self (sz := s.heap.size)
  generalize hAe : va_A [] s.heap.size = A at hD ⊢
  have hA : ∀ q : Nat, s.heap.size ≤ q → A q := fun q h => by rw [← hAe]; exact Or.inr h
  have hS : va_S A s.heap s.heap [] := va_S.rf
  have hP : va_P G.1 vwCl [] s.heap := hP
  have hl := lv_entry ([.int q, .int 0, .int 3]) (n := 3) (Nat.le_of_ble_eq_true rfl)
  rw [lg_entry_eq]
  generalize (lg_sl ([.int q, .int 0, .int 3]) ++ List.replicate (3 - (lg_sl ([.int q, .int 0, .int 3])).length) Slot.unset).toArray = ls at hl ⊢
  have hl : lv_has ls 3 [(0, .int q), (1, .int 0), (2, .int 3)] := hl
  obtain ⟨H, hH⟩ : ∃ z, z = s.heap := ⟨_, rfl⟩
  have hS : va_S A s.heap H [] := by rw [hH]; exact hS
  have hP : va_P G.1 vwCl [] H := by rw [hH]; exact hP
  refine n_heap hH ?_
  generalize ([] : List Loc) = locs at hS ⊢
  refine lv_iload_n hx hb dX12_in_0 rfl (lv_at hl 0 rfl) ?_
  refine lv_iload_n hx hb dX12_in_1 rfl (lv_at hl 1 rfl) ?_
  refine lv_icmp_lt (tgt := 14) hx hb dX12_in_2 (by decide) (fun c_2 => ?_) (fun c_2 => ?_)
  · skip
    refine lv_iconst (v := 0) hx hb dX12_in_14 (by decide) ?_
    have hP9 := n_Psub (wc := []) hP [] rfl
    have hD9 := hD.sub (ws' := []) [] (by decide) rfl
    refine W.widen (k := 0) (n := 0) (Nat.le_of_ble_eq_true rfl) (Nat.le_of_ble_eq_true rfl) ?_
    exact W.zret (v := 0) (ty := .boolean) hx hb hr rfl (fun t ht hW => ⟨⟨0, (), rfl, (by rw [ncd, if_pos c_2]), by rw [ht]; exact hP9, va_K.moved hW.alike hK, hD9⟩, hS.F ht⟩) hS.2.2 dX12_in_15
  · skip
    refine lv_iload_n hx hb dX12_in_5 rfl (lv_at hl 0 rfl) ?_
    refine lv_iload_n hx hb dX12_in_6 rfl (lv_at hl 2 rfl) ?_
    refine lv_icmp_gt (tgt := 14) hx hb dX12_in_7 (by decide) (fun c_7 => ?_) (fun c_7 => ?_)
    · skip
      refine lv_iconst (v := 0) hx hb dX12_in_14 (by decide) ?_
      have hP9 := n_Psub (wc := []) hP [] rfl
      have hD9 := hD.sub (ws' := []) [] (by decide) rfl
      refine W.widen (k := 0) (n := 0) (Nat.le_of_ble_eq_true rfl) (Nat.le_of_ble_eq_true rfl) ?_
      exact W.zret (v := 0) (ty := .boolean) hx hb hr rfl (fun t ht hW => ⟨⟨0, (), rfl, (by rw [ncd, if_neg c_2, if_pos c_7]), by rw [ht]; exact hP9, va_K.moved hW.alike hK, hD9⟩, hS.F ht⟩) hS.2.2 dX12_in_15
    · skip
      refine lv_iconst (v := 1) hx hb dX12_in_10 (by decide) ?_
      refine lv_goto (tgt := 15) hx hb dX12_in_11 (by decide) ?_
      have hP9 := n_Psub (wc := []) hP [] rfl
      have hD9 := hD.sub (ws' := []) [] (by decide) rfl
      refine W.widen (k := 0) (n := 0) (Nat.le_of_ble_eq_true rfl) (Nat.le_of_ble_eq_true rfl) ?_
      exact W.zret (v := 1) (ty := .boolean) hx hb hr rfl (fun t ht hW => ⟨⟨1, (), rfl, (by rw [ncd, if_neg c_2, if_neg c_7]), by rw [ht]; exact hP9, va_K.moved hW.alike hK, hD9⟩, hS.F ht⟩) hS.2.2 dX12_in_15

set_option maxHeartbeats 4000000 in
set_option maxRecDepth 100000 in
theorem mX12_in6 (l : Launch) (G : nG) (q : Int32) (sz : Nat) : Met l yX12_in wsX12_in ({ frames := 0, cells := 0, slots := 0, locals := 0 }) (va_Pc [.int q, .int 0, .int 26] (n_pp G [] sz)) (va_Qi (fun (r : Int32) (_ : Unit) => r = (npl q)) (fun (_ : Unit) (t : State) => n_po G (va_A [] sz) [] t) (va_A [] sz)) 0 0 (va_A [] sz) := by
  refine Met.ofW (cc := cX12_in) (maxL := 3) (ret := (some .boolean)) (by decide) rfl ?_
  intro p e s m args below meth c s₁ B hml hv
  obtain ⟨rfl, hsz, hP, hK, hD0⟩ := hv
  have hx := B.exec
  have hb := B.bytes
  have hr := B.returns
  have hts := atoms_spec (ws := wsX12_in) B.pre
  have hown : s.vm.findClass RX12 = some m.cls := findClass_of_methodNamed B.named
  have hlocks := B.notSynchronized
  subst hsz
  have hD := hD0.self (sz := s.heap.size)
  generalize hAe : va_A [] s.heap.size = A at hD ⊢
  have hA : ∀ q : Nat, s.heap.size ≤ q → A q := fun q h => by rw [← hAe]; exact Or.inr h
  have hS : va_S A s.heap s.heap [] := va_S.rf
  have hP : va_P G.1 vwCl [] s.heap := hP
  have hl := lv_entry ([.int q, .int 0, .int 26]) (n := 3) (Nat.le_of_ble_eq_true rfl)
  rw [lg_entry_eq]
  generalize (lg_sl ([.int q, .int 0, .int 26]) ++ List.replicate (3 - (lg_sl ([.int q, .int 0, .int 26])).length) Slot.unset).toArray = ls at hl ⊢
  have hl : lv_has ls 3 [(0, .int q), (1, .int 0), (2, .int 26)] := hl
  obtain ⟨H, hH⟩ : ∃ z, z = s.heap := ⟨_, rfl⟩
  have hS : va_S A s.heap H [] := by rw [hH]; exact hS
  have hP : va_P G.1 vwCl [] H := by rw [hH]; exact hP
  refine n_heap hH ?_
  generalize ([] : List Loc) = locs at hS ⊢
  refine lv_iload_n hx hb dX12_in_0 rfl (lv_at hl 0 rfl) ?_
  refine lv_iload_n hx hb dX12_in_1 rfl (lv_at hl 1 rfl) ?_
  refine lv_icmp_lt (tgt := 14) hx hb dX12_in_2 (by decide) (fun c_2 => ?_) (fun c_2 => ?_)
  · skip
    refine lv_iconst (v := 0) hx hb dX12_in_14 (by decide) ?_
    have hP9 := n_Psub (wc := []) hP [] rfl
    have hD9 := hD.sub (ws' := []) [] (by decide) rfl
    refine W.widen (k := 0) (n := 0) (Nat.le_of_ble_eq_true rfl) (Nat.le_of_ble_eq_true rfl) ?_
    exact W.zret (v := 0) (ty := .boolean) hx hb hr rfl (fun t ht hW => ⟨⟨0, (), rfl, (by rw [npl, if_pos c_2]), by rw [ht]; exact hP9, va_K.moved hW.alike hK, hD9⟩, hS.F ht⟩) hS.2.2 dX12_in_15
  · skip
    refine lv_iload_n hx hb dX12_in_5 rfl (lv_at hl 0 rfl) ?_
    refine lv_iload_n hx hb dX12_in_6 rfl (lv_at hl 2 rfl) ?_
    refine lv_icmp_gt (tgt := 14) hx hb dX12_in_7 (by decide) (fun c_7 => ?_) (fun c_7 => ?_)
    · skip
      refine lv_iconst (v := 0) hx hb dX12_in_14 (by decide) ?_
      have hP9 := n_Psub (wc := []) hP [] rfl
      have hD9 := hD.sub (ws' := []) [] (by decide) rfl
      refine W.widen (k := 0) (n := 0) (Nat.le_of_ble_eq_true rfl) (Nat.le_of_ble_eq_true rfl) ?_
      exact W.zret (v := 0) (ty := .boolean) hx hb hr rfl (fun t ht hW => ⟨⟨0, (), rfl, (by rw [npl, if_neg c_2, if_pos c_7]), by rw [ht]; exact hP9, va_K.moved hW.alike hK, hD9⟩, hS.F ht⟩) hS.2.2 dX12_in_15
    · skip
      refine lv_iconst (v := 1) hx hb dX12_in_10 (by decide) ?_
      refine lv_goto (tgt := 15) hx hb dX12_in_11 (by decide) ?_
      have hP9 := n_Psub (wc := []) hP [] rfl
      have hD9 := hD.sub (ws' := []) [] (by decide) rfl
      refine W.widen (k := 0) (n := 0) (Nat.le_of_ble_eq_true rfl) (Nat.le_of_ble_eq_true rfl) ?_
      exact W.zret (v := 1) (ty := .boolean) hx hb hr rfl (fun t ht hW => ⟨⟨1, (), rfl, (by rw [npl, if_neg c_2, if_neg c_7]), by rw [ht]; exact hP9, va_K.moved hW.alike hK, hD9⟩, hS.F ht⟩) hS.2.2 dX12_in_15

set_option maxHeartbeats 4000000 in
set_option maxRecDepth 100000 in
theorem mX12_isSmall (l : Launch) (G : nG) (q : Int32) (sz : Nat) : Met l yX12_isSmall wsX12_isSmall ({ frames := 1, cells := 0, slots := 0, locals := 22 }) (va_Pc [.int q] (n_pp G [] sz)) (va_Qi (fun (r : Int32) (_ : Unit) => r = (nsm q)) (fun (_ : Unit) (t : State) => n_po G (va_A [] sz) [] t) (va_A [] sz)) 0 0 (va_A [] sz) := by
  refine Met.ofW (cc := cX12_isSmall) (maxL := 1) (ret := (some .boolean)) (by decide) rfl ?_
  intro p e s m args below meth c s₁ B hml hv
  obtain ⟨rfl, hsz, hP, hK, hD0⟩ := hv
  have hx := B.exec
  have hb := B.bytes
  have hr := B.returns
  have hts := atoms_spec (ws := wsX12_isSmall) B.pre
  have hown : s.vm.findClass RX12 = some m.cls := findClass_of_methodNamed B.named
  have hlocks := B.notSynchronized
  subst hsz
  have hD := hD0.self (sz := s.heap.size)
  generalize hAe : va_A [] s.heap.size = A at hD ⊢
  have hA : ∀ q : Nat, s.heap.size ≤ q → A q := fun q h => by rw [← hAe]; exact Or.inr h
  have hS : va_S A s.heap s.heap [] := va_S.rf
  have hP : va_P G.1 vwCl [] s.heap := hP
  have hl := lv_entry ([.int q]) (n := 1) (Nat.le_of_ble_eq_true rfl)
  rw [lg_entry_eq]
  generalize (lg_sl ([.int q]) ++ List.replicate (1 - (lg_sl ([.int q])).length) Slot.unset).toArray = ls at hl ⊢
  have hl : lv_has ls 1 [(0, .int q)] := hl
  obtain ⟨H, hH⟩ : ∃ z, z = s.heap := ⟨_, rfl⟩
  have hS : va_S A s.heap H [] := by rw [hH]; exact hS
  have hP : va_P G.1 vwCl [] H := by rw [hH]; exact hP
  refine n_heap hH ?_
  generalize ([] : List Loc) = locs at hS ⊢
  refine lv_iload_n hx hb dX12_isSmall_0 rfl (lv_at hl 0 rfl) ?_
  refine lv_bipush (v := 97) hx hb dX12_isSmall_1 (by decide) ?_
  refine lv_bipush (v := 122) hx hb dX12_isSmall_3 (by decide) ?_
  refine n_ci (wr := []) (va_runS (As := [.int q, .int 97, .int 122]) (rest := []) ⟨hx, hb, hml, hown, hts⟩ (mX12_in3 l G q H.size) (va_cwS 3 hts gX12_isSmall_X12_in rfl rfl rfl (by decide +kernel) ⟨(Nat.le_of_ble_eq_true rfl), (Nat.le_of_ble_eq_true rfl)⟩) (n_prS hK hP hD [] rfl (by decide)) rfl rfl hl.1 rfl (lv_room (Nat.le_of_ble_eq_true rfl)) dX12_isSmall_5 ⟨(Nat.le_of_ble_eq_true rfl), (Nat.le_of_ble_eq_true rfl)⟩) hP hD hS hA [] [] rfl rfl (by decide) (by decide) (fun r_1 u_2 H locs hP hD hS hw => ?_)
  have hP : va_P G.1 vwCl [] H := hP
  have hD : va_D A [] := hD
  have hw : r_1 = (nsm q) := hw
  subst hw
  try dsimp only
  have hP9 := n_Psub (wc := []) hP [] rfl
  have hD9 := hD.sub (ws' := []) [] (by decide) rfl
  refine W.widen (k := 0) (n := 0) (Nat.le_of_ble_eq_true rfl) (Nat.le_of_ble_eq_true rfl) ?_
  exact W.zret (v := (nsm q)) (ty := .boolean) hx hb hr (n_nb (nsm_01 q)) (fun t ht hW => ⟨⟨(nsm q), (), rfl, rfl, by rw [ht]; exact hP9, va_K.moved hW.alike hK, hD9⟩, hS.F ht⟩) hS.2.2 dX12_isSmall_8

set_option maxHeartbeats 4000000 in
set_option maxRecDepth 100000 in
theorem mX12_thrown (l : Launch) (G : nG) (y : Nat) (mm : Nat) (msv : Nat) (mpa : Nat) (mio : Nat) (mfo : Nat) (mre : Nat) (mah : Nat) (mrw : Nat) (mrr : Nat) (mrs : Nat) (mrb : Nat) (mso : Nat) (mnu : Nat) (mse : Nat) (mbe : Nat) (men : Nat) (vS : Int32) (vC : Int32) (vT : Int32) (vF : Int32) (vL : Int32) (vK : Int32) (vR : Int32) (v0 : Int32) (vZ : Int32) (vB : Int32) (vN : Int32) (sz : Nat) : Met l yX12_thrown wsX12_thrown ({ frames := 0, cells := 0, slots := 0, locals := 0 }) (va_Pc [.ref y] (n_pp G [(y, .inr (13, [.ref mm, .ref msv, .int vS, .ref mpa, .int vC, .int vT, .int vF, .ref mio, .ref mfo, .int vL, .ref mre, .int vK, .ref mah, .int vR, .ref mrw, .ref mrr, .ref mrs, .ref mrb, .int v0, .int vZ, .int vB, .int vN, .ref mso, .ref mnu, .ref mse, .ref mbe, .ref men]))] sz)) (va_Qi (fun (r : Int32) (_ : Unit) => r = vT) (fun (_ : Unit) (t : State) => n_po G (va_A [(y, .inr (13, [.ref mm, .ref msv, .int vS, .ref mpa, .int vC, .int vT, .int vF, .ref mio, .ref mfo, .int vL, .ref mre, .int vK, .ref mah, .int vR, .ref mrw, .ref mrr, .ref mrs, .ref mrb, .int v0, .int vZ, .int vB, .int vN, .ref mso, .ref mnu, .ref mse, .ref mbe, .ref men]))] sz) [(y, .inr (13, [.ref mm, .ref msv, .int vS, .ref mpa, .int vC, .int vT, .int vF, .ref mio, .ref mfo, .int vL, .ref mre, .int vK, .ref mah, .int vR, .ref mrw, .ref mrr, .ref mrs, .ref mrb, .int v0, .int vZ, .int vB, .int vN, .ref mso, .ref mnu, .ref mse, .ref mbe, .ref men]))] t) (va_A [(y, .inr (13, [.ref mm, .ref msv, .int vS, .ref mpa, .int vC, .int vT, .int vF, .ref mio, .ref mfo, .int vL, .ref mre, .int vK, .ref mah, .int vR, .ref mrw, .ref mrr, .ref mrs, .ref mrb, .int v0, .int vZ, .int vB, .int vN, .ref mso, .ref mnu, .ref mse, .ref mbe, .ref men]))] sz)) 0 0 (va_A [(y, .inr (13, [.ref mm, .ref msv, .int vS, .ref mpa, .int vC, .int vT, .int vF, .ref mio, .ref mfo, .int vL, .ref mre, .int vK, .ref mah, .int vR, .ref mrw, .ref mrr, .ref mrs, .ref mrb, .int v0, .int vZ, .int vB, .int vN, .ref mso, .ref mnu, .ref mse, .ref mbe, .ref men]))] sz) := by
  refine Met.ofW (cc := cX12_thrown) (maxL := 1) (ret := (some .int)) (by decide) rfl ?_
  intro p e s m args below meth c s₁ B hml hv
  obtain ⟨rfl, hsz, hP, hK, hD0⟩ := hv
  have hx := B.exec
  have hb := B.bytes
  have hr := B.returns
  have hts := atoms_spec (ws := wsX12_thrown) B.pre
  have hown : s.vm.findClass RX12 = some m.cls := findClass_of_methodNamed B.named
  have hlocks := B.notSynchronized
  subst hsz
  have hD := hD0.self (sz := s.heap.size)
  generalize hAe : va_A [(y, .inr (13, [.ref mm, .ref msv, .int vS, .ref mpa, .int vC, .int vT, .int vF, .ref mio, .ref mfo, .int vL, .ref mre, .int vK, .ref mah, .int vR, .ref mrw, .ref mrr, .ref mrs, .ref mrb, .int v0, .int vZ, .int vB, .int vN, .ref mso, .ref mnu, .ref mse, .ref mbe, .ref men]))] s.heap.size = A at hD ⊢
  have hA : ∀ q : Nat, s.heap.size ≤ q → A q := fun q h => by rw [← hAe]; exact Or.inr h
  have hS : va_S A s.heap s.heap [] := va_S.rf
  have hP : va_P G.1 vwCl [(y, .inr (13, [.ref mm, .ref msv, .int vS, .ref mpa, .int vC, .int vT, .int vF, .ref mio, .ref mfo, .int vL, .ref mre, .int vK, .ref mah, .int vR, .ref mrw, .ref mrr, .ref mrs, .ref mrb, .int v0, .int vZ, .int vB, .int vN, .ref mso, .ref mnu, .ref mse, .ref mbe, .ref men]))] s.heap := hP
  have hl := lv_entry ([.ref y]) (n := 1) (Nat.le_of_ble_eq_true rfl)
  rw [lg_entry_eq]
  generalize (lg_sl ([.ref y]) ++ List.replicate (1 - (lg_sl ([.ref y])).length) Slot.unset).toArray = ls at hl ⊢
  have hl : lv_has ls 1 [(0, .ref y)] := hl
  obtain ⟨H, hH⟩ : ∃ z, z = s.heap := ⟨_, rfl⟩
  have hS : va_S A s.heap H [] := by rw [hH]; exact hS
  have hP : va_P G.1 vwCl [(y, .inr (13, [.ref mm, .ref msv, .int vS, .ref mpa, .int vC, .int vT, .int vF, .ref mio, .ref mfo, .int vL, .ref mre, .int vK, .ref mah, .int vR, .ref mrw, .ref mrr, .ref mrs, .ref mrb, .int v0, .int vZ, .int vB, .int vN, .ref mso, .ref mnu, .ref mse, .ref mbe, .ref men]))] H := by rw [hH]; exact hP
  refine n_heap hH ?_
  generalize ([] : List Loc) = locs at hS ⊢
  have hiX12 : ∀ w ∈ u_ws RX12 TX12 27, w ∈ wsX12_thrown := by decide +kernel
  refine lv_aload_n hx hb dX12_thrown_0 rfl (lv_at hl 0 rfl) ?_
  refine va_get (D := G.1) (ci := 13) (v := .int vT) (C := RX12) (T := TX12) (N := 27) hx hb hts hiX12 hown hK hP 0 rfl rfl 5 (by decide) (hts (.fieldLink RX12 62 "DialectDictionaryModel" "thrown" "I") (by decide +kernel)) (fun _ h9 => h9) rfl dX12_thrown_1 ?_
  have hP9 := n_Psub (wc := [(y, .inr (13, [.ref mm, .ref msv, .int vS, .ref mpa, .int vC, .int vT, .int vF, .ref mio, .ref mfo, .int vL, .ref mre, .int vK, .ref mah, .int vR, .ref mrw, .ref mrr, .ref mrs, .ref mrb, .int v0, .int vZ, .int vB, .int vN, .ref mso, .ref mnu, .ref mse, .ref mbe, .ref men]))]) hP [0] rfl
  have hD9 := hD.sub (ws' := [(y, .inr (13, [.ref mm, .ref msv, .int vS, .ref mpa, .int vC, .int vT, .int vF, .ref mio, .ref mfo, .int vL, .ref mre, .int vK, .ref mah, .int vR, .ref mrw, .ref mrr, .ref mrs, .ref mrb, .int v0, .int vZ, .int vB, .int vN, .ref mso, .ref mnu, .ref mse, .ref mbe, .ref men]))]) [0] (by decide) rfl
  refine W.widen (k := 0) (n := 0) (Nat.le_of_ble_eq_true rfl) (Nat.le_of_ble_eq_true rfl) ?_
  exact W.iret (v := vT) hx hb hr (fun t ht hW => ⟨⟨vT, (), rfl, rfl, by rw [ht]; exact hP9, va_K.moved hW.alike hK, hD9⟩, hS.F ht⟩) hS.2.2 dX12_thrown_4

set_option maxHeartbeats 4000000 in
set_option maxRecDepth 100000 in
theorem mX12_refuse (l : Launch) (G : nG) (y : Nat) (mm : Nat) (msv : Nat) (mpa : Nat) (mio : Nat) (mfo : Nat) (mre : Nat) (mah : Nat) (mrw : Nat) (mrr : Nat) (mrs : Nat) (mrb : Nat) (mso : Nat) (mnu : Nat) (mse : Nat) (mbe : Nat) (men : Nat) (vS : Int32) (vC : Int32) (vT : Int32) (vF : Int32) (vL : Int32) (vK : Int32) (vR : Int32) (v0 : Int32) (vZ : Int32) (vB : Int32) (vN : Int32) (q : Int32) (sz : Nat) : Met l yX12_refuse wsX12_refuse ({ frames := 0, cells := 0, slots := 0, locals := 0 }) (va_Pc [.ref y, .int q] (n_pp G [(y, .inr (13, [.ref mm, .ref msv, .int vS, .ref mpa, .int vC, .int vT, .int vF, .ref mio, .ref mfo, .int vL, .ref mre, .int vK, .ref mah, .int vR, .ref mrw, .ref mrr, .ref mrs, .ref mrb, .int v0, .int vZ, .int vB, .int vN, .ref mso, .ref mnu, .ref mse, .ref mbe, .ref men]))] sz)) (va_Qi (fun (r : Int32) (_ : Unit) => r = 0) (fun (_ : Unit) (t : State) => n_po G (va_A [(y, .inr (13, [.ref mm, .ref msv, .int vS, .ref mpa, .int vC, .int vT, .int vF, .ref mio, .ref mfo, .int vL, .ref mre, .int vK, .ref mah, .int vR, .ref mrw, .ref mrr, .ref mrs, .ref mrb, .int v0, .int vZ, .int vB, .int vN, .ref mso, .ref mnu, .ref mse, .ref mbe, .ref men]))] sz) [(y, .inr (13, [.ref mm, .ref msv, .int vS, .ref mpa, .int vC, .int q, .int vF, .ref mio, .ref mfo, .int vL, .ref mre, .int vK, .ref mah, .int vR, .ref mrw, .ref mrr, .ref mrs, .ref mrb, .int v0, .int vZ, .int vB, .int vN, .ref mso, .ref mnu, .ref mse, .ref mbe, .ref men]))] t) (va_A [(y, .inr (13, [.ref mm, .ref msv, .int vS, .ref mpa, .int vC, .int vT, .int vF, .ref mio, .ref mfo, .int vL, .ref mre, .int vK, .ref mah, .int vR, .ref mrw, .ref mrr, .ref mrs, .ref mrb, .int v0, .int vZ, .int vB, .int vN, .ref mso, .ref mnu, .ref mse, .ref mbe, .ref men]))] sz)) 0 0 (va_A [(y, .inr (13, [.ref mm, .ref msv, .int vS, .ref mpa, .int vC, .int vT, .int vF, .ref mio, .ref mfo, .int vL, .ref mre, .int vK, .ref mah, .int vR, .ref mrw, .ref mrr, .ref mrs, .ref mrb, .int v0, .int vZ, .int vB, .int vN, .ref mso, .ref mnu, .ref mse, .ref mbe, .ref men]))] sz) := by
  refine Met.ofW (cc := cX12_refuse) (maxL := 2) (ret := (some .int)) (by decide) rfl ?_
  intro p e s m args below meth c s₁ B hml hv
  obtain ⟨rfl, hsz, hP, hK, hD0⟩ := hv
  have hx := B.exec
  have hb := B.bytes
  have hr := B.returns
  have hts := atoms_spec (ws := wsX12_refuse) B.pre
  have hown : s.vm.findClass RX12 = some m.cls := findClass_of_methodNamed B.named
  have hlocks := B.notSynchronized
  subst hsz
  have hD := hD0.self (sz := s.heap.size)
  generalize hAe : va_A [(y, .inr (13, [.ref mm, .ref msv, .int vS, .ref mpa, .int vC, .int vT, .int vF, .ref mio, .ref mfo, .int vL, .ref mre, .int vK, .ref mah, .int vR, .ref mrw, .ref mrr, .ref mrs, .ref mrb, .int v0, .int vZ, .int vB, .int vN, .ref mso, .ref mnu, .ref mse, .ref mbe, .ref men]))] s.heap.size = A at hD ⊢
  have hA : ∀ q : Nat, s.heap.size ≤ q → A q := fun q h => by rw [← hAe]; exact Or.inr h
  have hS : va_S A s.heap s.heap [] := va_S.rf
  have hP : va_P G.1 vwCl [(y, .inr (13, [.ref mm, .ref msv, .int vS, .ref mpa, .int vC, .int vT, .int vF, .ref mio, .ref mfo, .int vL, .ref mre, .int vK, .ref mah, .int vR, .ref mrw, .ref mrr, .ref mrs, .ref mrb, .int v0, .int vZ, .int vB, .int vN, .ref mso, .ref mnu, .ref mse, .ref mbe, .ref men]))] s.heap := hP
  have hl := lv_entry ([.ref y, .int q]) (n := 2) (Nat.le_of_ble_eq_true rfl)
  rw [lg_entry_eq]
  generalize (lg_sl ([.ref y, .int q]) ++ List.replicate (2 - (lg_sl ([.ref y, .int q])).length) Slot.unset).toArray = ls at hl ⊢
  have hl : lv_has ls 2 [(0, .ref y), (1, .int q)] := hl
  obtain ⟨H, hH⟩ : ∃ z, z = s.heap := ⟨_, rfl⟩
  have hS : va_S A s.heap H [] := by rw [hH]; exact hS
  have hP : va_P G.1 vwCl [(y, .inr (13, [.ref mm, .ref msv, .int vS, .ref mpa, .int vC, .int vT, .int vF, .ref mio, .ref mfo, .int vL, .ref mre, .int vK, .ref mah, .int vR, .ref mrw, .ref mrr, .ref mrs, .ref mrb, .int v0, .int vZ, .int vB, .int vN, .ref mso, .ref mnu, .ref mse, .ref mbe, .ref men]))] H := by rw [hH]; exact hP
  refine n_heap hH ?_
  generalize ([] : List Loc) = locs at hS ⊢
  have hiX12 : ∀ w ∈ u_ws RX12 TX12 27, w ∈ wsX12_refuse := by decide +kernel
  refine lv_aload_n hx hb dX12_refuse_0 rfl (lv_at hl 0 rfl) ?_
  refine lv_iload_n hx hb dX12_refuse_1 rfl (lv_at hl 1 rfl) ?_
  refine va_put (D := G.1) (ci := 13) (v := .int q) (ty := .int) (C := RX12) (T := TX12) (N := 27) hx hb hts hiX12 tyX12 tyX12_ok nmX12 hown hK hP hD hS 0 rfl rfl 5 (by decide) (hts (.fieldLink RX12 62 "DialectDictionaryModel" "thrown" "I") (by decide +kernel)) (fun _ h9 => h9) rfl (by decide +kernel) rfl rfl (Nat.le_of_ble_eq_true rfl) dX12_refuse_2 (fun H locs hP hD hS => ?_)
  have hP : va_P G.1 vwCl [(y, .inr (13, [.ref mm, .ref msv, .int vS, .ref mpa, .int vC, .int q, .int vF, .ref mio, .ref mfo, .int vL, .ref mre, .int vK, .ref mah, .int vR, .ref mrw, .ref mrr, .ref mrs, .ref mrb, .int v0, .int vZ, .int vB, .int vN, .ref mso, .ref mnu, .ref mse, .ref mbe, .ref men]))] H := hP
  have hD : va_D A [(y, .inr (13, [.ref mm, .ref msv, .int vS, .ref mpa, .int vC, .int q, .int vF, .ref mio, .ref mfo, .int vL, .ref mre, .int vK, .ref mah, .int vR, .ref mrw, .ref mrr, .ref mrs, .ref mrb, .int v0, .int vZ, .int vB, .int vN, .ref mso, .ref mnu, .ref mse, .ref mbe, .ref men]))] := hD
  refine lv_iconst (v := 0) hx hb dX12_refuse_5 (by decide) ?_
  have hP9 := n_Psub (wc := [(y, .inr (13, [.ref mm, .ref msv, .int vS, .ref mpa, .int vC, .int q, .int vF, .ref mio, .ref mfo, .int vL, .ref mre, .int vK, .ref mah, .int vR, .ref mrw, .ref mrr, .ref mrs, .ref mrb, .int v0, .int vZ, .int vB, .int vN, .ref mso, .ref mnu, .ref mse, .ref mbe, .ref men]))]) hP [0] rfl
  have hD9 := hD.sub (ws' := [(y, .inr (13, [.ref mm, .ref msv, .int vS, .ref mpa, .int vC, .int q, .int vF, .ref mio, .ref mfo, .int vL, .ref mre, .int vK, .ref mah, .int vR, .ref mrw, .ref mrr, .ref mrs, .ref mrb, .int v0, .int vZ, .int vB, .int vN, .ref mso, .ref mnu, .ref mse, .ref mbe, .ref men]))]) [0] (by decide) rfl
  refine W.widen (k := 0) (n := 0) (Nat.le_of_ble_eq_true rfl) (Nat.le_of_ble_eq_true rfl) ?_
  exact W.iret (v := 0) hx hb hr (fun t ht hW => ⟨⟨0, (), rfl, rfl, by rw [ht]; exact hP9, va_K.moved hW.alike hK, hD9⟩, hS.F ht⟩) hS.2.2 dX12_refuse_6

set_option maxHeartbeats 4000000 in
set_option maxRecDepth 100000 in
theorem mX12_isLetterPlace (l : Launch) (G : nG) (y : Nat) (mm : Nat) (msv : Nat) (mpa : Nat) (mio : Nat) (mfo : Nat) (mre : Nat) (mah : Nat) (mrw : Nat) (mrr : Nat) (mrs : Nat) (mrb : Nat) (mso : Nat) (mnu : Nat) (mse : Nat) (mbe : Nat) (men : Nat) (vS : Int32) (vC : Int32) (vT : Int32) (vF : Int32) (vL : Int32) (vK : Int32) (vR : Int32) (v0 : Int32) (vZ : Int32) (vB : Int32) (vN : Int32) (fm : Nat → Int32) (q : Int32) (sz : Nat) (hm : nMod fm) : Met l yX12_isLetterPlace wsX12_isLetterPlace ({ frames := 1, cells := 0, slots := 0, locals := 22 }) (va_Pc [.ref y, .int q] (n_pp G [(y, .inr (13, [.ref mm, .ref msv, .int vS, .ref mpa, .int vC, .int vT, .int vF, .ref mio, .ref mfo, .int vL, .ref mre, .int vK, .ref mah, .int vR, .ref mrw, .ref mrr, .ref mrs, .ref mrb, .int v0, .int vZ, .int vB, .int vN, .ref mso, .ref mnu, .ref mse, .ref mbe, .ref men])), (mm, eI G 1191 fm)] sz)) (va_Qi (fun (r : Int32) (_ : Unit) => r = (nhp 26 q)) (fun (_ : Unit) (t : State) => n_po G (va_A [(y, .inr (13, [.ref mm, .ref msv, .int vS, .ref mpa, .int vC, .int vT, .int vF, .ref mio, .ref mfo, .int vL, .ref mre, .int vK, .ref mah, .int vR, .ref mrw, .ref mrr, .ref mrs, .ref mrb, .int v0, .int vZ, .int vB, .int vN, .ref mso, .ref mnu, .ref mse, .ref mbe, .ref men])), (mm, eI G 1191 fm)] sz) [(y, .inr (13, [.ref mm, .ref msv, .int vS, .ref mpa, .int vC, .int vT, .int vF, .ref mio, .ref mfo, .int vL, .ref mre, .int vK, .ref mah, .int vR, .ref mrw, .ref mrr, .ref mrs, .ref mrb, .int v0, .int vZ, .int vB, .int vN, .ref mso, .ref mnu, .ref mse, .ref mbe, .ref men])), (mm, eI G 1191 fm)] t) (va_A [(y, .inr (13, [.ref mm, .ref msv, .int vS, .ref mpa, .int vC, .int vT, .int vF, .ref mio, .ref mfo, .int vL, .ref mre, .int vK, .ref mah, .int vR, .ref mrw, .ref mrr, .ref mrs, .ref mrb, .int v0, .int vZ, .int vB, .int vN, .ref mso, .ref mnu, .ref mse, .ref mbe, .ref men])), (mm, eI G 1191 fm)] sz)) 0 0 (va_A [(y, .inr (13, [.ref mm, .ref msv, .int vS, .ref mpa, .int vC, .int vT, .int vF, .ref mio, .ref mfo, .int vL, .ref mre, .int vK, .ref mah, .int vR, .ref mrw, .ref mrr, .ref mrs, .ref mrb, .int v0, .int vZ, .int vB, .int vN, .ref mso, .ref mnu, .ref mse, .ref mbe, .ref men])), (mm, eI G 1191 fm)] sz) := by
  refine Met.ofW (cc := cX12_isLetterPlace) (maxL := 2) (ret := (some .boolean)) (by decide) rfl ?_
  intro p e s m args below meth c s₁ B hml hv
  obtain ⟨rfl, hsz, hP, hK, hD0⟩ := hv
  have hx := B.exec
  have hb := B.bytes
  have hr := B.returns
  have hts := atoms_spec (ws := wsX12_isLetterPlace) B.pre
  have hown : s.vm.findClass RX12 = some m.cls := findClass_of_methodNamed B.named
  have hlocks := B.notSynchronized
  subst hsz
  have hD := hD0.self (sz := s.heap.size)
  generalize hAe : va_A [(y, .inr (13, [.ref mm, .ref msv, .int vS, .ref mpa, .int vC, .int vT, .int vF, .ref mio, .ref mfo, .int vL, .ref mre, .int vK, .ref mah, .int vR, .ref mrw, .ref mrr, .ref mrs, .ref mrb, .int v0, .int vZ, .int vB, .int vN, .ref mso, .ref mnu, .ref mse, .ref mbe, .ref men])), (mm, eI G 1191 fm)] s.heap.size = A at hD ⊢
  have hA : ∀ q : Nat, s.heap.size ≤ q → A q := fun q h => by rw [← hAe]; exact Or.inr h
  have hS : va_S A s.heap s.heap [] := va_S.rf
  have hP : va_P G.1 vwCl [(y, .inr (13, [.ref mm, .ref msv, .int vS, .ref mpa, .int vC, .int vT, .int vF, .ref mio, .ref mfo, .int vL, .ref mre, .int vK, .ref mah, .int vR, .ref mrw, .ref mrr, .ref mrs, .ref mrb, .int v0, .int vZ, .int vB, .int vN, .ref mso, .ref mnu, .ref mse, .ref mbe, .ref men])), (mm, eI G 1191 fm)] s.heap := hP
  have hl := lv_entry ([.ref y, .int q]) (n := 2) (Nat.le_of_ble_eq_true rfl)
  rw [lg_entry_eq]
  generalize (lg_sl ([.ref y, .int q]) ++ List.replicate (2 - (lg_sl ([.ref y, .int q])).length) Slot.unset).toArray = ls at hl ⊢
  have hl : lv_has ls 2 [(0, .ref y), (1, .int q)] := hl
  obtain ⟨H, hH⟩ : ∃ z, z = s.heap := ⟨_, rfl⟩
  have hS : va_S A s.heap H [] := by rw [hH]; exact hS
  have hP : va_P G.1 vwCl [(y, .inr (13, [.ref mm, .ref msv, .int vS, .ref mpa, .int vC, .int vT, .int vF, .ref mio, .ref mfo, .int vL, .ref mre, .int vK, .ref mah, .int vR, .ref mrw, .ref mrr, .ref mrs, .ref mrb, .int v0, .int vZ, .int vB, .int vN, .ref mso, .ref mnu, .ref mse, .ref mbe, .ref men])), (mm, eI G 1191 fm)] H := by rw [hH]; exact hP
  refine n_heap hH ?_
  generalize ([] : List Loc) = locs at hS ⊢
  have hiX12 : ∀ w ∈ u_ws RX12 TX12 27, w ∈ wsX12_isLetterPlace := by decide +kernel
  refine lv_iload_n hx hb dX12_isLetterPlace_0 rfl (lv_at hl 1 rfl) ?_
  refine lv_iconst (v := 0) hx hb dX12_isLetterPlace_1 (by decide) ?_
  refine lv_aload_n hx hb dX12_isLetterPlace_2 rfl (lv_at hl 0 rfl) ?_
  refine va_get (D := G.1) (ci := 13) (v := .ref mm) (C := RX12) (T := TX12) (N := 27) hx hb hts hiX12 hown hK hP 0 rfl rfl 0 (by decide) (hts (.fieldLink RX12 9 "DialectDictionaryModel" "m" "[I") (by decide +kernel)) (fun _ h9 => h9) rfl dX12_isLetterPlace_3 ?_
  refine lv_iconst (v := 0) hx hb dX12_isLetterPlace_6 (by decide) ?_
  refine va_iald hx hb hK hP 1 0 rfl rfl (n_in (by decide)) dX12_isLetterPlace_7 ?_
  refine n_eqi (y := 26) hm.1 ?_
  refine lv_iconst (v := 1) hx hb dX12_isLetterPlace_8 (by decide) ?_
  refine lv_isub hx hb dX12_isLetterPlace_9 ?_
  refine n_eqi (y := 25) (by decide) ?_
  refine n_ci (wr := [(y, .inr (13, [.ref mm, .ref msv, .int vS, .ref mpa, .int vC, .int vT, .int vF, .ref mio, .ref mfo, .int vL, .ref mre, .int vK, .ref mah, .int vR, .ref mrw, .ref mrr, .ref mrs, .ref mrb, .int v0, .int vZ, .int vB, .int vN, .ref mso, .ref mnu, .ref mse, .ref mbe, .ref men])), (mm, eI G 1191 fm)]) (va_runS (As := [.int q, .int 0, .int 25]) (rest := []) ⟨hx, hb, hml, hown, hts⟩ (mX12_in4 l G q H.size) (va_cwS 3 hts gX12_isLetterPlace_X12_in rfl rfl rfl (by decide +kernel) ⟨(Nat.le_of_ble_eq_true rfl), (Nat.le_of_ble_eq_true rfl)⟩) (n_prS hK hP hD [] rfl (by decide)) rfl rfl hl.1 rfl (lv_room (Nat.le_of_ble_eq_true rfl)) dX12_isLetterPlace_10 ⟨(Nat.le_of_ble_eq_true rfl), (Nat.le_of_ble_eq_true rfl)⟩) hP hD hS hA [] [0, 1] rfl rfl (by decide) (by decide) (fun r_1 u_2 H locs hP hD hS hw => ?_)
  have hP : va_P G.1 vwCl [(y, .inr (13, [.ref mm, .ref msv, .int vS, .ref mpa, .int vC, .int vT, .int vF, .ref mio, .ref mfo, .int vL, .ref mre, .int vK, .ref mah, .int vR, .ref mrw, .ref mrr, .ref mrs, .ref mrb, .int v0, .int vZ, .int vB, .int vN, .ref mso, .ref mnu, .ref mse, .ref mbe, .ref men])), (mm, eI G 1191 fm)] H := hP
  have hD : va_D A [(y, .inr (13, [.ref mm, .ref msv, .int vS, .ref mpa, .int vC, .int vT, .int vF, .ref mio, .ref mfo, .int vL, .ref mre, .int vK, .ref mah, .int vR, .ref mrw, .ref mrr, .ref mrs, .ref mrb, .int v0, .int vZ, .int vB, .int vN, .ref mso, .ref mnu, .ref mse, .ref mbe, .ref men])), (mm, eI G 1191 fm)] := hD
  have hw : r_1 = (nhp 26 q) := hw
  subst hw
  try dsimp only
  have hP9 := n_Psub (wc := [(y, .inr (13, [.ref mm, .ref msv, .int vS, .ref mpa, .int vC, .int vT, .int vF, .ref mio, .ref mfo, .int vL, .ref mre, .int vK, .ref mah, .int vR, .ref mrw, .ref mrr, .ref mrs, .ref mrb, .int v0, .int vZ, .int vB, .int vN, .ref mso, .ref mnu, .ref mse, .ref mbe, .ref men])), (mm, eI G 1191 fm)]) hP [0, 1] rfl
  have hD9 := hD.sub (ws' := [(y, .inr (13, [.ref mm, .ref msv, .int vS, .ref mpa, .int vC, .int vT, .int vF, .ref mio, .ref mfo, .int vL, .ref mre, .int vK, .ref mah, .int vR, .ref mrw, .ref mrr, .ref mrs, .ref mrb, .int v0, .int vZ, .int vB, .int vN, .ref mso, .ref mnu, .ref mse, .ref mbe, .ref men])), (mm, eI G 1191 fm)]) [0, 1] (by decide) rfl
  refine W.widen (k := 0) (n := 0) (Nat.le_of_ble_eq_true rfl) (Nat.le_of_ble_eq_true rfl) ?_
  exact W.zret (v := (nhp 26 q)) (ty := .boolean) hx hb hr (n_nb (nhp_01 26 q)) (fun t ht hW => ⟨⟨(nhp 26 q), (), rfl, rfl, by rw [ht]; exact hP9, va_K.moved hW.alike hK, hD9⟩, hS.F ht⟩) hS.2.2 dX12_isLetterPlace_13

set_option maxHeartbeats 4000000 in
set_option maxRecDepth 100000 in
theorem mX12_isHead (l : Launch) (G : nG) (y : Nat) (mm : Nat) (msv : Nat) (mpa : Nat) (mio : Nat) (mfo : Nat) (mre : Nat) (mah : Nat) (mrw : Nat) (mrr : Nat) (mrs : Nat) (mrb : Nat) (mso : Nat) (mnu : Nat) (mse : Nat) (mbe : Nat) (men : Nat) (vS : Int32) (vC : Int32) (vT : Int32) (vF : Int32) (vL : Int32) (vK : Int32) (vR : Int32) (v0 : Int32) (vZ : Int32) (vB : Int32) (vN : Int32) (fm : Nat → Int32) (q : Int32) (sz : Nat) (hm : nMod fm) : Met l yX12_isHead wsX12_isHead ({ frames := 1, cells := 0, slots := 0, locals := 22 }) (va_Pc [.ref y, .int q] (n_pp G [(y, .inr (13, [.ref mm, .ref msv, .int vS, .ref mpa, .int vC, .int vT, .int vF, .ref mio, .ref mfo, .int vL, .ref mre, .int vK, .ref mah, .int vR, .ref mrw, .ref mrr, .ref mrs, .ref mrb, .int v0, .int vZ, .int vB, .int vN, .ref mso, .ref mnu, .ref mse, .ref mbe, .ref men])), (mm, eI G 1191 fm)] sz)) (va_Qi (fun (r : Int32) (_ : Unit) => r = 0) (fun (_ : Unit) (t : State) => n_po G (va_A [(y, .inr (13, [.ref mm, .ref msv, .int vS, .ref mpa, .int vC, .int vT, .int vF, .ref mio, .ref mfo, .int vL, .ref mre, .int vK, .ref mah, .int vR, .ref mrw, .ref mrr, .ref mrs, .ref mrb, .int v0, .int vZ, .int vB, .int vN, .ref mso, .ref mnu, .ref mse, .ref mbe, .ref men])), (mm, eI G 1191 fm)] sz) [(y, .inr (13, [.ref mm, .ref msv, .int vS, .ref mpa, .int vC, .int vT, .int vF, .ref mio, .ref mfo, .int vL, .ref mre, .int vK, .ref mah, .int vR, .ref mrw, .ref mrr, .ref mrs, .ref mrb, .int v0, .int vZ, .int vB, .int vN, .ref mso, .ref mnu, .ref mse, .ref mbe, .ref men])), (mm, eI G 1191 fm)] t) (va_A [(y, .inr (13, [.ref mm, .ref msv, .int vS, .ref mpa, .int vC, .int vT, .int vF, .ref mio, .ref mfo, .int vL, .ref mre, .int vK, .ref mah, .int vR, .ref mrw, .ref mrr, .ref mrs, .ref mrb, .int v0, .int vZ, .int vB, .int vN, .ref mso, .ref mnu, .ref mse, .ref mbe, .ref men])), (mm, eI G 1191 fm)] sz)) 0 0 (va_A [(y, .inr (13, [.ref mm, .ref msv, .int vS, .ref mpa, .int vC, .int vT, .int vF, .ref mio, .ref mfo, .int vL, .ref mre, .int vK, .ref mah, .int vR, .ref mrw, .ref mrr, .ref mrs, .ref mrb, .int v0, .int vZ, .int vB, .int vN, .ref mso, .ref mnu, .ref mse, .ref mbe, .ref men])), (mm, eI G 1191 fm)] sz) := by
  refine Met.ofW (cc := cX12_isHead) (maxL := 2) (ret := (some .boolean)) (by decide) rfl ?_
  intro p e s m args below meth c s₁ B hml hv
  obtain ⟨rfl, hsz, hP, hK, hD0⟩ := hv
  have hx := B.exec
  have hb := B.bytes
  have hr := B.returns
  have hts := atoms_spec (ws := wsX12_isHead) B.pre
  have hown : s.vm.findClass RX12 = some m.cls := findClass_of_methodNamed B.named
  have hlocks := B.notSynchronized
  subst hsz
  have hD := hD0.self (sz := s.heap.size)
  generalize hAe : va_A [(y, .inr (13, [.ref mm, .ref msv, .int vS, .ref mpa, .int vC, .int vT, .int vF, .ref mio, .ref mfo, .int vL, .ref mre, .int vK, .ref mah, .int vR, .ref mrw, .ref mrr, .ref mrs, .ref mrb, .int v0, .int vZ, .int vB, .int vN, .ref mso, .ref mnu, .ref mse, .ref mbe, .ref men])), (mm, eI G 1191 fm)] s.heap.size = A at hD ⊢
  have hA : ∀ q : Nat, s.heap.size ≤ q → A q := fun q h => by rw [← hAe]; exact Or.inr h
  have hS : va_S A s.heap s.heap [] := va_S.rf
  have hP : va_P G.1 vwCl [(y, .inr (13, [.ref mm, .ref msv, .int vS, .ref mpa, .int vC, .int vT, .int vF, .ref mio, .ref mfo, .int vL, .ref mre, .int vK, .ref mah, .int vR, .ref mrw, .ref mrr, .ref mrs, .ref mrb, .int v0, .int vZ, .int vB, .int vN, .ref mso, .ref mnu, .ref mse, .ref mbe, .ref men])), (mm, eI G 1191 fm)] s.heap := hP
  have hl := lv_entry ([.ref y, .int q]) (n := 2) (Nat.le_of_ble_eq_true rfl)
  rw [lg_entry_eq]
  generalize (lg_sl ([.ref y, .int q]) ++ List.replicate (2 - (lg_sl ([.ref y, .int q])).length) Slot.unset).toArray = ls at hl ⊢
  have hl : lv_has ls 2 [(0, .ref y), (1, .int q)] := hl
  obtain ⟨H, hH⟩ : ∃ z, z = s.heap := ⟨_, rfl⟩
  have hS : va_S A s.heap H [] := by rw [hH]; exact hS
  have hP : va_P G.1 vwCl [(y, .inr (13, [.ref mm, .ref msv, .int vS, .ref mpa, .int vC, .int vT, .int vF, .ref mio, .ref mfo, .int vL, .ref mre, .int vK, .ref mah, .int vR, .ref mrw, .ref mrr, .ref mrs, .ref mrb, .int v0, .int vZ, .int vB, .int vN, .ref mso, .ref mnu, .ref mse, .ref mbe, .ref men])), (mm, eI G 1191 fm)] H := by rw [hH]; exact hP
  refine n_heap hH ?_
  generalize ([] : List Loc) = locs at hS ⊢
  have hiX12 : ∀ w ∈ u_ws RX12 TX12 27, w ∈ wsX12_isHead := by decide +kernel
  refine lv_iload_n hx hb dX12_isHead_0 rfl (lv_at hl 1 rfl) ?_
  refine lv_iconst (v := 0) hx hb dX12_isHead_1 (by decide) ?_
  refine lv_aload_n hx hb dX12_isHead_2 rfl (lv_at hl 0 rfl) ?_
  refine va_get (D := G.1) (ci := 13) (v := .ref mm) (C := RX12) (T := TX12) (N := 27) hx hb hts hiX12 hown hK hP 0 rfl rfl 0 (by decide) (hts (.fieldLink RX12 9 "DialectDictionaryModel" "m" "[I") (by decide +kernel)) (fun _ h9 => h9) rfl dX12_isHead_3 ?_
  refine lv_bipush (v := 37) hx hb dX12_isHead_6 (by decide) ?_
  refine va_iald hx hb hK hP 1 0 rfl rfl (n_in (by decide)) dX12_isHead_8 ?_
  refine n_eqi (y := 0) hm.2.2.1 ?_
  refine lv_iconst (v := 1) hx hb dX12_isHead_9 (by decide) ?_
  refine lv_isub hx hb dX12_isHead_10 ?_
  refine n_eqi (y := (-1)) (by decide) ?_
  refine n_ci (wr := [(y, .inr (13, [.ref mm, .ref msv, .int vS, .ref mpa, .int vC, .int vT, .int vF, .ref mio, .ref mfo, .int vL, .ref mre, .int vK, .ref mah, .int vR, .ref mrw, .ref mrr, .ref mrs, .ref mrb, .int v0, .int vZ, .int vB, .int vN, .ref mso, .ref mnu, .ref mse, .ref mbe, .ref men])), (mm, eI G 1191 fm)]) (va_runS (As := [.int q, .int 0, .int (-1)]) (rest := []) ⟨hx, hb, hml, hown, hts⟩ (mX12_in2 l G q H.size) (va_cwS 3 hts gX12_isHead_X12_in rfl rfl rfl (by decide +kernel) ⟨(Nat.le_of_ble_eq_true rfl), (Nat.le_of_ble_eq_true rfl)⟩) (n_prS hK hP hD [] rfl (by decide)) rfl rfl hl.1 rfl (lv_room (Nat.le_of_ble_eq_true rfl)) dX12_isHead_11 ⟨(Nat.le_of_ble_eq_true rfl), (Nat.le_of_ble_eq_true rfl)⟩) hP hD hS hA [] [0, 1] rfl rfl (by decide) (by decide) (fun r_1 u_2 H locs hP hD hS hw => ?_)
  have hP : va_P G.1 vwCl [(y, .inr (13, [.ref mm, .ref msv, .int vS, .ref mpa, .int vC, .int vT, .int vF, .ref mio, .ref mfo, .int vL, .ref mre, .int vK, .ref mah, .int vR, .ref mrw, .ref mrr, .ref mrs, .ref mrb, .int v0, .int vZ, .int vB, .int vN, .ref mso, .ref mnu, .ref mse, .ref mbe, .ref men])), (mm, eI G 1191 fm)] H := hP
  have hD : va_D A [(y, .inr (13, [.ref mm, .ref msv, .int vS, .ref mpa, .int vC, .int vT, .int vF, .ref mio, .ref mfo, .int vL, .ref mre, .int vK, .ref mah, .int vR, .ref mrw, .ref mrr, .ref mrs, .ref mrb, .int v0, .int vZ, .int vB, .int vN, .ref mso, .ref mnu, .ref mse, .ref mbe, .ref men])), (mm, eI G 1191 fm)] := hD
  have hw : r_1 = 0 := hw
  subst hw
  have hP9 := n_Psub (wc := [(y, .inr (13, [.ref mm, .ref msv, .int vS, .ref mpa, .int vC, .int vT, .int vF, .ref mio, .ref mfo, .int vL, .ref mre, .int vK, .ref mah, .int vR, .ref mrw, .ref mrr, .ref mrs, .ref mrb, .int v0, .int vZ, .int vB, .int vN, .ref mso, .ref mnu, .ref mse, .ref mbe, .ref men])), (mm, eI G 1191 fm)]) hP [0, 1] rfl
  have hD9 := hD.sub (ws' := [(y, .inr (13, [.ref mm, .ref msv, .int vS, .ref mpa, .int vC, .int vT, .int vF, .ref mio, .ref mfo, .int vL, .ref mre, .int vK, .ref mah, .int vR, .ref mrw, .ref mrr, .ref mrs, .ref mrb, .int v0, .int vZ, .int vB, .int vN, .ref mso, .ref mnu, .ref mse, .ref mbe, .ref men])), (mm, eI G 1191 fm)]) [0, 1] (by decide) rfl
  refine W.widen (k := 0) (n := 0) (Nat.le_of_ble_eq_true rfl) (Nat.le_of_ble_eq_true rfl) ?_
  exact W.zret (v := 0) (ty := .boolean) hx hb hr rfl (fun t ht hW => ⟨⟨0, (), rfl, rfl, by rw [ht]; exact hP9, va_K.moved hW.alike hK, hD9⟩, hS.F ht⟩) hS.2.2 dX12_isHead_14

set_option maxHeartbeats 4000000 in
set_option maxRecDepth 100000 in
theorem mX12_isRule (l : Launch) (G : nG) (y : Nat) (mm : Nat) (msv : Nat) (mpa : Nat) (mio : Nat) (mfo : Nat) (mre : Nat) (mah : Nat) (mrw : Nat) (mrr : Nat) (mrs : Nat) (mrb : Nat) (mso : Nat) (mnu : Nat) (mse : Nat) (mbe : Nat) (men : Nat) (vS : Int32) (vC : Int32) (vT : Int32) (vF : Int32) (vL : Int32) (vK : Int32) (vR : Int32) (v0 : Int32) (vZ : Int32) (vB : Int32) (vN : Int32) (fm : Nat → Int32) (q : Int32) (sz : Nat) (hm : nMod fm) : Met l yX12_isRule wsX12_isRule ({ frames := 1, cells := 0, slots := 0, locals := 22 }) (va_Pc [.ref y, .int q] (n_pp G [(y, .inr (13, [.ref mm, .ref msv, .int vS, .ref mpa, .int vC, .int vT, .int vF, .ref mio, .ref mfo, .int vL, .ref mre, .int vK, .ref mah, .int vR, .ref mrw, .ref mrr, .ref mrs, .ref mrb, .int v0, .int vZ, .int vB, .int vN, .ref mso, .ref mnu, .ref mse, .ref mbe, .ref men])), (mm, eI G 1191 fm)] sz)) (va_Qi (fun (r : Int32) (_ : Unit) => r = 0) (fun (_ : Unit) (t : State) => n_po G (va_A [(y, .inr (13, [.ref mm, .ref msv, .int vS, .ref mpa, .int vC, .int vT, .int vF, .ref mio, .ref mfo, .int vL, .ref mre, .int vK, .ref mah, .int vR, .ref mrw, .ref mrr, .ref mrs, .ref mrb, .int v0, .int vZ, .int vB, .int vN, .ref mso, .ref mnu, .ref mse, .ref mbe, .ref men])), (mm, eI G 1191 fm)] sz) [(y, .inr (13, [.ref mm, .ref msv, .int vS, .ref mpa, .int vC, .int vT, .int vF, .ref mio, .ref mfo, .int vL, .ref mre, .int vK, .ref mah, .int vR, .ref mrw, .ref mrr, .ref mrs, .ref mrb, .int v0, .int vZ, .int vB, .int vN, .ref mso, .ref mnu, .ref mse, .ref mbe, .ref men])), (mm, eI G 1191 fm)] t) (va_A [(y, .inr (13, [.ref mm, .ref msv, .int vS, .ref mpa, .int vC, .int vT, .int vF, .ref mio, .ref mfo, .int vL, .ref mre, .int vK, .ref mah, .int vR, .ref mrw, .ref mrr, .ref mrs, .ref mrb, .int v0, .int vZ, .int vB, .int vN, .ref mso, .ref mnu, .ref mse, .ref mbe, .ref men])), (mm, eI G 1191 fm)] sz)) 0 0 (va_A [(y, .inr (13, [.ref mm, .ref msv, .int vS, .ref mpa, .int vC, .int vT, .int vF, .ref mio, .ref mfo, .int vL, .ref mre, .int vK, .ref mah, .int vR, .ref mrw, .ref mrr, .ref mrs, .ref mrb, .int v0, .int vZ, .int vB, .int vN, .ref mso, .ref mnu, .ref mse, .ref mbe, .ref men])), (mm, eI G 1191 fm)] sz) := by
  refine Met.ofW (cc := cX12_isRule) (maxL := 2) (ret := (some .boolean)) (by decide) rfl ?_
  intro p e s m args below meth c s₁ B hml hv
  obtain ⟨rfl, hsz, hP, hK, hD0⟩ := hv
  have hx := B.exec
  have hb := B.bytes
  have hr := B.returns
  have hts := atoms_spec (ws := wsX12_isRule) B.pre
  have hown : s.vm.findClass RX12 = some m.cls := findClass_of_methodNamed B.named
  have hlocks := B.notSynchronized
  subst hsz
  have hD := hD0.self (sz := s.heap.size)
  generalize hAe : va_A [(y, .inr (13, [.ref mm, .ref msv, .int vS, .ref mpa, .int vC, .int vT, .int vF, .ref mio, .ref mfo, .int vL, .ref mre, .int vK, .ref mah, .int vR, .ref mrw, .ref mrr, .ref mrs, .ref mrb, .int v0, .int vZ, .int vB, .int vN, .ref mso, .ref mnu, .ref mse, .ref mbe, .ref men])), (mm, eI G 1191 fm)] s.heap.size = A at hD ⊢
  have hA : ∀ q : Nat, s.heap.size ≤ q → A q := fun q h => by rw [← hAe]; exact Or.inr h
  have hS : va_S A s.heap s.heap [] := va_S.rf
  have hP : va_P G.1 vwCl [(y, .inr (13, [.ref mm, .ref msv, .int vS, .ref mpa, .int vC, .int vT, .int vF, .ref mio, .ref mfo, .int vL, .ref mre, .int vK, .ref mah, .int vR, .ref mrw, .ref mrr, .ref mrs, .ref mrb, .int v0, .int vZ, .int vB, .int vN, .ref mso, .ref mnu, .ref mse, .ref mbe, .ref men])), (mm, eI G 1191 fm)] s.heap := hP
  have hl := lv_entry ([.ref y, .int q]) (n := 2) (Nat.le_of_ble_eq_true rfl)
  rw [lg_entry_eq]
  generalize (lg_sl ([.ref y, .int q]) ++ List.replicate (2 - (lg_sl ([.ref y, .int q])).length) Slot.unset).toArray = ls at hl ⊢
  have hl : lv_has ls 2 [(0, .ref y), (1, .int q)] := hl
  obtain ⟨H, hH⟩ : ∃ z, z = s.heap := ⟨_, rfl⟩
  have hS : va_S A s.heap H [] := by rw [hH]; exact hS
  have hP : va_P G.1 vwCl [(y, .inr (13, [.ref mm, .ref msv, .int vS, .ref mpa, .int vC, .int vT, .int vF, .ref mio, .ref mfo, .int vL, .ref mre, .int vK, .ref mah, .int vR, .ref mrw, .ref mrr, .ref mrs, .ref mrb, .int v0, .int vZ, .int vB, .int vN, .ref mso, .ref mnu, .ref mse, .ref mbe, .ref men])), (mm, eI G 1191 fm)] H := by rw [hH]; exact hP
  refine n_heap hH ?_
  generalize ([] : List Loc) = locs at hS ⊢
  have hiX12 : ∀ w ∈ u_ws RX12 TX12 27, w ∈ wsX12_isRule := by decide +kernel
  refine lv_iload_n hx hb dX12_isRule_0 rfl (lv_at hl 1 rfl) ?_
  refine lv_iconst (v := 0) hx hb dX12_isRule_1 (by decide) ?_
  refine lv_aload_n hx hb dX12_isRule_2 rfl (lv_at hl 0 rfl) ?_
  refine va_get (D := G.1) (ci := 13) (v := .ref mm) (C := RX12) (T := TX12) (N := 27) hx hb hts hiX12 hown hK hP 0 rfl rfl 0 (by decide) (hts (.fieldLink RX12 9 "DialectDictionaryModel" "m" "[I") (by decide +kernel)) (fun _ h9 => h9) rfl dX12_isRule_3 ?_
  refine lv_sipush (v := 1158) hx hb dX12_isRule_6 (by decide) ?_
  refine va_iald hx hb hK hP 1 0 rfl rfl (n_in (by decide)) dX12_isRule_9 ?_
  refine n_eqi (y := 0) hm.2.2.2 ?_
  refine lv_iconst (v := 1) hx hb dX12_isRule_10 (by decide) ?_
  refine lv_isub hx hb dX12_isRule_11 ?_
  refine n_eqi (y := (-1)) (by decide) ?_
  refine n_ci (wr := [(y, .inr (13, [.ref mm, .ref msv, .int vS, .ref mpa, .int vC, .int vT, .int vF, .ref mio, .ref mfo, .int vL, .ref mre, .int vK, .ref mah, .int vR, .ref mrw, .ref mrr, .ref mrs, .ref mrb, .int v0, .int vZ, .int vB, .int vN, .ref mso, .ref mnu, .ref mse, .ref mbe, .ref men])), (mm, eI G 1191 fm)]) (va_runS (As := [.int q, .int 0, .int (-1)]) (rest := []) ⟨hx, hb, hml, hown, hts⟩ (mX12_in2 l G q H.size) (va_cwS 3 hts gX12_isRule_X12_in rfl rfl rfl (by decide +kernel) ⟨(Nat.le_of_ble_eq_true rfl), (Nat.le_of_ble_eq_true rfl)⟩) (n_prS hK hP hD [] rfl (by decide)) rfl rfl hl.1 rfl (lv_room (Nat.le_of_ble_eq_true rfl)) dX12_isRule_12 ⟨(Nat.le_of_ble_eq_true rfl), (Nat.le_of_ble_eq_true rfl)⟩) hP hD hS hA [] [0, 1] rfl rfl (by decide) (by decide) (fun r_1 u_2 H locs hP hD hS hw => ?_)
  have hP : va_P G.1 vwCl [(y, .inr (13, [.ref mm, .ref msv, .int vS, .ref mpa, .int vC, .int vT, .int vF, .ref mio, .ref mfo, .int vL, .ref mre, .int vK, .ref mah, .int vR, .ref mrw, .ref mrr, .ref mrs, .ref mrb, .int v0, .int vZ, .int vB, .int vN, .ref mso, .ref mnu, .ref mse, .ref mbe, .ref men])), (mm, eI G 1191 fm)] H := hP
  have hD : va_D A [(y, .inr (13, [.ref mm, .ref msv, .int vS, .ref mpa, .int vC, .int vT, .int vF, .ref mio, .ref mfo, .int vL, .ref mre, .int vK, .ref mah, .int vR, .ref mrw, .ref mrr, .ref mrs, .ref mrb, .int v0, .int vZ, .int vB, .int vN, .ref mso, .ref mnu, .ref mse, .ref mbe, .ref men])), (mm, eI G 1191 fm)] := hD
  have hw : r_1 = 0 := hw
  subst hw
  have hP9 := n_Psub (wc := [(y, .inr (13, [.ref mm, .ref msv, .int vS, .ref mpa, .int vC, .int vT, .int vF, .ref mio, .ref mfo, .int vL, .ref mre, .int vK, .ref mah, .int vR, .ref mrw, .ref mrr, .ref mrs, .ref mrb, .int v0, .int vZ, .int vB, .int vN, .ref mso, .ref mnu, .ref mse, .ref mbe, .ref men])), (mm, eI G 1191 fm)]) hP [0, 1] rfl
  have hD9 := hD.sub (ws' := [(y, .inr (13, [.ref mm, .ref msv, .int vS, .ref mpa, .int vC, .int vT, .int vF, .ref mio, .ref mfo, .int vL, .ref mre, .int vK, .ref mah, .int vR, .ref mrw, .ref mrr, .ref mrs, .ref mrb, .int v0, .int vZ, .int vB, .int vN, .ref mso, .ref mnu, .ref mse, .ref mbe, .ref men])), (mm, eI G 1191 fm)]) [0, 1] (by decide) rfl
  refine W.widen (k := 0) (n := 0) (Nat.le_of_ble_eq_true rfl) (Nat.le_of_ble_eq_true rfl) ?_
  exact W.zret (v := 0) (ty := .boolean) hx hb hr rfl (fun t ht hW => ⟨⟨0, (), rfl, rfl, by rw [ht]; exact hP9, va_K.moved hW.alike hK, hD9⟩, hS.F ht⟩) hS.2.2 dX12_isRule_15

set_option maxHeartbeats 4000000 in
set_option maxRecDepth 100000 in
theorem mX12_allForms (l : Launch) (G : nG) (y : Nat) (mm : Nat) (msv : Nat) (mpa : Nat) (mio : Nat) (mfo : Nat) (mre : Nat) (mah : Nat) (mrw : Nat) (mrr : Nat) (mrs : Nat) (mrb : Nat) (mso : Nat) (mnu : Nat) (mse : Nat) (mbe : Nat) (men : Nat) (vS : Int32) (vC : Int32) (vT : Int32) (vF : Int32) (vL : Int32) (vK : Int32) (vR : Int32) (v0 : Int32) (vZ : Int32) (vB : Int32) (vN : Int32) (fm : Nat → Int32) (sz : Nat) (hm : nMod fm) : Met l yX12_allForms wsX12_allForms ({ frames := 0, cells := 0, slots := 0, locals := 0 }) (va_Pc [.ref y] (n_pp G [(y, .inr (13, [.ref mm, .ref msv, .int vS, .ref mpa, .int vC, .int vT, .int vF, .ref mio, .ref mfo, .int vL, .ref mre, .int vK, .ref mah, .int vR, .ref mrw, .ref mrr, .ref mrs, .ref mrb, .int v0, .int vZ, .int vB, .int vN, .ref mso, .ref mnu, .ref mse, .ref mbe, .ref men])), (mm, eI G 1191 fm)] sz)) (va_Qi (fun (r : Int32) (_ : Unit) => r = 0) (fun (_ : Unit) (t : State) => n_po G (va_A [(y, .inr (13, [.ref mm, .ref msv, .int vS, .ref mpa, .int vC, .int vT, .int vF, .ref mio, .ref mfo, .int vL, .ref mre, .int vK, .ref mah, .int vR, .ref mrw, .ref mrr, .ref mrs, .ref mrb, .int v0, .int vZ, .int vB, .int vN, .ref mso, .ref mnu, .ref mse, .ref mbe, .ref men])), (mm, eI G 1191 fm)] sz) [(y, .inr (13, [.ref mm, .ref msv, .int vS, .ref mpa, .int vC, .int vT, .int vF, .ref mio, .ref mfo, .int vL, .ref mre, .int vK, .ref mah, .int vR, .ref mrw, .ref mrr, .ref mrs, .ref mrb, .int v0, .int vZ, .int vB, .int vN, .ref mso, .ref mnu, .ref mse, .ref mbe, .ref men])), (mm, eI G 1191 fm)] t) (va_A [(y, .inr (13, [.ref mm, .ref msv, .int vS, .ref mpa, .int vC, .int vT, .int vF, .ref mio, .ref mfo, .int vL, .ref mre, .int vK, .ref mah, .int vR, .ref mrw, .ref mrr, .ref mrs, .ref mrb, .int v0, .int vZ, .int vB, .int vN, .ref mso, .ref mnu, .ref mse, .ref mbe, .ref men])), (mm, eI G 1191 fm)] sz)) 0 0 (va_A [(y, .inr (13, [.ref mm, .ref msv, .int vS, .ref mpa, .int vC, .int vT, .int vF, .ref mio, .ref mfo, .int vL, .ref mre, .int vK, .ref mah, .int vR, .ref mrw, .ref mrr, .ref mrs, .ref mrb, .int v0, .int vZ, .int vB, .int vN, .ref mso, .ref mnu, .ref mse, .ref mbe, .ref men])), (mm, eI G 1191 fm)] sz) := by
  refine Met.ofW (cc := cX12_allForms) (maxL := 3) (ret := (some .int)) (by decide) rfl ?_
  intro p e s m args below meth c s₁ B hml hv
  obtain ⟨rfl, hsz, hP, hK, hD0⟩ := hv
  have hx := B.exec
  have hb := B.bytes
  have hr := B.returns
  have hts := atoms_spec (ws := wsX12_allForms) B.pre
  have hown : s.vm.findClass RX12 = some m.cls := findClass_of_methodNamed B.named
  have hlocks := B.notSynchronized
  subst hsz
  have hD := hD0.self (sz := s.heap.size)
  generalize hAe : va_A [(y, .inr (13, [.ref mm, .ref msv, .int vS, .ref mpa, .int vC, .int vT, .int vF, .ref mio, .ref mfo, .int vL, .ref mre, .int vK, .ref mah, .int vR, .ref mrw, .ref mrr, .ref mrs, .ref mrb, .int v0, .int vZ, .int vB, .int vN, .ref mso, .ref mnu, .ref mse, .ref mbe, .ref men])), (mm, eI G 1191 fm)] s.heap.size = A at hD ⊢
  have hA : ∀ q : Nat, s.heap.size ≤ q → A q := fun q h => by rw [← hAe]; exact Or.inr h
  have hS : va_S A s.heap s.heap [] := va_S.rf
  have hP : va_P G.1 vwCl [(y, .inr (13, [.ref mm, .ref msv, .int vS, .ref mpa, .int vC, .int vT, .int vF, .ref mio, .ref mfo, .int vL, .ref mre, .int vK, .ref mah, .int vR, .ref mrw, .ref mrr, .ref mrs, .ref mrb, .int v0, .int vZ, .int vB, .int vN, .ref mso, .ref mnu, .ref mse, .ref mbe, .ref men])), (mm, eI G 1191 fm)] s.heap := hP
  have hl := lv_entry ([.ref y]) (n := 3) (Nat.le_of_ble_eq_true rfl)
  rw [lg_entry_eq]
  generalize (lg_sl ([.ref y]) ++ List.replicate (3 - (lg_sl ([.ref y])).length) Slot.unset).toArray = ls at hl ⊢
  have hl : lv_has ls 3 [(0, .ref y)] := hl
  obtain ⟨H, hH⟩ : ∃ z, z = s.heap := ⟨_, rfl⟩
  have hS : va_S A s.heap H [] := by rw [hH]; exact hS
  have hP : va_P G.1 vwCl [(y, .inr (13, [.ref mm, .ref msv, .int vS, .ref mpa, .int vC, .int vT, .int vF, .ref mio, .ref mfo, .int vL, .ref mre, .int vK, .ref mah, .int vR, .ref mrw, .ref mrr, .ref mrs, .ref mrb, .int v0, .int vZ, .int vB, .int vN, .ref mso, .ref mnu, .ref mse, .ref mbe, .ref men])), (mm, eI G 1191 fm)] H := by rw [hH]; exact hP
  refine n_heap hH ?_
  generalize ([] : List Loc) = locs at hS ⊢
  have hiX12 : ∀ w ∈ u_ws RX12 TX12 27, w ∈ wsX12_allForms := by decide +kernel
  refine lv_iconst (v := 0) hx hb dX12_allForms_0 (by decide) ?_
  refine lv_istore_n (lv' := [(1, .int 0), (0, .ref y)]) hx hb dX12_allForms_1 rfl hl (by decide) rfl (fun ls hl => ?_)
  refine lv_iconst (v := 0) hx hb dX12_allForms_2 (by decide) ?_
  refine lv_istore_n (lv' := [(2, .int 0), (1, .int 0), (0, .ref y)]) hx hb dX12_allForms_3 rfl hl (by decide) rfl (fun ls hl => ?_)
  refine lv_iload_n hx hb dX12_allForms_4 rfl (lv_at hl 0 rfl) ?_
  refine lv_aload_n hx hb dX12_allForms_5 rfl (lv_at hl 2 rfl) ?_
  refine va_get (D := G.1) (ci := 13) (v := .ref mm) (C := RX12) (T := TX12) (N := 27) hx hb hts hiX12 hown hK hP 0 rfl rfl 0 (by decide) (hts (.fieldLink RX12 9 "DialectDictionaryModel" "m" "[I") (by decide +kernel)) (fun _ h9 => h9) rfl dX12_allForms_6 ?_
  refine lv_bipush (v := 37) hx hb dX12_allForms_9 (by decide) ?_
  refine va_iald hx hb hK hP 1 0 rfl rfl (n_in (by decide)) dX12_allForms_11 ?_
  refine n_eqi (y := 0) hm.2.2.1 ?_
  refine lv_icmp_ge (tgt := 29) hx hb dX12_allForms_12 (by decide) (fun _ => ?_) (fun h9 => absurd (by decide) h9)
  refine lv_iload_n hx hb dX12_allForms_29 rfl (lv_at hl 1 rfl) ?_
  have hP9 := n_Psub (wc := [(y, .inr (13, [.ref mm, .ref msv, .int vS, .ref mpa, .int vC, .int vT, .int vF, .ref mio, .ref mfo, .int vL, .ref mre, .int vK, .ref mah, .int vR, .ref mrw, .ref mrr, .ref mrs, .ref mrb, .int v0, .int vZ, .int vB, .int vN, .ref mso, .ref mnu, .ref mse, .ref mbe, .ref men])), (mm, eI G 1191 fm)]) hP [0, 1] rfl
  have hD9 := hD.sub (ws' := [(y, .inr (13, [.ref mm, .ref msv, .int vS, .ref mpa, .int vC, .int vT, .int vF, .ref mio, .ref mfo, .int vL, .ref mre, .int vK, .ref mah, .int vR, .ref mrw, .ref mrr, .ref mrs, .ref mrb, .int v0, .int vZ, .int vB, .int vN, .ref mso, .ref mnu, .ref mse, .ref mbe, .ref men])), (mm, eI G 1191 fm)]) [0, 1] (by decide) rfl
  refine W.widen (k := 0) (n := 0) (Nat.le_of_ble_eq_true rfl) (Nat.le_of_ble_eq_true rfl) ?_
  exact W.iret (v := 0) hx hb hr (fun t ht hW => ⟨⟨0, (), rfl, rfl, by rw [ht]; exact hP9, va_K.moved hW.alike hK, hD9⟩, hS.F ht⟩) hS.2.2 dX12_allForms_30

set_option maxHeartbeats 4000000 in
set_option maxRecDepth 100000 in
theorem mX12_references (l : Launch) (G : nG) (y : Nat) (mm : Nat) (msv : Nat) (mpa : Nat) (mio : Nat) (mfo : Nat) (mre : Nat) (mah : Nat) (mrw : Nat) (mrr : Nat) (mrs : Nat) (mrb : Nat) (mso : Nat) (mnu : Nat) (mse : Nat) (mbe : Nat) (men : Nat) (vS : Int32) (vC : Int32) (vT : Int32) (vF : Int32) (vL : Int32) (vK : Int32) (vR : Int32) (v0 : Int32) (vZ : Int32) (vB : Int32) (vN : Int32) (fm : Nat → Int32) (sz : Nat) (hm : nMod fm) : Met l yX12_references wsX12_references ({ frames := 0, cells := 0, slots := 0, locals := 0 }) (va_Pc [.ref y] (n_pp G [(y, .inr (13, [.ref mm, .ref msv, .int vS, .ref mpa, .int vC, .int vT, .int vF, .ref mio, .ref mfo, .int vL, .ref mre, .int vK, .ref mah, .int vR, .ref mrw, .ref mrr, .ref mrs, .ref mrb, .int v0, .int vZ, .int vB, .int vN, .ref mso, .ref mnu, .ref mse, .ref mbe, .ref men])), (mm, eI G 1191 fm)] sz)) (va_Qi (fun (r : Int32) (_ : Unit) => r = 0) (fun (_ : Unit) (t : State) => n_po G (va_A [(y, .inr (13, [.ref mm, .ref msv, .int vS, .ref mpa, .int vC, .int vT, .int vF, .ref mio, .ref mfo, .int vL, .ref mre, .int vK, .ref mah, .int vR, .ref mrw, .ref mrr, .ref mrs, .ref mrb, .int v0, .int vZ, .int vB, .int vN, .ref mso, .ref mnu, .ref mse, .ref mbe, .ref men])), (mm, eI G 1191 fm)] sz) [(y, .inr (13, [.ref mm, .ref msv, .int vS, .ref mpa, .int vC, .int vT, .int vF, .ref mio, .ref mfo, .int vL, .ref mre, .int vK, .ref mah, .int vR, .ref mrw, .ref mrr, .ref mrs, .ref mrb, .int v0, .int vZ, .int vB, .int vN, .ref mso, .ref mnu, .ref mse, .ref mbe, .ref men])), (mm, eI G 1191 fm)] t) (va_A [(y, .inr (13, [.ref mm, .ref msv, .int vS, .ref mpa, .int vC, .int vT, .int vF, .ref mio, .ref mfo, .int vL, .ref mre, .int vK, .ref mah, .int vR, .ref mrw, .ref mrr, .ref mrs, .ref mrb, .int v0, .int vZ, .int vB, .int vN, .ref mso, .ref mnu, .ref mse, .ref mbe, .ref men])), (mm, eI G 1191 fm)] sz)) 0 0 (va_A [(y, .inr (13, [.ref mm, .ref msv, .int vS, .ref mpa, .int vC, .int vT, .int vF, .ref mio, .ref mfo, .int vL, .ref mre, .int vK, .ref mah, .int vR, .ref mrw, .ref mrr, .ref mrs, .ref mrb, .int v0, .int vZ, .int vB, .int vN, .ref mso, .ref mnu, .ref mse, .ref mbe, .ref men])), (mm, eI G 1191 fm)] sz) := by
  refine Met.ofW (cc := cX12_references) (maxL := 3) (ret := (some .int)) (by decide) rfl ?_
  intro p e s m args below meth c s₁ B hml hv
  obtain ⟨rfl, hsz, hP, hK, hD0⟩ := hv
  have hx := B.exec
  have hb := B.bytes
  have hr := B.returns
  have hts := atoms_spec (ws := wsX12_references) B.pre
  have hown : s.vm.findClass RX12 = some m.cls := findClass_of_methodNamed B.named
  have hlocks := B.notSynchronized
  subst hsz
  have hD := hD0.self (sz := s.heap.size)
  generalize hAe : va_A [(y, .inr (13, [.ref mm, .ref msv, .int vS, .ref mpa, .int vC, .int vT, .int vF, .ref mio, .ref mfo, .int vL, .ref mre, .int vK, .ref mah, .int vR, .ref mrw, .ref mrr, .ref mrs, .ref mrb, .int v0, .int vZ, .int vB, .int vN, .ref mso, .ref mnu, .ref mse, .ref mbe, .ref men])), (mm, eI G 1191 fm)] s.heap.size = A at hD ⊢
  have hA : ∀ q : Nat, s.heap.size ≤ q → A q := fun q h => by rw [← hAe]; exact Or.inr h
  have hS : va_S A s.heap s.heap [] := va_S.rf
  have hP : va_P G.1 vwCl [(y, .inr (13, [.ref mm, .ref msv, .int vS, .ref mpa, .int vC, .int vT, .int vF, .ref mio, .ref mfo, .int vL, .ref mre, .int vK, .ref mah, .int vR, .ref mrw, .ref mrr, .ref mrs, .ref mrb, .int v0, .int vZ, .int vB, .int vN, .ref mso, .ref mnu, .ref mse, .ref mbe, .ref men])), (mm, eI G 1191 fm)] s.heap := hP
  have hl := lv_entry ([.ref y]) (n := 3) (Nat.le_of_ble_eq_true rfl)
  rw [lg_entry_eq]
  generalize (lg_sl ([.ref y]) ++ List.replicate (3 - (lg_sl ([.ref y])).length) Slot.unset).toArray = ls at hl ⊢
  have hl : lv_has ls 3 [(0, .ref y)] := hl
  obtain ⟨H, hH⟩ : ∃ z, z = s.heap := ⟨_, rfl⟩
  have hS : va_S A s.heap H [] := by rw [hH]; exact hS
  have hP : va_P G.1 vwCl [(y, .inr (13, [.ref mm, .ref msv, .int vS, .ref mpa, .int vC, .int vT, .int vF, .ref mio, .ref mfo, .int vL, .ref mre, .int vK, .ref mah, .int vR, .ref mrw, .ref mrr, .ref mrs, .ref mrb, .int v0, .int vZ, .int vB, .int vN, .ref mso, .ref mnu, .ref mse, .ref mbe, .ref men])), (mm, eI G 1191 fm)] H := by rw [hH]; exact hP
  refine n_heap hH ?_
  generalize ([] : List Loc) = locs at hS ⊢
  have hiX12 : ∀ w ∈ u_ws RX12 TX12 27, w ∈ wsX12_references := by decide +kernel
  refine lv_iconst (v := 0) hx hb dX12_references_0 (by decide) ?_
  refine lv_istore_n (lv' := [(1, .int 0), (0, .ref y)]) hx hb dX12_references_1 rfl hl (by decide) rfl (fun ls hl => ?_)
  refine lv_iconst (v := 0) hx hb dX12_references_2 (by decide) ?_
  refine lv_istore_n (lv' := [(2, .int 0), (1, .int 0), (0, .ref y)]) hx hb dX12_references_3 rfl hl (by decide) rfl (fun ls hl => ?_)
  refine lv_iload_n hx hb dX12_references_4 rfl (lv_at hl 0 rfl) ?_
  refine lv_aload_n hx hb dX12_references_5 rfl (lv_at hl 2 rfl) ?_
  refine va_get (D := G.1) (ci := 13) (v := .ref mm) (C := RX12) (T := TX12) (N := 27) hx hb hts hiX12 hown hK hP 0 rfl rfl 0 (by decide) (hts (.fieldLink RX12 9 "DialectDictionaryModel" "m" "[I") (by decide +kernel)) (fun _ h9 => h9) rfl dX12_references_6 ?_
  refine lv_bipush (v := 37) hx hb dX12_references_9 (by decide) ?_
  refine va_iald hx hb hK hP 1 0 rfl rfl (n_in (by decide)) dX12_references_11 ?_
  refine n_eqi (y := 0) hm.2.2.1 ?_
  refine lv_icmp_ge (tgt := 37) hx hb dX12_references_12 (by decide) (fun _ => ?_) (fun h9 => absurd (by decide) h9)
  refine lv_iload_n hx hb dX12_references_37 rfl (lv_at hl 1 rfl) ?_
  have hP9 := n_Psub (wc := [(y, .inr (13, [.ref mm, .ref msv, .int vS, .ref mpa, .int vC, .int vT, .int vF, .ref mio, .ref mfo, .int vL, .ref mre, .int vK, .ref mah, .int vR, .ref mrw, .ref mrr, .ref mrs, .ref mrb, .int v0, .int vZ, .int vB, .int vN, .ref mso, .ref mnu, .ref mse, .ref mbe, .ref men])), (mm, eI G 1191 fm)]) hP [0, 1] rfl
  have hD9 := hD.sub (ws' := [(y, .inr (13, [.ref mm, .ref msv, .int vS, .ref mpa, .int vC, .int vT, .int vF, .ref mio, .ref mfo, .int vL, .ref mre, .int vK, .ref mah, .int vR, .ref mrw, .ref mrr, .ref mrs, .ref mrb, .int v0, .int vZ, .int vB, .int vN, .ref mso, .ref mnu, .ref mse, .ref mbe, .ref men])), (mm, eI G 1191 fm)]) [0, 1] (by decide) rfl
  refine W.widen (k := 0) (n := 0) (Nat.le_of_ble_eq_true rfl) (Nat.le_of_ble_eq_true rfl) ?_
  exact W.iret (v := 0) hx hb hr (fun t ht hW => ⟨⟨0, (), rfl, rfl, by rw [ht]; exact hP9, va_K.moved hW.alike hK, hD9⟩, hS.F ht⟩) hS.2.2 dX12_references_38

set_option maxHeartbeats 4000000 in
set_option maxRecDepth 100000 in
theorem mX12_allLetters (l : Launch) (G : nG) (y : Nat) (mm : Nat) (msv : Nat) (mpa : Nat) (mio : Nat) (mfo : Nat) (mre : Nat) (mah : Nat) (mrw : Nat) (mrr : Nat) (mrs : Nat) (mrb : Nat) (mso : Nat) (mnu : Nat) (mse : Nat) (mbe : Nat) (men : Nat) (vS : Int32) (vC : Int32) (vT : Int32) (vF : Int32) (vL : Int32) (vK : Int32) (vR : Int32) (v0 : Int32) (vZ : Int32) (vB : Int32) (vN : Int32) (fm : Nat → Int32) (sz : Nat) (hm : nMod fm) : Met l yX12_allLetters wsX12_allLetters ({ frames := 0, cells := 0, slots := 0, locals := 0 }) (va_Pc [.ref y] (n_pp G [(y, .inr (13, [.ref mm, .ref msv, .int vS, .ref mpa, .int vC, .int vT, .int vF, .ref mio, .ref mfo, .int vL, .ref mre, .int vK, .ref mah, .int vR, .ref mrw, .ref mrr, .ref mrs, .ref mrb, .int v0, .int vZ, .int vB, .int vN, .ref mso, .ref mnu, .ref mse, .ref mbe, .ref men])), (mm, eI G 1191 fm)] sz)) (va_Qi (fun (r : Int32) (_ : Unit) => r = 0) (fun (_ : Unit) (t : State) => n_po G (va_A [(y, .inr (13, [.ref mm, .ref msv, .int vS, .ref mpa, .int vC, .int vT, .int vF, .ref mio, .ref mfo, .int vL, .ref mre, .int vK, .ref mah, .int vR, .ref mrw, .ref mrr, .ref mrs, .ref mrb, .int v0, .int vZ, .int vB, .int vN, .ref mso, .ref mnu, .ref mse, .ref mbe, .ref men])), (mm, eI G 1191 fm)] sz) [(y, .inr (13, [.ref mm, .ref msv, .int vS, .ref mpa, .int vC, .int vT, .int vF, .ref mio, .ref mfo, .int vL, .ref mre, .int vK, .ref mah, .int vR, .ref mrw, .ref mrr, .ref mrs, .ref mrb, .int v0, .int vZ, .int vB, .int vN, .ref mso, .ref mnu, .ref mse, .ref mbe, .ref men])), (mm, eI G 1191 fm)] t) (va_A [(y, .inr (13, [.ref mm, .ref msv, .int vS, .ref mpa, .int vC, .int vT, .int vF, .ref mio, .ref mfo, .int vL, .ref mre, .int vK, .ref mah, .int vR, .ref mrw, .ref mrr, .ref mrs, .ref mrb, .int v0, .int vZ, .int vB, .int vN, .ref mso, .ref mnu, .ref mse, .ref mbe, .ref men])), (mm, eI G 1191 fm)] sz)) 0 0 (va_A [(y, .inr (13, [.ref mm, .ref msv, .int vS, .ref mpa, .int vC, .int vT, .int vF, .ref mio, .ref mfo, .int vL, .ref mre, .int vK, .ref mah, .int vR, .ref mrw, .ref mrr, .ref mrs, .ref mrb, .int v0, .int vZ, .int vB, .int vN, .ref mso, .ref mnu, .ref mse, .ref mbe, .ref men])), (mm, eI G 1191 fm)] sz) := by
  refine Met.ofW (cc := cX12_allLetters) (maxL := 4) (ret := (some .int)) (by decide) rfl ?_
  intro p e s m args below meth c s₁ B hml hv
  obtain ⟨rfl, hsz, hP, hK, hD0⟩ := hv
  have hx := B.exec
  have hb := B.bytes
  have hr := B.returns
  have hts := atoms_spec (ws := wsX12_allLetters) B.pre
  have hown : s.vm.findClass RX12 = some m.cls := findClass_of_methodNamed B.named
  have hlocks := B.notSynchronized
  subst hsz
  have hD := hD0.self (sz := s.heap.size)
  generalize hAe : va_A [(y, .inr (13, [.ref mm, .ref msv, .int vS, .ref mpa, .int vC, .int vT, .int vF, .ref mio, .ref mfo, .int vL, .ref mre, .int vK, .ref mah, .int vR, .ref mrw, .ref mrr, .ref mrs, .ref mrb, .int v0, .int vZ, .int vB, .int vN, .ref mso, .ref mnu, .ref mse, .ref mbe, .ref men])), (mm, eI G 1191 fm)] s.heap.size = A at hD ⊢
  have hA : ∀ q : Nat, s.heap.size ≤ q → A q := fun q h => by rw [← hAe]; exact Or.inr h
  have hS : va_S A s.heap s.heap [] := va_S.rf
  have hP : va_P G.1 vwCl [(y, .inr (13, [.ref mm, .ref msv, .int vS, .ref mpa, .int vC, .int vT, .int vF, .ref mio, .ref mfo, .int vL, .ref mre, .int vK, .ref mah, .int vR, .ref mrw, .ref mrr, .ref mrs, .ref mrb, .int v0, .int vZ, .int vB, .int vN, .ref mso, .ref mnu, .ref mse, .ref mbe, .ref men])), (mm, eI G 1191 fm)] s.heap := hP
  have hl := lv_entry ([.ref y]) (n := 4) (Nat.le_of_ble_eq_true rfl)
  rw [lg_entry_eq]
  generalize (lg_sl ([.ref y]) ++ List.replicate (4 - (lg_sl ([.ref y])).length) Slot.unset).toArray = ls at hl ⊢
  have hl : lv_has ls 4 [(0, .ref y)] := hl
  obtain ⟨H, hH⟩ : ∃ z, z = s.heap := ⟨_, rfl⟩
  have hS : va_S A s.heap H [] := by rw [hH]; exact hS
  have hP : va_P G.1 vwCl [(y, .inr (13, [.ref mm, .ref msv, .int vS, .ref mpa, .int vC, .int vT, .int vF, .ref mio, .ref mfo, .int vL, .ref mre, .int vK, .ref mah, .int vR, .ref mrw, .ref mrr, .ref mrs, .ref mrb, .int v0, .int vZ, .int vB, .int vN, .ref mso, .ref mnu, .ref mse, .ref mbe, .ref men])), (mm, eI G 1191 fm)] H := by rw [hH]; exact hP
  refine n_heap hH ?_
  generalize ([] : List Loc) = locs at hS ⊢
  have hiX12 : ∀ w ∈ u_ws RX12 TX12 27, w ∈ wsX12_allLetters := by decide +kernel
  refine lv_iconst (v := 0) hx hb dX12_allLetters_0 (by decide) ?_
  refine lv_istore_n (lv' := [(1, .int 0), (0, .ref y)]) hx hb dX12_allLetters_1 rfl hl (by decide) rfl (fun ls hl => ?_)
  refine lv_iconst (v := 0) hx hb dX12_allLetters_2 (by decide) ?_
  refine lv_istore_n (lv' := [(2, .int 0), (1, .int 0), (0, .ref y)]) hx hb dX12_allLetters_3 rfl hl (by decide) rfl (fun ls hl => ?_)
  refine lv_iload_n hx hb dX12_allLetters_4 rfl (lv_at hl 0 rfl) ?_
  refine lv_aload_n hx hb dX12_allLetters_5 rfl (lv_at hl 2 rfl) ?_
  refine va_get (D := G.1) (ci := 13) (v := .ref mm) (C := RX12) (T := TX12) (N := 27) hx hb hts hiX12 hown hK hP 0 rfl rfl 0 (by decide) (hts (.fieldLink RX12 9 "DialectDictionaryModel" "m" "[I") (by decide +kernel)) (fun _ h9 => h9) rfl dX12_allLetters_6 ?_
  refine lv_bipush (v := 37) hx hb dX12_allLetters_9 (by decide) ?_
  refine va_iald hx hb hK hP 1 0 rfl rfl (n_in (by decide)) dX12_allLetters_11 ?_
  refine n_eqi (y := 0) hm.2.2.1 ?_
  refine lv_icmp_ge (tgt := 51) hx hb dX12_allLetters_12 (by decide) (fun _ => ?_) (fun h9 => absurd (by decide) h9)
  refine lv_iload_n hx hb dX12_allLetters_51 rfl (lv_at hl 1 rfl) ?_
  have hP9 := n_Psub (wc := [(y, .inr (13, [.ref mm, .ref msv, .int vS, .ref mpa, .int vC, .int vT, .int vF, .ref mio, .ref mfo, .int vL, .ref mre, .int vK, .ref mah, .int vR, .ref mrw, .ref mrr, .ref mrs, .ref mrb, .int v0, .int vZ, .int vB, .int vN, .ref mso, .ref mnu, .ref mse, .ref mbe, .ref men])), (mm, eI G 1191 fm)]) hP [0, 1] rfl
  have hD9 := hD.sub (ws' := [(y, .inr (13, [.ref mm, .ref msv, .int vS, .ref mpa, .int vC, .int vT, .int vF, .ref mio, .ref mfo, .int vL, .ref mre, .int vK, .ref mah, .int vR, .ref mrw, .ref mrr, .ref mrs, .ref mrb, .int v0, .int vZ, .int vB, .int vN, .ref mso, .ref mnu, .ref mse, .ref mbe, .ref men])), (mm, eI G 1191 fm)]) [0, 1] (by decide) rfl
  refine W.widen (k := 0) (n := 0) (Nat.le_of_ble_eq_true rfl) (Nat.le_of_ble_eq_true rfl) ?_
  exact W.iret (v := 0) hx hb hr (fun t ht hW => ⟨⟨0, (), rfl, rfl, by rw [ht]; exact hP9, va_K.moved hW.alike hK, hD9⟩, hS.F ht⟩) hS.2.2 dX12_allLetters_52

set_option maxHeartbeats 4000000 in
set_option maxRecDepth 100000 in
theorem mX12_alone (l : Launch) (G : nG) (y : Nat) (mm : Nat) (msv : Nat) (mpa : Nat) (mio : Nat) (mfo : Nat) (mre : Nat) (mah : Nat) (mrw : Nat) (mrr : Nat) (mrs : Nat) (mrb : Nat) (mso : Nat) (mnu : Nat) (mse : Nat) (mbe : Nat) (men : Nat) (vS : Int32) (vC : Int32) (vT : Int32) (vF : Int32) (vL : Int32) (vK : Int32) (vR : Int32) (v0 : Int32) (vZ : Int32) (vB : Int32) (vN : Int32) (fm : Nat → Int32) (sz : Nat) (hm : nMod fm) : Met l yX12_alone wsX12_alone ({ frames := 0, cells := 0, slots := 0, locals := 0 }) (va_Pc [.ref y] (n_pp G [(y, .inr (13, [.ref mm, .ref msv, .int vS, .ref mpa, .int vC, .int vT, .int vF, .ref mio, .ref mfo, .int vL, .ref mre, .int vK, .ref mah, .int vR, .ref mrw, .ref mrr, .ref mrs, .ref mrb, .int v0, .int vZ, .int vB, .int vN, .ref mso, .ref mnu, .ref mse, .ref mbe, .ref men])), (mm, eI G 1191 fm)] sz)) (va_Qi (fun (r : Int32) (_ : Unit) => r = 0) (fun (_ : Unit) (t : State) => n_po G (va_A [(y, .inr (13, [.ref mm, .ref msv, .int vS, .ref mpa, .int vC, .int vT, .int vF, .ref mio, .ref mfo, .int vL, .ref mre, .int vK, .ref mah, .int vR, .ref mrw, .ref mrr, .ref mrs, .ref mrb, .int v0, .int vZ, .int vB, .int vN, .ref mso, .ref mnu, .ref mse, .ref mbe, .ref men])), (mm, eI G 1191 fm)] sz) [(y, .inr (13, [.ref mm, .ref msv, .int vS, .ref mpa, .int vC, .int vT, .int vF, .ref mio, .ref mfo, .int vL, .ref mre, .int vK, .ref mah, .int vR, .ref mrw, .ref mrr, .ref mrs, .ref mrb, .int v0, .int vZ, .int vB, .int vN, .ref mso, .ref mnu, .ref mse, .ref mbe, .ref men])), (mm, eI G 1191 fm)] t) (va_A [(y, .inr (13, [.ref mm, .ref msv, .int vS, .ref mpa, .int vC, .int vT, .int vF, .ref mio, .ref mfo, .int vL, .ref mre, .int vK, .ref mah, .int vR, .ref mrw, .ref mrr, .ref mrs, .ref mrb, .int v0, .int vZ, .int vB, .int vN, .ref mso, .ref mnu, .ref mse, .ref mbe, .ref men])), (mm, eI G 1191 fm)] sz)) 0 0 (va_A [(y, .inr (13, [.ref mm, .ref msv, .int vS, .ref mpa, .int vC, .int vT, .int vF, .ref mio, .ref mfo, .int vL, .ref mre, .int vK, .ref mah, .int vR, .ref mrw, .ref mrr, .ref mrs, .ref mrb, .int v0, .int vZ, .int vB, .int vN, .ref mso, .ref mnu, .ref mse, .ref mbe, .ref men])), (mm, eI G 1191 fm)] sz) := by
  refine Met.ofW (cc := cX12_alone) (maxL := 3) (ret := (some .int)) (by decide) rfl ?_
  intro p e s m args below meth c s₁ B hml hv
  obtain ⟨rfl, hsz, hP, hK, hD0⟩ := hv
  have hx := B.exec
  have hb := B.bytes
  have hr := B.returns
  have hts := atoms_spec (ws := wsX12_alone) B.pre
  have hown : s.vm.findClass RX12 = some m.cls := findClass_of_methodNamed B.named
  have hlocks := B.notSynchronized
  subst hsz
  have hD := hD0.self (sz := s.heap.size)
  generalize hAe : va_A [(y, .inr (13, [.ref mm, .ref msv, .int vS, .ref mpa, .int vC, .int vT, .int vF, .ref mio, .ref mfo, .int vL, .ref mre, .int vK, .ref mah, .int vR, .ref mrw, .ref mrr, .ref mrs, .ref mrb, .int v0, .int vZ, .int vB, .int vN, .ref mso, .ref mnu, .ref mse, .ref mbe, .ref men])), (mm, eI G 1191 fm)] s.heap.size = A at hD ⊢
  have hA : ∀ q : Nat, s.heap.size ≤ q → A q := fun q h => by rw [← hAe]; exact Or.inr h
  have hS : va_S A s.heap s.heap [] := va_S.rf
  have hP : va_P G.1 vwCl [(y, .inr (13, [.ref mm, .ref msv, .int vS, .ref mpa, .int vC, .int vT, .int vF, .ref mio, .ref mfo, .int vL, .ref mre, .int vK, .ref mah, .int vR, .ref mrw, .ref mrr, .ref mrs, .ref mrb, .int v0, .int vZ, .int vB, .int vN, .ref mso, .ref mnu, .ref mse, .ref mbe, .ref men])), (mm, eI G 1191 fm)] s.heap := hP
  have hl := lv_entry ([.ref y]) (n := 3) (Nat.le_of_ble_eq_true rfl)
  rw [lg_entry_eq]
  generalize (lg_sl ([.ref y]) ++ List.replicate (3 - (lg_sl ([.ref y])).length) Slot.unset).toArray = ls at hl ⊢
  have hl : lv_has ls 3 [(0, .ref y)] := hl
  obtain ⟨H, hH⟩ : ∃ z, z = s.heap := ⟨_, rfl⟩
  have hS : va_S A s.heap H [] := by rw [hH]; exact hS
  have hP : va_P G.1 vwCl [(y, .inr (13, [.ref mm, .ref msv, .int vS, .ref mpa, .int vC, .int vT, .int vF, .ref mio, .ref mfo, .int vL, .ref mre, .int vK, .ref mah, .int vR, .ref mrw, .ref mrr, .ref mrs, .ref mrb, .int v0, .int vZ, .int vB, .int vN, .ref mso, .ref mnu, .ref mse, .ref mbe, .ref men])), (mm, eI G 1191 fm)] H := by rw [hH]; exact hP
  refine n_heap hH ?_
  generalize ([] : List Loc) = locs at hS ⊢
  have hiX12 : ∀ w ∈ u_ws RX12 TX12 27, w ∈ wsX12_alone := by decide +kernel
  refine lv_iconst (v := 0) hx hb dX12_alone_0 (by decide) ?_
  refine lv_istore_n (lv' := [(1, .int 0), (0, .ref y)]) hx hb dX12_alone_1 rfl hl (by decide) rfl (fun ls hl => ?_)
  refine lv_iconst (v := 0) hx hb dX12_alone_2 (by decide) ?_
  refine lv_istore_n (lv' := [(2, .int 0), (1, .int 0), (0, .ref y)]) hx hb dX12_alone_3 rfl hl (by decide) rfl (fun ls hl => ?_)
  refine lv_iload_n hx hb dX12_alone_4 rfl (lv_at hl 0 rfl) ?_
  refine lv_aload_n hx hb dX12_alone_5 rfl (lv_at hl 2 rfl) ?_
  refine va_get (D := G.1) (ci := 13) (v := .ref mm) (C := RX12) (T := TX12) (N := 27) hx hb hts hiX12 hown hK hP 0 rfl rfl 0 (by decide) (hts (.fieldLink RX12 9 "DialectDictionaryModel" "m" "[I") (by decide +kernel)) (fun _ h9 => h9) rfl dX12_alone_6 ?_
  refine lv_bipush (v := 37) hx hb dX12_alone_9 (by decide) ?_
  refine va_iald hx hb hK hP 1 0 rfl rfl (n_in (by decide)) dX12_alone_11 ?_
  refine n_eqi (y := 0) hm.2.2.1 ?_
  refine lv_icmp_ge (tgt := 45) hx hb dX12_alone_12 (by decide) (fun _ => ?_) (fun h9 => absurd (by decide) h9)
  refine lv_iload_n hx hb dX12_alone_45 rfl (lv_at hl 1 rfl) ?_
  have hP9 := n_Psub (wc := [(y, .inr (13, [.ref mm, .ref msv, .int vS, .ref mpa, .int vC, .int vT, .int vF, .ref mio, .ref mfo, .int vL, .ref mre, .int vK, .ref mah, .int vR, .ref mrw, .ref mrr, .ref mrs, .ref mrb, .int v0, .int vZ, .int vB, .int vN, .ref mso, .ref mnu, .ref mse, .ref mbe, .ref men])), (mm, eI G 1191 fm)]) hP [0, 1] rfl
  have hD9 := hD.sub (ws' := [(y, .inr (13, [.ref mm, .ref msv, .int vS, .ref mpa, .int vC, .int vT, .int vF, .ref mio, .ref mfo, .int vL, .ref mre, .int vK, .ref mah, .int vR, .ref mrw, .ref mrr, .ref mrs, .ref mrb, .int v0, .int vZ, .int vB, .int vN, .ref mso, .ref mnu, .ref mse, .ref mbe, .ref men])), (mm, eI G 1191 fm)]) [0, 1] (by decide) rfl
  refine W.widen (k := 0) (n := 0) (Nat.le_of_ble_eq_true rfl) (Nat.le_of_ble_eq_true rfl) ?_
  exact W.iret (v := 0) hx hb hr (fun t ht hW => ⟨⟨0, (), rfl, rfl, by rw [ht]; exact hP9, va_K.moved hW.alike hK, hD9⟩, hS.F ht⟩) hS.2.2 dX12_alone_46

set_option maxHeartbeats 4000000 in
set_option maxRecDepth 100000 in
theorem mX12_layResults (l : Launch) (G : nG) (y : Nat) (mm : Nat) (msv : Nat) (mpa : Nat) (mio : Nat) (mfo : Nat) (mre : Nat) (mah : Nat) (mrw : Nat) (mrr : Nat) (mrs : Nat) (mrb : Nat) (mso : Nat) (mnu : Nat) (mse : Nat) (mbe : Nat) (men : Nat) (vS : Int32) (vC : Int32) (vT : Int32) (vF : Int32) (vL : Int32) (vK : Int32) (vR : Int32) (v0 : Int32) (vZ : Int32) (vB : Int32) (vN : Int32) (fm : Nat → Int32) (sz : Nat) (hm : nMod fm) : Met l yX12_layResults wsX12_layResults ({ frames := 0, cells := 0, slots := 0, locals := 0 }) (va_Pc [.ref y] (n_pp G [(y, .inr (13, [.ref mm, .ref msv, .int vS, .ref mpa, .int vC, .int vT, .int vF, .ref mio, .ref mfo, .int vL, .ref mre, .int vK, .ref mah, .int vR, .ref mrw, .ref mrr, .ref mrs, .ref mrb, .int v0, .int vZ, .int vB, .int vN, .ref mso, .ref mnu, .ref mse, .ref mbe, .ref men])), (mm, eI G 1191 fm)] sz)) (va_Qv (fun (_ : Unit) => True) (fun (_ : Unit) (t : State) => n_po G (va_A [(y, .inr (13, [.ref mm, .ref msv, .int vS, .ref mpa, .int vC, .int vT, .int vF, .ref mio, .ref mfo, .int vL, .ref mre, .int vK, .ref mah, .int vR, .ref mrw, .ref mrr, .ref mrs, .ref mrb, .int v0, .int vZ, .int vB, .int vN, .ref mso, .ref mnu, .ref mse, .ref mbe, .ref men])), (mm, eI G 1191 fm)] sz) [(y, .inr (13, [.ref mm, .ref msv, .int vS, .ref mpa, .int vC, .int vT, .int vF, .ref mio, .ref mfo, .int vL, .ref mre, .int vK, .ref mah, .int vR, .ref mrw, .ref mrr, .ref mrs, .ref mrb, .int v0, .int vZ, .int vB, .int vN, .ref mso, .ref mnu, .ref mse, .ref mbe, .ref men])), (mm, eI G 1191 fm)] t) (va_A [(y, .inr (13, [.ref mm, .ref msv, .int vS, .ref mpa, .int vC, .int vT, .int vF, .ref mio, .ref mfo, .int vL, .ref mre, .int vK, .ref mah, .int vR, .ref mrw, .ref mrr, .ref mrs, .ref mrb, .int v0, .int vZ, .int vB, .int vN, .ref mso, .ref mnu, .ref mse, .ref mbe, .ref men])), (mm, eI G 1191 fm)] sz)) 0 0 (va_A [(y, .inr (13, [.ref mm, .ref msv, .int vS, .ref mpa, .int vC, .int vT, .int vF, .ref mio, .ref mfo, .int vL, .ref mre, .int vK, .ref mah, .int vR, .ref mrw, .ref mrr, .ref mrs, .ref mrb, .int v0, .int vZ, .int vB, .int vN, .ref mso, .ref mnu, .ref mse, .ref mbe, .ref men])), (mm, eI G 1191 fm)] sz) := by
  refine Met.ofW (cc := cX12_layResults) (maxL := 3) (ret := none) (by decide) rfl ?_
  intro p e s m args below meth c s₁ B hml hv
  obtain ⟨rfl, hsz, hP, hK, hD0⟩ := hv
  have hx := B.exec
  have hb := B.bytes
  have hr := B.returns
  have hts := atoms_spec (ws := wsX12_layResults) B.pre
  have hown : s.vm.findClass RX12 = some m.cls := findClass_of_methodNamed B.named
  have hlocks := B.notSynchronized
  subst hsz
  have hD := hD0.self (sz := s.heap.size)
  generalize hAe : va_A [(y, .inr (13, [.ref mm, .ref msv, .int vS, .ref mpa, .int vC, .int vT, .int vF, .ref mio, .ref mfo, .int vL, .ref mre, .int vK, .ref mah, .int vR, .ref mrw, .ref mrr, .ref mrs, .ref mrb, .int v0, .int vZ, .int vB, .int vN, .ref mso, .ref mnu, .ref mse, .ref mbe, .ref men])), (mm, eI G 1191 fm)] s.heap.size = A at hD ⊢
  have hA : ∀ q : Nat, s.heap.size ≤ q → A q := fun q h => by rw [← hAe]; exact Or.inr h
  have hS : va_S A s.heap s.heap [] := va_S.rf
  have hP : va_P G.1 vwCl [(y, .inr (13, [.ref mm, .ref msv, .int vS, .ref mpa, .int vC, .int vT, .int vF, .ref mio, .ref mfo, .int vL, .ref mre, .int vK, .ref mah, .int vR, .ref mrw, .ref mrr, .ref mrs, .ref mrb, .int v0, .int vZ, .int vB, .int vN, .ref mso, .ref mnu, .ref mse, .ref mbe, .ref men])), (mm, eI G 1191 fm)] s.heap := hP
  have hl := lv_entry ([.ref y]) (n := 3) (Nat.le_of_ble_eq_true rfl)
  rw [lg_entry_eq]
  generalize (lg_sl ([.ref y]) ++ List.replicate (3 - (lg_sl ([.ref y])).length) Slot.unset).toArray = ls at hl ⊢
  have hl : lv_has ls 3 [(0, .ref y)] := hl
  obtain ⟨H, hH⟩ : ∃ z, z = s.heap := ⟨_, rfl⟩
  have hS : va_S A s.heap H [] := by rw [hH]; exact hS
  have hP : va_P G.1 vwCl [(y, .inr (13, [.ref mm, .ref msv, .int vS, .ref mpa, .int vC, .int vT, .int vF, .ref mio, .ref mfo, .int vL, .ref mre, .int vK, .ref mah, .int vR, .ref mrw, .ref mrr, .ref mrs, .ref mrb, .int v0, .int vZ, .int vB, .int vN, .ref mso, .ref mnu, .ref mse, .ref mbe, .ref men])), (mm, eI G 1191 fm)] H := by rw [hH]; exact hP
  refine n_heap hH ?_
  generalize ([] : List Loc) = locs at hS ⊢
  have hiX12 : ∀ w ∈ u_ws RX12 TX12 27, w ∈ wsX12_layResults := by decide +kernel
  refine lv_iconst (v := 0) hx hb dX12_layResults_0 (by decide) ?_
  refine lv_istore_n (lv' := [(1, .int 0), (0, .ref y)]) hx hb dX12_layResults_1 rfl hl (by decide) rfl (fun ls hl => ?_)
  refine lv_iload_n hx hb dX12_layResults_2 rfl (lv_at hl 0 rfl) ?_
  refine lv_aload_n hx hb dX12_layResults_3 rfl (lv_at hl 1 rfl) ?_
  refine va_get (D := G.1) (ci := 13) (v := .ref mm) (C := RX12) (T := TX12) (N := 27) hx hb hts hiX12 hown hK hP 0 rfl rfl 0 (by decide) (hts (.fieldLink RX12 9 "DialectDictionaryModel" "m" "[I") (by decide +kernel)) (fun _ h9 => h9) rfl dX12_layResults_4 ?_
  refine lv_bipush (v := 37) hx hb dX12_layResults_7 (by decide) ?_
  refine va_iald hx hb hK hP 1 0 rfl rfl (n_in (by decide)) dX12_layResults_9 ?_
  refine n_eqi (y := 0) hm.2.2.1 ?_
  refine lv_icmp_ge (tgt := 78) hx hb dX12_layResults_10 (by decide) (fun _ => ?_) (fun h9 => absurd (by decide) h9)
  have hP9 := n_Psub (wc := [(y, .inr (13, [.ref mm, .ref msv, .int vS, .ref mpa, .int vC, .int vT, .int vF, .ref mio, .ref mfo, .int vL, .ref mre, .int vK, .ref mah, .int vR, .ref mrw, .ref mrr, .ref mrs, .ref mrb, .int v0, .int vZ, .int vB, .int vN, .ref mso, .ref mnu, .ref mse, .ref mbe, .ref men])), (mm, eI G 1191 fm)]) hP [0, 1] rfl
  have hD9 := hD.sub (ws' := [(y, .inr (13, [.ref mm, .ref msv, .int vS, .ref mpa, .int vC, .int vT, .int vF, .ref mio, .ref mfo, .int vL, .ref mre, .int vK, .ref mah, .int vR, .ref mrw, .ref mrr, .ref mrs, .ref mrb, .int v0, .int vZ, .int vB, .int vN, .ref mso, .ref mnu, .ref mse, .ref mbe, .ref men])), (mm, eI G 1191 fm)]) [0, 1] (by decide) rfl
  refine W.widen (k := 0) (n := 0) (Nat.le_of_ble_eq_true rfl) (Nat.le_of_ble_eq_true rfl) ?_
  exact W.vret hx hb hr (fun t ht hW => ⟨⟨(), rfl, trivial, by rw [ht]; exact hP9, va_K.moved hW.alike hK, hD9⟩, hS.F ht⟩) hS.2.2 dX12_layResults_78

set_option maxHeartbeats 4000000 in
set_option maxRecDepth 100000 in
theorem mX12_results (l : Launch) (G : nG) (y : Nat) (mm : Nat) (msv : Nat) (mpa : Nat) (mio : Nat) (mfo : Nat) (mre : Nat) (mah : Nat) (mrw : Nat) (mrr : Nat) (mrs : Nat) (mrb : Nat) (mso : Nat) (mnu : Nat) (mse : Nat) (mbe : Nat) (men : Nat) (vS : Int32) (vC : Int32) (vT : Int32) (vF : Int32) (vL : Int32) (vK : Int32) (vR : Int32) (v0 : Int32) (vZ : Int32) (vB : Int32) (vN : Int32) (fm : Nat → Int32) (sz : Nat) (hm : nMod fm) : Met l yX12_results wsX12_results ({ frames := 1, cells := 0, slots := 0, locals := 22 }) (va_Pc [.ref y] (n_pp G [(y, .inr (13, [.ref mm, .ref msv, .int vS, .ref mpa, .int vC, .int vT, .int vF, .ref mio, .ref mfo, .int vL, .ref mre, .int vK, .ref mah, .int vR, .ref mrw, .ref mrr, .ref mrs, .ref mrb, .int v0, .int vZ, .int vB, .int vN, .ref mso, .ref mnu, .ref mse, .ref mbe, .ref men])), (mm, eI G 1191 fm)] sz)) (va_Qi (fun (r : Int32) (_ : Unit) => r = 0) (fun (_ : Unit) (t : State) => n_po G (va_A [(y, .inr (13, [.ref mm, .ref msv, .int vS, .ref mpa, .int vC, .int vT, .int vF, .ref mio, .ref mfo, .int vL, .ref mre, .int vK, .ref mah, .int vR, .ref mrw, .ref mrr, .ref mrs, .ref mrb, .int v0, .int vZ, .int vB, .int vN, .ref mso, .ref mnu, .ref mse, .ref mbe, .ref men])), (mm, eI G 1191 fm)] sz) [(y, .inr (13, [.ref mm, .ref msv, .int vS, .ref mpa, .int vC, .int vT, .int vF, .ref mio, .ref mfo, .int vL, .ref mre, .int vK, .ref mah, .int vR, .ref mrw, .ref mrr, .ref mrs, .ref mrb, .int v0, .int vZ, .int vB, .int vN, .ref mso, .ref mnu, .ref mse, .ref mbe, .ref men])), (mm, eI G 1191 fm)] t) (va_A [(y, .inr (13, [.ref mm, .ref msv, .int vS, .ref mpa, .int vC, .int vT, .int vF, .ref mio, .ref mfo, .int vL, .ref mre, .int vK, .ref mah, .int vR, .ref mrw, .ref mrr, .ref mrs, .ref mrb, .int v0, .int vZ, .int vB, .int vN, .ref mso, .ref mnu, .ref mse, .ref mbe, .ref men])), (mm, eI G 1191 fm)] sz)) 0 0 (va_A [(y, .inr (13, [.ref mm, .ref msv, .int vS, .ref mpa, .int vC, .int vT, .int vF, .ref mio, .ref mfo, .int vL, .ref mre, .int vK, .ref mah, .int vR, .ref mrw, .ref mrr, .ref mrs, .ref mrb, .int v0, .int vZ, .int vB, .int vN, .ref mso, .ref mnu, .ref mse, .ref mbe, .ref men])), (mm, eI G 1191 fm)] sz) := by
  refine Met.ofW (cc := cX12_results) (maxL := 5) (ret := (some .int)) (by decide) rfl ?_
  intro p e s m args below meth c s₁ B hml hv
  obtain ⟨rfl, hsz, hP, hK, hD0⟩ := hv
  have hx := B.exec
  have hb := B.bytes
  have hr := B.returns
  have hts := atoms_spec (ws := wsX12_results) B.pre
  have hown : s.vm.findClass RX12 = some m.cls := findClass_of_methodNamed B.named
  have hlocks := B.notSynchronized
  subst hsz
  have hD := hD0.self (sz := s.heap.size)
  generalize hAe : va_A [(y, .inr (13, [.ref mm, .ref msv, .int vS, .ref mpa, .int vC, .int vT, .int vF, .ref mio, .ref mfo, .int vL, .ref mre, .int vK, .ref mah, .int vR, .ref mrw, .ref mrr, .ref mrs, .ref mrb, .int v0, .int vZ, .int vB, .int vN, .ref mso, .ref mnu, .ref mse, .ref mbe, .ref men])), (mm, eI G 1191 fm)] s.heap.size = A at hD ⊢
  have hA : ∀ q : Nat, s.heap.size ≤ q → A q := fun q h => by rw [← hAe]; exact Or.inr h
  have hS : va_S A s.heap s.heap [] := va_S.rf
  have hP : va_P G.1 vwCl [(y, .inr (13, [.ref mm, .ref msv, .int vS, .ref mpa, .int vC, .int vT, .int vF, .ref mio, .ref mfo, .int vL, .ref mre, .int vK, .ref mah, .int vR, .ref mrw, .ref mrr, .ref mrs, .ref mrb, .int v0, .int vZ, .int vB, .int vN, .ref mso, .ref mnu, .ref mse, .ref mbe, .ref men])), (mm, eI G 1191 fm)] s.heap := hP
  have hl := lv_entry ([.ref y]) (n := 5) (Nat.le_of_ble_eq_true rfl)
  rw [lg_entry_eq]
  generalize (lg_sl ([.ref y]) ++ List.replicate (5 - (lg_sl ([.ref y])).length) Slot.unset).toArray = ls at hl ⊢
  have hl : lv_has ls 5 [(0, .ref y)] := hl
  obtain ⟨H, hH⟩ : ∃ z, z = s.heap := ⟨_, rfl⟩
  have hS : va_S A s.heap H [] := by rw [hH]; exact hS
  have hP : va_P G.1 vwCl [(y, .inr (13, [.ref mm, .ref msv, .int vS, .ref mpa, .int vC, .int vT, .int vF, .ref mio, .ref mfo, .int vL, .ref mre, .int vK, .ref mah, .int vR, .ref mrw, .ref mrr, .ref mrs, .ref mrb, .int v0, .int vZ, .int vB, .int vN, .ref mso, .ref mnu, .ref mse, .ref mbe, .ref men])), (mm, eI G 1191 fm)] H := by rw [hH]; exact hP
  refine n_heap hH ?_
  generalize ([] : List Loc) = locs at hS ⊢
  have hiX12 : ∀ w ∈ u_ws RX12 TX12 27, w ∈ wsX12_results := by decide +kernel
  refine lv_aload_n hx hb dX12_results_0 rfl (lv_at hl 0 rfl) ?_
  refine n_cv (wr := []) (va_runV (As := []) (rest := []) ⟨hx, hb, hml, hown, hts⟩ (mX12_layResults l G y mm msv mpa mio mfo mre mah mrw mrr mrs mrb mso mnu mse mbe men vS vC vT vF vL vK vR v0 vZ vB vN fm H.size hm) (cwV 0 hts gX12_results_X12_layResults rfl rfl rfl (by decide +kernel) ⟨(Nat.le_of_ble_eq_true rfl), (Nat.le_of_ble_eq_true rfl)⟩) (n_prV (ci := 13) (q0 := 0) hK hP hD [0, 1] rfl (by decide) rfl rfl) rfl rfl hl.1 rfl (lv_room (Nat.le_of_ble_eq_true rfl)) dX12_results_1 ⟨(Nat.le_of_ble_eq_true rfl), (Nat.le_of_ble_eq_true rfl)⟩) hP hD hS hA [0, 1] [] rfl rfl (by decide) (by decide) (fun u_1 H locs hP hD hS hw => ?_)
  have hP : va_P G.1 vwCl [(y, .inr (13, [.ref mm, .ref msv, .int vS, .ref mpa, .int vC, .int vT, .int vF, .ref mio, .ref mfo, .int vL, .ref mre, .int vK, .ref mah, .int vR, .ref mrw, .ref mrr, .ref mrs, .ref mrb, .int v0, .int vZ, .int vB, .int vN, .ref mso, .ref mnu, .ref mse, .ref mbe, .ref men])), (mm, eI G 1191 fm)] H := hP
  have hD : va_D A [(y, .inr (13, [.ref mm, .ref msv, .int vS, .ref mpa, .int vC, .int vT, .int vF, .ref mio, .ref mfo, .int vL, .ref mre, .int vK, .ref mah, .int vR, .ref mrw, .ref mrr, .ref mrs, .ref mrb, .int v0, .int vZ, .int vB, .int vN, .ref mso, .ref mnu, .ref mse, .ref mbe, .ref men])), (mm, eI G 1191 fm)] := hD
  refine lv_iconst (v := 0) hx hb dX12_results_4 (by decide) ?_
  refine lv_istore_n (lv' := [(1, .int 0), (0, .ref y)]) hx hb dX12_results_5 rfl hl (by decide) rfl (fun ls hl => ?_)
  refine lv_iconst (v := 0) hx hb dX12_results_6 (by decide) ?_
  refine lv_istore_n (lv' := [(2, .int 0), (1, .int 0), (0, .ref y)]) hx hb dX12_results_7 rfl hl (by decide) rfl (fun ls hl => ?_)
  refine lv_iload_n hx hb dX12_results_8 rfl (lv_at hl 0 rfl) ?_
  refine lv_aload_n hx hb dX12_results_9 rfl (lv_at hl 2 rfl) ?_
  refine va_get (D := G.1) (ci := 13) (v := .ref mm) (C := RX12) (T := TX12) (N := 27) hx hb hts hiX12 hown hK hP 0 rfl rfl 0 (by decide) (hts (.fieldLink RX12 9 "DialectDictionaryModel" "m" "[I") (by decide +kernel)) (fun _ h9 => h9) rfl dX12_results_10 ?_
  refine lv_bipush (v := 37) hx hb dX12_results_13 (by decide) ?_
  refine va_iald hx hb hK hP 1 0 rfl rfl (n_in (by decide)) dX12_results_15 ?_
  refine n_eqi (y := 0) hm.2.2.1 ?_
  refine lv_icmp_ge (tgt := 85) hx hb dX12_results_16 (by decide) (fun _ => ?_) (fun h9 => absurd (by decide) h9)
  refine lv_iload_n hx hb dX12_results_85 rfl (lv_at hl 1 rfl) ?_
  have hP9 := n_Psub (wc := [(y, .inr (13, [.ref mm, .ref msv, .int vS, .ref mpa, .int vC, .int vT, .int vF, .ref mio, .ref mfo, .int vL, .ref mre, .int vK, .ref mah, .int vR, .ref mrw, .ref mrr, .ref mrs, .ref mrb, .int v0, .int vZ, .int vB, .int vN, .ref mso, .ref mnu, .ref mse, .ref mbe, .ref men])), (mm, eI G 1191 fm)]) hP [0, 1] rfl
  have hD9 := hD.sub (ws' := [(y, .inr (13, [.ref mm, .ref msv, .int vS, .ref mpa, .int vC, .int vT, .int vF, .ref mio, .ref mfo, .int vL, .ref mre, .int vK, .ref mah, .int vR, .ref mrw, .ref mrr, .ref mrs, .ref mrb, .int v0, .int vZ, .int vB, .int vN, .ref mso, .ref mnu, .ref mse, .ref mbe, .ref men])), (mm, eI G 1191 fm)]) [0, 1] (by decide) rfl
  refine W.widen (k := 0) (n := 0) (Nat.le_of_ble_eq_true rfl) (Nat.le_of_ble_eq_true rfl) ?_
  exact W.iret (v := 0) hx hb hr (fun t ht hW => ⟨⟨0, (), rfl, rfl, by rw [ht]; exact hP9, va_K.moved hW.alike hK, hD9⟩, hS.F ht⟩) hS.2.2 dX12_results_86

set_option maxHeartbeats 4000000 in
set_option maxRecDepth 100000 in
theorem mX12_keepRow (l : Launch) (G : nG) (y : Nat) (mm : Nat) (msv : Nat) (mpa : Nat) (mio : Nat) (mfo : Nat) (mre : Nat) (mah : Nat) (mrw : Nat) (mrr : Nat) (mrs : Nat) (mrb : Nat) (mso : Nat) (mnu : Nat) (mse : Nat) (mbe : Nat) (men : Nat) (vS : Int32) (vT : Int32) (vF : Int32) (vL : Int32) (vK : Int32) (vR : Int32) (v0 : Int32) (vZ : Int32) (vB : Int32) (vN : Int32) (fp : Nat → Int32) (rw : Nat) (fw : Nat → Int32) (sz : Nat) : Met l yX12_keepRow wsX12_keepRow ({ frames := 0, cells := 0, slots := 0, locals := 0 }) (va_Pc [.ref y, .ref rw] (n_pp G [(y, .inr (13, [.ref mm, .ref msv, .int vS, .ref mpa, .int 0, .int vT, .int vF, .ref mio, .ref mfo, .int vL, .ref mre, .int vK, .ref mah, .int vR, .ref mrw, .ref mrr, .ref mrs, .ref mrb, .int v0, .int vZ, .int vB, .int vN, .ref mso, .ref mnu, .ref mse, .ref mbe, .ref men])), (mpa, eI G 9528 fp), (rw, eI G 1191 fw)] sz)) (va_Qv (fun (_ : Unit) => True) (fun (_ : Unit) (t : State) => n_po G (va_A [(y, .inr (13, [.ref mm, .ref msv, .int vS, .ref mpa, .int 0, .int vT, .int vF, .ref mio, .ref mfo, .int vL, .ref mre, .int vK, .ref mah, .int vR, .ref mrw, .ref mrr, .ref mrs, .ref mrb, .int v0, .int vZ, .int vB, .int vN, .ref mso, .ref mnu, .ref mse, .ref mbe, .ref men])), (mpa, eI G 9528 fp), (rw, eI G 1191 fw)] sz) [(y, .inr (13, [.ref mm, .ref msv, .int vS, .ref mpa, .int 1, .int vT, .int vF, .ref mio, .ref mfo, .int vL, .ref mre, .int vK, .ref mah, .int vR, .ref mrw, .ref mrr, .ref mrs, .ref mrb, .int v0, .int vZ, .int vB, .int vN, .ref mso, .ref mnu, .ref mse, .ref mbe, .ref men])), (rw, eI G 1191 fw)] t) (va_A [(y, .inr (13, [.ref mm, .ref msv, .int vS, .ref mpa, .int 0, .int vT, .int vF, .ref mio, .ref mfo, .int vL, .ref mre, .int vK, .ref mah, .int vR, .ref mrw, .ref mrr, .ref mrs, .ref mrb, .int v0, .int vZ, .int vB, .int vN, .ref mso, .ref mnu, .ref mse, .ref mbe, .ref men])), (mpa, eI G 9528 fp), (rw, eI G 1191 fw)] sz)) 0 0 (va_A [(y, .inr (13, [.ref mm, .ref msv, .int vS, .ref mpa, .int 0, .int vT, .int vF, .ref mio, .ref mfo, .int vL, .ref mre, .int vK, .ref mah, .int vR, .ref mrw, .ref mrr, .ref mrs, .ref mrb, .int v0, .int vZ, .int vB, .int vN, .ref mso, .ref mnu, .ref mse, .ref mbe, .ref men])), (mpa, eI G 9528 fp), (rw, eI G 1191 fw)] sz) := by
  refine Met.ofW (cc := cX12_keepRow) (maxL := 3) (ret := none) (by decide) rfl ?_
  intro p e s m args below meth c s₁ B hml hv
  obtain ⟨rfl, hsz, hP, hK, hD0⟩ := hv
  have hx := B.exec
  have hb := B.bytes
  have hr := B.returns
  have hts := atoms_spec (ws := wsX12_keepRow) B.pre
  have hown : s.vm.findClass RX12 = some m.cls := findClass_of_methodNamed B.named
  have hlocks := B.notSynchronized
  subst hsz
  have hD := hD0.self (sz := s.heap.size)
  generalize hAe : va_A [(y, .inr (13, [.ref mm, .ref msv, .int vS, .ref mpa, .int 0, .int vT, .int vF, .ref mio, .ref mfo, .int vL, .ref mre, .int vK, .ref mah, .int vR, .ref mrw, .ref mrr, .ref mrs, .ref mrb, .int v0, .int vZ, .int vB, .int vN, .ref mso, .ref mnu, .ref mse, .ref mbe, .ref men])), (mpa, eI G 9528 fp), (rw, eI G 1191 fw)] s.heap.size = A at hD ⊢
  have hA : ∀ q : Nat, s.heap.size ≤ q → A q := fun q h => by rw [← hAe]; exact Or.inr h
  have hS : va_S A s.heap s.heap [] := va_S.rf
  have hP : va_P G.1 vwCl [(y, .inr (13, [.ref mm, .ref msv, .int vS, .ref mpa, .int 0, .int vT, .int vF, .ref mio, .ref mfo, .int vL, .ref mre, .int vK, .ref mah, .int vR, .ref mrw, .ref mrr, .ref mrs, .ref mrb, .int v0, .int vZ, .int vB, .int vN, .ref mso, .ref mnu, .ref mse, .ref mbe, .ref men])), (mpa, eI G 9528 fp), (rw, eI G 1191 fw)] s.heap := hP
  have hl := lv_entry ([.ref y, .ref rw]) (n := 3) (Nat.le_of_ble_eq_true rfl)
  rw [lg_entry_eq]
  generalize (lg_sl ([.ref y, .ref rw]) ++ List.replicate (3 - (lg_sl ([.ref y, .ref rw])).length) Slot.unset).toArray = ls at hl ⊢
  have hl : lv_has ls 3 [(0, .ref y), (1, .ref rw)] := hl
  obtain ⟨H, hH⟩ : ∃ z, z = s.heap := ⟨_, rfl⟩
  have hS : va_S A s.heap H [] := by rw [hH]; exact hS
  have hP : va_P G.1 vwCl [(y, .inr (13, [.ref mm, .ref msv, .int vS, .ref mpa, .int 0, .int vT, .int vF, .ref mio, .ref mfo, .int vL, .ref mre, .int vK, .ref mah, .int vR, .ref mrw, .ref mrr, .ref mrs, .ref mrb, .int v0, .int vZ, .int vB, .int vN, .ref mso, .ref mnu, .ref mse, .ref mbe, .ref men])), (mpa, eI G 9528 fp), (rw, eI G 1191 fw)] H := by rw [hH]; exact hP
  refine n_heap hH ?_
  generalize ([] : List Loc) = locs at hS ⊢
  have hiX12 : ∀ w ∈ u_ws RX12 TX12 27, w ∈ wsX12_keepRow := by decide +kernel
  refine lv_aload_n hx hb dX12_keepRow_0 rfl (lv_at hl 0 rfl) ?_
  refine va_get (D := G.1) (ci := 13) (v := .int 0) (C := RX12) (T := TX12) (N := 27) hx hb hts hiX12 hown hK hP 0 rfl rfl 4 (by decide) (hts (.fieldLink RX12 65 "DialectDictionaryModel" "changes" "I") (by decide +kernel)) (fun _ h9 => h9) rfl dX12_keepRow_1 ?_
  refine lv_bipush (v := 8) hx hb dX12_keepRow_4 (by decide) ?_
  refine lv_icmp_ne (tgt := 50) hx hb dX12_keepRow_6 (by decide) (fun _ => ?_) (fun h9 => absurd h9 (by decide))
  refine lv_iconst (v := 0) hx hb dX12_keepRow_50 (by decide) ?_
  refine lv_istore_n (lv' := [(2, .int 0), (0, .ref y), (1, .ref rw)]) hx hb dX12_keepRow_51 rfl hl (by decide) rfl (fun ls hl => ?_)
  have key : ∀ (n i : Nat), i + n = 1191 → ∀ (f9 : Nat → Int32) (H : Heap) (locs : List Loc) (ls : Array Slot), va_P G.1 vwCl [(y, .inr (13, [.ref mm, .ref msv, .int vS, .ref mpa, .int 0, .int vT, .int vF, .ref mio, .ref mfo, .int vL, .ref mre, .int vK, .ref mah, .int vR, .ref mrw, .ref mrr, .ref mrs, .ref mrb, .int v0, .int vZ, .int vB, .int vN, .ref mso, .ref mnu, .ref mse, .ref mbe, .ref men])), (mpa, eI G 9528 f9), (rw, eI G 1191 fw)] H → va_D A [(y, .inr (13, [.ref mm, .ref msv, .int vS, .ref mpa, .int 0, .int vT, .int vF, .ref mio, .ref mfo, .int vL, .ref mre, .int vK, .ref mah, .int vR, .ref mrw, .ref mrr, .ref mrs, .ref mrb, .int v0, .int vZ, .int vB, .int vN, .ref mso, .ref mnu, .ref mse, .ref mbe, .ref men])), (mpa, eI G 9528 f9), (rw, eI G 1191 fw)] → va_S A s.heap H locs → lv_has ls 3 [(2, .int (nI i)), (0, .ref y), (1, .ref rw)] → W p l e (headSpec wsX12_keepRow ({ frames := 0, cells := 0, slots := 0, locals := 0 })).room s m (([.ref y, .ref rw] : List Value).toArray) below meth c H locs 0 0 (MQ below (va_Qv (fun (_ : Unit) => True) (fun (_ : Unit) (t : State) => n_po G A [(y, .inr (13, [.ref mm, .ref msv, .int vS, .ref mpa, .int 1, .int vT, .int vF, .ref mio, .ref mfo, .int vL, .ref mre, .int vK, .ref mah, .int vR, .ref mrw, .ref mrr, .ref mrs, .ref mrb, .int v0, .int vZ, .int vB, .int vN, .ref mso, .ref mnu, .ref mse, .ref mbe, .ref men])), (rw, eI G 1191 fw)] t) A) (([.ref y, .ref rw] : List Value).toArray) s 0 0 A) (F0 m 52 ls []) := by
    intro n
    induction n with
    | zero =>
      intro i hi f9 H locs ls hP hD hS hl
      obtain rfl : i = 1191 := by omega
      refine lv_iload_n hx hb dX12_keepRow_52 rfl (lv_at hl 0 rfl) ?_
      refine lv_sipush (v := 1191) hx hb dX12_keepRow_53 (by decide) ?_
      refine lv_icmp_ge (tgt := 83) hx hb dX12_keepRow_56 (by decide) (fun _ => ?_) (fun h9 => absurd (by decide) h9)
      refine lv_aload_n hx hb dX12_keepRow_83 rfl (lv_at hl 1 rfl) ?_
      refine lv_dup hx hb dX12_keepRow_84 rfl ?_
      refine va_get (D := G.1) (ci := 13) (v := .int 0) (C := RX12) (T := TX12) (N := 27) hx hb hts hiX12 hown hK hP 0 rfl rfl 4 (by decide) (hts (.fieldLink RX12 65 "DialectDictionaryModel" "changes" "I") (by decide +kernel)) (fun _ h9 => h9) rfl dX12_keepRow_85 ?_
      refine lv_iconst (v := 1) hx hb dX12_keepRow_88 (by decide) ?_
      refine lv_iadd hx hb dX12_keepRow_89 ?_
      refine n_eqi (y := 1) (by decide) ?_
      refine va_put (D := G.1) (ci := 13) (v := .int 1) (ty := .int) (C := RX12) (T := TX12) (N := 27) hx hb hts hiX12 tyX12 tyX12_ok nmX12 hown hK hP hD hS 0 rfl rfl 4 (by decide) (hts (.fieldLink RX12 65 "DialectDictionaryModel" "changes" "I") (by decide +kernel)) (fun _ h9 => h9) rfl (by decide +kernel) rfl rfl (Nat.le_of_ble_eq_true rfl) dX12_keepRow_90 (fun H locs hP hD hS => ?_)
      have hP : va_P G.1 vwCl [(y, .inr (13, [.ref mm, .ref msv, .int vS, .ref mpa, .int 1, .int vT, .int vF, .ref mio, .ref mfo, .int vL, .ref mre, .int vK, .ref mah, .int vR, .ref mrw, .ref mrr, .ref mrs, .ref mrb, .int v0, .int vZ, .int vB, .int vN, .ref mso, .ref mnu, .ref mse, .ref mbe, .ref men])), (mpa, eI G 9528 f9), (rw, eI G 1191 fw)] H := hP
      have hD : va_D A [(y, .inr (13, [.ref mm, .ref msv, .int vS, .ref mpa, .int 1, .int vT, .int vF, .ref mio, .ref mfo, .int vL, .ref mre, .int vK, .ref mah, .int vR, .ref mrw, .ref mrr, .ref mrs, .ref mrb, .int v0, .int vZ, .int vB, .int vN, .ref mso, .ref mnu, .ref mse, .ref mbe, .ref men])), (mpa, eI G 9528 f9), (rw, eI G 1191 fw)] := hD
      have hP9 := n_Psub (wc := [(y, .inr (13, [.ref mm, .ref msv, .int vS, .ref mpa, .int 1, .int vT, .int vF, .ref mio, .ref mfo, .int vL, .ref mre, .int vK, .ref mah, .int vR, .ref mrw, .ref mrr, .ref mrs, .ref mrb, .int v0, .int vZ, .int vB, .int vN, .ref mso, .ref mnu, .ref mse, .ref mbe, .ref men])), (rw, eI G 1191 fw)]) hP [0, 2] rfl
      have hD9 := hD.sub (ws' := [(y, .inr (13, [.ref mm, .ref msv, .int vS, .ref mpa, .int 1, .int vT, .int vF, .ref mio, .ref mfo, .int vL, .ref mre, .int vK, .ref mah, .int vR, .ref mrw, .ref mrr, .ref mrs, .ref mrb, .int v0, .int vZ, .int vB, .int vN, .ref mso, .ref mnu, .ref mse, .ref mbe, .ref men])), (rw, eI G 1191 fw)]) [0, 2] (by decide) rfl
      refine W.widen (k := 0) (n := 0) (Nat.le_of_ble_eq_true rfl) (Nat.le_of_ble_eq_true rfl) ?_
      exact W.vret hx hb hr (fun t ht hW => ⟨⟨(), rfl, trivial, by rw [ht]; exact hP9, va_K.moved hW.alike hK, hD9⟩, hS.F ht⟩) hS.2.2 dX12_keepRow_93
    | succ n ih =>
      intro i hi f9 H locs ls hP hD hS hl
      refine lv_iload_n hx hb dX12_keepRow_52 rfl (lv_at hl 0 rfl) ?_
      refine lv_sipush (v := 1191) hx hb dX12_keepRow_53 (by decide) ?_
      refine lv_icmp_ge (tgt := 83) hx hb dX12_keepRow_56 (by decide) (fun h9 => absurd h9 (nI_ge (b := 1191) (by omega) (by decide))) (fun _ => ?_)
      refine lv_aload_n hx hb dX12_keepRow_59 rfl (lv_at hl 1 rfl) ?_
      refine va_get (D := G.1) (ci := 13) (v := .ref mpa) (C := RX12) (T := TX12) (N := 27) hx hb hts hiX12 hown hK hP 0 rfl rfl 3 (by decide) (hts (.fieldLink RX12 16 "DialectDictionaryModel" "past" "[I") (by decide +kernel)) (fun _ h9 => h9) rfl dX12_keepRow_60 ?_
      refine lv_sipush (v := 1191) hx hb dX12_keepRow_63 (by decide) ?_
      refine lv_aload_n hx hb dX12_keepRow_66 rfl (lv_at hl 1 rfl) ?_
      refine va_get (D := G.1) (ci := 13) (v := .int 0) (C := RX12) (T := TX12) (N := 27) hx hb hts hiX12 hown hK hP 0 rfl rfl 4 (by decide) (hts (.fieldLink RX12 65 "DialectDictionaryModel" "changes" "I") (by decide +kernel)) (fun _ h9 => h9) rfl dX12_keepRow_67 ?_
      refine lv_imul hx hb dX12_keepRow_70 ?_
      refine n_eqi (y := 0) (by decide) ?_
      refine lv_iload_n hx hb dX12_keepRow_71 rfl (lv_at hl 0 rfl) ?_
      refine lv_iadd hx hb dX12_keepRow_72 ?_
      refine n_eqi (y := (nI (0 + i))) (nI_add 0 i) ?_
      refine lv_aload_n hx hb dX12_keepRow_73 rfl (lv_at hl 2 rfl) ?_
      refine lv_iload_n hx hb dX12_keepRow_74 rfl (lv_at hl 0 rfl) ?_
      refine va_iald hx hb hK hP 2 0 rfl rfl (vp_in_nI (n := i) (by omega) (by omega)) dX12_keepRow_75 ?_
      refine va_iast hx hb hK hP hD hS 1 0 rfl rfl (vp_in_nI (n := (0 + i)) (by omega) (by omega)) dX12_keepRow_76 (fun H locs hP hD hS => ?_)
      have hP : va_P G.1 vwCl [(y, .inr (13, [.ref mm, .ref msv, .int vS, .ref mpa, .int 0, .int vT, .int vF, .ref mio, .ref mfo, .int vL, .ref mre, .int vK, .ref mah, .int vR, .ref mrw, .ref mrr, .ref mrs, .ref mrb, .int v0, .int vZ, .int vB, .int vN, .ref mso, .ref mnu, .ref mse, .ref mbe, .ref men])), (mpa, eI G 9528 (upd f9 (((nI (0 + i)) : Int32).toNatClampNeg) (fw (((nI i) : Int32).toNatClampNeg)))), (rw, eI G 1191 fw)] H := hP
      have hD : va_D A [(y, .inr (13, [.ref mm, .ref msv, .int vS, .ref mpa, .int 0, .int vT, .int vF, .ref mio, .ref mfo, .int vL, .ref mre, .int vK, .ref mah, .int vR, .ref mrw, .ref mrr, .ref mrs, .ref mrb, .int v0, .int vZ, .int vB, .int vN, .ref mso, .ref mnu, .ref mse, .ref mbe, .ref men])), (mpa, eI G 9528 (upd f9 (((nI (0 + i)) : Int32).toNatClampNeg) (fw (((nI i) : Int32).toNatClampNeg)))), (rw, eI G 1191 fw)] := hD
      refine lv_iinc (v := (nI (i + 1))) (lv' := [(2, .int (nI (i + 1))), (0, .ref y), (1, .ref rw)]) hx hb dX12_keepRow_77 hl (k := 0) rfl (nI_1 i) (by decide) rfl (fun ls hl => ?_)
      refine lv_goto (tgt := 52) hx hb dX12_keepRow_80 (by decide) ?_
      exact ih (i + 1) (by omega) _ H locs ls hP hD hS (lv_sub hl [0, 1, 2] rfl)
  exact key 1191 0 rfl _ H locs ls hP hD hS (lv_sub hl [0, 1, 2] rfl)

set_option maxHeartbeats 4000000 in
set_option maxRecDepth 100000 in
theorem mX12_layAhead (l : Launch) (G : nG) (y : Nat) (mm : Nat) (msv : Nat) (mpa : Nat) (mio : Nat) (mfo : Nat) (mre : Nat) (mah : Nat) (mrw : Nat) (mrr : Nat) (mrs : Nat) (mrb : Nat) (mso : Nat) (mnu : Nat) (mse : Nat) (mbe : Nat) (men : Nat) (vS : Int32) (vC : Int32) (vT : Int32) (vF : Int32) (vL : Int32) (vK : Int32) (vR : Int32) (v0 : Int32) (vZ : Int32) (vB : Int32) (vN : Int32) (fm : Nat → Int32) (fa : Nat → Int32) (sz : Nat) : Met l yX12_layAhead wsX12_layAhead ({ frames := 0, cells := 0, slots := 0, locals := 0 }) (va_Pc [.ref y] (n_pp G [(y, .inr (13, [.ref mm, .ref msv, .int vS, .ref mpa, .int vC, .int vT, .int vF, .ref mio, .ref mfo, .int vL, .ref mre, .int vK, .ref mah, .int vR, .ref mrw, .ref mrr, .ref mrs, .ref mrb, .int v0, .int vZ, .int vB, .int vN, .ref mso, .ref mnu, .ref mse, .ref mbe, .ref men])), (mm, eI G 1191 fm), (mah, eI G 1191 fa)] sz)) (va_Qv (fun (_ : Unit) => True) (fun (_ : Unit) (t : State) => n_po G (va_A [(y, .inr (13, [.ref mm, .ref msv, .int vS, .ref mpa, .int vC, .int vT, .int vF, .ref mio, .ref mfo, .int vL, .ref mre, .int vK, .ref mah, .int vR, .ref mrw, .ref mrr, .ref mrs, .ref mrb, .int v0, .int vZ, .int vB, .int vN, .ref mso, .ref mnu, .ref mse, .ref mbe, .ref men])), (mm, eI G 1191 fm), (mah, eI G 1191 fa)] sz) [(y, .inr (13, [.ref mm, .ref msv, .int vS, .ref mpa, .int vC, .int vT, .int vF, .ref mio, .ref mfo, .int vL, .ref mre, .int vK, .ref mah, .int vR, .ref mrw, .ref mrr, .ref mrs, .ref mrb, .int v0, .int vZ, .int vB, .int vN, .ref mso, .ref mnu, .ref mse, .ref mbe, .ref men])), (mm, eI G 1191 fm)] t) (va_A [(y, .inr (13, [.ref mm, .ref msv, .int vS, .ref mpa, .int vC, .int vT, .int vF, .ref mio, .ref mfo, .int vL, .ref mre, .int vK, .ref mah, .int vR, .ref mrw, .ref mrr, .ref mrs, .ref mrb, .int v0, .int vZ, .int vB, .int vN, .ref mso, .ref mnu, .ref mse, .ref mbe, .ref men])), (mm, eI G 1191 fm), (mah, eI G 1191 fa)] sz)) 0 0 (va_A [(y, .inr (13, [.ref mm, .ref msv, .int vS, .ref mpa, .int vC, .int vT, .int vF, .ref mio, .ref mfo, .int vL, .ref mre, .int vK, .ref mah, .int vR, .ref mrw, .ref mrr, .ref mrs, .ref mrb, .int v0, .int vZ, .int vB, .int vN, .ref mso, .ref mnu, .ref mse, .ref mbe, .ref men])), (mm, eI G 1191 fm), (mah, eI G 1191 fa)] sz) := by
  refine Met.ofW (cc := cX12_layAhead) (maxL := 2) (ret := none) (by decide) rfl ?_
  intro p e s m args below meth c s₁ B hml hv
  obtain ⟨rfl, hsz, hP, hK, hD0⟩ := hv
  have hx := B.exec
  have hb := B.bytes
  have hr := B.returns
  have hts := atoms_spec (ws := wsX12_layAhead) B.pre
  have hown : s.vm.findClass RX12 = some m.cls := findClass_of_methodNamed B.named
  have hlocks := B.notSynchronized
  subst hsz
  have hD := hD0.self (sz := s.heap.size)
  generalize hAe : va_A [(y, .inr (13, [.ref mm, .ref msv, .int vS, .ref mpa, .int vC, .int vT, .int vF, .ref mio, .ref mfo, .int vL, .ref mre, .int vK, .ref mah, .int vR, .ref mrw, .ref mrr, .ref mrs, .ref mrb, .int v0, .int vZ, .int vB, .int vN, .ref mso, .ref mnu, .ref mse, .ref mbe, .ref men])), (mm, eI G 1191 fm), (mah, eI G 1191 fa)] s.heap.size = A at hD ⊢
  have hA : ∀ q : Nat, s.heap.size ≤ q → A q := fun q h => by rw [← hAe]; exact Or.inr h
  have hS : va_S A s.heap s.heap [] := va_S.rf
  have hP : va_P G.1 vwCl [(y, .inr (13, [.ref mm, .ref msv, .int vS, .ref mpa, .int vC, .int vT, .int vF, .ref mio, .ref mfo, .int vL, .ref mre, .int vK, .ref mah, .int vR, .ref mrw, .ref mrr, .ref mrs, .ref mrb, .int v0, .int vZ, .int vB, .int vN, .ref mso, .ref mnu, .ref mse, .ref mbe, .ref men])), (mm, eI G 1191 fm), (mah, eI G 1191 fa)] s.heap := hP
  have hl := lv_entry ([.ref y]) (n := 2) (Nat.le_of_ble_eq_true rfl)
  rw [lg_entry_eq]
  generalize (lg_sl ([.ref y]) ++ List.replicate (2 - (lg_sl ([.ref y])).length) Slot.unset).toArray = ls at hl ⊢
  have hl : lv_has ls 2 [(0, .ref y)] := hl
  obtain ⟨H, hH⟩ : ∃ z, z = s.heap := ⟨_, rfl⟩
  have hS : va_S A s.heap H [] := by rw [hH]; exact hS
  have hP : va_P G.1 vwCl [(y, .inr (13, [.ref mm, .ref msv, .int vS, .ref mpa, .int vC, .int vT, .int vF, .ref mio, .ref mfo, .int vL, .ref mre, .int vK, .ref mah, .int vR, .ref mrw, .ref mrr, .ref mrs, .ref mrb, .int v0, .int vZ, .int vB, .int vN, .ref mso, .ref mnu, .ref mse, .ref mbe, .ref men])), (mm, eI G 1191 fm), (mah, eI G 1191 fa)] H := by rw [hH]; exact hP
  refine n_heap hH ?_
  generalize ([] : List Loc) = locs at hS ⊢
  have hiX12 : ∀ w ∈ u_ws RX12 TX12 27, w ∈ wsX12_layAhead := by decide +kernel
  refine lv_iconst (v := 0) hx hb dX12_layAhead_0 (by decide) ?_
  refine lv_istore_n (lv' := [(1, .int 0), (0, .ref y)]) hx hb dX12_layAhead_1 rfl hl (by decide) rfl (fun ls hl => ?_)
  have key : ∀ (n i : Nat), i + n = 1191 → ∀ (f9 : Nat → Int32) (H : Heap) (locs : List Loc) (ls : Array Slot), va_P G.1 vwCl [(y, .inr (13, [.ref mm, .ref msv, .int vS, .ref mpa, .int vC, .int vT, .int vF, .ref mio, .ref mfo, .int vL, .ref mre, .int vK, .ref mah, .int vR, .ref mrw, .ref mrr, .ref mrs, .ref mrb, .int v0, .int vZ, .int vB, .int vN, .ref mso, .ref mnu, .ref mse, .ref mbe, .ref men])), (mm, eI G 1191 fm), (mah, eI G 1191 f9)] H → va_D A [(y, .inr (13, [.ref mm, .ref msv, .int vS, .ref mpa, .int vC, .int vT, .int vF, .ref mio, .ref mfo, .int vL, .ref mre, .int vK, .ref mah, .int vR, .ref mrw, .ref mrr, .ref mrs, .ref mrb, .int v0, .int vZ, .int vB, .int vN, .ref mso, .ref mnu, .ref mse, .ref mbe, .ref men])), (mm, eI G 1191 fm), (mah, eI G 1191 f9)] → va_S A s.heap H locs → lv_has ls 2 [(1, .int (nI i)), (0, .ref y)] → W p l e (headSpec wsX12_layAhead ({ frames := 0, cells := 0, slots := 0, locals := 0 })).room s m (([.ref y] : List Value).toArray) below meth c H locs 0 0 (MQ below (va_Qv (fun (_ : Unit) => True) (fun (_ : Unit) (t : State) => n_po G A [(y, .inr (13, [.ref mm, .ref msv, .int vS, .ref mpa, .int vC, .int vT, .int vF, .ref mio, .ref mfo, .int vL, .ref mre, .int vK, .ref mah, .int vR, .ref mrw, .ref mrr, .ref mrs, .ref mrb, .int v0, .int vZ, .int vB, .int vN, .ref mso, .ref mnu, .ref mse, .ref mbe, .ref men])), (mm, eI G 1191 fm)] t) A) (([.ref y] : List Value).toArray) s 0 0 A) (F0 m 2 ls []) := by
    intro n
    induction n with
    | zero =>
      intro i hi f9 H locs ls hP hD hS hl
      obtain rfl : i = 1191 := by omega
      refine lv_iload_n hx hb dX12_layAhead_2 rfl (lv_at hl 0 rfl) ?_
      refine lv_sipush (v := 1191) hx hb dX12_layAhead_3 (by decide) ?_
      refine lv_icmp_ge (tgt := 27) hx hb dX12_layAhead_6 (by decide) (fun _ => ?_) (fun h9 => absurd (by decide) h9)
      have hP9 := n_Psub (wc := [(y, .inr (13, [.ref mm, .ref msv, .int vS, .ref mpa, .int vC, .int vT, .int vF, .ref mio, .ref mfo, .int vL, .ref mre, .int vK, .ref mah, .int vR, .ref mrw, .ref mrr, .ref mrs, .ref mrb, .int v0, .int vZ, .int vB, .int vN, .ref mso, .ref mnu, .ref mse, .ref mbe, .ref men])), (mm, eI G 1191 fm)]) hP [0, 1] rfl
      have hD9 := hD.sub (ws' := [(y, .inr (13, [.ref mm, .ref msv, .int vS, .ref mpa, .int vC, .int vT, .int vF, .ref mio, .ref mfo, .int vL, .ref mre, .int vK, .ref mah, .int vR, .ref mrw, .ref mrr, .ref mrs, .ref mrb, .int v0, .int vZ, .int vB, .int vN, .ref mso, .ref mnu, .ref mse, .ref mbe, .ref men])), (mm, eI G 1191 fm)]) [0, 1] (by decide) rfl
      refine W.widen (k := 0) (n := 0) (Nat.le_of_ble_eq_true rfl) (Nat.le_of_ble_eq_true rfl) ?_
      exact W.vret hx hb hr (fun t ht hW => ⟨⟨(), rfl, trivial, by rw [ht]; exact hP9, va_K.moved hW.alike hK, hD9⟩, hS.F ht⟩) hS.2.2 dX12_layAhead_27
    | succ n ih =>
      intro i hi f9 H locs ls hP hD hS hl
      refine lv_iload_n hx hb dX12_layAhead_2 rfl (lv_at hl 0 rfl) ?_
      refine lv_sipush (v := 1191) hx hb dX12_layAhead_3 (by decide) ?_
      refine lv_icmp_ge (tgt := 27) hx hb dX12_layAhead_6 (by decide) (fun h9 => absurd h9 (nI_ge (b := 1191) (by omega) (by decide))) (fun _ => ?_)
      refine lv_aload_n hx hb dX12_layAhead_9 rfl (lv_at hl 1 rfl) ?_
      refine va_get (D := G.1) (ci := 13) (v := .ref mah) (C := RX12) (T := TX12) (N := 27) hx hb hts hiX12 hown hK hP 0 rfl rfl 12 (by decide) (hts (.fieldLink RX12 32 "DialectDictionaryModel" "ahead" "[I") (by decide +kernel)) (fun _ h9 => h9) rfl dX12_layAhead_10 ?_
      refine lv_iload_n hx hb dX12_layAhead_13 rfl (lv_at hl 0 rfl) ?_
      refine lv_aload_n hx hb dX12_layAhead_14 rfl (lv_at hl 1 rfl) ?_
      refine va_get (D := G.1) (ci := 13) (v := .ref mm) (C := RX12) (T := TX12) (N := 27) hx hb hts hiX12 hown hK hP 0 rfl rfl 0 (by decide) (hts (.fieldLink RX12 9 "DialectDictionaryModel" "m" "[I") (by decide +kernel)) (fun _ h9 => h9) rfl dX12_layAhead_15 ?_
      refine lv_iload_n hx hb dX12_layAhead_18 rfl (lv_at hl 0 rfl) ?_
      refine va_iald hx hb hK hP 1 0 rfl rfl (vp_in_nI (n := i) (by omega) (by omega)) dX12_layAhead_19 ?_
      refine va_iast hx hb hK hP hD hS 2 0 rfl rfl (vp_in_nI (n := i) (by omega) (by omega)) dX12_layAhead_20 (fun H locs hP hD hS => ?_)
      have hP : va_P G.1 vwCl [(y, .inr (13, [.ref mm, .ref msv, .int vS, .ref mpa, .int vC, .int vT, .int vF, .ref mio, .ref mfo, .int vL, .ref mre, .int vK, .ref mah, .int vR, .ref mrw, .ref mrr, .ref mrs, .ref mrb, .int v0, .int vZ, .int vB, .int vN, .ref mso, .ref mnu, .ref mse, .ref mbe, .ref men])), (mm, eI G 1191 fm), (mah, eI G 1191 (upd f9 (((nI i) : Int32).toNatClampNeg) (fm (((nI i) : Int32).toNatClampNeg))))] H := hP
      have hD : va_D A [(y, .inr (13, [.ref mm, .ref msv, .int vS, .ref mpa, .int vC, .int vT, .int vF, .ref mio, .ref mfo, .int vL, .ref mre, .int vK, .ref mah, .int vR, .ref mrw, .ref mrr, .ref mrs, .ref mrb, .int v0, .int vZ, .int vB, .int vN, .ref mso, .ref mnu, .ref mse, .ref mbe, .ref men])), (mm, eI G 1191 fm), (mah, eI G 1191 (upd f9 (((nI i) : Int32).toNatClampNeg) (fm (((nI i) : Int32).toNatClampNeg))))] := hD
      refine lv_iinc (v := (nI (i + 1))) (lv' := [(1, .int (nI (i + 1))), (0, .ref y)]) hx hb dX12_layAhead_21 hl (k := 0) rfl (nI_1 i) (by decide) rfl (fun ls hl => ?_)
      refine lv_goto (tgt := 2) hx hb dX12_layAhead_24 (by decide) ?_
      exact ih (i + 1) (by omega) _ H locs ls hP hD hS (lv_sub hl [0, 1] rfl)
  exact key 1191 0 rfl _ H locs ls hP hD hS (lv_sub hl [0, 1] rfl)

set_option maxHeartbeats 4000000 in
set_option maxRecDepth 100000 in
theorem mX12_keep (l : Launch) (G : nG) (y : Nat) (mm : Nat) (msv : Nat) (mpa : Nat) (mio : Nat) (mfo : Nat) (mre : Nat) (mah : Nat) (mrw : Nat) (mrr : Nat) (mrs : Nat) (mrb : Nat) (mso : Nat) (mnu : Nat) (mse : Nat) (mbe : Nat) (men : Nat) (vS : Int32) (vT : Int32) (vF : Int32) (vL : Int32) (vK : Int32) (vR : Int32) (v0 : Int32) (vZ : Int32) (vB : Int32) (vN : Int32) (fm : Nat → Int32) (fp : Nat → Int32) (sz : Nat) : Met l yX12_keep wsX12_keep ({ frames := 1, cells := 0, slots := 0, locals := 22 }) (va_Pc [.ref y] (n_pp G [(y, .inr (13, [.ref mm, .ref msv, .int vS, .ref mpa, .int 0, .int vT, .int vF, .ref mio, .ref mfo, .int vL, .ref mre, .int vK, .ref mah, .int vR, .ref mrw, .ref mrr, .ref mrs, .ref mrb, .int v0, .int vZ, .int vB, .int vN, .ref mso, .ref mnu, .ref mse, .ref mbe, .ref men])), (mm, eI G 1191 fm), (mpa, eI G 9528 fp)] sz)) (va_Qv (fun (_ : Unit) => True) (fun (_ : Unit) (t : State) => n_po G (va_A [(y, .inr (13, [.ref mm, .ref msv, .int vS, .ref mpa, .int 0, .int vT, .int vF, .ref mio, .ref mfo, .int vL, .ref mre, .int vK, .ref mah, .int vR, .ref mrw, .ref mrr, .ref mrs, .ref mrb, .int v0, .int vZ, .int vB, .int vN, .ref mso, .ref mnu, .ref mse, .ref mbe, .ref men])), (mm, eI G 1191 fm), (mpa, eI G 9528 fp)] sz) [(y, .inr (13, [.ref mm, .ref msv, .int vS, .ref mpa, .int 1, .int vT, .int vF, .ref mio, .ref mfo, .int vL, .ref mre, .int vK, .ref mah, .int vR, .ref mrw, .ref mrr, .ref mrs, .ref mrb, .int v0, .int vZ, .int vB, .int vN, .ref mso, .ref mnu, .ref mse, .ref mbe, .ref men])), (mm, eI G 1191 fm)] t) (va_A [(y, .inr (13, [.ref mm, .ref msv, .int vS, .ref mpa, .int 0, .int vT, .int vF, .ref mio, .ref mfo, .int vL, .ref mre, .int vK, .ref mah, .int vR, .ref mrw, .ref mrr, .ref mrs, .ref mrb, .int v0, .int vZ, .int vB, .int vN, .ref mso, .ref mnu, .ref mse, .ref mbe, .ref men])), (mm, eI G 1191 fm), (mpa, eI G 9528 fp)] sz)) 0 0 (va_A [(y, .inr (13, [.ref mm, .ref msv, .int vS, .ref mpa, .int 0, .int vT, .int vF, .ref mio, .ref mfo, .int vL, .ref mre, .int vK, .ref mah, .int vR, .ref mrw, .ref mrr, .ref mrs, .ref mrb, .int v0, .int vZ, .int vB, .int vN, .ref mso, .ref mnu, .ref mse, .ref mbe, .ref men])), (mm, eI G 1191 fm), (mpa, eI G 9528 fp)] sz) := by
  refine Met.ofW (cc := cX12_keep) (maxL := 1) (ret := none) (by decide) rfl ?_
  intro p e s m args below meth c s₁ B hml hv
  obtain ⟨rfl, hsz, hP, hK, hD0⟩ := hv
  have hx := B.exec
  have hb := B.bytes
  have hr := B.returns
  have hts := atoms_spec (ws := wsX12_keep) B.pre
  have hown : s.vm.findClass RX12 = some m.cls := findClass_of_methodNamed B.named
  have hlocks := B.notSynchronized
  subst hsz
  have hD := hD0.self (sz := s.heap.size)
  generalize hAe : va_A [(y, .inr (13, [.ref mm, .ref msv, .int vS, .ref mpa, .int 0, .int vT, .int vF, .ref mio, .ref mfo, .int vL, .ref mre, .int vK, .ref mah, .int vR, .ref mrw, .ref mrr, .ref mrs, .ref mrb, .int v0, .int vZ, .int vB, .int vN, .ref mso, .ref mnu, .ref mse, .ref mbe, .ref men])), (mm, eI G 1191 fm), (mpa, eI G 9528 fp)] s.heap.size = A at hD ⊢
  have hA : ∀ q : Nat, s.heap.size ≤ q → A q := fun q h => by rw [← hAe]; exact Or.inr h
  have hS : va_S A s.heap s.heap [] := va_S.rf
  have hP : va_P G.1 vwCl [(y, .inr (13, [.ref mm, .ref msv, .int vS, .ref mpa, .int 0, .int vT, .int vF, .ref mio, .ref mfo, .int vL, .ref mre, .int vK, .ref mah, .int vR, .ref mrw, .ref mrr, .ref mrs, .ref mrb, .int v0, .int vZ, .int vB, .int vN, .ref mso, .ref mnu, .ref mse, .ref mbe, .ref men])), (mm, eI G 1191 fm), (mpa, eI G 9528 fp)] s.heap := hP
  have hl := lv_entry ([.ref y]) (n := 1) (Nat.le_of_ble_eq_true rfl)
  rw [lg_entry_eq]
  generalize (lg_sl ([.ref y]) ++ List.replicate (1 - (lg_sl ([.ref y])).length) Slot.unset).toArray = ls at hl ⊢
  have hl : lv_has ls 1 [(0, .ref y)] := hl
  obtain ⟨H, hH⟩ : ∃ z, z = s.heap := ⟨_, rfl⟩
  have hS : va_S A s.heap H [] := by rw [hH]; exact hS
  have hP : va_P G.1 vwCl [(y, .inr (13, [.ref mm, .ref msv, .int vS, .ref mpa, .int 0, .int vT, .int vF, .ref mio, .ref mfo, .int vL, .ref mre, .int vK, .ref mah, .int vR, .ref mrw, .ref mrr, .ref mrs, .ref mrb, .int v0, .int vZ, .int vB, .int vN, .ref mso, .ref mnu, .ref mse, .ref mbe, .ref men])), (mm, eI G 1191 fm), (mpa, eI G 9528 fp)] H := by rw [hH]; exact hP
  refine n_heap hH ?_
  generalize ([] : List Loc) = locs at hS ⊢
  have hiX12 : ∀ w ∈ u_ws RX12 TX12 27, w ∈ wsX12_keep := by decide +kernel
  refine lv_aload_n hx hb dX12_keep_0 rfl (lv_at hl 0 rfl) ?_
  refine lv_aload_n hx hb dX12_keep_1 rfl (lv_at hl 0 rfl) ?_
  refine va_get (D := G.1) (ci := 13) (v := .ref mm) (C := RX12) (T := TX12) (N := 27) hx hb hts hiX12 hown hK hP 0 rfl rfl 0 (by decide) (hts (.fieldLink RX12 9 "DialectDictionaryModel" "m" "[I") (by decide +kernel)) (fun _ h9 => h9) rfl dX12_keep_2 ?_
  refine n_cv (wr := []) (va_runV (As := [.ref mm]) (rest := []) ⟨hx, hb, hml, hown, hts⟩ (mX12_keepRow l G y mm msv mpa mio mfo mre mah mrw mrr mrs mrb mso mnu mse mbe men vS vT vF vL vK vR v0 vZ vB vN fp mm fm H.size) (cwV 1 hts gX12_keep_X12_keepRow rfl rfl rfl (by decide +kernel) ⟨(Nat.le_of_ble_eq_true rfl), (Nat.le_of_ble_eq_true rfl)⟩) (n_prV (ci := 13) (q0 := 0) hK hP hD [0, 2, 1] rfl (by decide) rfl rfl) rfl rfl hl.1 rfl (lv_room (Nat.le_of_ble_eq_true rfl)) dX12_keep_5 ⟨(Nat.le_of_ble_eq_true rfl), (Nat.le_of_ble_eq_true rfl)⟩) hP hD hS hA [0, 2, 1] [] rfl rfl (by decide) (by decide) (fun u_1 H locs hP hD hS hw => ?_)
  have hP : va_P G.1 vwCl [(y, .inr (13, [.ref mm, .ref msv, .int vS, .ref mpa, .int 1, .int vT, .int vF, .ref mio, .ref mfo, .int vL, .ref mre, .int vK, .ref mah, .int vR, .ref mrw, .ref mrr, .ref mrs, .ref mrb, .int v0, .int vZ, .int vB, .int vN, .ref mso, .ref mnu, .ref mse, .ref mbe, .ref men])), (mm, eI G 1191 fm)] H := hP
  have hD : va_D A [(y, .inr (13, [.ref mm, .ref msv, .int vS, .ref mpa, .int 1, .int vT, .int vF, .ref mio, .ref mfo, .int vL, .ref mre, .int vK, .ref mah, .int vR, .ref mrw, .ref mrr, .ref mrs, .ref mrb, .int v0, .int vZ, .int vB, .int vN, .ref mso, .ref mnu, .ref mse, .ref mbe, .ref men])), (mm, eI G 1191 fm)] := hD
  have hP9 := n_Psub (wc := [(y, .inr (13, [.ref mm, .ref msv, .int vS, .ref mpa, .int 1, .int vT, .int vF, .ref mio, .ref mfo, .int vL, .ref mre, .int vK, .ref mah, .int vR, .ref mrw, .ref mrr, .ref mrs, .ref mrb, .int v0, .int vZ, .int vB, .int vN, .ref mso, .ref mnu, .ref mse, .ref mbe, .ref men])), (mm, eI G 1191 fm)]) hP [0, 1] rfl
  have hD9 := hD.sub (ws' := [(y, .inr (13, [.ref mm, .ref msv, .int vS, .ref mpa, .int 1, .int vT, .int vF, .ref mio, .ref mfo, .int vL, .ref mre, .int vK, .ref mah, .int vR, .ref mrw, .ref mrr, .ref mrs, .ref mrb, .int v0, .int vZ, .int vB, .int vN, .ref mso, .ref mnu, .ref mse, .ref mbe, .ref men])), (mm, eI G 1191 fm)]) [0, 1] (by decide) rfl
  refine W.widen (k := 0) (n := 0) (Nat.le_of_ble_eq_true rfl) (Nat.le_of_ble_eq_true rfl) ?_
  exact W.vret hx hb hr (fun t ht hW => ⟨⟨(), rfl, trivial, by rw [ht]; exact hP9, va_K.moved hW.alike hK, hD9⟩, hS.F ht⟩) hS.2.2 dX12_keep_8

set_option maxHeartbeats 4000000 in
set_option maxRecDepth 100000 in
theorem mX12_save (l : Launch) (G : nG) (y : Nat) (mm : Nat) (msv : Nat) (mpa : Nat) (mio : Nat) (mfo : Nat) (mre : Nat) (mah : Nat) (mrw : Nat) (mrr : Nat) (mrs : Nat) (mrb : Nat) (mso : Nat) (mnu : Nat) (mse : Nat) (mbe : Nat) (men : Nat) (vS : Int32) (vC : Int32) (vT : Int32) (vF : Int32) (vL : Int32) (vK : Int32) (vR : Int32) (v0 : Int32) (vZ : Int32) (vB : Int32) (vN : Int32) (fm : Nat → Int32) (fa : Nat → Int32) (sz : Nat) (hm : nMod fm) : Met l yX12_save wsX12_save ({ frames := 0, cells := 0, slots := 0, locals := 0 }) (va_Pc [.ref y] (n_pp G [(y, .inr (13, [.ref mm, .ref msv, .int vS, .ref mpa, .int vC, .int vT, .int vF, .ref mio, .ref mfo, .int vL, .ref mre, .int vK, .ref mah, .int vR, .ref mrw, .ref mrr, .ref mrs, .ref mrb, .int v0, .int vZ, .int vB, .int vN, .ref mso, .ref mnu, .ref mse, .ref mbe, .ref men])), (mm, eI G 1191 fm), (msv, eI G 1191 fa)] sz)) (va_Qi (fun (r : Int32) (_ : Unit) => r = 0) (fun (_ : Unit) (t : State) => n_po G (va_A [(y, .inr (13, [.ref mm, .ref msv, .int vS, .ref mpa, .int vC, .int vT, .int vF, .ref mio, .ref mfo, .int vL, .ref mre, .int vK, .ref mah, .int vR, .ref mrw, .ref mrr, .ref mrs, .ref mrb, .int v0, .int vZ, .int vB, .int vN, .ref mso, .ref mnu, .ref mse, .ref mbe, .ref men])), (mm, eI G 1191 fm), (msv, eI G 1191 fa)] sz) [(y, .inr (13, [.ref mm, .ref msv, .int 1, .ref mpa, .int vC, .int 0, .int vF, .ref mio, .ref mfo, .int vL, .ref mre, .int vK, .ref mah, .int vR, .ref mrw, .ref mrr, .ref mrs, .ref mrb, .int v0, .int vZ, .int vB, .int vN, .ref mso, .ref mnu, .ref mse, .ref mbe, .ref men]))] t) (va_A [(y, .inr (13, [.ref mm, .ref msv, .int vS, .ref mpa, .int vC, .int vT, .int vF, .ref mio, .ref mfo, .int vL, .ref mre, .int vK, .ref mah, .int vR, .ref mrw, .ref mrr, .ref mrs, .ref mrb, .int v0, .int vZ, .int vB, .int vN, .ref mso, .ref mnu, .ref mse, .ref mbe, .ref men])), (mm, eI G 1191 fm), (msv, eI G 1191 fa)] sz)) 0 0 (va_A [(y, .inr (13, [.ref mm, .ref msv, .int vS, .ref mpa, .int vC, .int vT, .int vF, .ref mio, .ref mfo, .int vL, .ref mre, .int vK, .ref mah, .int vR, .ref mrw, .ref mrr, .ref mrs, .ref mrb, .int v0, .int vZ, .int vB, .int vN, .ref mso, .ref mnu, .ref mse, .ref mbe, .ref men])), (mm, eI G 1191 fm), (msv, eI G 1191 fa)] sz) := by
  refine Met.ofW (cc := cX12_save) (maxL := 2) (ret := (some .int)) (by decide) rfl ?_
  intro p e s m args below meth c s₁ B hml hv
  obtain ⟨rfl, hsz, hP, hK, hD0⟩ := hv
  have hx := B.exec
  have hb := B.bytes
  have hr := B.returns
  have hts := atoms_spec (ws := wsX12_save) B.pre
  have hown : s.vm.findClass RX12 = some m.cls := findClass_of_methodNamed B.named
  have hlocks := B.notSynchronized
  subst hsz
  have hD := hD0.self (sz := s.heap.size)
  generalize hAe : va_A [(y, .inr (13, [.ref mm, .ref msv, .int vS, .ref mpa, .int vC, .int vT, .int vF, .ref mio, .ref mfo, .int vL, .ref mre, .int vK, .ref mah, .int vR, .ref mrw, .ref mrr, .ref mrs, .ref mrb, .int v0, .int vZ, .int vB, .int vN, .ref mso, .ref mnu, .ref mse, .ref mbe, .ref men])), (mm, eI G 1191 fm), (msv, eI G 1191 fa)] s.heap.size = A at hD ⊢
  have hA : ∀ q : Nat, s.heap.size ≤ q → A q := fun q h => by rw [← hAe]; exact Or.inr h
  have hS : va_S A s.heap s.heap [] := va_S.rf
  have hP : va_P G.1 vwCl [(y, .inr (13, [.ref mm, .ref msv, .int vS, .ref mpa, .int vC, .int vT, .int vF, .ref mio, .ref mfo, .int vL, .ref mre, .int vK, .ref mah, .int vR, .ref mrw, .ref mrr, .ref mrs, .ref mrb, .int v0, .int vZ, .int vB, .int vN, .ref mso, .ref mnu, .ref mse, .ref mbe, .ref men])), (mm, eI G 1191 fm), (msv, eI G 1191 fa)] s.heap := hP
  have hl := lv_entry ([.ref y]) (n := 2) (Nat.le_of_ble_eq_true rfl)
  rw [lg_entry_eq]
  generalize (lg_sl ([.ref y]) ++ List.replicate (2 - (lg_sl ([.ref y])).length) Slot.unset).toArray = ls at hl ⊢
  have hl : lv_has ls 2 [(0, .ref y)] := hl
  obtain ⟨H, hH⟩ : ∃ z, z = s.heap := ⟨_, rfl⟩
  have hS : va_S A s.heap H [] := by rw [hH]; exact hS
  have hP : va_P G.1 vwCl [(y, .inr (13, [.ref mm, .ref msv, .int vS, .ref mpa, .int vC, .int vT, .int vF, .ref mio, .ref mfo, .int vL, .ref mre, .int vK, .ref mah, .int vR, .ref mrw, .ref mrr, .ref mrs, .ref mrb, .int v0, .int vZ, .int vB, .int vN, .ref mso, .ref mnu, .ref mse, .ref mbe, .ref men])), (mm, eI G 1191 fm), (msv, eI G 1191 fa)] H := by rw [hH]; exact hP
  refine n_heap hH ?_
  generalize ([] : List Loc) = locs at hS ⊢
  have hiX12 : ∀ w ∈ u_ws RX12 TX12 27, w ∈ wsX12_save := by decide +kernel
  refine lv_aload_n hx hb dX12_save_0 rfl (lv_at hl 0 rfl) ?_
  refine lv_iconst (v := 0) hx hb dX12_save_1 (by decide) ?_
  refine va_put (D := G.1) (ci := 13) (v := .int 0) (ty := .int) (C := RX12) (T := TX12) (N := 27) hx hb hts hiX12 tyX12 tyX12_ok nmX12 hown hK hP hD hS 0 rfl rfl 5 (by decide) (hts (.fieldLink RX12 62 "DialectDictionaryModel" "thrown" "I") (by decide +kernel)) (fun _ h9 => h9) rfl (by decide +kernel) rfl rfl (Nat.le_of_ble_eq_true rfl) dX12_save_2 (fun H locs hP hD hS => ?_)
  have hP : va_P G.1 vwCl [(y, .inr (13, [.ref mm, .ref msv, .int vS, .ref mpa, .int vC, .int 0, .int vF, .ref mio, .ref mfo, .int vL, .ref mre, .int vK, .ref mah, .int vR, .ref mrw, .ref mrr, .ref mrs, .ref mrb, .int v0, .int vZ, .int vB, .int vN, .ref mso, .ref mnu, .ref mse, .ref mbe, .ref men])), (mm, eI G 1191 fm), (msv, eI G 1191 fa)] H := hP
  have hD : va_D A [(y, .inr (13, [.ref mm, .ref msv, .int vS, .ref mpa, .int vC, .int 0, .int vF, .ref mio, .ref mfo, .int vL, .ref mre, .int vK, .ref mah, .int vR, .ref mrw, .ref mrr, .ref mrs, .ref mrb, .int v0, .int vZ, .int vB, .int vN, .ref mso, .ref mnu, .ref mse, .ref mbe, .ref men])), (mm, eI G 1191 fm), (msv, eI G 1191 fa)] := hD
  refine lv_iconst (v := 0) hx hb dX12_save_5 (by decide) ?_
  refine lv_istore_n (lv' := [(1, .int 0), (0, .ref y)]) hx hb dX12_save_6 rfl hl (by decide) rfl (fun ls hl => ?_)
  have key : ∀ (n i : Nat), i + n = 1191 → ∀ (f9 : Nat → Int32) (H : Heap) (locs : List Loc) (ls : Array Slot), va_P G.1 vwCl [(y, .inr (13, [.ref mm, .ref msv, .int vS, .ref mpa, .int vC, .int 0, .int vF, .ref mio, .ref mfo, .int vL, .ref mre, .int vK, .ref mah, .int vR, .ref mrw, .ref mrr, .ref mrs, .ref mrb, .int v0, .int vZ, .int vB, .int vN, .ref mso, .ref mnu, .ref mse, .ref mbe, .ref men])), (mm, eI G 1191 fm), (msv, eI G 1191 f9)] H → va_D A [(y, .inr (13, [.ref mm, .ref msv, .int vS, .ref mpa, .int vC, .int 0, .int vF, .ref mio, .ref mfo, .int vL, .ref mre, .int vK, .ref mah, .int vR, .ref mrw, .ref mrr, .ref mrs, .ref mrb, .int v0, .int vZ, .int vB, .int vN, .ref mso, .ref mnu, .ref mse, .ref mbe, .ref men])), (mm, eI G 1191 fm), (msv, eI G 1191 f9)] → va_S A s.heap H locs → lv_has ls 2 [(1, .int (nI i)), (0, .ref y)] → W p l e (headSpec wsX12_save ({ frames := 0, cells := 0, slots := 0, locals := 0 })).room s m (([.ref y] : List Value).toArray) below meth c H locs 0 0 (MQ below (va_Qi (fun (r : Int32) (_ : Unit) => r = 0) (fun (_ : Unit) (t : State) => n_po G A [(y, .inr (13, [.ref mm, .ref msv, .int 1, .ref mpa, .int vC, .int 0, .int vF, .ref mio, .ref mfo, .int vL, .ref mre, .int vK, .ref mah, .int vR, .ref mrw, .ref mrr, .ref mrs, .ref mrb, .int v0, .int vZ, .int vB, .int vN, .ref mso, .ref mnu, .ref mse, .ref mbe, .ref men]))] t) A) (([.ref y] : List Value).toArray) s 0 0 A) (F0 m 7 ls []) := by
    intro n
    induction n with
    | zero =>
      intro i hi f9 H locs ls hP hD hS hl
      obtain rfl : i = 1191 := by omega
      refine lv_iload_n hx hb dX12_save_7 rfl (lv_at hl 0 rfl) ?_
      refine lv_sipush (v := 1191) hx hb dX12_save_8 (by decide) ?_
      refine lv_icmp_ge (tgt := 32) hx hb dX12_save_11 (by decide) (fun _ => ?_) (fun h9 => absurd (by decide) h9)
      refine lv_aload_n hx hb dX12_save_32 rfl (lv_at hl 1 rfl) ?_
      refine lv_iconst (v := 1) hx hb dX12_save_33 (by decide) ?_
      refine va_put (D := G.1) (ci := 13) (v := .int 1) (ty := .boolean) (C := RX12) (T := TX12) (N := 27) hx hb hts hiX12 tyX12 tyX12_ok nmX12 hown hK hP hD hS 0 rfl rfl 2 (by decide) (hts (.fieldLink RX12 280 "DialectDictionaryModel" "isSaved" "Z") (by decide +kernel)) (fun _ h9 => h9) rfl (by decide +kernel) rfl rfl (Nat.le_of_ble_eq_true rfl) dX12_save_34 (fun H locs hP hD hS => ?_)
      have hP : va_P G.1 vwCl [(y, .inr (13, [.ref mm, .ref msv, .int 1, .ref mpa, .int vC, .int 0, .int vF, .ref mio, .ref mfo, .int vL, .ref mre, .int vK, .ref mah, .int vR, .ref mrw, .ref mrr, .ref mrs, .ref mrb, .int v0, .int vZ, .int vB, .int vN, .ref mso, .ref mnu, .ref mse, .ref mbe, .ref men])), (mm, eI G 1191 fm), (msv, eI G 1191 f9)] H := hP
      have hD : va_D A [(y, .inr (13, [.ref mm, .ref msv, .int 1, .ref mpa, .int vC, .int 0, .int vF, .ref mio, .ref mfo, .int vL, .ref mre, .int vK, .ref mah, .int vR, .ref mrw, .ref mrr, .ref mrs, .ref mrb, .int v0, .int vZ, .int vB, .int vN, .ref mso, .ref mnu, .ref mse, .ref mbe, .ref men])), (mm, eI G 1191 fm), (msv, eI G 1191 f9)] := hD
      refine lv_aload_n hx hb dX12_save_37 rfl (lv_at hl 1 rfl) ?_
      refine va_get (D := G.1) (ci := 13) (v := .ref mm) (C := RX12) (T := TX12) (N := 27) hx hb hts hiX12 hown hK hP 0 rfl rfl 0 (by decide) (hts (.fieldLink RX12 9 "DialectDictionaryModel" "m" "[I") (by decide +kernel)) (fun _ h9 => h9) rfl dX12_save_38 ?_
      refine lv_bipush (v := 37) hx hb dX12_save_41 (by decide) ?_
      refine va_iald hx hb hK hP 1 0 rfl rfl (n_in (by decide)) dX12_save_43 ?_
      refine n_eqi (y := 0) hm.2.2.1 ?_
      have hP9 := n_Psub (wc := [(y, .inr (13, [.ref mm, .ref msv, .int 1, .ref mpa, .int vC, .int 0, .int vF, .ref mio, .ref mfo, .int vL, .ref mre, .int vK, .ref mah, .int vR, .ref mrw, .ref mrr, .ref mrs, .ref mrb, .int v0, .int vZ, .int vB, .int vN, .ref mso, .ref mnu, .ref mse, .ref mbe, .ref men]))]) hP [0] rfl
      have hD9 := hD.sub (ws' := [(y, .inr (13, [.ref mm, .ref msv, .int 1, .ref mpa, .int vC, .int 0, .int vF, .ref mio, .ref mfo, .int vL, .ref mre, .int vK, .ref mah, .int vR, .ref mrw, .ref mrr, .ref mrs, .ref mrb, .int v0, .int vZ, .int vB, .int vN, .ref mso, .ref mnu, .ref mse, .ref mbe, .ref men]))]) [0] (by decide) rfl
      refine W.widen (k := 0) (n := 0) (Nat.le_of_ble_eq_true rfl) (Nat.le_of_ble_eq_true rfl) ?_
      exact W.iret (v := 0) hx hb hr (fun t ht hW => ⟨⟨0, (), rfl, rfl, by rw [ht]; exact hP9, va_K.moved hW.alike hK, hD9⟩, hS.F ht⟩) hS.2.2 dX12_save_44
    | succ n ih =>
      intro i hi f9 H locs ls hP hD hS hl
      refine lv_iload_n hx hb dX12_save_7 rfl (lv_at hl 0 rfl) ?_
      refine lv_sipush (v := 1191) hx hb dX12_save_8 (by decide) ?_
      refine lv_icmp_ge (tgt := 32) hx hb dX12_save_11 (by decide) (fun h9 => absurd h9 (nI_ge (b := 1191) (by omega) (by decide))) (fun _ => ?_)
      refine lv_aload_n hx hb dX12_save_14 rfl (lv_at hl 1 rfl) ?_
      refine va_get (D := G.1) (ci := 13) (v := .ref msv) (C := RX12) (T := TX12) (N := 27) hx hb hts hiX12 hown hK hP 0 rfl rfl 1 (by decide) (hts (.fieldLink RX12 13 "DialectDictionaryModel" "saved" "[I") (by decide +kernel)) (fun _ h9 => h9) rfl dX12_save_15 ?_
      refine lv_iload_n hx hb dX12_save_18 rfl (lv_at hl 0 rfl) ?_
      refine lv_aload_n hx hb dX12_save_19 rfl (lv_at hl 1 rfl) ?_
      refine va_get (D := G.1) (ci := 13) (v := .ref mm) (C := RX12) (T := TX12) (N := 27) hx hb hts hiX12 hown hK hP 0 rfl rfl 0 (by decide) (hts (.fieldLink RX12 9 "DialectDictionaryModel" "m" "[I") (by decide +kernel)) (fun _ h9 => h9) rfl dX12_save_20 ?_
      refine lv_iload_n hx hb dX12_save_23 rfl (lv_at hl 0 rfl) ?_
      refine va_iald hx hb hK hP 1 0 rfl rfl (vp_in_nI (n := i) (by omega) (by omega)) dX12_save_24 ?_
      refine va_iast hx hb hK hP hD hS 2 0 rfl rfl (vp_in_nI (n := i) (by omega) (by omega)) dX12_save_25 (fun H locs hP hD hS => ?_)
      have hP : va_P G.1 vwCl [(y, .inr (13, [.ref mm, .ref msv, .int vS, .ref mpa, .int vC, .int 0, .int vF, .ref mio, .ref mfo, .int vL, .ref mre, .int vK, .ref mah, .int vR, .ref mrw, .ref mrr, .ref mrs, .ref mrb, .int v0, .int vZ, .int vB, .int vN, .ref mso, .ref mnu, .ref mse, .ref mbe, .ref men])), (mm, eI G 1191 fm), (msv, eI G 1191 (upd f9 (((nI i) : Int32).toNatClampNeg) (fm (((nI i) : Int32).toNatClampNeg))))] H := hP
      have hD : va_D A [(y, .inr (13, [.ref mm, .ref msv, .int vS, .ref mpa, .int vC, .int 0, .int vF, .ref mio, .ref mfo, .int vL, .ref mre, .int vK, .ref mah, .int vR, .ref mrw, .ref mrr, .ref mrs, .ref mrb, .int v0, .int vZ, .int vB, .int vN, .ref mso, .ref mnu, .ref mse, .ref mbe, .ref men])), (mm, eI G 1191 fm), (msv, eI G 1191 (upd f9 (((nI i) : Int32).toNatClampNeg) (fm (((nI i) : Int32).toNatClampNeg))))] := hD
      refine lv_iinc (v := (nI (i + 1))) (lv' := [(1, .int (nI (i + 1))), (0, .ref y)]) hx hb dX12_save_26 hl (k := 0) rfl (nI_1 i) (by decide) rfl (fun ls hl => ?_)
      refine lv_goto (tgt := 7) hx hb dX12_save_29 (by decide) ?_
      exact ih (i + 1) (by omega) _ H locs ls hP hD hS (lv_sub hl [0, 1] rfl)
  exact key 1191 0 rfl _ H locs ls hP hD hS (lv_sub hl [0, 1] rfl)

set_option maxHeartbeats 4000000 in
set_option maxRecDepth 100000 in
theorem mX12_readForm (l : Launch) (G : nG) (y : Nat) (mm : Nat) (msv : Nat) (mpa : Nat) (mio : Nat) (mfo : Nat) (mre : Nat) (mah : Nat) (mrw : Nat) (mrr : Nat) (mrs : Nat) (mrb : Nat) (mso : Nat) (mnu : Nat) (mse : Nat) (mbe : Nat) (men : Nat) (vS : Int32) (vC : Int32) (vT : Int32) (vF : Int32) (vL : Int32) (vK : Int32) (vR : Int32) (v0 : Int32) (vZ : Int32) (vB : Int32) (vN : Int32) (ff : Nat → Int32) (sz : Nat) : Met l yX12_readForm wsX12_readForm ({ frames := 1, cells := 0, slots := 0, locals := 20 }) (va_Pc [.ref y, .int 0, .int 0] (n_pp G [(y, .inr (13, [.ref mm, .ref msv, .int vS, .ref mpa, .int vC, .int vT, .int vF, .ref mio, .ref mfo, .int vL, .ref mre, .int vK, .ref mah, .int vR, .ref mrw, .ref mrr, .ref mrs, .ref mrb, .int v0, .int vZ, .int vB, .int vN, .ref mso, .ref mnu, .ref mse, .ref mbe, .ref men])), (mfo, eI G 9 ff)] sz)) (va_Qi (fun (r : Int32) (_ : Unit) => r = 0) (fun (_ : Unit) (t : State) => n_po G (va_A [(y, .inr (13, [.ref mm, .ref msv, .int vS, .ref mpa, .int vC, .int vT, .int vF, .ref mio, .ref mfo, .int vL, .ref mre, .int vK, .ref mah, .int vR, .ref mrw, .ref mrr, .ref mrs, .ref mrb, .int v0, .int vZ, .int vB, .int vN, .ref mso, .ref mnu, .ref mse, .ref mbe, .ref men])), (mfo, eI G 9 ff)] sz) [(y, .inr (13, [.ref mm, .ref msv, .int vS, .ref mpa, .int vC, .int vT, .int vF, .ref mio, .ref mfo, .int vL, .ref mre, .int vK, .ref mah, .int vR, .ref mrw, .ref mrr, .ref mrs, .ref mrb, .int v0, .int vZ, .int vB, .int vN, .ref mso, .ref mnu, .ref mse, .ref mbe, .ref men]))] t) (va_A [(y, .inr (13, [.ref mm, .ref msv, .int vS, .ref mpa, .int vC, .int vT, .int vF, .ref mio, .ref mfo, .int vL, .ref mre, .int vK, .ref mah, .int vR, .ref mrw, .ref mrr, .ref mrs, .ref mrb, .int v0, .int vZ, .int vB, .int vN, .ref mso, .ref mnu, .ref mse, .ref mbe, .ref men])), (mfo, eI G 9 ff)] sz)) 0 0 (va_A [(y, .inr (13, [.ref mm, .ref msv, .int vS, .ref mpa, .int vC, .int vT, .int vF, .ref mio, .ref mfo, .int vL, .ref mre, .int vK, .ref mah, .int vR, .ref mrw, .ref mrr, .ref mrs, .ref mrb, .int v0, .int vZ, .int vB, .int vN, .ref mso, .ref mnu, .ref mse, .ref mbe, .ref men])), (mfo, eI G 9 ff)] sz) := by
  refine Met.ofW (cc := cX12_readForm) (maxL := 7) (ret := (some .int)) (by decide) rfl ?_
  intro p e s m args below meth c s₁ B hml hv
  obtain ⟨rfl, hsz, hP, hK, hD0⟩ := hv
  have hx := B.exec
  have hb := B.bytes
  have hr := B.returns
  have hts := atoms_spec (ws := wsX12_readForm) B.pre
  have hown : s.vm.findClass RX12 = some m.cls := findClass_of_methodNamed B.named
  have hlocks := B.notSynchronized
  subst hsz
  have hD := hD0.self (sz := s.heap.size)
  generalize hAe : va_A [(y, .inr (13, [.ref mm, .ref msv, .int vS, .ref mpa, .int vC, .int vT, .int vF, .ref mio, .ref mfo, .int vL, .ref mre, .int vK, .ref mah, .int vR, .ref mrw, .ref mrr, .ref mrs, .ref mrb, .int v0, .int vZ, .int vB, .int vN, .ref mso, .ref mnu, .ref mse, .ref mbe, .ref men])), (mfo, eI G 9 ff)] s.heap.size = A at hD ⊢
  have hA : ∀ q : Nat, s.heap.size ≤ q → A q := fun q h => by rw [← hAe]; exact Or.inr h
  have hS : va_S A s.heap s.heap [] := va_S.rf
  have hP : va_P G.1 vwCl [(y, .inr (13, [.ref mm, .ref msv, .int vS, .ref mpa, .int vC, .int vT, .int vF, .ref mio, .ref mfo, .int vL, .ref mre, .int vK, .ref mah, .int vR, .ref mrw, .ref mrr, .ref mrs, .ref mrb, .int v0, .int vZ, .int vB, .int vN, .ref mso, .ref mnu, .ref mse, .ref mbe, .ref men])), (mfo, eI G 9 ff)] s.heap := hP
  have hl := lv_entry ([.ref y, .int 0, .int 0]) (n := 7) (Nat.le_of_ble_eq_true rfl)
  rw [lg_entry_eq]
  generalize (lg_sl ([.ref y, .int 0, .int 0]) ++ List.replicate (7 - (lg_sl ([.ref y, .int 0, .int 0])).length) Slot.unset).toArray = ls at hl ⊢
  have hl : lv_has ls 7 [(0, .ref y), (1, .int 0), (2, .int 0)] := hl
  obtain ⟨H, hH⟩ : ∃ z, z = s.heap := ⟨_, rfl⟩
  have hS : va_S A s.heap H [] := by rw [hH]; exact hS
  have hP : va_P G.1 vwCl [(y, .inr (13, [.ref mm, .ref msv, .int vS, .ref mpa, .int vC, .int vT, .int vF, .ref mio, .ref mfo, .int vL, .ref mre, .int vK, .ref mah, .int vR, .ref mrw, .ref mrr, .ref mrs, .ref mrb, .int v0, .int vZ, .int vB, .int vN, .ref mso, .ref mnu, .ref mse, .ref mbe, .ref men])), (mfo, eI G 9 ff)] H := by rw [hH]; exact hP
  refine n_heap hH ?_
  generalize ([] : List Loc) = locs at hS ⊢
  have hiX12 : ∀ w ∈ u_ws RX12 TX12 27, w ∈ wsX12_readForm := by decide +kernel
  refine lv_iload_n hx hb dX12_readForm_0 rfl (lv_at hl 1 rfl) ?_
  refine lv_iload_n hx hb dX12_readForm_1 rfl (lv_at hl 2 rfl) ?_
  refine lv_icmp_ge (tgt := 9) hx hb dX12_readForm_2 (by decide) (fun _ => ?_) (fun h9 => absurd (by decide) h9)
  refine lv_iconst (v := 0) hx hb dX12_readForm_9 (by decide) ?_
  refine lv_istore_n (lv' := [(3, .int 0), (0, .ref y), (1, .int 0), (2, .int 0)]) hx hb dX12_readForm_10 rfl hl (by decide) rfl (fun ls hl => ?_)
  refine lv_iconst (v := 0) hx hb dX12_readForm_11 (by decide) ?_
  refine lv_istore (lv' := [(4, .int 0), (3, .int 0), (0, .ref y), (1, .int 0), (2, .int 0)]) hx hb dX12_readForm_12 hl (by decide) rfl (fun ls hl => ?_)
  refine lv_iload_n hx hb dX12_readForm_14 rfl (lv_at hl 3 rfl) ?_
  refine lv_istore (lv' := [(5, .int 0), (4, .int 0), (3, .int 0), (0, .ref y), (1, .int 0), (2, .int 0)]) hx hb dX12_readForm_15 hl (by decide) rfl (fun ls hl => ?_)
  refine lv_iload hx hb dX12_readForm_17 (lv_at hl 0 rfl) ?_
  refine lv_iload_n hx hb dX12_readForm_19 rfl (lv_at hl 5 rfl) ?_
  refine lv_icmp_ge (tgt := 162) hx hb dX12_readForm_20 (by decide) (fun _ => ?_) (fun h9 => absurd (by decide) h9)
  refine lv_aload_n hx hb dX12_readForm_162 rfl (lv_at hl 3 rfl) ?_
  refine va_get (D := G.1) (ci := 13) (v := .ref mfo) (C := RX12) (T := TX12) (N := 27) hx hb hts hiX12 hown hK hP 0 rfl rfl 8 (by decide) (hts (.fieldLink RX12 22 "DialectDictionaryModel" "form" "[I") (by decide +kernel)) (fun _ h9 => h9) rfl dX12_readForm_163 ?_
  refine lv_iconst (v := 0) hx hb dX12_readForm_166 (by decide) ?_
  refine lv_iload hx hb dX12_readForm_167 (lv_at hl 1 rfl) ?_
  refine lv_bipush (v := 8) hx hb dX12_readForm_169 (by decide) ?_
  refine va_mmin hx hb (hml.trans hl.1.symm) hown (hts (.methodLink RX12 101 Lib.Math.min.name) (by decide +kernel)) (hts (.static Lib.Math.min.name) (by decide +kernel)) (hts (.initialized "java/lang/Math") (by decide +kernel)) (hts (.code Lib.Math.min.name Lib.Math.min.code 2 (some .int)) (by decide +kernel)) (Nat.le_of_ble_eq_true rfl) (Nat.le_of_ble_eq_true rfl) (Nat.le_of_ble_eq_true rfl) (Nat.le_of_ble_eq_true rfl) dX12_readForm_171 ?_
  refine n_eqi (y := 0) (by decide) ?_
  refine va_iast hx hb hK hP hD hS 1 0 rfl rfl (n_in (by decide)) dX12_readForm_174 (fun H locs hP hD hS => ?_)
  have hP : va_P G.1 vwCl [(y, .inr (13, [.ref mm, .ref msv, .int vS, .ref mpa, .int vC, .int vT, .int vF, .ref mio, .ref mfo, .int vL, .ref mre, .int vK, .ref mah, .int vR, .ref mrw, .ref mrr, .ref mrs, .ref mrb, .int v0, .int vZ, .int vB, .int vN, .ref mso, .ref mnu, .ref mse, .ref mbe, .ref men])), (mfo, eI G 9 (upd ff ((0 : Int32).toNatClampNeg) 0))] H := hP
  have hD : va_D A [(y, .inr (13, [.ref mm, .ref msv, .int vS, .ref mpa, .int vC, .int vT, .int vF, .ref mio, .ref mfo, .int vL, .ref mre, .int vK, .ref mah, .int vR, .ref mrw, .ref mrr, .ref mrs, .ref mrb, .int v0, .int vZ, .int vB, .int vN, .ref mso, .ref mnu, .ref mse, .ref mbe, .ref men])), (mfo, eI G 9 (upd ff ((0 : Int32).toNatClampNeg) 0))] := hD
  refine lv_iload_n hx hb dX12_readForm_175 rfl (lv_at hl 2 rfl) ?_
  refine lv_if_ne (tgt := 183) hx hb dX12_readForm_176 (by decide) (fun h9 => absurd (by decide) h9) (fun _ => ?_)
  refine lv_iconst (v := 0) hx hb dX12_readForm_179 (by decide) ?_
  refine lv_goto (tgt := 196) hx hb dX12_readForm_180 (by decide) ?_
  have hP9 := n_Psub (wc := [(y, .inr (13, [.ref mm, .ref msv, .int vS, .ref mpa, .int vC, .int vT, .int vF, .ref mio, .ref mfo, .int vL, .ref mre, .int vK, .ref mah, .int vR, .ref mrw, .ref mrr, .ref mrs, .ref mrb, .int v0, .int vZ, .int vB, .int vN, .ref mso, .ref mnu, .ref mse, .ref mbe, .ref men]))]) hP [0] rfl
  have hD9 := hD.sub (ws' := [(y, .inr (13, [.ref mm, .ref msv, .int vS, .ref mpa, .int vC, .int vT, .int vF, .ref mio, .ref mfo, .int vL, .ref mre, .int vK, .ref mah, .int vR, .ref mrw, .ref mrr, .ref mrs, .ref mrb, .int v0, .int vZ, .int vB, .int vN, .ref mso, .ref mnu, .ref mse, .ref mbe, .ref men]))]) [0] (by decide) rfl
  refine W.widen (k := 0) (n := 0) (Nat.le_of_ble_eq_true rfl) (Nat.le_of_ble_eq_true rfl) ?_
  exact W.iret (v := 0) hx hb hr (fun t ht hW => ⟨⟨0, (), rfl, rfl, by rw [ht]; exact hP9, va_K.moved hW.alike hK, hD9⟩, hS.F ht⟩) hS.2.2 dX12_readForm_196

set_option maxHeartbeats 4000000 in
set_option maxRecDepth 100000 in
theorem mX12_refuses (l : Launch) (G : nG) (y : Nat) (mm : Nat) (msv : Nat) (mpa : Nat) (mio : Nat) (mfo : Nat) (mre : Nat) (mah : Nat) (mrw : Nat) (mrr : Nat) (mrs : Nat) (mrb : Nat) (mso : Nat) (mnu : Nat) (mse : Nat) (mbe : Nat) (men : Nat) (vS : Int32) (vC : Int32) (vT : Int32) (vF : Int32) (vL : Int32) (vR : Int32) (v0 : Int32) (vZ : Int32) (vB : Int32) (vN : Int32) (fr : Nat → Int32) (a1 : Int32) (a2 : Int32) (a3 : Int32) (a4 : Int32) (sz : Nat) : Met l yX12_refuses wsX12_refuses ({ frames := 0, cells := 0, slots := 0, locals := 0 }) (va_Pc [.ref y, .int a1, .int a2, .int a3, .int a4] (n_pp G [(y, .inr (13, [.ref mm, .ref msv, .int vS, .ref mpa, .int vC, .int vT, .int vF, .ref mio, .ref mfo, .int vL, .ref mre, .int (-1), .ref mah, .int vR, .ref mrw, .ref mrr, .ref mrs, .ref mrb, .int v0, .int vZ, .int vB, .int vN, .ref mso, .ref mnu, .ref mse, .ref mbe, .ref men])), (mre, eI G 6 fr)] sz)) (va_Qi (fun (r : Int32) (_ : Unit) => r = (-1)) (fun (_ : Unit) (t : State) => n_po G (va_A [(y, .inr (13, [.ref mm, .ref msv, .int vS, .ref mpa, .int vC, .int vT, .int vF, .ref mio, .ref mfo, .int vL, .ref mre, .int (-1), .ref mah, .int vR, .ref mrw, .ref mrr, .ref mrs, .ref mrb, .int v0, .int vZ, .int vB, .int vN, .ref mso, .ref mnu, .ref mse, .ref mbe, .ref men])), (mre, eI G 6 fr)] sz) [(y, .inr (13, [.ref mm, .ref msv, .int vS, .ref mpa, .int vC, .int vT, .int vF, .ref mio, .ref mfo, .int 2, .ref mre, .int (-1), .ref mah, .int vR, .ref mrw, .ref mrr, .ref mrs, .ref mrb, .int v0, .int vZ, .int vB, .int vN, .ref mso, .ref mnu, .ref mse, .ref mbe, .ref men]))] t) (va_A [(y, .inr (13, [.ref mm, .ref msv, .int vS, .ref mpa, .int vC, .int vT, .int vF, .ref mio, .ref mfo, .int vL, .ref mre, .int (-1), .ref mah, .int vR, .ref mrw, .ref mrr, .ref mrs, .ref mrb, .int v0, .int vZ, .int vB, .int vN, .ref mso, .ref mnu, .ref mse, .ref mbe, .ref men])), (mre, eI G 6 fr)] sz)) 0 0 (va_A [(y, .inr (13, [.ref mm, .ref msv, .int vS, .ref mpa, .int vC, .int vT, .int vF, .ref mio, .ref mfo, .int vL, .ref mre, .int (-1), .ref mah, .int vR, .ref mrw, .ref mrr, .ref mrs, .ref mrb, .int v0, .int vZ, .int vB, .int vN, .ref mso, .ref mnu, .ref mse, .ref mbe, .ref men])), (mre, eI G 6 fr)] sz) := by
  refine Met.ofW (cc := cX12_refuses) (maxL := 5) (ret := (some .int)) (by decide) rfl ?_
  intro p e s m args below meth c s₁ B hml hv
  obtain ⟨rfl, hsz, hP, hK, hD0⟩ := hv
  have hx := B.exec
  have hb := B.bytes
  have hr := B.returns
  have hts := atoms_spec (ws := wsX12_refuses) B.pre
  have hown : s.vm.findClass RX12 = some m.cls := findClass_of_methodNamed B.named
  have hlocks := B.notSynchronized
  subst hsz
  have hD := hD0.self (sz := s.heap.size)
  generalize hAe : va_A [(y, .inr (13, [.ref mm, .ref msv, .int vS, .ref mpa, .int vC, .int vT, .int vF, .ref mio, .ref mfo, .int vL, .ref mre, .int (-1), .ref mah, .int vR, .ref mrw, .ref mrr, .ref mrs, .ref mrb, .int v0, .int vZ, .int vB, .int vN, .ref mso, .ref mnu, .ref mse, .ref mbe, .ref men])), (mre, eI G 6 fr)] s.heap.size = A at hD ⊢
  have hA : ∀ q : Nat, s.heap.size ≤ q → A q := fun q h => by rw [← hAe]; exact Or.inr h
  have hS : va_S A s.heap s.heap [] := va_S.rf
  have hP : va_P G.1 vwCl [(y, .inr (13, [.ref mm, .ref msv, .int vS, .ref mpa, .int vC, .int vT, .int vF, .ref mio, .ref mfo, .int vL, .ref mre, .int (-1), .ref mah, .int vR, .ref mrw, .ref mrr, .ref mrs, .ref mrb, .int v0, .int vZ, .int vB, .int vN, .ref mso, .ref mnu, .ref mse, .ref mbe, .ref men])), (mre, eI G 6 fr)] s.heap := hP
  have hl := lv_entry ([.ref y, .int a1, .int a2, .int a3, .int a4]) (n := 5) (Nat.le_of_ble_eq_true rfl)
  rw [lg_entry_eq]
  generalize (lg_sl ([.ref y, .int a1, .int a2, .int a3, .int a4]) ++ List.replicate (5 - (lg_sl ([.ref y, .int a1, .int a2, .int a3, .int a4])).length) Slot.unset).toArray = ls at hl ⊢
  have hl : lv_has ls 5 [(0, .ref y), (1, .int a1), (2, .int a2), (3, .int a3), (4, .int a4)] := hl
  obtain ⟨H, hH⟩ : ∃ z, z = s.heap := ⟨_, rfl⟩
  have hS : va_S A s.heap H [] := by rw [hH]; exact hS
  have hP : va_P G.1 vwCl [(y, .inr (13, [.ref mm, .ref msv, .int vS, .ref mpa, .int vC, .int vT, .int vF, .ref mio, .ref mfo, .int vL, .ref mre, .int (-1), .ref mah, .int vR, .ref mrw, .ref mrr, .ref mrs, .ref mrb, .int v0, .int vZ, .int vB, .int vN, .ref mso, .ref mnu, .ref mse, .ref mbe, .ref men])), (mre, eI G 6 fr)] H := by rw [hH]; exact hP
  refine n_heap hH ?_
  generalize ([] : List Loc) = locs at hS ⊢
  have hiX12 : ∀ w ∈ u_ws RX12 TX12 27, w ∈ wsX12_refuses := by decide +kernel
  refine lv_aload_n hx hb dX12_refuses_0 rfl (lv_at hl 0 rfl) ?_
  refine lv_iconst (v := 0) hx hb dX12_refuses_1 (by decide) ?_
  refine va_put (D := G.1) (ci := 13) (v := .int 0) (ty := .int) (C := RX12) (T := TX12) (N := 27) hx hb hts hiX12 tyX12 tyX12_ok nmX12 hown hK hP hD hS 0 rfl rfl 9 (by decide) (hts (.fieldLink RX12 118 "DialectDictionaryModel" "levels" "I") (by decide +kernel)) (fun _ h9 => h9) rfl (by decide +kernel) rfl rfl (Nat.le_of_ble_eq_true rfl) dX12_refuses_2 (fun H locs hP hD hS => ?_)
  have hP : va_P G.1 vwCl [(y, .inr (13, [.ref mm, .ref msv, .int vS, .ref mpa, .int vC, .int vT, .int vF, .ref mio, .ref mfo, .int 0, .ref mre, .int (-1), .ref mah, .int vR, .ref mrw, .ref mrr, .ref mrs, .ref mrb, .int v0, .int vZ, .int vB, .int vN, .ref mso, .ref mnu, .ref mse, .ref mbe, .ref men])), (mre, eI G 6 fr)] H := hP
  have hD : va_D A [(y, .inr (13, [.ref mm, .ref msv, .int vS, .ref mpa, .int vC, .int vT, .int vF, .ref mio, .ref mfo, .int 0, .ref mre, .int (-1), .ref mah, .int vR, .ref mrw, .ref mrr, .ref mrs, .ref mrb, .int v0, .int vZ, .int vB, .int vN, .ref mso, .ref mnu, .ref mse, .ref mbe, .ref men])), (mre, eI G 6 fr)] := hD
  refine lv_aload_n hx hb dX12_refuses_5 rfl (lv_at hl 0 rfl) ?_
  refine va_get (D := G.1) (ci := 13) (v := .int (-1)) (C := RX12) (T := TX12) (N := 27) hx hb hts hiX12 hown hK hP 0 rfl rfl 11 (by decide) (hts (.fieldLink RX12 28 "DialectDictionaryModel" "command" "I") (by decide +kernel)) (fun _ h9 => h9) rfl dX12_refuses_6 ?_
  refine lv_if_lt (tgt := 35) hx hb dX12_refuses_9 (by decide) (fun _ => ?_) (fun h9 => absurd (by decide) h9)
  refine lv_aload_n hx hb dX12_refuses_35 rfl (lv_at hl 0 rfl) ?_
  refine va_get (D := G.1) (ci := 13) (v := .ref mre) (C := RX12) (T := TX12) (N := 27) hx hb hts hiX12 hown hK hP 0 rfl rfl 10 (by decide) (hts (.fieldLink RX12 25 "DialectDictionaryModel" "report" "[I") (by decide +kernel)) (fun _ h9 => h9) rfl dX12_refuses_36 ?_
  refine lv_iconst (v := 2) hx hb dX12_refuses_39 (by decide) ?_
  refine lv_aload_n hx hb dX12_refuses_40 rfl (lv_at hl 0 rfl) ?_
  refine va_get (D := G.1) (ci := 13) (v := .int 0) (C := RX12) (T := TX12) (N := 27) hx hb hts hiX12 hown hK hP 0 rfl rfl 9 (by decide) (hts (.fieldLink RX12 118 "DialectDictionaryModel" "levels" "I") (by decide +kernel)) (fun _ h9 => h9) rfl dX12_refuses_41 ?_
  refine lv_imul hx hb dX12_refuses_44 ?_
  refine n_eqi (y := 0) (by decide) ?_
  refine lv_iload_n hx hb dX12_refuses_45 rfl (lv_at hl 1 rfl) ?_
  refine va_iast hx hb hK hP hD hS 1 0 rfl rfl (n_in (by decide)) dX12_refuses_46 (fun H locs hP hD hS => ?_)
  have hP : va_P G.1 vwCl [(y, .inr (13, [.ref mm, .ref msv, .int vS, .ref mpa, .int vC, .int vT, .int vF, .ref mio, .ref mfo, .int 0, .ref mre, .int (-1), .ref mah, .int vR, .ref mrw, .ref mrr, .ref mrs, .ref mrb, .int v0, .int vZ, .int vB, .int vN, .ref mso, .ref mnu, .ref mse, .ref mbe, .ref men])), (mre, eI G 6 (upd fr ((0 : Int32).toNatClampNeg) a1))] H := hP
  have hD : va_D A [(y, .inr (13, [.ref mm, .ref msv, .int vS, .ref mpa, .int vC, .int vT, .int vF, .ref mio, .ref mfo, .int 0, .ref mre, .int (-1), .ref mah, .int vR, .ref mrw, .ref mrr, .ref mrs, .ref mrb, .int v0, .int vZ, .int vB, .int vN, .ref mso, .ref mnu, .ref mse, .ref mbe, .ref men])), (mre, eI G 6 (upd fr ((0 : Int32).toNatClampNeg) a1))] := hD
  refine lv_aload_n hx hb dX12_refuses_47 rfl (lv_at hl 0 rfl) ?_
  refine va_get (D := G.1) (ci := 13) (v := .ref mre) (C := RX12) (T := TX12) (N := 27) hx hb hts hiX12 hown hK hP 0 rfl rfl 10 (by decide) (hts (.fieldLink RX12 25 "DialectDictionaryModel" "report" "[I") (by decide +kernel)) (fun _ h9 => h9) rfl dX12_refuses_48 ?_
  refine lv_iconst (v := 2) hx hb dX12_refuses_51 (by decide) ?_
  refine lv_aload_n hx hb dX12_refuses_52 rfl (lv_at hl 0 rfl) ?_
  refine va_get (D := G.1) (ci := 13) (v := .int 0) (C := RX12) (T := TX12) (N := 27) hx hb hts hiX12 hown hK hP 0 rfl rfl 9 (by decide) (hts (.fieldLink RX12 118 "DialectDictionaryModel" "levels" "I") (by decide +kernel)) (fun _ h9 => h9) rfl dX12_refuses_53 ?_
  refine lv_imul hx hb dX12_refuses_56 ?_
  refine n_eqi (y := 0) (by decide) ?_
  refine lv_iconst (v := 1) hx hb dX12_refuses_57 (by decide) ?_
  refine lv_iadd hx hb dX12_refuses_58 ?_
  refine n_eqi (y := 1) (by decide) ?_
  refine lv_iload_n hx hb dX12_refuses_59 rfl (lv_at hl 2 rfl) ?_
  refine va_iast hx hb hK hP hD hS 1 0 rfl rfl (n_in (by decide)) dX12_refuses_60 (fun H locs hP hD hS => ?_)
  have hP : va_P G.1 vwCl [(y, .inr (13, [.ref mm, .ref msv, .int vS, .ref mpa, .int vC, .int vT, .int vF, .ref mio, .ref mfo, .int 0, .ref mre, .int (-1), .ref mah, .int vR, .ref mrw, .ref mrr, .ref mrs, .ref mrb, .int v0, .int vZ, .int vB, .int vN, .ref mso, .ref mnu, .ref mse, .ref mbe, .ref men])), (mre, eI G 6 (upd (upd fr ((0 : Int32).toNatClampNeg) a1) ((1 : Int32).toNatClampNeg) a2))] H := hP
  have hD : va_D A [(y, .inr (13, [.ref mm, .ref msv, .int vS, .ref mpa, .int vC, .int vT, .int vF, .ref mio, .ref mfo, .int 0, .ref mre, .int (-1), .ref mah, .int vR, .ref mrw, .ref mrr, .ref mrs, .ref mrb, .int v0, .int vZ, .int vB, .int vN, .ref mso, .ref mnu, .ref mse, .ref mbe, .ref men])), (mre, eI G 6 (upd (upd fr ((0 : Int32).toNatClampNeg) a1) ((1 : Int32).toNatClampNeg) a2))] := hD
  refine lv_aload_n hx hb dX12_refuses_61 rfl (lv_at hl 0 rfl) ?_
  refine va_get (D := G.1) (ci := 13) (v := .ref mre) (C := RX12) (T := TX12) (N := 27) hx hb hts hiX12 hown hK hP 0 rfl rfl 10 (by decide) (hts (.fieldLink RX12 25 "DialectDictionaryModel" "report" "[I") (by decide +kernel)) (fun _ h9 => h9) rfl dX12_refuses_62 ?_
  refine lv_iconst (v := 2) hx hb dX12_refuses_65 (by decide) ?_
  refine lv_aload_n hx hb dX12_refuses_66 rfl (lv_at hl 0 rfl) ?_
  refine va_get (D := G.1) (ci := 13) (v := .int 0) (C := RX12) (T := TX12) (N := 27) hx hb hts hiX12 hown hK hP 0 rfl rfl 9 (by decide) (hts (.fieldLink RX12 118 "DialectDictionaryModel" "levels" "I") (by decide +kernel)) (fun _ h9 => h9) rfl dX12_refuses_67 ?_
  refine lv_imul hx hb dX12_refuses_70 ?_
  refine n_eqi (y := 0) (by decide) ?_
  refine lv_iconst (v := 2) hx hb dX12_refuses_71 (by decide) ?_
  refine lv_iadd hx hb dX12_refuses_72 ?_
  refine n_eqi (y := 2) (by decide) ?_
  refine lv_iload_n hx hb dX12_refuses_73 rfl (lv_at hl 3 rfl) ?_
  refine va_iast hx hb hK hP hD hS 1 0 rfl rfl (n_in (by decide)) dX12_refuses_74 (fun H locs hP hD hS => ?_)
  have hP : va_P G.1 vwCl [(y, .inr (13, [.ref mm, .ref msv, .int vS, .ref mpa, .int vC, .int vT, .int vF, .ref mio, .ref mfo, .int 0, .ref mre, .int (-1), .ref mah, .int vR, .ref mrw, .ref mrr, .ref mrs, .ref mrb, .int v0, .int vZ, .int vB, .int vN, .ref mso, .ref mnu, .ref mse, .ref mbe, .ref men])), (mre, eI G 6 (upd (upd (upd fr ((0 : Int32).toNatClampNeg) a1) ((1 : Int32).toNatClampNeg) a2) ((2 : Int32).toNatClampNeg) a3))] H := hP
  have hD : va_D A [(y, .inr (13, [.ref mm, .ref msv, .int vS, .ref mpa, .int vC, .int vT, .int vF, .ref mio, .ref mfo, .int 0, .ref mre, .int (-1), .ref mah, .int vR, .ref mrw, .ref mrr, .ref mrs, .ref mrb, .int v0, .int vZ, .int vB, .int vN, .ref mso, .ref mnu, .ref mse, .ref mbe, .ref men])), (mre, eI G 6 (upd (upd (upd fr ((0 : Int32).toNatClampNeg) a1) ((1 : Int32).toNatClampNeg) a2) ((2 : Int32).toNatClampNeg) a3))] := hD
  refine lv_aload_n hx hb dX12_refuses_75 rfl (lv_at hl 0 rfl) ?_
  refine va_get (D := G.1) (ci := 13) (v := .ref mre) (C := RX12) (T := TX12) (N := 27) hx hb hts hiX12 hown hK hP 0 rfl rfl 10 (by decide) (hts (.fieldLink RX12 25 "DialectDictionaryModel" "report" "[I") (by decide +kernel)) (fun _ h9 => h9) rfl dX12_refuses_76 ?_
  refine lv_iconst (v := 2) hx hb dX12_refuses_79 (by decide) ?_
  refine lv_aload_n hx hb dX12_refuses_80 rfl (lv_at hl 0 rfl) ?_
  refine va_get (D := G.1) (ci := 13) (v := .int 0) (C := RX12) (T := TX12) (N := 27) hx hb hts hiX12 hown hK hP 0 rfl rfl 9 (by decide) (hts (.fieldLink RX12 118 "DialectDictionaryModel" "levels" "I") (by decide +kernel)) (fun _ h9 => h9) rfl dX12_refuses_81 ?_
  refine lv_imul hx hb dX12_refuses_84 ?_
  refine n_eqi (y := 0) (by decide) ?_
  refine lv_iconst (v := 3) hx hb dX12_refuses_85 (by decide) ?_
  refine lv_iadd hx hb dX12_refuses_86 ?_
  refine n_eqi (y := 3) (by decide) ?_
  refine lv_iload hx hb dX12_refuses_87 (lv_at hl 4 rfl) ?_
  refine va_iast hx hb hK hP hD hS 1 0 rfl rfl (n_in (by decide)) dX12_refuses_89 (fun H locs hP hD hS => ?_)
  have hP : va_P G.1 vwCl [(y, .inr (13, [.ref mm, .ref msv, .int vS, .ref mpa, .int vC, .int vT, .int vF, .ref mio, .ref mfo, .int 0, .ref mre, .int (-1), .ref mah, .int vR, .ref mrw, .ref mrr, .ref mrs, .ref mrb, .int v0, .int vZ, .int vB, .int vN, .ref mso, .ref mnu, .ref mse, .ref mbe, .ref men])), (mre, eI G 6 (upd (upd (upd (upd fr ((0 : Int32).toNatClampNeg) a1) ((1 : Int32).toNatClampNeg) a2) ((2 : Int32).toNatClampNeg) a3) ((3 : Int32).toNatClampNeg) a4))] H := hP
  have hD : va_D A [(y, .inr (13, [.ref mm, .ref msv, .int vS, .ref mpa, .int vC, .int vT, .int vF, .ref mio, .ref mfo, .int 0, .ref mre, .int (-1), .ref mah, .int vR, .ref mrw, .ref mrr, .ref mrs, .ref mrb, .int v0, .int vZ, .int vB, .int vN, .ref mso, .ref mnu, .ref mse, .ref mbe, .ref men])), (mre, eI G 6 (upd (upd (upd (upd fr ((0 : Int32).toNatClampNeg) a1) ((1 : Int32).toNatClampNeg) a2) ((2 : Int32).toNatClampNeg) a3) ((3 : Int32).toNatClampNeg) a4))] := hD
  refine lv_aload_n hx hb dX12_refuses_90 rfl (lv_at hl 0 rfl) ?_
  refine lv_dup hx hb dX12_refuses_91 rfl ?_
  refine va_get (D := G.1) (ci := 13) (v := .int 0) (C := RX12) (T := TX12) (N := 27) hx hb hts hiX12 hown hK hP 0 rfl rfl 9 (by decide) (hts (.fieldLink RX12 118 "DialectDictionaryModel" "levels" "I") (by decide +kernel)) (fun _ h9 => h9) rfl dX12_refuses_92 ?_
  refine lv_iconst (v := 2) hx hb dX12_refuses_95 (by decide) ?_
  refine lv_iadd hx hb dX12_refuses_96 ?_
  refine n_eqi (y := 2) (by decide) ?_
  refine va_put (D := G.1) (ci := 13) (v := .int 2) (ty := .int) (C := RX12) (T := TX12) (N := 27) hx hb hts hiX12 tyX12 tyX12_ok nmX12 hown hK hP hD hS 0 rfl rfl 9 (by decide) (hts (.fieldLink RX12 118 "DialectDictionaryModel" "levels" "I") (by decide +kernel)) (fun _ h9 => h9) rfl (by decide +kernel) rfl rfl (Nat.le_of_ble_eq_true rfl) dX12_refuses_97 (fun H locs hP hD hS => ?_)
  have hP : va_P G.1 vwCl [(y, .inr (13, [.ref mm, .ref msv, .int vS, .ref mpa, .int vC, .int vT, .int vF, .ref mio, .ref mfo, .int 2, .ref mre, .int (-1), .ref mah, .int vR, .ref mrw, .ref mrr, .ref mrs, .ref mrb, .int v0, .int vZ, .int vB, .int vN, .ref mso, .ref mnu, .ref mse, .ref mbe, .ref men])), (mre, eI G 6 (upd (upd (upd (upd fr ((0 : Int32).toNatClampNeg) a1) ((1 : Int32).toNatClampNeg) a2) ((2 : Int32).toNatClampNeg) a3) ((3 : Int32).toNatClampNeg) a4))] H := hP
  have hD : va_D A [(y, .inr (13, [.ref mm, .ref msv, .int vS, .ref mpa, .int vC, .int vT, .int vF, .ref mio, .ref mfo, .int 2, .ref mre, .int (-1), .ref mah, .int vR, .ref mrw, .ref mrr, .ref mrs, .ref mrb, .int v0, .int vZ, .int vB, .int vN, .ref mso, .ref mnu, .ref mse, .ref mbe, .ref men])), (mre, eI G 6 (upd (upd (upd (upd fr ((0 : Int32).toNatClampNeg) a1) ((1 : Int32).toNatClampNeg) a2) ((2 : Int32).toNatClampNeg) a3) ((3 : Int32).toNatClampNeg) a4))] := hD
  refine lv_iconst (v := -1) hx hb dX12_refuses_100 (by decide) ?_
  have hP9 := n_Psub (wc := [(y, .inr (13, [.ref mm, .ref msv, .int vS, .ref mpa, .int vC, .int vT, .int vF, .ref mio, .ref mfo, .int 2, .ref mre, .int (-1), .ref mah, .int vR, .ref mrw, .ref mrr, .ref mrs, .ref mrb, .int v0, .int vZ, .int vB, .int vN, .ref mso, .ref mnu, .ref mse, .ref mbe, .ref men]))]) hP [0] rfl
  have hD9 := hD.sub (ws' := [(y, .inr (13, [.ref mm, .ref msv, .int vS, .ref mpa, .int vC, .int vT, .int vF, .ref mio, .ref mfo, .int 2, .ref mre, .int (-1), .ref mah, .int vR, .ref mrw, .ref mrr, .ref mrs, .ref mrb, .int v0, .int vZ, .int vB, .int vN, .ref mso, .ref mnu, .ref mse, .ref mbe, .ref men]))]) [0] (by decide) rfl
  refine W.widen (k := 0) (n := 0) (Nat.le_of_ble_eq_true rfl) (Nat.le_of_ble_eq_true rfl) ?_
  exact W.iret (v := (-1)) hx hb hr (fun t ht hW => ⟨⟨(-1), (), rfl, rfl, by rw [ht]; exact hP9, va_K.moved hW.alike hK, hD9⟩, hS.F ht⟩) hS.2.2 dX12_refuses_101

set_option maxHeartbeats 4000000 in
set_option maxRecDepth 100000 in
theorem mX12_addTold (l : Launch) (G : nG) (y : Nat) (mm : Nat) (msv : Nat) (mpa : Nat) (mio : Nat) (mfo : Nat) (mre : Nat) (mah : Nat) (mrw : Nat) (mrr : Nat) (mrs : Nat) (mrb : Nat) (mso : Nat) (mnu : Nat) (mse : Nat) (mbe : Nat) (men : Nat) (vS : Int32) (vC : Int32) (vT : Int32) (vF : Int32) (vL : Int32) (vR : Int32) (v0 : Int32) (vZ : Int32) (vB : Int32) (vN : Int32) (ff : Nat → Int32) (fr : Nat → Int32) (sz : Nat) : Met l yX12_addTold wsX12_addTold ({ frames := 2, cells := 0, slots := 0, locals := 46 }) (va_Pc [.ref y, .int 0, .int 0] (n_pp G [(y, .inr (13, [.ref mm, .ref msv, .int vS, .ref mpa, .int vC, .int vT, .int vF, .ref mio, .ref mfo, .int vL, .ref mre, .int (-1), .ref mah, .int vR, .ref mrw, .ref mrr, .ref mrs, .ref mrb, .int v0, .int vZ, .int vB, .int vN, .ref mso, .ref mnu, .ref mse, .ref mbe, .ref men])), (mfo, eI G 9 ff), (mre, eI G 6 fr)] sz)) (va_Qi (fun (r : Int32) (_ : Unit) => r = (-1)) (fun (_ : Unit) (t : State) => n_po G (va_A [(y, .inr (13, [.ref mm, .ref msv, .int vS, .ref mpa, .int vC, .int vT, .int vF, .ref mio, .ref mfo, .int vL, .ref mre, .int (-1), .ref mah, .int vR, .ref mrw, .ref mrr, .ref mrs, .ref mrb, .int v0, .int vZ, .int vB, .int vN, .ref mso, .ref mnu, .ref mse, .ref mbe, .ref men])), (mfo, eI G 9 ff), (mre, eI G 6 fr)] sz) [(y, .inr (13, [.ref mm, .ref msv, .int vS, .ref mpa, .int vC, .int vT, .int vF, .ref mio, .ref mfo, .int 2, .ref mre, .int (-1), .ref mah, .int vR, .ref mrw, .ref mrr, .ref mrs, .ref mrb, .int v0, .int vZ, .int vB, .int vN, .ref mso, .ref mnu, .ref mse, .ref mbe, .ref men]))] t) (va_A [(y, .inr (13, [.ref mm, .ref msv, .int vS, .ref mpa, .int vC, .int vT, .int vF, .ref mio, .ref mfo, .int vL, .ref mre, .int (-1), .ref mah, .int vR, .ref mrw, .ref mrr, .ref mrs, .ref mrb, .int v0, .int vZ, .int vB, .int vN, .ref mso, .ref mnu, .ref mse, .ref mbe, .ref men])), (mfo, eI G 9 ff), (mre, eI G 6 fr)] sz)) 0 0 (va_A [(y, .inr (13, [.ref mm, .ref msv, .int vS, .ref mpa, .int vC, .int vT, .int vF, .ref mio, .ref mfo, .int vL, .ref mre, .int (-1), .ref mah, .int vR, .ref mrw, .ref mrr, .ref mrs, .ref mrb, .int v0, .int vZ, .int vB, .int vN, .ref mso, .ref mnu, .ref mse, .ref mbe, .ref men])), (mfo, eI G 9 ff), (mre, eI G 6 fr)] sz) := by
  refine Met.ofW (cc := cX12_addTold) (maxL := 6) (ret := (some .int)) (by decide) rfl ?_
  intro p e s m args below meth c s₁ B hml hv
  obtain ⟨rfl, hsz, hP, hK, hD0⟩ := hv
  have hx := B.exec
  have hb := B.bytes
  have hr := B.returns
  have hts := atoms_spec (ws := wsX12_addTold) B.pre
  have hown : s.vm.findClass RX12 = some m.cls := findClass_of_methodNamed B.named
  have hlocks := B.notSynchronized
  subst hsz
  have hD := hD0.self (sz := s.heap.size)
  generalize hAe : va_A [(y, .inr (13, [.ref mm, .ref msv, .int vS, .ref mpa, .int vC, .int vT, .int vF, .ref mio, .ref mfo, .int vL, .ref mre, .int (-1), .ref mah, .int vR, .ref mrw, .ref mrr, .ref mrs, .ref mrb, .int v0, .int vZ, .int vB, .int vN, .ref mso, .ref mnu, .ref mse, .ref mbe, .ref men])), (mfo, eI G 9 ff), (mre, eI G 6 fr)] s.heap.size = A at hD ⊢
  have hA : ∀ q : Nat, s.heap.size ≤ q → A q := fun q h => by rw [← hAe]; exact Or.inr h
  have hS : va_S A s.heap s.heap [] := va_S.rf
  have hP : va_P G.1 vwCl [(y, .inr (13, [.ref mm, .ref msv, .int vS, .ref mpa, .int vC, .int vT, .int vF, .ref mio, .ref mfo, .int vL, .ref mre, .int (-1), .ref mah, .int vR, .ref mrw, .ref mrr, .ref mrs, .ref mrb, .int v0, .int vZ, .int vB, .int vN, .ref mso, .ref mnu, .ref mse, .ref mbe, .ref men])), (mfo, eI G 9 ff), (mre, eI G 6 fr)] s.heap := hP
  have hl := lv_entry ([.ref y, .int 0, .int 0]) (n := 6) (Nat.le_of_ble_eq_true rfl)
  rw [lg_entry_eq]
  generalize (lg_sl ([.ref y, .int 0, .int 0]) ++ List.replicate (6 - (lg_sl ([.ref y, .int 0, .int 0])).length) Slot.unset).toArray = ls at hl ⊢
  have hl : lv_has ls 6 [(0, .ref y), (1, .int 0), (2, .int 0)] := hl
  obtain ⟨H, hH⟩ : ∃ z, z = s.heap := ⟨_, rfl⟩
  have hS : va_S A s.heap H [] := by rw [hH]; exact hS
  have hP : va_P G.1 vwCl [(y, .inr (13, [.ref mm, .ref msv, .int vS, .ref mpa, .int vC, .int vT, .int vF, .ref mio, .ref mfo, .int vL, .ref mre, .int (-1), .ref mah, .int vR, .ref mrw, .ref mrr, .ref mrs, .ref mrb, .int v0, .int vZ, .int vB, .int vN, .ref mso, .ref mnu, .ref mse, .ref mbe, .ref men])), (mfo, eI G 9 ff), (mre, eI G 6 fr)] H := by rw [hH]; exact hP
  refine n_heap hH ?_
  generalize ([] : List Loc) = locs at hS ⊢
  refine lv_aload_n hx hb dX12_addTold_0 rfl (lv_at hl 0 rfl) ?_
  refine lv_iload_n hx hb dX12_addTold_1 rfl (lv_at hl 1 rfl) ?_
  refine lv_iload_n hx hb dX12_addTold_2 rfl (lv_at hl 2 rfl) ?_
  refine n_ci (wr := [(mre, eI G 6 fr)]) (va_runV (As := [.int 0, .int 0]) (rest := []) ⟨hx, hb, hml, hown, hts⟩ (mX12_readForm l G y mm msv mpa mio mfo mre mah mrw mrr mrs mrb mso mnu mse mbe men vS vC vT vF vL (-1) vR v0 vZ vB vN ff H.size) (cwV 2 hts gX12_addTold_X12_readForm rfl rfl rfl (by decide +kernel) ⟨(Nat.le_of_ble_eq_true rfl), (Nat.le_of_ble_eq_true rfl)⟩) (n_prV (ci := 13) (q0 := 0) hK hP hD [0, 1] rfl (by decide) rfl rfl) rfl rfl hl.1 rfl (lv_room (Nat.le_of_ble_eq_true rfl)) dX12_addTold_3 ⟨(Nat.le_of_ble_eq_true rfl), (Nat.le_of_ble_eq_true rfl)⟩) hP hD hS hA [0, 1] [2] rfl rfl (by decide) (by decide) (fun r_1 u_2 H locs hP hD hS hw => ?_)
  have hP : va_P G.1 vwCl [(mre, eI G 6 fr), (y, .inr (13, [.ref mm, .ref msv, .int vS, .ref mpa, .int vC, .int vT, .int vF, .ref mio, .ref mfo, .int vL, .ref mre, .int (-1), .ref mah, .int vR, .ref mrw, .ref mrr, .ref mrs, .ref mrb, .int v0, .int vZ, .int vB, .int vN, .ref mso, .ref mnu, .ref mse, .ref mbe, .ref men]))] H := hP
  have hD : va_D A [(mre, eI G 6 fr), (y, .inr (13, [.ref mm, .ref msv, .int vS, .ref mpa, .int vC, .int vT, .int vF, .ref mio, .ref mfo, .int vL, .ref mre, .int (-1), .ref mah, .int vR, .ref mrw, .ref mrr, .ref mrs, .ref mrb, .int v0, .int vZ, .int vB, .int vN, .ref mso, .ref mnu, .ref mse, .ref mbe, .ref men]))] := hD
  have hw : r_1 = 0 := hw
  subst hw
  refine lv_istore_n (lv' := [(3, .int 0), (0, .ref y), (1, .int 0), (2, .int 0)]) hx hb dX12_addTold_6 rfl hl (by decide) rfl (fun ls hl => ?_)
  refine lv_iload_n hx hb dX12_addTold_7 rfl (lv_at hl 0 rfl) ?_
  refine lv_if_lt (tgt := 20) hx hb dX12_addTold_8 (by decide) (fun h9 => absurd h9 (by decide)) (fun _ => ?_)
  refine lv_aload_n hx hb dX12_addTold_11 rfl (lv_at hl 1 rfl) ?_
  refine lv_iconst (v := 1) hx hb dX12_addTold_12 (by decide) ?_
  refine lv_iconst (v := -1) hx hb dX12_addTold_13 (by decide) ?_
  refine lv_iconst (v := 1) hx hb dX12_addTold_14 (by decide) ?_
  refine lv_iload_n hx hb dX12_addTold_15 rfl (lv_at hl 0 rfl) ?_
  refine n_ci (wr := []) (va_runV (As := [.int 1, .int (-1), .int 1, .int 0]) (rest := []) ⟨hx, hb, hml, hown, hts⟩ (mX12_refuses l G y mm msv mpa mio mfo mre mah mrw mrr mrs mrb mso mnu mse mbe men vS vC vT vF vL vR v0 vZ vB vN fr 1 (-1) 1 0 H.size) (cwV 4 hts gX12_addTold_X12_refuses rfl rfl rfl (by decide +kernel) ⟨(Nat.le_of_ble_eq_true rfl), (Nat.le_of_ble_eq_true rfl)⟩) (n_prV (ci := 13) (q0 := 1) hK hP hD [1, 0] rfl (by decide) rfl rfl) rfl rfl hl.1 rfl (lv_room (Nat.le_of_ble_eq_true rfl)) dX12_addTold_16 ⟨(Nat.le_of_ble_eq_true rfl), (Nat.le_of_ble_eq_true rfl)⟩) hP hD hS hA [1, 0] [] rfl rfl (by decide) (by decide) (fun r_3 u_4 H locs hP hD hS hw => ?_)
  have hP : va_P G.1 vwCl [(y, .inr (13, [.ref mm, .ref msv, .int vS, .ref mpa, .int vC, .int vT, .int vF, .ref mio, .ref mfo, .int 2, .ref mre, .int (-1), .ref mah, .int vR, .ref mrw, .ref mrr, .ref mrs, .ref mrb, .int v0, .int vZ, .int vB, .int vN, .ref mso, .ref mnu, .ref mse, .ref mbe, .ref men]))] H := hP
  have hD : va_D A [(y, .inr (13, [.ref mm, .ref msv, .int vS, .ref mpa, .int vC, .int vT, .int vF, .ref mio, .ref mfo, .int 2, .ref mre, .int (-1), .ref mah, .int vR, .ref mrw, .ref mrr, .ref mrs, .ref mrb, .int v0, .int vZ, .int vB, .int vN, .ref mso, .ref mnu, .ref mse, .ref mbe, .ref men]))] := hD
  have hw : r_3 = (-1) := hw
  subst hw
  have hP9 := n_Psub (wc := [(y, .inr (13, [.ref mm, .ref msv, .int vS, .ref mpa, .int vC, .int vT, .int vF, .ref mio, .ref mfo, .int 2, .ref mre, .int (-1), .ref mah, .int vR, .ref mrw, .ref mrr, .ref mrs, .ref mrb, .int v0, .int vZ, .int vB, .int vN, .ref mso, .ref mnu, .ref mse, .ref mbe, .ref men]))]) hP [0] rfl
  have hD9 := hD.sub (ws' := [(y, .inr (13, [.ref mm, .ref msv, .int vS, .ref mpa, .int vC, .int vT, .int vF, .ref mio, .ref mfo, .int 2, .ref mre, .int (-1), .ref mah, .int vR, .ref mrw, .ref mrr, .ref mrs, .ref mrb, .int v0, .int vZ, .int vB, .int vN, .ref mso, .ref mnu, .ref mse, .ref mbe, .ref men]))]) [0] (by decide) rfl
  refine W.widen (k := 0) (n := 0) (Nat.le_of_ble_eq_true rfl) (Nat.le_of_ble_eq_true rfl) ?_
  exact W.iret (v := (-1)) hx hb hr (fun t ht hW => ⟨⟨(-1), (), rfl, rfl, by rw [ht]; exact hP9, va_K.moved hW.alike hK, hD9⟩, hS.F ht⟩) hS.2.2 dX12_addTold_19

set_option maxHeartbeats 4000000 in
set_option maxRecDepth 100000 in
theorem mX12_done (l : Launch) (G : nG) (y : Nat) (mm : Nat) (msv : Nat) (mpa : Nat) (mio : Nat) (mfo : Nat) (mre : Nat) (mah : Nat) (mrw : Nat) (mrr : Nat) (mrs : Nat) (mrb : Nat) (mso : Nat) (mnu : Nat) (mse : Nat) (mbe : Nat) (men : Nat) (vS : Int32) (vC : Int32) (vT : Int32) (vF : Int32) (vL : Int32) (vK : Int32) (vR : Int32) (v0 : Int32) (vZ : Int32) (vB : Int32) (vN : Int32) (sz : Nat) : Met l yX12_done wsX12_done ({ frames := 1, cells := 0, slots := 0, locals := 21 }) (va_Pc [.ref y, .int (-1)] (n_pp G [(y, .inr (13, [.ref mm, .ref msv, .int vS, .ref mpa, .int vC, .int vT, .int vF, .ref mio, .ref mfo, .int vL, .ref mre, .int vK, .ref mah, .int vR, .ref mrw, .ref mrr, .ref mrs, .ref mrb, .int v0, .int vZ, .int vB, .int vN, .ref mso, .ref mnu, .ref mse, .ref mbe, .ref men]))] sz)) (va_Qi (fun (r : Int32) (_ : Unit) => r = 0) (fun (_ : Unit) (t : State) => n_po G (va_A [(y, .inr (13, [.ref mm, .ref msv, .int vS, .ref mpa, .int vC, .int vT, .int vF, .ref mio, .ref mfo, .int vL, .ref mre, .int vK, .ref mah, .int vR, .ref mrw, .ref mrr, .ref mrs, .ref mrb, .int v0, .int vZ, .int vB, .int vN, .ref mso, .ref mnu, .ref mse, .ref mbe, .ref men]))] sz) [(y, .inr (13, [.ref mm, .ref msv, .int vS, .ref mpa, .int vC, .int vT, .int vF, .ref mio, .ref mfo, .int vL, .ref mre, .int vK, .ref mah, .int vR, .ref mrw, .ref mrr, .ref mrs, .ref mrb, .int v0, .int vZ, .int vB, .int vN, .ref mso, .ref mnu, .ref mse, .ref mbe, .ref men]))] t) (va_A [(y, .inr (13, [.ref mm, .ref msv, .int vS, .ref mpa, .int vC, .int vT, .int vF, .ref mio, .ref mfo, .int vL, .ref mre, .int vK, .ref mah, .int vR, .ref mrw, .ref mrr, .ref mrs, .ref mrb, .int v0, .int vZ, .int vB, .int vN, .ref mso, .ref mnu, .ref mse, .ref mbe, .ref men]))] sz)) 0 0 (va_A [(y, .inr (13, [.ref mm, .ref msv, .int vS, .ref mpa, .int vC, .int vT, .int vF, .ref mio, .ref mfo, .int vL, .ref mre, .int vK, .ref mah, .int vR, .ref mrw, .ref mrr, .ref mrs, .ref mrb, .int v0, .int vZ, .int vB, .int vN, .ref mso, .ref mnu, .ref mse, .ref mbe, .ref men]))] sz) := by
  refine Met.ofW (cc := cX12_done) (maxL := 2) (ret := (some .int)) (by decide) rfl ?_
  intro p e s m args below meth c s₁ B hml hv
  obtain ⟨rfl, hsz, hP, hK, hD0⟩ := hv
  have hx := B.exec
  have hb := B.bytes
  have hr := B.returns
  have hts := atoms_spec (ws := wsX12_done) B.pre
  have hown : s.vm.findClass RX12 = some m.cls := findClass_of_methodNamed B.named
  have hlocks := B.notSynchronized
  subst hsz
  have hD := hD0.self (sz := s.heap.size)
  generalize hAe : va_A [(y, .inr (13, [.ref mm, .ref msv, .int vS, .ref mpa, .int vC, .int vT, .int vF, .ref mio, .ref mfo, .int vL, .ref mre, .int vK, .ref mah, .int vR, .ref mrw, .ref mrr, .ref mrs, .ref mrb, .int v0, .int vZ, .int vB, .int vN, .ref mso, .ref mnu, .ref mse, .ref mbe, .ref men]))] s.heap.size = A at hD ⊢
  have hA : ∀ q : Nat, s.heap.size ≤ q → A q := fun q h => by rw [← hAe]; exact Or.inr h
  have hS : va_S A s.heap s.heap [] := va_S.rf
  have hP : va_P G.1 vwCl [(y, .inr (13, [.ref mm, .ref msv, .int vS, .ref mpa, .int vC, .int vT, .int vF, .ref mio, .ref mfo, .int vL, .ref mre, .int vK, .ref mah, .int vR, .ref mrw, .ref mrr, .ref mrs, .ref mrb, .int v0, .int vZ, .int vB, .int vN, .ref mso, .ref mnu, .ref mse, .ref mbe, .ref men]))] s.heap := hP
  have hl := lv_entry ([.ref y, .int (-1)]) (n := 2) (Nat.le_of_ble_eq_true rfl)
  rw [lg_entry_eq]
  generalize (lg_sl ([.ref y, .int (-1)]) ++ List.replicate (2 - (lg_sl ([.ref y, .int (-1)])).length) Slot.unset).toArray = ls at hl ⊢
  have hl : lv_has ls 2 [(0, .ref y), (1, .int (-1))] := hl
  obtain ⟨H, hH⟩ : ∃ z, z = s.heap := ⟨_, rfl⟩
  have hS : va_S A s.heap H [] := by rw [hH]; exact hS
  have hP : va_P G.1 vwCl [(y, .inr (13, [.ref mm, .ref msv, .int vS, .ref mpa, .int vC, .int vT, .int vF, .ref mio, .ref mfo, .int vL, .ref mre, .int vK, .ref mah, .int vR, .ref mrw, .ref mrr, .ref mrs, .ref mrb, .int v0, .int vZ, .int vB, .int vN, .ref mso, .ref mnu, .ref mse, .ref mbe, .ref men]))] H := by rw [hH]; exact hP
  refine n_heap hH ?_
  generalize ([] : List Loc) = locs at hS ⊢
  have hiX12 : ∀ w ∈ u_ws RX12 TX12 27, w ∈ wsX12_done := by decide +kernel
  refine lv_iload_n hx hb dX12_done_0 rfl (lv_at hl 1 rfl) ?_
  refine lv_if_ge (tgt := 13) hx hb dX12_done_1 (by decide) (fun h9 => absurd h9 (by decide)) (fun _ => ?_)
  refine lv_aload_n hx hb dX12_done_4 rfl (lv_at hl 0 rfl) ?_
  refine lv_aload_n hx hb dX12_done_5 rfl (lv_at hl 0 rfl) ?_
  refine va_get (D := G.1) (ci := 13) (v := .int vT) (C := RX12) (T := TX12) (N := 27) hx hb hts hiX12 hown hK hP 0 rfl rfl 5 (by decide) (hts (.fieldLink RX12 62 "DialectDictionaryModel" "thrown" "I") (by decide +kernel)) (fun _ h9 => h9) rfl dX12_done_6 ?_
  refine n_ci (wr := []) (va_runV (As := [.int vT]) (rest := []) ⟨hx, hb, hml, hown, hts⟩ (mX12_refuse l G y mm msv mpa mio mfo mre mah mrw mrr mrs mrb mso mnu mse mbe men vS vC vT vF vL vK vR v0 vZ vB vN vT H.size) (cwV 1 hts gX12_done_X12_refuse rfl rfl rfl (by decide +kernel) ⟨(Nat.le_of_ble_eq_true rfl), (Nat.le_of_ble_eq_true rfl)⟩) (n_prV (ci := 13) (q0 := 0) hK hP hD [0] rfl (by decide) rfl rfl) rfl rfl hl.1 rfl (lv_room (Nat.le_of_ble_eq_true rfl)) dX12_done_9 ⟨(Nat.le_of_ble_eq_true rfl), (Nat.le_of_ble_eq_true rfl)⟩) hP hD hS hA [0] [] rfl rfl (by decide) (by decide) (fun r_1 u_2 H locs hP hD hS hw => ?_)
  have hP : va_P G.1 vwCl [(y, .inr (13, [.ref mm, .ref msv, .int vS, .ref mpa, .int vC, .int vT, .int vF, .ref mio, .ref mfo, .int vL, .ref mre, .int vK, .ref mah, .int vR, .ref mrw, .ref mrr, .ref mrs, .ref mrb, .int v0, .int vZ, .int vB, .int vN, .ref mso, .ref mnu, .ref mse, .ref mbe, .ref men]))] H := hP
  have hD : va_D A [(y, .inr (13, [.ref mm, .ref msv, .int vS, .ref mpa, .int vC, .int vT, .int vF, .ref mio, .ref mfo, .int vL, .ref mre, .int vK, .ref mah, .int vR, .ref mrw, .ref mrr, .ref mrs, .ref mrb, .int v0, .int vZ, .int vB, .int vN, .ref mso, .ref mnu, .ref mse, .ref mbe, .ref men]))] := hD
  have hw : r_1 = 0 := hw
  subst hw
  have hP9 := n_Psub (wc := [(y, .inr (13, [.ref mm, .ref msv, .int vS, .ref mpa, .int vC, .int vT, .int vF, .ref mio, .ref mfo, .int vL, .ref mre, .int vK, .ref mah, .int vR, .ref mrw, .ref mrr, .ref mrs, .ref mrb, .int v0, .int vZ, .int vB, .int vN, .ref mso, .ref mnu, .ref mse, .ref mbe, .ref men]))]) hP [0] rfl
  have hD9 := hD.sub (ws' := [(y, .inr (13, [.ref mm, .ref msv, .int vS, .ref mpa, .int vC, .int vT, .int vF, .ref mio, .ref mfo, .int vL, .ref mre, .int vK, .ref mah, .int vR, .ref mrw, .ref mrr, .ref mrs, .ref mrb, .int v0, .int vZ, .int vB, .int vN, .ref mso, .ref mnu, .ref mse, .ref mbe, .ref men]))]) [0] (by decide) rfl
  refine W.widen (k := 0) (n := 0) (Nat.le_of_ble_eq_true rfl) (Nat.le_of_ble_eq_true rfl) ?_
  exact W.iret (v := 0) hx hb hr (fun t ht hW => ⟨⟨0, (), rfl, rfl, by rw [ht]; exact hP9, va_K.moved hW.alike hK, hD9⟩, hS.F ht⟩) hS.2.2 dX12_done_12

set_option maxHeartbeats 4000000 in
set_option maxRecDepth 100000 in
theorem mX12_add (l : Launch) (G : nG) (y : Nat) (mm : Nat) (msv : Nat) (mpa : Nat) (mio : Nat) (mfo : Nat) (mre : Nat) (mah : Nat) (mrw : Nat) (mrr : Nat) (mrs : Nat) (mrb : Nat) (mso : Nat) (mnu : Nat) (mse : Nat) (mbe : Nat) (men : Nat) (vS : Int32) (vC : Int32) (vT : Int32) (vL : Int32) (vR : Int32) (v0 : Int32) (vZ : Int32) (vB : Int32) (vN : Int32) (fm : Nat → Int32) (fa : Nat → Int32) (ff : Nat → Int32) (fr : Nat → Int32) (sz : Nat) : Met l yX12_add wsX12_add ({ frames := 3, cells := 0, slots := 0, locals := 71 }) (va_Pc [.ref y] (n_pp G [(y, .inr (13, [.ref mm, .ref msv, .int vS, .ref mpa, .int vC, .int vT, .int 0, .ref mio, .ref mfo, .int vL, .ref mre, .int (-1), .ref mah, .int vR, .ref mrw, .ref mrr, .ref mrs, .ref mrb, .int v0, .int vZ, .int vB, .int vN, .ref mso, .ref mnu, .ref mse, .ref mbe, .ref men])), (mm, eI G 1191 fm), (mah, eI G 1191 fa), (mfo, eI G 9 ff), (mre, eI G 6 fr)] sz)) (va_Qi (fun (r : Int32) (_ : Unit) => r = 0) (fun (_ : Unit) (t : State) => n_po G (va_A [(y, .inr (13, [.ref mm, .ref msv, .int vS, .ref mpa, .int vC, .int vT, .int 0, .ref mio, .ref mfo, .int vL, .ref mre, .int (-1), .ref mah, .int vR, .ref mrw, .ref mrr, .ref mrs, .ref mrb, .int v0, .int vZ, .int vB, .int vN, .ref mso, .ref mnu, .ref mse, .ref mbe, .ref men])), (mm, eI G 1191 fm), (mah, eI G 1191 fa), (mfo, eI G 9 ff), (mre, eI G 6 fr)] sz) [(y, .inr (13, [.ref mm, .ref msv, .int vS, .ref mpa, .int vC, .int 1, .int 0, .ref mio, .ref mfo, .int 2, .ref mre, .int (-1), .ref mah, .int vR, .ref mrw, .ref mrr, .ref mrs, .ref mrb, .int v0, .int vZ, .int vB, .int vN, .ref mso, .ref mnu, .ref mse, .ref mbe, .ref men]))] t) (va_A [(y, .inr (13, [.ref mm, .ref msv, .int vS, .ref mpa, .int vC, .int vT, .int 0, .ref mio, .ref mfo, .int vL, .ref mre, .int (-1), .ref mah, .int vR, .ref mrw, .ref mrr, .ref mrs, .ref mrb, .int v0, .int vZ, .int vB, .int vN, .ref mso, .ref mnu, .ref mse, .ref mbe, .ref men])), (mm, eI G 1191 fm), (mah, eI G 1191 fa), (mfo, eI G 9 ff), (mre, eI G 6 fr)] sz)) 0 0 (va_A [(y, .inr (13, [.ref mm, .ref msv, .int vS, .ref mpa, .int vC, .int vT, .int 0, .ref mio, .ref mfo, .int vL, .ref mre, .int (-1), .ref mah, .int vR, .ref mrw, .ref mrr, .ref mrs, .ref mrb, .int v0, .int vZ, .int vB, .int vN, .ref mso, .ref mnu, .ref mse, .ref mbe, .ref men])), (mm, eI G 1191 fm), (mah, eI G 1191 fa), (mfo, eI G 9 ff), (mre, eI G 6 fr)] sz) := by
  refine Met.ofW (cc := cX12_add) (maxL := 2) (ret := (some .int)) (by decide) rfl ?_
  intro p e s m args below meth c s₁ B hml hv
  obtain ⟨rfl, hsz, hP, hK, hD0⟩ := hv
  have hx := B.exec
  have hb := B.bytes
  have hr := B.returns
  have hts := atoms_spec (ws := wsX12_add) B.pre
  have hown : s.vm.findClass RX12 = some m.cls := findClass_of_methodNamed B.named
  have hlocks := B.notSynchronized
  subst hsz
  have hD := hD0.self (sz := s.heap.size)
  generalize hAe : va_A [(y, .inr (13, [.ref mm, .ref msv, .int vS, .ref mpa, .int vC, .int vT, .int 0, .ref mio, .ref mfo, .int vL, .ref mre, .int (-1), .ref mah, .int vR, .ref mrw, .ref mrr, .ref mrs, .ref mrb, .int v0, .int vZ, .int vB, .int vN, .ref mso, .ref mnu, .ref mse, .ref mbe, .ref men])), (mm, eI G 1191 fm), (mah, eI G 1191 fa), (mfo, eI G 9 ff), (mre, eI G 6 fr)] s.heap.size = A at hD ⊢
  have hA : ∀ q : Nat, s.heap.size ≤ q → A q := fun q h => by rw [← hAe]; exact Or.inr h
  have hS : va_S A s.heap s.heap [] := va_S.rf
  have hP : va_P G.1 vwCl [(y, .inr (13, [.ref mm, .ref msv, .int vS, .ref mpa, .int vC, .int vT, .int 0, .ref mio, .ref mfo, .int vL, .ref mre, .int (-1), .ref mah, .int vR, .ref mrw, .ref mrr, .ref mrs, .ref mrb, .int v0, .int vZ, .int vB, .int vN, .ref mso, .ref mnu, .ref mse, .ref mbe, .ref men])), (mm, eI G 1191 fm), (mah, eI G 1191 fa), (mfo, eI G 9 ff), (mre, eI G 6 fr)] s.heap := hP
  have hl := lv_entry ([.ref y]) (n := 2) (Nat.le_of_ble_eq_true rfl)
  rw [lg_entry_eq]
  generalize (lg_sl ([.ref y]) ++ List.replicate (2 - (lg_sl ([.ref y])).length) Slot.unset).toArray = ls at hl ⊢
  have hl : lv_has ls 2 [(0, .ref y)] := hl
  obtain ⟨H, hH⟩ : ∃ z, z = s.heap := ⟨_, rfl⟩
  have hS : va_S A s.heap H [] := by rw [hH]; exact hS
  have hP : va_P G.1 vwCl [(y, .inr (13, [.ref mm, .ref msv, .int vS, .ref mpa, .int vC, .int vT, .int 0, .ref mio, .ref mfo, .int vL, .ref mre, .int (-1), .ref mah, .int vR, .ref mrw, .ref mrr, .ref mrs, .ref mrb, .int v0, .int vZ, .int vB, .int vN, .ref mso, .ref mnu, .ref mse, .ref mbe, .ref men])), (mm, eI G 1191 fm), (mah, eI G 1191 fa), (mfo, eI G 9 ff), (mre, eI G 6 fr)] H := by rw [hH]; exact hP
  refine n_heap hH ?_
  generalize ([] : List Loc) = locs at hS ⊢
  have hiX12 : ∀ w ∈ u_ws RX12 TX12 27, w ∈ wsX12_add := by decide +kernel
  refine lv_aload_n hx hb dX12_add_0 rfl (lv_at hl 0 rfl) ?_
  refine n_cv (wr := [(mfo, eI G 9 ff), (mre, eI G 6 fr)]) (va_runV (As := []) (rest := []) ⟨hx, hb, hml, hown, hts⟩ (mX12_layAhead l G y mm msv mpa mio mfo mre mah mrw mrr mrs mrb mso mnu mse mbe men vS vC vT 0 vL (-1) vR v0 vZ vB vN fm fa H.size) (cwV 0 hts gX12_add_X12_layAhead rfl rfl rfl (by decide +kernel) ⟨(Nat.le_of_ble_eq_true rfl), (Nat.le_of_ble_eq_true rfl)⟩) (n_prV (ci := 13) (q0 := 0) hK hP hD [0, 1, 2] rfl (by decide) rfl rfl) rfl rfl hl.1 rfl (lv_room (Nat.le_of_ble_eq_true rfl)) dX12_add_1 ⟨(Nat.le_of_ble_eq_true rfl), (Nat.le_of_ble_eq_true rfl)⟩) hP hD hS hA [0, 1, 2] [3, 4] rfl rfl (by decide) (by decide) (fun u_1 H locs hP hD hS hw => ?_)
  have hP : va_P G.1 vwCl [(mfo, eI G 9 ff), (mre, eI G 6 fr), (y, .inr (13, [.ref mm, .ref msv, .int vS, .ref mpa, .int vC, .int vT, .int 0, .ref mio, .ref mfo, .int vL, .ref mre, .int (-1), .ref mah, .int vR, .ref mrw, .ref mrr, .ref mrs, .ref mrb, .int v0, .int vZ, .int vB, .int vN, .ref mso, .ref mnu, .ref mse, .ref mbe, .ref men])), (mm, eI G 1191 fm)] H := hP
  have hD : va_D A [(mfo, eI G 9 ff), (mre, eI G 6 fr), (y, .inr (13, [.ref mm, .ref msv, .int vS, .ref mpa, .int vC, .int vT, .int 0, .ref mio, .ref mfo, .int vL, .ref mre, .int (-1), .ref mah, .int vR, .ref mrw, .ref mrr, .ref mrs, .ref mrb, .int v0, .int vZ, .int vB, .int vN, .ref mso, .ref mnu, .ref mse, .ref mbe, .ref men])), (mm, eI G 1191 fm)] := hD
  refine lv_aload_n hx hb dX12_add_4 rfl (lv_at hl 0 rfl) ?_
  refine va_get (D := G.1) (ci := 13) (v := .int 0) (C := RX12) (T := TX12) (N := 27) hx hb hts hiX12 hown hK hP 2 rfl rfl 6 (by decide) (hts (.fieldLink RX12 76 "DialectDictionaryModel" "fed" "I") (by decide +kernel)) (fun _ h9 => h9) rfl dX12_add_5 ?_
  refine lv_istore_n (lv' := [(1, .int 0), (0, .ref y)]) hx hb dX12_add_8 rfl hl (by decide) rfl (fun ls hl => ?_)
  refine lv_aload_n hx hb dX12_add_9 rfl (lv_at hl 1 rfl) ?_
  refine lv_iconst (v := 0) hx hb dX12_add_10 (by decide) ?_
  refine va_put (D := G.1) (ci := 13) (v := .int 0) (ty := .int) (C := RX12) (T := TX12) (N := 27) hx hb hts hiX12 tyX12 tyX12_ok nmX12 hown hK hP hD hS 2 rfl rfl 6 (by decide) (hts (.fieldLink RX12 76 "DialectDictionaryModel" "fed" "I") (by decide +kernel)) (fun _ h9 => h9) rfl (by decide +kernel) rfl rfl (Nat.le_of_ble_eq_true rfl) dX12_add_11 (fun H locs hP hD hS => ?_)
  have hP : va_P G.1 vwCl [(mfo, eI G 9 ff), (mre, eI G 6 fr), (y, .inr (13, [.ref mm, .ref msv, .int vS, .ref mpa, .int vC, .int vT, .int 0, .ref mio, .ref mfo, .int vL, .ref mre, .int (-1), .ref mah, .int vR, .ref mrw, .ref mrr, .ref mrs, .ref mrb, .int v0, .int vZ, .int vB, .int vN, .ref mso, .ref mnu, .ref mse, .ref mbe, .ref men])), (mm, eI G 1191 fm)] H := hP
  have hD : va_D A [(mfo, eI G 9 ff), (mre, eI G 6 fr), (y, .inr (13, [.ref mm, .ref msv, .int vS, .ref mpa, .int vC, .int vT, .int 0, .ref mio, .ref mfo, .int vL, .ref mre, .int (-1), .ref mah, .int vR, .ref mrw, .ref mrr, .ref mrs, .ref mrb, .int v0, .int vZ, .int vB, .int vN, .ref mso, .ref mnu, .ref mse, .ref mbe, .ref men])), (mm, eI G 1191 fm)] := hD
  refine lv_aload_n hx hb dX12_add_14 rfl (lv_at hl 1 rfl) ?_
  refine lv_iconst (v := 1) hx hb dX12_add_15 (by decide) ?_
  refine va_put (D := G.1) (ci := 13) (v := .int 1) (ty := .int) (C := RX12) (T := TX12) (N := 27) hx hb hts hiX12 tyX12 tyX12_ok nmX12 hown hK hP hD hS 2 rfl rfl 5 (by decide) (hts (.fieldLink RX12 62 "DialectDictionaryModel" "thrown" "I") (by decide +kernel)) (fun _ h9 => h9) rfl (by decide +kernel) rfl rfl (Nat.le_of_ble_eq_true rfl) dX12_add_16 (fun H locs hP hD hS => ?_)
  have hP : va_P G.1 vwCl [(mfo, eI G 9 ff), (mre, eI G 6 fr), (y, .inr (13, [.ref mm, .ref msv, .int vS, .ref mpa, .int vC, .int 1, .int 0, .ref mio, .ref mfo, .int vL, .ref mre, .int (-1), .ref mah, .int vR, .ref mrw, .ref mrr, .ref mrs, .ref mrb, .int v0, .int vZ, .int vB, .int vN, .ref mso, .ref mnu, .ref mse, .ref mbe, .ref men])), (mm, eI G 1191 fm)] H := hP
  have hD : va_D A [(mfo, eI G 9 ff), (mre, eI G 6 fr), (y, .inr (13, [.ref mm, .ref msv, .int vS, .ref mpa, .int vC, .int 1, .int 0, .ref mio, .ref mfo, .int vL, .ref mre, .int (-1), .ref mah, .int vR, .ref mrw, .ref mrr, .ref mrs, .ref mrb, .int v0, .int vZ, .int vB, .int vN, .ref mso, .ref mnu, .ref mse, .ref mbe, .ref men])), (mm, eI G 1191 fm)] := hD
  refine lv_aload_n hx hb dX12_add_19 rfl (lv_at hl 1 rfl) ?_
  refine lv_aload_n hx hb dX12_add_20 rfl (lv_at hl 1 rfl) ?_
  refine lv_iconst (v := 0) hx hb dX12_add_21 (by decide) ?_
  refine lv_iload_n hx hb dX12_add_22 rfl (lv_at hl 0 rfl) ?_
  refine n_ci (wr := [(mm, eI G 1191 fm)]) (va_runV (As := [.int 0, .int 0]) (rest := [.ref y]) ⟨hx, hb, hml, hown, hts⟩ (mX12_addTold l G y mm msv mpa mio mfo mre mah mrw mrr mrs mrb mso mnu mse mbe men vS vC 1 0 vL vR v0 vZ vB vN ff fr H.size) (cwV 2 hts gX12_add_X12_addTold rfl rfl rfl (by decide +kernel) ⟨(Nat.le_of_ble_eq_true rfl), (Nat.le_of_ble_eq_true rfl)⟩) (n_prV (ci := 13) (q0 := 2) hK hP hD [2, 0, 1] rfl (by decide) rfl rfl) rfl rfl hl.1 rfl (lv_room (Nat.le_of_ble_eq_true rfl)) dX12_add_23 ⟨(Nat.le_of_ble_eq_true rfl), (Nat.le_of_ble_eq_true rfl)⟩) hP hD hS hA [2, 0, 1] [3] rfl rfl (by decide) (by decide) (fun r_2 u_3 H locs hP hD hS hw => ?_)
  have hP : va_P G.1 vwCl [(mm, eI G 1191 fm), (y, .inr (13, [.ref mm, .ref msv, .int vS, .ref mpa, .int vC, .int 1, .int 0, .ref mio, .ref mfo, .int 2, .ref mre, .int (-1), .ref mah, .int vR, .ref mrw, .ref mrr, .ref mrs, .ref mrb, .int v0, .int vZ, .int vB, .int vN, .ref mso, .ref mnu, .ref mse, .ref mbe, .ref men]))] H := hP
  have hD : va_D A [(mm, eI G 1191 fm), (y, .inr (13, [.ref mm, .ref msv, .int vS, .ref mpa, .int vC, .int 1, .int 0, .ref mio, .ref mfo, .int 2, .ref mre, .int (-1), .ref mah, .int vR, .ref mrw, .ref mrr, .ref mrs, .ref mrb, .int v0, .int vZ, .int vB, .int vN, .ref mso, .ref mnu, .ref mse, .ref mbe, .ref men]))] := hD
  have hw : r_2 = (-1) := hw
  subst hw
  refine n_ci (wr := [(mm, eI G 1191 fm)]) (va_runV (As := [.int (-1)]) (rest := []) ⟨hx, hb, hml, hown, hts⟩ (mX12_done l G y mm msv mpa mio mfo mre mah mrw mrr mrs mrb mso mnu mse mbe men vS vC 1 0 2 (-1) vR v0 vZ vB vN H.size) (cwV 1 hts gX12_add_X12_done rfl rfl rfl (by decide +kernel) ⟨(Nat.le_of_ble_eq_true rfl), (Nat.le_of_ble_eq_true rfl)⟩) (n_prV (ci := 13) (q0 := 1) hK hP hD [1] rfl (by decide) rfl rfl) rfl rfl hl.1 rfl (lv_room (Nat.le_of_ble_eq_true rfl)) dX12_add_26 ⟨(Nat.le_of_ble_eq_true rfl), (Nat.le_of_ble_eq_true rfl)⟩) hP hD hS hA [1] [0] rfl rfl (by decide) (by decide) (fun r_4 u_5 H locs hP hD hS hw => ?_)
  have hP : va_P G.1 vwCl [(mm, eI G 1191 fm), (y, .inr (13, [.ref mm, .ref msv, .int vS, .ref mpa, .int vC, .int 1, .int 0, .ref mio, .ref mfo, .int 2, .ref mre, .int (-1), .ref mah, .int vR, .ref mrw, .ref mrr, .ref mrs, .ref mrb, .int v0, .int vZ, .int vB, .int vN, .ref mso, .ref mnu, .ref mse, .ref mbe, .ref men]))] H := hP
  have hD : va_D A [(mm, eI G 1191 fm), (y, .inr (13, [.ref mm, .ref msv, .int vS, .ref mpa, .int vC, .int 1, .int 0, .ref mio, .ref mfo, .int 2, .ref mre, .int (-1), .ref mah, .int vR, .ref mrw, .ref mrr, .ref mrs, .ref mrb, .int v0, .int vZ, .int vB, .int vN, .ref mso, .ref mnu, .ref mse, .ref mbe, .ref men]))] := hD
  have hw : r_4 = 0 := hw
  subst hw
  have hP9 := n_Psub (wc := [(y, .inr (13, [.ref mm, .ref msv, .int vS, .ref mpa, .int vC, .int 1, .int 0, .ref mio, .ref mfo, .int 2, .ref mre, .int (-1), .ref mah, .int vR, .ref mrw, .ref mrr, .ref mrs, .ref mrb, .int v0, .int vZ, .int vB, .int vN, .ref mso, .ref mnu, .ref mse, .ref mbe, .ref men]))]) hP [1] rfl
  have hD9 := hD.sub (ws' := [(y, .inr (13, [.ref mm, .ref msv, .int vS, .ref mpa, .int vC, .int 1, .int 0, .ref mio, .ref mfo, .int 2, .ref mre, .int (-1), .ref mah, .int vR, .ref mrw, .ref mrr, .ref mrs, .ref mrb, .int v0, .int vZ, .int vB, .int vN, .ref mso, .ref mnu, .ref mse, .ref mbe, .ref men]))]) [1] (by decide) rfl
  refine W.widen (k := 0) (n := 0) (Nat.le_of_ble_eq_true rfl) (Nat.le_of_ble_eq_true rfl) ?_
  exact W.iret (v := 0) hx hb hr (fun t ht hW => ⟨⟨0, (), rfl, rfl, by rw [ht]; exact hP9, va_K.moved hW.alike hK, hD9⟩, hS.F ht⟩) hS.2.2 dX12_add_29

set_option maxHeartbeats 4000000 in
set_option maxRecDepth 100000 in
theorem mX12_find (l : Launch) (G : nG) (y : Nat) (mm : Nat) (msv : Nat) (mpa : Nat) (mio : Nat) (mfo : Nat) (mre : Nat) (mah : Nat) (mrw : Nat) (mrr : Nat) (mrs : Nat) (mrb : Nat) (mso : Nat) (mnu : Nat) (mse : Nat) (mbe : Nat) (men : Nat) (vS : Int32) (vC : Int32) (vT : Int32) (vL : Int32) (vK : Int32) (vR : Int32) (v0 : Int32) (vZ : Int32) (vB : Int32) (vN : Int32) (ff : Nat → Int32) (sz : Nat) : Met l yX12_find wsX12_find ({ frames := 2, cells := 0, slots := 0, locals := 46 }) (va_Pc [.ref y] (n_pp G [(y, .inr (13, [.ref mm, .ref msv, .int vS, .ref mpa, .int vC, .int vT, .int 0, .ref mio, .ref mfo, .int vL, .ref mre, .int vK, .ref mah, .int vR, .ref mrw, .ref mrr, .ref mrs, .ref mrb, .int v0, .int vZ, .int vB, .int vN, .ref mso, .ref mnu, .ref mse, .ref mbe, .ref men])), (mfo, eI G 9 ff)] sz)) (va_Qi (fun (r : Int32) (_ : Unit) => r = 0) (fun (_ : Unit) (t : State) => n_po G (va_A [(y, .inr (13, [.ref mm, .ref msv, .int vS, .ref mpa, .int vC, .int vT, .int 0, .ref mio, .ref mfo, .int vL, .ref mre, .int vK, .ref mah, .int vR, .ref mrw, .ref mrr, .ref mrs, .ref mrb, .int v0, .int vZ, .int vB, .int vN, .ref mso, .ref mnu, .ref mse, .ref mbe, .ref men])), (mfo, eI G 9 ff)] sz) [(y, .inr (13, [.ref mm, .ref msv, .int vS, .ref mpa, .int vC, .int 1, .int 0, .ref mio, .ref mfo, .int vL, .ref mre, .int vK, .ref mah, .int vR, .ref mrw, .ref mrr, .ref mrs, .ref mrb, .int v0, .int vZ, .int vB, .int vN, .ref mso, .ref mnu, .ref mse, .ref mbe, .ref men]))] t) (va_A [(y, .inr (13, [.ref mm, .ref msv, .int vS, .ref mpa, .int vC, .int vT, .int 0, .ref mio, .ref mfo, .int vL, .ref mre, .int vK, .ref mah, .int vR, .ref mrw, .ref mrr, .ref mrs, .ref mrb, .int v0, .int vZ, .int vB, .int vN, .ref mso, .ref mnu, .ref mse, .ref mbe, .ref men])), (mfo, eI G 9 ff)] sz)) 0 0 (va_A [(y, .inr (13, [.ref mm, .ref msv, .int vS, .ref mpa, .int vC, .int vT, .int 0, .ref mio, .ref mfo, .int vL, .ref mre, .int vK, .ref mah, .int vR, .ref mrw, .ref mrr, .ref mrs, .ref mrb, .int v0, .int vZ, .int vB, .int vN, .ref mso, .ref mnu, .ref mse, .ref mbe, .ref men])), (mfo, eI G 9 ff)] sz) := by
  refine Met.ofW (cc := cX12_find) (maxL := 3) (ret := (some .int)) (by decide) rfl ?_
  intro p e s m args below meth c s₁ B hml hv
  obtain ⟨rfl, hsz, hP, hK, hD0⟩ := hv
  have hx := B.exec
  have hb := B.bytes
  have hr := B.returns
  have hts := atoms_spec (ws := wsX12_find) B.pre
  have hown : s.vm.findClass RX12 = some m.cls := findClass_of_methodNamed B.named
  have hlocks := B.notSynchronized
  subst hsz
  have hD := hD0.self (sz := s.heap.size)
  generalize hAe : va_A [(y, .inr (13, [.ref mm, .ref msv, .int vS, .ref mpa, .int vC, .int vT, .int 0, .ref mio, .ref mfo, .int vL, .ref mre, .int vK, .ref mah, .int vR, .ref mrw, .ref mrr, .ref mrs, .ref mrb, .int v0, .int vZ, .int vB, .int vN, .ref mso, .ref mnu, .ref mse, .ref mbe, .ref men])), (mfo, eI G 9 ff)] s.heap.size = A at hD ⊢
  have hA : ∀ q : Nat, s.heap.size ≤ q → A q := fun q h => by rw [← hAe]; exact Or.inr h
  have hS : va_S A s.heap s.heap [] := va_S.rf
  have hP : va_P G.1 vwCl [(y, .inr (13, [.ref mm, .ref msv, .int vS, .ref mpa, .int vC, .int vT, .int 0, .ref mio, .ref mfo, .int vL, .ref mre, .int vK, .ref mah, .int vR, .ref mrw, .ref mrr, .ref mrs, .ref mrb, .int v0, .int vZ, .int vB, .int vN, .ref mso, .ref mnu, .ref mse, .ref mbe, .ref men])), (mfo, eI G 9 ff)] s.heap := hP
  have hl := lv_entry ([.ref y]) (n := 3) (Nat.le_of_ble_eq_true rfl)
  rw [lg_entry_eq]
  generalize (lg_sl ([.ref y]) ++ List.replicate (3 - (lg_sl ([.ref y])).length) Slot.unset).toArray = ls at hl ⊢
  have hl : lv_has ls 3 [(0, .ref y)] := hl
  obtain ⟨H, hH⟩ : ∃ z, z = s.heap := ⟨_, rfl⟩
  have hS : va_S A s.heap H [] := by rw [hH]; exact hS
  have hP : va_P G.1 vwCl [(y, .inr (13, [.ref mm, .ref msv, .int vS, .ref mpa, .int vC, .int vT, .int 0, .ref mio, .ref mfo, .int vL, .ref mre, .int vK, .ref mah, .int vR, .ref mrw, .ref mrr, .ref mrs, .ref mrb, .int v0, .int vZ, .int vB, .int vN, .ref mso, .ref mnu, .ref mse, .ref mbe, .ref men])), (mfo, eI G 9 ff)] H := by rw [hH]; exact hP
  refine n_heap hH ?_
  generalize ([] : List Loc) = locs at hS ⊢
  have hiX12 : ∀ w ∈ u_ws RX12 TX12 27, w ∈ wsX12_find := by decide +kernel
  refine lv_aload_n hx hb dX12_find_0 rfl (lv_at hl 0 rfl) ?_
  refine lv_iconst (v := 0) hx hb dX12_find_1 (by decide) ?_
  refine va_put (D := G.1) (ci := 13) (v := .int 0) (ty := .int) (C := RX12) (T := TX12) (N := 27) hx hb hts hiX12 tyX12 tyX12_ok nmX12 hown hK hP hD hS 0 rfl rfl 5 (by decide) (hts (.fieldLink RX12 62 "DialectDictionaryModel" "thrown" "I") (by decide +kernel)) (fun _ h9 => h9) rfl (by decide +kernel) rfl rfl (Nat.le_of_ble_eq_true rfl) dX12_find_2 (fun H locs hP hD hS => ?_)
  have hP : va_P G.1 vwCl [(y, .inr (13, [.ref mm, .ref msv, .int vS, .ref mpa, .int vC, .int 0, .int 0, .ref mio, .ref mfo, .int vL, .ref mre, .int vK, .ref mah, .int vR, .ref mrw, .ref mrr, .ref mrs, .ref mrb, .int v0, .int vZ, .int vB, .int vN, .ref mso, .ref mnu, .ref mse, .ref mbe, .ref men])), (mfo, eI G 9 ff)] H := hP
  have hD : va_D A [(y, .inr (13, [.ref mm, .ref msv, .int vS, .ref mpa, .int vC, .int 0, .int 0, .ref mio, .ref mfo, .int vL, .ref mre, .int vK, .ref mah, .int vR, .ref mrw, .ref mrr, .ref mrs, .ref mrb, .int v0, .int vZ, .int vB, .int vN, .ref mso, .ref mnu, .ref mse, .ref mbe, .ref men])), (mfo, eI G 9 ff)] := hD
  refine lv_aload_n hx hb dX12_find_5 rfl (lv_at hl 0 rfl) ?_
  refine lv_iconst (v := 0) hx hb dX12_find_6 (by decide) ?_
  refine lv_aload_n hx hb dX12_find_7 rfl (lv_at hl 0 rfl) ?_
  refine va_get (D := G.1) (ci := 13) (v := .int 0) (C := RX12) (T := TX12) (N := 27) hx hb hts hiX12 hown hK hP 0 rfl rfl 6 (by decide) (hts (.fieldLink RX12 76 "DialectDictionaryModel" "fed" "I") (by decide +kernel)) (fun _ h9 => h9) rfl dX12_find_8 ?_
  refine n_ci (wr := []) (va_runV (As := [.int 0, .int 0]) (rest := []) ⟨hx, hb, hml, hown, hts⟩ (mX12_readForm l G y mm msv mpa mio mfo mre mah mrw mrr mrs mrb mso mnu mse mbe men vS vC 0 0 vL vK vR v0 vZ vB vN ff H.size) (cwV 2 hts gX12_find_X12_readForm rfl rfl rfl (by decide +kernel) ⟨(Nat.le_of_ble_eq_true rfl), (Nat.le_of_ble_eq_true rfl)⟩) (n_prV (ci := 13) (q0 := 0) hK hP hD [0, 1] rfl (by decide) rfl rfl) rfl rfl hl.1 rfl (lv_room (Nat.le_of_ble_eq_true rfl)) dX12_find_11 ⟨(Nat.le_of_ble_eq_true rfl), (Nat.le_of_ble_eq_true rfl)⟩) hP hD hS hA [0, 1] [] rfl rfl (by decide) (by decide) (fun r_1 u_2 H locs hP hD hS hw => ?_)
  have hP : va_P G.1 vwCl [(y, .inr (13, [.ref mm, .ref msv, .int vS, .ref mpa, .int vC, .int 0, .int 0, .ref mio, .ref mfo, .int vL, .ref mre, .int vK, .ref mah, .int vR, .ref mrw, .ref mrr, .ref mrs, .ref mrb, .int v0, .int vZ, .int vB, .int vN, .ref mso, .ref mnu, .ref mse, .ref mbe, .ref men]))] H := hP
  have hD : va_D A [(y, .inr (13, [.ref mm, .ref msv, .int vS, .ref mpa, .int vC, .int 0, .int 0, .ref mio, .ref mfo, .int vL, .ref mre, .int vK, .ref mah, .int vR, .ref mrw, .ref mrr, .ref mrs, .ref mrb, .int v0, .int vZ, .int vB, .int vN, .ref mso, .ref mnu, .ref mse, .ref mbe, .ref men]))] := hD
  have hw : r_1 = 0 := hw
  subst hw
  refine lv_istore_n (lv' := [(1, .int 0), (0, .ref y)]) hx hb dX12_find_14 rfl hl (by decide) rfl (fun ls hl => ?_)
  refine lv_aload_n hx hb dX12_find_15 rfl (lv_at hl 1 rfl) ?_
  refine lv_iconst (v := 0) hx hb dX12_find_16 (by decide) ?_
  refine va_put (D := G.1) (ci := 13) (v := .int 0) (ty := .int) (C := RX12) (T := TX12) (N := 27) hx hb hts hiX12 tyX12 tyX12_ok nmX12 hown hK hP hD hS 0 rfl rfl 6 (by decide) (hts (.fieldLink RX12 76 "DialectDictionaryModel" "fed" "I") (by decide +kernel)) (fun _ h9 => h9) rfl (by decide +kernel) rfl rfl (Nat.le_of_ble_eq_true rfl) dX12_find_17 (fun H locs hP hD hS => ?_)
  have hP : va_P G.1 vwCl [(y, .inr (13, [.ref mm, .ref msv, .int vS, .ref mpa, .int vC, .int 0, .int 0, .ref mio, .ref mfo, .int vL, .ref mre, .int vK, .ref mah, .int vR, .ref mrw, .ref mrr, .ref mrs, .ref mrb, .int v0, .int vZ, .int vB, .int vN, .ref mso, .ref mnu, .ref mse, .ref mbe, .ref men]))] H := hP
  have hD : va_D A [(y, .inr (13, [.ref mm, .ref msv, .int vS, .ref mpa, .int vC, .int 0, .int 0, .ref mio, .ref mfo, .int vL, .ref mre, .int vK, .ref mah, .int vR, .ref mrw, .ref mrr, .ref mrs, .ref mrb, .int v0, .int vZ, .int vB, .int vN, .ref mso, .ref mnu, .ref mse, .ref mbe, .ref men]))] := hD
  refine lv_iload_n hx hb dX12_find_20 rfl (lv_at hl 0 rfl) ?_
  refine lv_if_lt (tgt := 28) hx hb dX12_find_21 (by decide) (fun h9 => absurd h9 (by decide)) (fun _ => ?_)
  refine lv_iconst (v := -1) hx hb dX12_find_24 (by decide) ?_
  refine lv_goto (tgt := 32) hx hb dX12_find_25 (by decide) ?_
  refine lv_istore_n (lv' := [(2, .int (-1)), (1, .int 0), (0, .ref y)]) hx hb dX12_find_32 rfl hl (by decide) rfl (fun ls hl => ?_)
  refine lv_iload_n hx hb dX12_find_33 rfl (lv_at hl 0 rfl) ?_
  refine lv_if_lt (tgt := 41) hx hb dX12_find_34 (by decide) (fun _ => ?_) (fun h9 => absurd (by decide) h9)
  refine lv_aload_n hx hb dX12_find_41 rfl (lv_at hl 2 rfl) ?_
  refine lv_iconst (v := 1) hx hb dX12_find_42 (by decide) ?_
  refine n_ci (wr := []) (va_runV (As := [.int 1]) (rest := []) ⟨hx, hb, hml, hown, hts⟩ (mX12_refuse l G y mm msv mpa mio mfo mre mah mrw mrr mrs mrb mso mnu mse mbe men vS vC 0 0 vL vK vR v0 vZ vB vN 1 H.size) (cwV 1 hts gX12_find_X12_refuse rfl rfl rfl (by decide +kernel) ⟨(Nat.le_of_ble_eq_true rfl), (Nat.le_of_ble_eq_true rfl)⟩) (n_prV (ci := 13) (q0 := 0) hK hP hD [0] rfl (by decide) rfl rfl) rfl rfl hl.1 rfl (lv_room (Nat.le_of_ble_eq_true rfl)) dX12_find_43 ⟨(Nat.le_of_ble_eq_true rfl), (Nat.le_of_ble_eq_true rfl)⟩) hP hD hS hA [0] [] rfl rfl (by decide) (by decide) (fun r_3 u_4 H locs hP hD hS hw => ?_)
  have hP : va_P G.1 vwCl [(y, .inr (13, [.ref mm, .ref msv, .int vS, .ref mpa, .int vC, .int 1, .int 0, .ref mio, .ref mfo, .int vL, .ref mre, .int vK, .ref mah, .int vR, .ref mrw, .ref mrr, .ref mrs, .ref mrb, .int v0, .int vZ, .int vB, .int vN, .ref mso, .ref mnu, .ref mse, .ref mbe, .ref men]))] H := hP
  have hD : va_D A [(y, .inr (13, [.ref mm, .ref msv, .int vS, .ref mpa, .int vC, .int 1, .int 0, .ref mio, .ref mfo, .int vL, .ref mre, .int vK, .ref mah, .int vR, .ref mrw, .ref mrr, .ref mrs, .ref mrb, .int v0, .int vZ, .int vB, .int vN, .ref mso, .ref mnu, .ref mse, .ref mbe, .ref men]))] := hD
  have hw : r_3 = 0 := hw
  subst hw
  have hP9 := n_Psub (wc := [(y, .inr (13, [.ref mm, .ref msv, .int vS, .ref mpa, .int vC, .int 1, .int 0, .ref mio, .ref mfo, .int vL, .ref mre, .int vK, .ref mah, .int vR, .ref mrw, .ref mrr, .ref mrs, .ref mrb, .int v0, .int vZ, .int vB, .int vN, .ref mso, .ref mnu, .ref mse, .ref mbe, .ref men]))]) hP [0] rfl
  have hD9 := hD.sub (ws' := [(y, .inr (13, [.ref mm, .ref msv, .int vS, .ref mpa, .int vC, .int 1, .int 0, .ref mio, .ref mfo, .int vL, .ref mre, .int vK, .ref mah, .int vR, .ref mrw, .ref mrr, .ref mrs, .ref mrb, .int v0, .int vZ, .int vB, .int vN, .ref mso, .ref mnu, .ref mse, .ref mbe, .ref men]))]) [0] (by decide) rfl
  refine W.widen (k := 0) (n := 0) (Nat.le_of_ble_eq_true rfl) (Nat.le_of_ble_eq_true rfl) ?_
  exact W.iret (v := 0) hx hb hr (fun t ht hW => ⟨⟨0, (), rfl, rfl, by rw [ht]; exact hP9, va_K.moved hW.alike hK, hD9⟩, hS.F ht⟩) hS.2.2 dX12_find_46

set_option maxHeartbeats 4000000 in
set_option maxRecDepth 100000 in
theorem mX12_feed (l : Launch) (G : nG) (y : Nat) (mm : Nat) (msv : Nat) (mpa : Nat) (mio : Nat) (mfo : Nat) (mre : Nat) (mah : Nat) (mrw : Nat) (mrr : Nat) (mrs : Nat) (mrb : Nat) (mso : Nat) (mnu : Nat) (mse : Nat) (mbe : Nat) (men : Nat) (vS : Int32) (vC : Int32) (vT : Int32) (vL : Int32) (vK : Int32) (vR : Int32) (v0 : Int32) (vZ : Int32) (vB : Int32) (vN : Int32) (fi : Nat → Int32) (q : Int32) (sz : Nat) : Met l yX12_feed wsX12_feed ({ frames := 0, cells := 0, slots := 0, locals := 0 }) (va_Pc [.ref y, .int q] (n_pp G [(y, .inr (13, [.ref mm, .ref msv, .int vS, .ref mpa, .int vC, .int vT, .int 0, .ref mio, .ref mfo, .int vL, .ref mre, .int vK, .ref mah, .int vR, .ref mrw, .ref mrr, .ref mrs, .ref mrb, .int v0, .int vZ, .int vB, .int vN, .ref mso, .ref mnu, .ref mse, .ref mbe, .ref men])), (mio, eI G 60 fi)] sz)) (va_Qi (fun (r : Int32) (_ : Unit) => r = 1) (fun (_ : Unit) (t : State) => n_po G (va_A [(y, .inr (13, [.ref mm, .ref msv, .int vS, .ref mpa, .int vC, .int vT, .int 0, .ref mio, .ref mfo, .int vL, .ref mre, .int vK, .ref mah, .int vR, .ref mrw, .ref mrr, .ref mrs, .ref mrb, .int v0, .int vZ, .int vB, .int vN, .ref mso, .ref mnu, .ref mse, .ref mbe, .ref men])), (mio, eI G 60 fi)] sz) [(y, .inr (13, [.ref mm, .ref msv, .int vS, .ref mpa, .int vC, .int 0, .int 1, .ref mio, .ref mfo, .int vL, .ref mre, .int vK, .ref mah, .int vR, .ref mrw, .ref mrr, .ref mrs, .ref mrb, .int v0, .int vZ, .int vB, .int vN, .ref mso, .ref mnu, .ref mse, .ref mbe, .ref men]))] t) (va_A [(y, .inr (13, [.ref mm, .ref msv, .int vS, .ref mpa, .int vC, .int vT, .int 0, .ref mio, .ref mfo, .int vL, .ref mre, .int vK, .ref mah, .int vR, .ref mrw, .ref mrr, .ref mrs, .ref mrb, .int v0, .int vZ, .int vB, .int vN, .ref mso, .ref mnu, .ref mse, .ref mbe, .ref men])), (mio, eI G 60 fi)] sz)) 0 0 (va_A [(y, .inr (13, [.ref mm, .ref msv, .int vS, .ref mpa, .int vC, .int vT, .int 0, .ref mio, .ref mfo, .int vL, .ref mre, .int vK, .ref mah, .int vR, .ref mrw, .ref mrr, .ref mrs, .ref mrb, .int v0, .int vZ, .int vB, .int vN, .ref mso, .ref mnu, .ref mse, .ref mbe, .ref men])), (mio, eI G 60 fi)] sz) := by
  refine Met.ofW (cc := cX12_feed) (maxL := 2) (ret := (some .int)) (by decide) rfl ?_
  intro p e s m args below meth c s₁ B hml hv
  obtain ⟨rfl, hsz, hP, hK, hD0⟩ := hv
  have hx := B.exec
  have hb := B.bytes
  have hr := B.returns
  have hts := atoms_spec (ws := wsX12_feed) B.pre
  have hown : s.vm.findClass RX12 = some m.cls := findClass_of_methodNamed B.named
  have hlocks := B.notSynchronized
  subst hsz
  have hD := hD0.self (sz := s.heap.size)
  generalize hAe : va_A [(y, .inr (13, [.ref mm, .ref msv, .int vS, .ref mpa, .int vC, .int vT, .int 0, .ref mio, .ref mfo, .int vL, .ref mre, .int vK, .ref mah, .int vR, .ref mrw, .ref mrr, .ref mrs, .ref mrb, .int v0, .int vZ, .int vB, .int vN, .ref mso, .ref mnu, .ref mse, .ref mbe, .ref men])), (mio, eI G 60 fi)] s.heap.size = A at hD ⊢
  have hA : ∀ q : Nat, s.heap.size ≤ q → A q := fun q h => by rw [← hAe]; exact Or.inr h
  have hS : va_S A s.heap s.heap [] := va_S.rf
  have hP : va_P G.1 vwCl [(y, .inr (13, [.ref mm, .ref msv, .int vS, .ref mpa, .int vC, .int vT, .int 0, .ref mio, .ref mfo, .int vL, .ref mre, .int vK, .ref mah, .int vR, .ref mrw, .ref mrr, .ref mrs, .ref mrb, .int v0, .int vZ, .int vB, .int vN, .ref mso, .ref mnu, .ref mse, .ref mbe, .ref men])), (mio, eI G 60 fi)] s.heap := hP
  have hl := lv_entry ([.ref y, .int q]) (n := 2) (Nat.le_of_ble_eq_true rfl)
  rw [lg_entry_eq]
  generalize (lg_sl ([.ref y, .int q]) ++ List.replicate (2 - (lg_sl ([.ref y, .int q])).length) Slot.unset).toArray = ls at hl ⊢
  have hl : lv_has ls 2 [(0, .ref y), (1, .int q)] := hl
  obtain ⟨H, hH⟩ : ∃ z, z = s.heap := ⟨_, rfl⟩
  have hS : va_S A s.heap H [] := by rw [hH]; exact hS
  have hP : va_P G.1 vwCl [(y, .inr (13, [.ref mm, .ref msv, .int vS, .ref mpa, .int vC, .int vT, .int 0, .ref mio, .ref mfo, .int vL, .ref mre, .int vK, .ref mah, .int vR, .ref mrw, .ref mrr, .ref mrs, .ref mrb, .int v0, .int vZ, .int vB, .int vN, .ref mso, .ref mnu, .ref mse, .ref mbe, .ref men])), (mio, eI G 60 fi)] H := by rw [hH]; exact hP
  refine n_heap hH ?_
  generalize ([] : List Loc) = locs at hS ⊢
  have hiX12 : ∀ w ∈ u_ws RX12 TX12 27, w ∈ wsX12_feed := by decide +kernel
  refine lv_aload_n hx hb dX12_feed_0 rfl (lv_at hl 0 rfl) ?_
  refine lv_iconst (v := 0) hx hb dX12_feed_1 (by decide) ?_
  refine va_put (D := G.1) (ci := 13) (v := .int 0) (ty := .int) (C := RX12) (T := TX12) (N := 27) hx hb hts hiX12 tyX12 tyX12_ok nmX12 hown hK hP hD hS 0 rfl rfl 5 (by decide) (hts (.fieldLink RX12 62 "DialectDictionaryModel" "thrown" "I") (by decide +kernel)) (fun _ h9 => h9) rfl (by decide +kernel) rfl rfl (Nat.le_of_ble_eq_true rfl) dX12_feed_2 (fun H locs hP hD hS => ?_)
  have hP : va_P G.1 vwCl [(y, .inr (13, [.ref mm, .ref msv, .int vS, .ref mpa, .int vC, .int 0, .int 0, .ref mio, .ref mfo, .int vL, .ref mre, .int vK, .ref mah, .int vR, .ref mrw, .ref mrr, .ref mrs, .ref mrb, .int v0, .int vZ, .int vB, .int vN, .ref mso, .ref mnu, .ref mse, .ref mbe, .ref men])), (mio, eI G 60 fi)] H := hP
  have hD : va_D A [(y, .inr (13, [.ref mm, .ref msv, .int vS, .ref mpa, .int vC, .int 0, .int 0, .ref mio, .ref mfo, .int vL, .ref mre, .int vK, .ref mah, .int vR, .ref mrw, .ref mrr, .ref mrs, .ref mrb, .int v0, .int vZ, .int vB, .int vN, .ref mso, .ref mnu, .ref mse, .ref mbe, .ref men])), (mio, eI G 60 fi)] := hD
  refine lv_aload_n hx hb dX12_feed_5 rfl (lv_at hl 0 rfl) ?_
  refine va_get (D := G.1) (ci := 13) (v := .int 0) (C := RX12) (T := TX12) (N := 27) hx hb hts hiX12 hown hK hP 0 rfl rfl 6 (by decide) (hts (.fieldLink RX12 76 "DialectDictionaryModel" "fed" "I") (by decide +kernel)) (fun _ h9 => h9) rfl dX12_feed_6 ?_
  refine lv_bipush (v := 60) hx hb dX12_feed_9 (by decide) ?_
  refine lv_icmp_ne (tgt := 20) hx hb dX12_feed_11 (by decide) (fun _ => ?_) (fun h9 => absurd h9 (by decide))
  refine lv_aload_n hx hb dX12_feed_20 rfl (lv_at hl 0 rfl) ?_
  refine va_get (D := G.1) (ci := 13) (v := .ref mio) (C := RX12) (T := TX12) (N := 27) hx hb hts hiX12 hown hK hP 0 rfl rfl 7 (by decide) (hts (.fieldLink RX12 19 "DialectDictionaryModel" "input" "[I") (by decide +kernel)) (fun _ h9 => h9) rfl dX12_feed_21 ?_
  refine lv_aload_n hx hb dX12_feed_24 rfl (lv_at hl 0 rfl) ?_
  refine va_get (D := G.1) (ci := 13) (v := .int 0) (C := RX12) (T := TX12) (N := 27) hx hb hts hiX12 hown hK hP 0 rfl rfl 6 (by decide) (hts (.fieldLink RX12 76 "DialectDictionaryModel" "fed" "I") (by decide +kernel)) (fun _ h9 => h9) rfl dX12_feed_25 ?_
  refine lv_iload_n hx hb dX12_feed_28 rfl (lv_at hl 1 rfl) ?_
  refine va_iast hx hb hK hP hD hS 1 0 rfl rfl (n_in (by decide)) dX12_feed_29 (fun H locs hP hD hS => ?_)
  have hP : va_P G.1 vwCl [(y, .inr (13, [.ref mm, .ref msv, .int vS, .ref mpa, .int vC, .int 0, .int 0, .ref mio, .ref mfo, .int vL, .ref mre, .int vK, .ref mah, .int vR, .ref mrw, .ref mrr, .ref mrs, .ref mrb, .int v0, .int vZ, .int vB, .int vN, .ref mso, .ref mnu, .ref mse, .ref mbe, .ref men])), (mio, eI G 60 (upd fi ((0 : Int32).toNatClampNeg) q))] H := hP
  have hD : va_D A [(y, .inr (13, [.ref mm, .ref msv, .int vS, .ref mpa, .int vC, .int 0, .int 0, .ref mio, .ref mfo, .int vL, .ref mre, .int vK, .ref mah, .int vR, .ref mrw, .ref mrr, .ref mrs, .ref mrb, .int v0, .int vZ, .int vB, .int vN, .ref mso, .ref mnu, .ref mse, .ref mbe, .ref men])), (mio, eI G 60 (upd fi ((0 : Int32).toNatClampNeg) q))] := hD
  refine lv_aload_n hx hb dX12_feed_30 rfl (lv_at hl 0 rfl) ?_
  refine lv_dup hx hb dX12_feed_31 rfl ?_
  refine va_get (D := G.1) (ci := 13) (v := .int 0) (C := RX12) (T := TX12) (N := 27) hx hb hts hiX12 hown hK hP 0 rfl rfl 6 (by decide) (hts (.fieldLink RX12 76 "DialectDictionaryModel" "fed" "I") (by decide +kernel)) (fun _ h9 => h9) rfl dX12_feed_32 ?_
  refine lv_iconst (v := 1) hx hb dX12_feed_35 (by decide) ?_
  refine lv_iadd hx hb dX12_feed_36 ?_
  refine n_eqi (y := 1) (by decide) ?_
  refine va_put (D := G.1) (ci := 13) (v := .int 1) (ty := .int) (C := RX12) (T := TX12) (N := 27) hx hb hts hiX12 tyX12 tyX12_ok nmX12 hown hK hP hD hS 0 rfl rfl 6 (by decide) (hts (.fieldLink RX12 76 "DialectDictionaryModel" "fed" "I") (by decide +kernel)) (fun _ h9 => h9) rfl (by decide +kernel) rfl rfl (Nat.le_of_ble_eq_true rfl) dX12_feed_37 (fun H locs hP hD hS => ?_)
  have hP : va_P G.1 vwCl [(y, .inr (13, [.ref mm, .ref msv, .int vS, .ref mpa, .int vC, .int 0, .int 1, .ref mio, .ref mfo, .int vL, .ref mre, .int vK, .ref mah, .int vR, .ref mrw, .ref mrr, .ref mrs, .ref mrb, .int v0, .int vZ, .int vB, .int vN, .ref mso, .ref mnu, .ref mse, .ref mbe, .ref men])), (mio, eI G 60 (upd fi ((0 : Int32).toNatClampNeg) q))] H := hP
  have hD : va_D A [(y, .inr (13, [.ref mm, .ref msv, .int vS, .ref mpa, .int vC, .int 0, .int 1, .ref mio, .ref mfo, .int vL, .ref mre, .int vK, .ref mah, .int vR, .ref mrw, .ref mrr, .ref mrs, .ref mrb, .int v0, .int vZ, .int vB, .int vN, .ref mso, .ref mnu, .ref mse, .ref mbe, .ref men])), (mio, eI G 60 (upd fi ((0 : Int32).toNatClampNeg) q))] := hD
  refine lv_aload_n hx hb dX12_feed_40 rfl (lv_at hl 0 rfl) ?_
  refine va_get (D := G.1) (ci := 13) (v := .int 1) (C := RX12) (T := TX12) (N := 27) hx hb hts hiX12 hown hK hP 0 rfl rfl 6 (by decide) (hts (.fieldLink RX12 76 "DialectDictionaryModel" "fed" "I") (by decide +kernel)) (fun _ h9 => h9) rfl dX12_feed_41 ?_
  have hP9 := n_Psub (wc := [(y, .inr (13, [.ref mm, .ref msv, .int vS, .ref mpa, .int vC, .int 0, .int 1, .ref mio, .ref mfo, .int vL, .ref mre, .int vK, .ref mah, .int vR, .ref mrw, .ref mrr, .ref mrs, .ref mrb, .int v0, .int vZ, .int vB, .int vN, .ref mso, .ref mnu, .ref mse, .ref mbe, .ref men]))]) hP [0] rfl
  have hD9 := hD.sub (ws' := [(y, .inr (13, [.ref mm, .ref msv, .int vS, .ref mpa, .int vC, .int 0, .int 1, .ref mio, .ref mfo, .int vL, .ref mre, .int vK, .ref mah, .int vR, .ref mrw, .ref mrr, .ref mrs, .ref mrb, .int v0, .int vZ, .int vB, .int vN, .ref mso, .ref mnu, .ref mse, .ref mbe, .ref men]))]) [0] (by decide) rfl
  refine W.widen (k := 0) (n := 0) (Nat.le_of_ble_eq_true rfl) (Nat.le_of_ble_eq_true rfl) ?_
  exact W.iret (v := 1) hx hb hr (fun t ht hW => ⟨⟨1, (), rfl, rfl, by rw [ht]; exact hP9, va_K.moved hW.alike hK, hD9⟩, hS.F ht⟩) hS.2.2 dX12_feed_44

set_option maxHeartbeats 4000000 in
set_option maxRecDepth 100000 in
theorem mX12_report (l : Launch) (G : nG) (y : Nat) (mm : Nat) (msv : Nat) (mpa : Nat) (mio : Nat) (mfo : Nat) (mre : Nat) (mah : Nat) (mrw : Nat) (mrr : Nat) (mrs : Nat) (mrb : Nat) (mso : Nat) (mnu : Nat) (mse : Nat) (mbe : Nat) (men : Nat) (vS : Int32) (vC : Int32) (vT : Int32) (vF : Int32) (vK : Int32) (vR : Int32) (v0 : Int32) (vZ : Int32) (vB : Int32) (vN : Int32) (q : Int32) (q2 : Int32) (sz : Nat) : Met l yX12_report wsX12_report ({ frames := 1, cells := 0, slots := 0, locals := 22 }) (va_Pc [.ref y, .int q, .int q2] (n_pp G [(y, .inr (13, [.ref mm, .ref msv, .int vS, .ref mpa, .int vC, .int vT, .int vF, .ref mio, .ref mfo, .int 0, .ref mre, .int vK, .ref mah, .int vR, .ref mrw, .ref mrr, .ref mrs, .ref mrb, .int v0, .int vZ, .int vB, .int vN, .ref mso, .ref mnu, .ref mse, .ref mbe, .ref men]))] sz)) (va_Qi (fun (r : Int32) (_ : Unit) => r = 0) (fun (_ : Unit) (t : State) => n_po G (va_A [(y, .inr (13, [.ref mm, .ref msv, .int vS, .ref mpa, .int vC, .int vT, .int vF, .ref mio, .ref mfo, .int 0, .ref mre, .int vK, .ref mah, .int vR, .ref mrw, .ref mrr, .ref mrs, .ref mrb, .int v0, .int vZ, .int vB, .int vN, .ref mso, .ref mnu, .ref mse, .ref mbe, .ref men]))] sz) [(y, .inr (13, [.ref mm, .ref msv, .int vS, .ref mpa, .int vC, .int 1, .int vF, .ref mio, .ref mfo, .int 0, .ref mre, .int vK, .ref mah, .int vR, .ref mrw, .ref mrr, .ref mrs, .ref mrb, .int v0, .int vZ, .int vB, .int vN, .ref mso, .ref mnu, .ref mse, .ref mbe, .ref men]))] t) (va_A [(y, .inr (13, [.ref mm, .ref msv, .int vS, .ref mpa, .int vC, .int vT, .int vF, .ref mio, .ref mfo, .int 0, .ref mre, .int vK, .ref mah, .int vR, .ref mrw, .ref mrr, .ref mrs, .ref mrb, .int v0, .int vZ, .int vB, .int vN, .ref mso, .ref mnu, .ref mse, .ref mbe, .ref men]))] sz)) 0 0 (va_A [(y, .inr (13, [.ref mm, .ref msv, .int vS, .ref mpa, .int vC, .int vT, .int vF, .ref mio, .ref mfo, .int 0, .ref mre, .int vK, .ref mah, .int vR, .ref mrw, .ref mrr, .ref mrs, .ref mrb, .int v0, .int vZ, .int vB, .int vN, .ref mso, .ref mnu, .ref mse, .ref mbe, .ref men]))] sz) := by
  refine Met.ofW (cc := cX12_report) (maxL := 3) (ret := (some .int)) (by decide) rfl ?_
  intro p e s m args below meth c s₁ B hml hv
  obtain ⟨rfl, hsz, hP, hK, hD0⟩ := hv
  have hx := B.exec
  have hb := B.bytes
  have hr := B.returns
  have hts := atoms_spec (ws := wsX12_report) B.pre
  have hown : s.vm.findClass RX12 = some m.cls := findClass_of_methodNamed B.named
  have hlocks := B.notSynchronized
  subst hsz
  have hD := hD0.self (sz := s.heap.size)
  generalize hAe : va_A [(y, .inr (13, [.ref mm, .ref msv, .int vS, .ref mpa, .int vC, .int vT, .int vF, .ref mio, .ref mfo, .int 0, .ref mre, .int vK, .ref mah, .int vR, .ref mrw, .ref mrr, .ref mrs, .ref mrb, .int v0, .int vZ, .int vB, .int vN, .ref mso, .ref mnu, .ref mse, .ref mbe, .ref men]))] s.heap.size = A at hD ⊢
  have hA : ∀ q : Nat, s.heap.size ≤ q → A q := fun q h => by rw [← hAe]; exact Or.inr h
  have hS : va_S A s.heap s.heap [] := va_S.rf
  have hP : va_P G.1 vwCl [(y, .inr (13, [.ref mm, .ref msv, .int vS, .ref mpa, .int vC, .int vT, .int vF, .ref mio, .ref mfo, .int 0, .ref mre, .int vK, .ref mah, .int vR, .ref mrw, .ref mrr, .ref mrs, .ref mrb, .int v0, .int vZ, .int vB, .int vN, .ref mso, .ref mnu, .ref mse, .ref mbe, .ref men]))] s.heap := hP
  have hl := lv_entry ([.ref y, .int q, .int q2]) (n := 3) (Nat.le_of_ble_eq_true rfl)
  rw [lg_entry_eq]
  generalize (lg_sl ([.ref y, .int q, .int q2]) ++ List.replicate (3 - (lg_sl ([.ref y, .int q, .int q2])).length) Slot.unset).toArray = ls at hl ⊢
  have hl : lv_has ls 3 [(0, .ref y), (1, .int q), (2, .int q2)] := hl
  obtain ⟨H, hH⟩ : ∃ z, z = s.heap := ⟨_, rfl⟩
  have hS : va_S A s.heap H [] := by rw [hH]; exact hS
  have hP : va_P G.1 vwCl [(y, .inr (13, [.ref mm, .ref msv, .int vS, .ref mpa, .int vC, .int vT, .int vF, .ref mio, .ref mfo, .int 0, .ref mre, .int vK, .ref mah, .int vR, .ref mrw, .ref mrr, .ref mrs, .ref mrb, .int v0, .int vZ, .int vB, .int vN, .ref mso, .ref mnu, .ref mse, .ref mbe, .ref men]))] H := by rw [hH]; exact hP
  refine n_heap hH ?_
  generalize ([] : List Loc) = locs at hS ⊢
  have hiX12 : ∀ w ∈ u_ws RX12 TX12 27, w ∈ wsX12_report := by decide +kernel
  refine lv_aload_n hx hb dX12_report_0 rfl (lv_at hl 0 rfl) ?_
  refine lv_iload_n hx hb dX12_report_1 rfl (lv_at hl 1 rfl) ?_
  refine lv_iconst (v := 0) hx hb dX12_report_2 (by decide) ?_
  refine lv_aload_n hx hb dX12_report_3 rfl (lv_at hl 0 rfl) ?_
  refine va_get (D := G.1) (ci := 13) (v := .int 0) (C := RX12) (T := TX12) (N := 27) hx hb hts hiX12 hown hK hP 0 rfl rfl 9 (by decide) (hts (.fieldLink RX12 118 "DialectDictionaryModel" "levels" "I") (by decide +kernel)) (fun _ h9 => h9) rfl dX12_report_4 ?_
  refine lv_iconst (v := 1) hx hb dX12_report_7 (by decide) ?_
  refine lv_isub hx hb dX12_report_8 ?_
  refine n_eqi (y := (-1)) (by decide) ?_
  refine n_ci (wr := [(y, .inr (13, [.ref mm, .ref msv, .int vS, .ref mpa, .int vC, .int vT, .int vF, .ref mio, .ref mfo, .int 0, .ref mre, .int vK, .ref mah, .int vR, .ref mrw, .ref mrr, .ref mrs, .ref mrb, .int v0, .int vZ, .int vB, .int vN, .ref mso, .ref mnu, .ref mse, .ref mbe, .ref men]))]) (va_runS (As := [.int q, .int 0, .int (-1)]) (rest := [.ref y]) ⟨hx, hb, hml, hown, hts⟩ (mX12_in2 l G q H.size) (va_cwS 3 hts gX12_report_X12_in rfl rfl rfl (by decide +kernel) ⟨(Nat.le_of_ble_eq_true rfl), (Nat.le_of_ble_eq_true rfl)⟩) (n_prS hK hP hD [] rfl (by decide)) rfl rfl hl.1 rfl (lv_room (Nat.le_of_ble_eq_true rfl)) dX12_report_9 ⟨(Nat.le_of_ble_eq_true rfl), (Nat.le_of_ble_eq_true rfl)⟩) hP hD hS hA [] [0] rfl rfl (by decide) (by decide) (fun r_1 u_2 H locs hP hD hS hw => ?_)
  have hP : va_P G.1 vwCl [(y, .inr (13, [.ref mm, .ref msv, .int vS, .ref mpa, .int vC, .int vT, .int vF, .ref mio, .ref mfo, .int 0, .ref mre, .int vK, .ref mah, .int vR, .ref mrw, .ref mrr, .ref mrs, .ref mrb, .int v0, .int vZ, .int vB, .int vN, .ref mso, .ref mnu, .ref mse, .ref mbe, .ref men]))] H := hP
  have hD : va_D A [(y, .inr (13, [.ref mm, .ref msv, .int vS, .ref mpa, .int vC, .int vT, .int vF, .ref mio, .ref mfo, .int 0, .ref mre, .int vK, .ref mah, .int vR, .ref mrw, .ref mrr, .ref mrs, .ref mrb, .int v0, .int vZ, .int vB, .int vN, .ref mso, .ref mnu, .ref mse, .ref mbe, .ref men]))] := hD
  have hw : r_1 = 0 := hw
  subst hw
  refine lv_if_eq (tgt := 19) hx hb dX12_report_12 (by decide) (fun _ => ?_) (fun h9 => absurd (by decide) h9)
  refine lv_iconst (v := 1) hx hb dX12_report_19 (by decide) ?_
  refine va_put (D := G.1) (ci := 13) (v := .int 1) (ty := .int) (C := RX12) (T := TX12) (N := 27) hx hb hts hiX12 tyX12 tyX12_ok nmX12 hown hK hP hD hS 0 rfl rfl 5 (by decide) (hts (.fieldLink RX12 62 "DialectDictionaryModel" "thrown" "I") (by decide +kernel)) (fun _ h9 => h9) rfl (by decide +kernel) rfl rfl (Nat.le_of_ble_eq_true rfl) dX12_report_20 (fun H locs hP hD hS => ?_)
  have hP : va_P G.1 vwCl [(y, .inr (13, [.ref mm, .ref msv, .int vS, .ref mpa, .int vC, .int 1, .int vF, .ref mio, .ref mfo, .int 0, .ref mre, .int vK, .ref mah, .int vR, .ref mrw, .ref mrr, .ref mrs, .ref mrb, .int v0, .int vZ, .int vB, .int vN, .ref mso, .ref mnu, .ref mse, .ref mbe, .ref men]))] H := hP
  have hD : va_D A [(y, .inr (13, [.ref mm, .ref msv, .int vS, .ref mpa, .int vC, .int 1, .int vF, .ref mio, .ref mfo, .int 0, .ref mre, .int vK, .ref mah, .int vR, .ref mrw, .ref mrr, .ref mrs, .ref mrb, .int v0, .int vZ, .int vB, .int vN, .ref mso, .ref mnu, .ref mse, .ref mbe, .ref men]))] := hD
  refine lv_aload_n hx hb dX12_report_23 rfl (lv_at hl 0 rfl) ?_
  refine va_get (D := G.1) (ci := 13) (v := .int 1) (C := RX12) (T := TX12) (N := 27) hx hb hts hiX12 hown hK hP 0 rfl rfl 5 (by decide) (hts (.fieldLink RX12 62 "DialectDictionaryModel" "thrown" "I") (by decide +kernel)) (fun _ h9 => h9) rfl dX12_report_24 ?_
  refine lv_if_le (tgt := 34) hx hb dX12_report_27 (by decide) (fun h9 => absurd h9 (by decide)) (fun _ => ?_)
  refine lv_iconst (v := 0) hx hb dX12_report_30 (by decide) ?_
  refine lv_goto (tgt := 52) hx hb dX12_report_31 (by decide) ?_
  have hP9 := n_Psub (wc := [(y, .inr (13, [.ref mm, .ref msv, .int vS, .ref mpa, .int vC, .int 1, .int vF, .ref mio, .ref mfo, .int 0, .ref mre, .int vK, .ref mah, .int vR, .ref mrw, .ref mrr, .ref mrs, .ref mrb, .int v0, .int vZ, .int vB, .int vN, .ref mso, .ref mnu, .ref mse, .ref mbe, .ref men]))]) hP [0] rfl
  have hD9 := hD.sub (ws' := [(y, .inr (13, [.ref mm, .ref msv, .int vS, .ref mpa, .int vC, .int 1, .int vF, .ref mio, .ref mfo, .int 0, .ref mre, .int vK, .ref mah, .int vR, .ref mrw, .ref mrr, .ref mrs, .ref mrb, .int v0, .int vZ, .int vB, .int vN, .ref mso, .ref mnu, .ref mse, .ref mbe, .ref men]))]) [0] (by decide) rfl
  refine W.widen (k := 0) (n := 0) (Nat.le_of_ble_eq_true rfl) (Nat.le_of_ble_eq_true rfl) ?_
  exact W.iret (v := 0) hx hb hr (fun t ht hW => ⟨⟨0, (), rfl, rfl, by rw [ht]; exact hP9, va_K.moved hW.alike hK, hD9⟩, hS.F ht⟩) hS.2.2 dX12_report_52

set_option maxHeartbeats 4000000 in
set_option maxRecDepth 100000 in
theorem mX12_lacks (l : Launch) (G : nG) (y : Nat) (mm : Nat) (msv : Nat) (mpa : Nat) (mio : Nat) (mfo : Nat) (mre : Nat) (mah : Nat) (mrw : Nat) (mrr : Nat) (mrs : Nat) (mrb : Nat) (mso : Nat) (mnu : Nat) (mse : Nat) (mbe : Nat) (men : Nat) (vS : Int32) (vC : Int32) (vT : Int32) (vF : Int32) (vL : Int32) (vK : Int32) (vR : Int32) (v0 : Int32) (vZ : Int32) (vB : Int32) (vN : Int32) (fm : Nat → Int32) (q : Int32) (q2 : Int32) (sz : Nat) (hm : nMod fm) : Met l yX12_lacks wsX12_lacks ({ frames := 2, cells := 0, slots := 0, locals := 43 }) (va_Pc [.ref y, .int q, .int q2] (n_pp G [(y, .inr (13, [.ref mm, .ref msv, .int vS, .ref mpa, .int vC, .int vT, .int vF, .ref mio, .ref mfo, .int vL, .ref mre, .int vK, .ref mah, .int vR, .ref mrw, .ref mrr, .ref mrs, .ref mrb, .int v0, .int vZ, .int vB, .int vN, .ref mso, .ref mnu, .ref mse, .ref mbe, .ref men])), (mm, eI G 1191 fm)] sz)) (va_Qi (fun (r : Int32) (_ : Unit) => r = 1) (fun (_ : Unit) (t : State) => n_po G (va_A [(y, .inr (13, [.ref mm, .ref msv, .int vS, .ref mpa, .int vC, .int vT, .int vF, .ref mio, .ref mfo, .int vL, .ref mre, .int vK, .ref mah, .int vR, .ref mrw, .ref mrr, .ref mrs, .ref mrb, .int v0, .int vZ, .int vB, .int vN, .ref mso, .ref mnu, .ref mse, .ref mbe, .ref men])), (mm, eI G 1191 fm)] sz) [(y, .inr (13, [.ref mm, .ref msv, .int vS, .ref mpa, .int vC, .int vT, .int vF, .ref mio, .ref mfo, .int vL, .ref mre, .int vK, .ref mah, .int vR, .ref mrw, .ref mrr, .ref mrs, .ref mrb, .int v0, .int vZ, .int vB, .int vN, .ref mso, .ref mnu, .ref mse, .ref mbe, .ref men])), (mm, eI G 1191 fm)] t) (va_A [(y, .inr (13, [.ref mm, .ref msv, .int vS, .ref mpa, .int vC, .int vT, .int vF, .ref mio, .ref mfo, .int vL, .ref mre, .int vK, .ref mah, .int vR, .ref mrw, .ref mrr, .ref mrs, .ref mrb, .int v0, .int vZ, .int vB, .int vN, .ref mso, .ref mnu, .ref mse, .ref mbe, .ref men])), (mm, eI G 1191 fm)] sz)) 0 0 (va_A [(y, .inr (13, [.ref mm, .ref msv, .int vS, .ref mpa, .int vC, .int vT, .int vF, .ref mio, .ref mfo, .int vL, .ref mre, .int vK, .ref mah, .int vR, .ref mrw, .ref mrr, .ref mrs, .ref mrb, .int v0, .int vZ, .int vB, .int vN, .ref mso, .ref mnu, .ref mse, .ref mbe, .ref men])), (mm, eI G 1191 fm)] sz) := by
  refine Met.ofW (cc := cX12_lacks) (maxL := 3) (ret := (some .int)) (by decide) rfl ?_
  intro p e s m args below meth c s₁ B hml hv
  obtain ⟨rfl, hsz, hP, hK, hD0⟩ := hv
  have hx := B.exec
  have hb := B.bytes
  have hr := B.returns
  have hts := atoms_spec (ws := wsX12_lacks) B.pre
  have hown : s.vm.findClass RX12 = some m.cls := findClass_of_methodNamed B.named
  have hlocks := B.notSynchronized
  subst hsz
  have hD := hD0.self (sz := s.heap.size)
  generalize hAe : va_A [(y, .inr (13, [.ref mm, .ref msv, .int vS, .ref mpa, .int vC, .int vT, .int vF, .ref mio, .ref mfo, .int vL, .ref mre, .int vK, .ref mah, .int vR, .ref mrw, .ref mrr, .ref mrs, .ref mrb, .int v0, .int vZ, .int vB, .int vN, .ref mso, .ref mnu, .ref mse, .ref mbe, .ref men])), (mm, eI G 1191 fm)] s.heap.size = A at hD ⊢
  have hA : ∀ q : Nat, s.heap.size ≤ q → A q := fun q h => by rw [← hAe]; exact Or.inr h
  have hS : va_S A s.heap s.heap [] := va_S.rf
  have hP : va_P G.1 vwCl [(y, .inr (13, [.ref mm, .ref msv, .int vS, .ref mpa, .int vC, .int vT, .int vF, .ref mio, .ref mfo, .int vL, .ref mre, .int vK, .ref mah, .int vR, .ref mrw, .ref mrr, .ref mrs, .ref mrb, .int v0, .int vZ, .int vB, .int vN, .ref mso, .ref mnu, .ref mse, .ref mbe, .ref men])), (mm, eI G 1191 fm)] s.heap := hP
  have hl := lv_entry ([.ref y, .int q, .int q2]) (n := 3) (Nat.le_of_ble_eq_true rfl)
  rw [lg_entry_eq]
  generalize (lg_sl ([.ref y, .int q, .int q2]) ++ List.replicate (3 - (lg_sl ([.ref y, .int q, .int q2])).length) Slot.unset).toArray = ls at hl ⊢
  have hl : lv_has ls 3 [(0, .ref y), (1, .int q), (2, .int q2)] := hl
  obtain ⟨H, hH⟩ : ∃ z, z = s.heap := ⟨_, rfl⟩
  have hS : va_S A s.heap H [] := by rw [hH]; exact hS
  have hP : va_P G.1 vwCl [(y, .inr (13, [.ref mm, .ref msv, .int vS, .ref mpa, .int vC, .int vT, .int vF, .ref mio, .ref mfo, .int vL, .ref mre, .int vK, .ref mah, .int vR, .ref mrw, .ref mrr, .ref mrs, .ref mrb, .int v0, .int vZ, .int vB, .int vN, .ref mso, .ref mnu, .ref mse, .ref mbe, .ref men])), (mm, eI G 1191 fm)] H := by rw [hH]; exact hP
  refine n_heap hH ?_
  generalize ([] : List Loc) = locs at hS ⊢
  refine lv_aload_n hx hb dX12_lacks_0 rfl (lv_at hl 0 rfl) ?_
  refine lv_iload_n hx hb dX12_lacks_1 rfl (lv_at hl 1 rfl) ?_
  refine n_ci (wr := []) (va_runV (As := [.int q]) (rest := []) ⟨hx, hb, hml, hown, hts⟩ (mX12_isHead l G y mm msv mpa mio mfo mre mah mrw mrr mrs mrb mso mnu mse mbe men vS vC vT vF vL vK vR v0 vZ vB vN fm q H.size hm) (cwV 1 hts gX12_lacks_X12_isHead rfl rfl rfl (by decide +kernel) ⟨(Nat.le_of_ble_eq_true rfl), (Nat.le_of_ble_eq_true rfl)⟩) (n_prV (ci := 13) (q0 := 0) hK hP hD [0, 1] rfl (by decide) rfl rfl) rfl rfl hl.1 rfl (lv_room (Nat.le_of_ble_eq_true rfl)) dX12_lacks_2 ⟨(Nat.le_of_ble_eq_true rfl), (Nat.le_of_ble_eq_true rfl)⟩) hP hD hS hA [0, 1] [] rfl rfl (by decide) (by decide) (fun r_1 u_2 H locs hP hD hS hw => ?_)
  have hP : va_P G.1 vwCl [(y, .inr (13, [.ref mm, .ref msv, .int vS, .ref mpa, .int vC, .int vT, .int vF, .ref mio, .ref mfo, .int vL, .ref mre, .int vK, .ref mah, .int vR, .ref mrw, .ref mrr, .ref mrs, .ref mrb, .int v0, .int vZ, .int vB, .int vN, .ref mso, .ref mnu, .ref mse, .ref mbe, .ref men])), (mm, eI G 1191 fm)] H := hP
  have hD : va_D A [(y, .inr (13, [.ref mm, .ref msv, .int vS, .ref mpa, .int vC, .int vT, .int vF, .ref mio, .ref mfo, .int vL, .ref mre, .int vK, .ref mah, .int vR, .ref mrw, .ref mrr, .ref mrs, .ref mrb, .int v0, .int vZ, .int vB, .int vN, .ref mso, .ref mnu, .ref mse, .ref mbe, .ref men])), (mm, eI G 1191 fm)] := hD
  have hw : r_1 = 0 := hw
  subst hw
  refine lv_if_ne (tgt := 12) hx hb dX12_lacks_5 (by decide) (fun h9 => absurd (by decide) h9) (fun _ => ?_)
  refine lv_iconst (v := 1) hx hb dX12_lacks_8 (by decide) ?_
  refine lv_goto (tgt := 32) hx hb dX12_lacks_9 (by decide) ?_
  have hP9 := n_Psub (wc := [(y, .inr (13, [.ref mm, .ref msv, .int vS, .ref mpa, .int vC, .int vT, .int vF, .ref mio, .ref mfo, .int vL, .ref mre, .int vK, .ref mah, .int vR, .ref mrw, .ref mrr, .ref mrs, .ref mrb, .int v0, .int vZ, .int vB, .int vN, .ref mso, .ref mnu, .ref mse, .ref mbe, .ref men])), (mm, eI G 1191 fm)]) hP [0, 1] rfl
  have hD9 := hD.sub (ws' := [(y, .inr (13, [.ref mm, .ref msv, .int vS, .ref mpa, .int vC, .int vT, .int vF, .ref mio, .ref mfo, .int vL, .ref mre, .int vK, .ref mah, .int vR, .ref mrw, .ref mrr, .ref mrs, .ref mrb, .int v0, .int vZ, .int vB, .int vN, .ref mso, .ref mnu, .ref mse, .ref mbe, .ref men])), (mm, eI G 1191 fm)]) [0, 1] (by decide) rfl
  refine W.widen (k := 0) (n := 0) (Nat.le_of_ble_eq_true rfl) (Nat.le_of_ble_eq_true rfl) ?_
  exact W.iret (v := 1) hx hb hr (fun t ht hW => ⟨⟨1, (), rfl, rfl, by rw [ht]; exact hP9, va_K.moved hW.alike hK, hD9⟩, hS.F ht⟩) hS.2.2 dX12_lacks_32

set_option maxHeartbeats 4000000 in
set_option maxRecDepth 100000 in
theorem mX12_lacksEither (l : Launch) (G : nG) (y : Nat) (mm : Nat) (msv : Nat) (mpa : Nat) (mio : Nat) (mfo : Nat) (mre : Nat) (mah : Nat) (mrw : Nat) (mrr : Nat) (mrs : Nat) (mrb : Nat) (mso : Nat) (mnu : Nat) (mse : Nat) (mbe : Nat) (men : Nat) (vS : Int32) (vC : Int32) (vT : Int32) (vF : Int32) (vL : Int32) (vK : Int32) (vR : Int32) (v0 : Int32) (vZ : Int32) (vB : Int32) (vN : Int32) (fm : Nat → Int32) (q : Int32) (q2 : Int32) (q3 : Int32) (q4 : Int32) (sz : Nat) (hm : nMod fm) : Met l yX12_lacksEither wsX12_lacksEither ({ frames := 2, cells := 0, slots := 0, locals := 43 }) (va_Pc [.ref y, .int q, .int q2, .int q3, .int q4] (n_pp G [(y, .inr (13, [.ref mm, .ref msv, .int vS, .ref mpa, .int vC, .int vT, .int vF, .ref mio, .ref mfo, .int vL, .ref mre, .int vK, .ref mah, .int vR, .ref mrw, .ref mrr, .ref mrs, .ref mrb, .int v0, .int vZ, .int vB, .int vN, .ref mso, .ref mnu, .ref mse, .ref mbe, .ref men])), (mm, eI G 1191 fm)] sz)) (va_Qi (fun (r : Int32) (_ : Unit) => r = 1) (fun (_ : Unit) (t : State) => n_po G (va_A [(y, .inr (13, [.ref mm, .ref msv, .int vS, .ref mpa, .int vC, .int vT, .int vF, .ref mio, .ref mfo, .int vL, .ref mre, .int vK, .ref mah, .int vR, .ref mrw, .ref mrr, .ref mrs, .ref mrb, .int v0, .int vZ, .int vB, .int vN, .ref mso, .ref mnu, .ref mse, .ref mbe, .ref men])), (mm, eI G 1191 fm)] sz) [(y, .inr (13, [.ref mm, .ref msv, .int vS, .ref mpa, .int vC, .int vT, .int vF, .ref mio, .ref mfo, .int vL, .ref mre, .int vK, .ref mah, .int vR, .ref mrw, .ref mrr, .ref mrs, .ref mrb, .int v0, .int vZ, .int vB, .int vN, .ref mso, .ref mnu, .ref mse, .ref mbe, .ref men])), (mm, eI G 1191 fm)] t) (va_A [(y, .inr (13, [.ref mm, .ref msv, .int vS, .ref mpa, .int vC, .int vT, .int vF, .ref mio, .ref mfo, .int vL, .ref mre, .int vK, .ref mah, .int vR, .ref mrw, .ref mrr, .ref mrs, .ref mrb, .int v0, .int vZ, .int vB, .int vN, .ref mso, .ref mnu, .ref mse, .ref mbe, .ref men])), (mm, eI G 1191 fm)] sz)) 0 0 (va_A [(y, .inr (13, [.ref mm, .ref msv, .int vS, .ref mpa, .int vC, .int vT, .int vF, .ref mio, .ref mfo, .int vL, .ref mre, .int vK, .ref mah, .int vR, .ref mrw, .ref mrr, .ref mrs, .ref mrb, .int v0, .int vZ, .int vB, .int vN, .ref mso, .ref mnu, .ref mse, .ref mbe, .ref men])), (mm, eI G 1191 fm)] sz) := by
  refine Met.ofW (cc := cX12_lacksEither) (maxL := 5) (ret := (some .int)) (by decide) rfl ?_
  intro p e s m args below meth c s₁ B hml hv
  obtain ⟨rfl, hsz, hP, hK, hD0⟩ := hv
  have hx := B.exec
  have hb := B.bytes
  have hr := B.returns
  have hts := atoms_spec (ws := wsX12_lacksEither) B.pre
  have hown : s.vm.findClass RX12 = some m.cls := findClass_of_methodNamed B.named
  have hlocks := B.notSynchronized
  subst hsz
  have hD := hD0.self (sz := s.heap.size)
  generalize hAe : va_A [(y, .inr (13, [.ref mm, .ref msv, .int vS, .ref mpa, .int vC, .int vT, .int vF, .ref mio, .ref mfo, .int vL, .ref mre, .int vK, .ref mah, .int vR, .ref mrw, .ref mrr, .ref mrs, .ref mrb, .int v0, .int vZ, .int vB, .int vN, .ref mso, .ref mnu, .ref mse, .ref mbe, .ref men])), (mm, eI G 1191 fm)] s.heap.size = A at hD ⊢
  have hA : ∀ q : Nat, s.heap.size ≤ q → A q := fun q h => by rw [← hAe]; exact Or.inr h
  have hS : va_S A s.heap s.heap [] := va_S.rf
  have hP : va_P G.1 vwCl [(y, .inr (13, [.ref mm, .ref msv, .int vS, .ref mpa, .int vC, .int vT, .int vF, .ref mio, .ref mfo, .int vL, .ref mre, .int vK, .ref mah, .int vR, .ref mrw, .ref mrr, .ref mrs, .ref mrb, .int v0, .int vZ, .int vB, .int vN, .ref mso, .ref mnu, .ref mse, .ref mbe, .ref men])), (mm, eI G 1191 fm)] s.heap := hP
  have hl := lv_entry ([.ref y, .int q, .int q2, .int q3, .int q4]) (n := 5) (Nat.le_of_ble_eq_true rfl)
  rw [lg_entry_eq]
  generalize (lg_sl ([.ref y, .int q, .int q2, .int q3, .int q4]) ++ List.replicate (5 - (lg_sl ([.ref y, .int q, .int q2, .int q3, .int q4])).length) Slot.unset).toArray = ls at hl ⊢
  have hl : lv_has ls 5 [(0, .ref y), (1, .int q), (2, .int q2), (3, .int q3), (4, .int q4)] := hl
  obtain ⟨H, hH⟩ : ∃ z, z = s.heap := ⟨_, rfl⟩
  have hS : va_S A s.heap H [] := by rw [hH]; exact hS
  have hP : va_P G.1 vwCl [(y, .inr (13, [.ref mm, .ref msv, .int vS, .ref mpa, .int vC, .int vT, .int vF, .ref mio, .ref mfo, .int vL, .ref mre, .int vK, .ref mah, .int vR, .ref mrw, .ref mrr, .ref mrs, .ref mrb, .int v0, .int vZ, .int vB, .int vN, .ref mso, .ref mnu, .ref mse, .ref mbe, .ref men])), (mm, eI G 1191 fm)] H := by rw [hH]; exact hP
  refine n_heap hH ?_
  generalize ([] : List Loc) = locs at hS ⊢
  refine lv_aload_n hx hb dX12_lacksEither_0 rfl (lv_at hl 0 rfl) ?_
  refine lv_iload_n hx hb dX12_lacksEither_1 rfl (lv_at hl 1 rfl) ?_
  refine n_ci (wr := []) (va_runV (As := [.int q]) (rest := []) ⟨hx, hb, hml, hown, hts⟩ (mX12_isHead l G y mm msv mpa mio mfo mre mah mrw mrr mrs mrb mso mnu mse mbe men vS vC vT vF vL vK vR v0 vZ vB vN fm q H.size hm) (cwV 1 hts gX12_lacksEither_X12_isHead rfl rfl rfl (by decide +kernel) ⟨(Nat.le_of_ble_eq_true rfl), (Nat.le_of_ble_eq_true rfl)⟩) (n_prV (ci := 13) (q0 := 0) hK hP hD [0, 1] rfl (by decide) rfl rfl) rfl rfl hl.1 rfl (lv_room (Nat.le_of_ble_eq_true rfl)) dX12_lacksEither_2 ⟨(Nat.le_of_ble_eq_true rfl), (Nat.le_of_ble_eq_true rfl)⟩) hP hD hS hA [0, 1] [] rfl rfl (by decide) (by decide) (fun r_1 u_2 H locs hP hD hS hw => ?_)
  have hP : va_P G.1 vwCl [(y, .inr (13, [.ref mm, .ref msv, .int vS, .ref mpa, .int vC, .int vT, .int vF, .ref mio, .ref mfo, .int vL, .ref mre, .int vK, .ref mah, .int vR, .ref mrw, .ref mrr, .ref mrs, .ref mrb, .int v0, .int vZ, .int vB, .int vN, .ref mso, .ref mnu, .ref mse, .ref mbe, .ref men])), (mm, eI G 1191 fm)] H := hP
  have hD : va_D A [(y, .inr (13, [.ref mm, .ref msv, .int vS, .ref mpa, .int vC, .int vT, .int vF, .ref mio, .ref mfo, .int vL, .ref mre, .int vK, .ref mah, .int vR, .ref mrw, .ref mrr, .ref mrs, .ref mrb, .int v0, .int vZ, .int vB, .int vN, .ref mso, .ref mnu, .ref mse, .ref mbe, .ref men])), (mm, eI G 1191 fm)] := hD
  have hw : r_1 = 0 := hw
  subst hw
  refine lv_if_eq (tgt := 16) hx hb dX12_lacksEither_5 (by decide) (fun _ => ?_) (fun h9 => absurd (by decide) h9)
  refine lv_iconst (v := 1) hx hb dX12_lacksEither_16 (by decide) ?_
  refine lv_goto (tgt := 44) hx hb dX12_lacksEither_17 (by decide) ?_
  have hP9 := n_Psub (wc := [(y, .inr (13, [.ref mm, .ref msv, .int vS, .ref mpa, .int vC, .int vT, .int vF, .ref mio, .ref mfo, .int vL, .ref mre, .int vK, .ref mah, .int vR, .ref mrw, .ref mrr, .ref mrs, .ref mrb, .int v0, .int vZ, .int vB, .int vN, .ref mso, .ref mnu, .ref mse, .ref mbe, .ref men])), (mm, eI G 1191 fm)]) hP [0, 1] rfl
  have hD9 := hD.sub (ws' := [(y, .inr (13, [.ref mm, .ref msv, .int vS, .ref mpa, .int vC, .int vT, .int vF, .ref mio, .ref mfo, .int vL, .ref mre, .int vK, .ref mah, .int vR, .ref mrw, .ref mrr, .ref mrs, .ref mrb, .int v0, .int vZ, .int vB, .int vN, .ref mso, .ref mnu, .ref mse, .ref mbe, .ref men])), (mm, eI G 1191 fm)]) [0, 1] (by decide) rfl
  refine W.widen (k := 0) (n := 0) (Nat.le_of_ble_eq_true rfl) (Nat.le_of_ble_eq_true rfl) ?_
  exact W.iret (v := 1) hx hb hr (fun t ht hW => ⟨⟨1, (), rfl, rfl, by rw [ht]; exact hP9, va_K.moved hW.alike hK, hD9⟩, hS.F ht⟩) hS.2.2 dX12_lacksEither_44

set_option maxHeartbeats 4000000 in
set_option maxRecDepth 100000 in
theorem mX12_lacksForm (l : Launch) (G : nG) (y : Nat) (mm : Nat) (msv : Nat) (mpa : Nat) (mio : Nat) (mfo : Nat) (mre : Nat) (mah : Nat) (mrw : Nat) (mrr : Nat) (mrs : Nat) (mrb : Nat) (mso : Nat) (mnu : Nat) (mse : Nat) (mbe : Nat) (men : Nat) (vS : Int32) (vC : Int32) (vT : Int32) (vF : Int32) (vL : Int32) (vK : Int32) (vR : Int32) (v0 : Int32) (vZ : Int32) (vB : Int32) (vN : Int32) (fm : Nat → Int32) (q : Int32) (q2 : Int32) (sz : Nat) (hm : nMod fm) : Met l yX12_lacksForm wsX12_lacksForm ({ frames := 2, cells := 0, slots := 0, locals := 43 }) (va_Pc [.ref y, .int q, .int q2] (n_pp G [(y, .inr (13, [.ref mm, .ref msv, .int vS, .ref mpa, .int vC, .int vT, .int vF, .ref mio, .ref mfo, .int vL, .ref mre, .int vK, .ref mah, .int vR, .ref mrw, .ref mrr, .ref mrs, .ref mrb, .int v0, .int vZ, .int vB, .int vN, .ref mso, .ref mnu, .ref mse, .ref mbe, .ref men])), (mm, eI G 1191 fm)] sz)) (va_Qi (fun (r : Int32) (_ : Unit) => r = 1) (fun (_ : Unit) (t : State) => n_po G (va_A [(y, .inr (13, [.ref mm, .ref msv, .int vS, .ref mpa, .int vC, .int vT, .int vF, .ref mio, .ref mfo, .int vL, .ref mre, .int vK, .ref mah, .int vR, .ref mrw, .ref mrr, .ref mrs, .ref mrb, .int v0, .int vZ, .int vB, .int vN, .ref mso, .ref mnu, .ref mse, .ref mbe, .ref men])), (mm, eI G 1191 fm)] sz) [(y, .inr (13, [.ref mm, .ref msv, .int vS, .ref mpa, .int vC, .int vT, .int vF, .ref mio, .ref mfo, .int vL, .ref mre, .int vK, .ref mah, .int vR, .ref mrw, .ref mrr, .ref mrs, .ref mrb, .int v0, .int vZ, .int vB, .int vN, .ref mso, .ref mnu, .ref mse, .ref mbe, .ref men])), (mm, eI G 1191 fm)] t) (va_A [(y, .inr (13, [.ref mm, .ref msv, .int vS, .ref mpa, .int vC, .int vT, .int vF, .ref mio, .ref mfo, .int vL, .ref mre, .int vK, .ref mah, .int vR, .ref mrw, .ref mrr, .ref mrs, .ref mrb, .int v0, .int vZ, .int vB, .int vN, .ref mso, .ref mnu, .ref mse, .ref mbe, .ref men])), (mm, eI G 1191 fm)] sz)) 0 0 (va_A [(y, .inr (13, [.ref mm, .ref msv, .int vS, .ref mpa, .int vC, .int vT, .int vF, .ref mio, .ref mfo, .int vL, .ref mre, .int vK, .ref mah, .int vR, .ref mrw, .ref mrr, .ref mrs, .ref mrb, .int v0, .int vZ, .int vB, .int vN, .ref mso, .ref mnu, .ref mse, .ref mbe, .ref men])), (mm, eI G 1191 fm)] sz) := by
  refine Met.ofW (cc := cX12_lacksForm) (maxL := 3) (ret := (some .int)) (by decide) rfl ?_
  intro p e s m args below meth c s₁ B hml hv
  obtain ⟨rfl, hsz, hP, hK, hD0⟩ := hv
  have hx := B.exec
  have hb := B.bytes
  have hr := B.returns
  have hts := atoms_spec (ws := wsX12_lacksForm) B.pre
  have hown : s.vm.findClass RX12 = some m.cls := findClass_of_methodNamed B.named
  have hlocks := B.notSynchronized
  subst hsz
  have hD := hD0.self (sz := s.heap.size)
  generalize hAe : va_A [(y, .inr (13, [.ref mm, .ref msv, .int vS, .ref mpa, .int vC, .int vT, .int vF, .ref mio, .ref mfo, .int vL, .ref mre, .int vK, .ref mah, .int vR, .ref mrw, .ref mrr, .ref mrs, .ref mrb, .int v0, .int vZ, .int vB, .int vN, .ref mso, .ref mnu, .ref mse, .ref mbe, .ref men])), (mm, eI G 1191 fm)] s.heap.size = A at hD ⊢
  have hA : ∀ q : Nat, s.heap.size ≤ q → A q := fun q h => by rw [← hAe]; exact Or.inr h
  have hS : va_S A s.heap s.heap [] := va_S.rf
  have hP : va_P G.1 vwCl [(y, .inr (13, [.ref mm, .ref msv, .int vS, .ref mpa, .int vC, .int vT, .int vF, .ref mio, .ref mfo, .int vL, .ref mre, .int vK, .ref mah, .int vR, .ref mrw, .ref mrr, .ref mrs, .ref mrb, .int v0, .int vZ, .int vB, .int vN, .ref mso, .ref mnu, .ref mse, .ref mbe, .ref men])), (mm, eI G 1191 fm)] s.heap := hP
  have hl := lv_entry ([.ref y, .int q, .int q2]) (n := 3) (Nat.le_of_ble_eq_true rfl)
  rw [lg_entry_eq]
  generalize (lg_sl ([.ref y, .int q, .int q2]) ++ List.replicate (3 - (lg_sl ([.ref y, .int q, .int q2])).length) Slot.unset).toArray = ls at hl ⊢
  have hl : lv_has ls 3 [(0, .ref y), (1, .int q), (2, .int q2)] := hl
  obtain ⟨H, hH⟩ : ∃ z, z = s.heap := ⟨_, rfl⟩
  have hS : va_S A s.heap H [] := by rw [hH]; exact hS
  have hP : va_P G.1 vwCl [(y, .inr (13, [.ref mm, .ref msv, .int vS, .ref mpa, .int vC, .int vT, .int vF, .ref mio, .ref mfo, .int vL, .ref mre, .int vK, .ref mah, .int vR, .ref mrw, .ref mrr, .ref mrs, .ref mrb, .int v0, .int vZ, .int vB, .int vN, .ref mso, .ref mnu, .ref mse, .ref mbe, .ref men])), (mm, eI G 1191 fm)] H := by rw [hH]; exact hP
  refine n_heap hH ?_
  generalize ([] : List Loc) = locs at hS ⊢
  refine lv_aload_n hx hb dX12_lacksForm_0 rfl (lv_at hl 0 rfl) ?_
  refine lv_iload_n hx hb dX12_lacksForm_1 rfl (lv_at hl 1 rfl) ?_
  refine n_ci (wr := []) (va_runV (As := [.int q]) (rest := []) ⟨hx, hb, hml, hown, hts⟩ (mX12_isHead l G y mm msv mpa mio mfo mre mah mrw mrr mrs mrb mso mnu mse mbe men vS vC vT vF vL vK vR v0 vZ vB vN fm q H.size hm) (cwV 1 hts gX12_lacksForm_X12_isHead rfl rfl rfl (by decide +kernel) ⟨(Nat.le_of_ble_eq_true rfl), (Nat.le_of_ble_eq_true rfl)⟩) (n_prV (ci := 13) (q0 := 0) hK hP hD [0, 1] rfl (by decide) rfl rfl) rfl rfl hl.1 rfl (lv_room (Nat.le_of_ble_eq_true rfl)) dX12_lacksForm_2 ⟨(Nat.le_of_ble_eq_true rfl), (Nat.le_of_ble_eq_true rfl)⟩) hP hD hS hA [0, 1] [] rfl rfl (by decide) (by decide) (fun r_1 u_2 H locs hP hD hS hw => ?_)
  have hP : va_P G.1 vwCl [(y, .inr (13, [.ref mm, .ref msv, .int vS, .ref mpa, .int vC, .int vT, .int vF, .ref mio, .ref mfo, .int vL, .ref mre, .int vK, .ref mah, .int vR, .ref mrw, .ref mrr, .ref mrs, .ref mrb, .int v0, .int vZ, .int vB, .int vN, .ref mso, .ref mnu, .ref mse, .ref mbe, .ref men])), (mm, eI G 1191 fm)] H := hP
  have hD : va_D A [(y, .inr (13, [.ref mm, .ref msv, .int vS, .ref mpa, .int vC, .int vT, .int vF, .ref mio, .ref mfo, .int vL, .ref mre, .int vK, .ref mah, .int vR, .ref mrw, .ref mrr, .ref mrs, .ref mrb, .int v0, .int vZ, .int vB, .int vN, .ref mso, .ref mnu, .ref mse, .ref mbe, .ref men])), (mm, eI G 1191 fm)] := hD
  have hw : r_1 = 0 := hw
  subst hw
  refine lv_if_ne (tgt := 12) hx hb dX12_lacksForm_5 (by decide) (fun h9 => absurd (by decide) h9) (fun _ => ?_)
  refine lv_iconst (v := 1) hx hb dX12_lacksForm_8 (by decide) ?_
  refine lv_goto (tgt := 26) hx hb dX12_lacksForm_9 (by decide) ?_
  have hP9 := n_Psub (wc := [(y, .inr (13, [.ref mm, .ref msv, .int vS, .ref mpa, .int vC, .int vT, .int vF, .ref mio, .ref mfo, .int vL, .ref mre, .int vK, .ref mah, .int vR, .ref mrw, .ref mrr, .ref mrs, .ref mrb, .int v0, .int vZ, .int vB, .int vN, .ref mso, .ref mnu, .ref mse, .ref mbe, .ref men])), (mm, eI G 1191 fm)]) hP [0, 1] rfl
  have hD9 := hD.sub (ws' := [(y, .inr (13, [.ref mm, .ref msv, .int vS, .ref mpa, .int vC, .int vT, .int vF, .ref mio, .ref mfo, .int vL, .ref mre, .int vK, .ref mah, .int vR, .ref mrw, .ref mrr, .ref mrs, .ref mrb, .int v0, .int vZ, .int vB, .int vN, .ref mso, .ref mnu, .ref mse, .ref mbe, .ref men])), (mm, eI G 1191 fm)]) [0, 1] (by decide) rfl
  refine W.widen (k := 0) (n := 0) (Nat.le_of_ble_eq_true rfl) (Nat.le_of_ble_eq_true rfl) ?_
  exact W.iret (v := 1) hx hb hr (fun t ht hW => ⟨⟨1, (), rfl, rfl, by rw [ht]; exact hP9, va_K.moved hW.alike hK, hD9⟩, hS.F ht⟩) hS.2.2 dX12_lacksForm_26

set_option maxHeartbeats 4000000 in
set_option maxRecDepth 100000 in
theorem mX12_addVariant (l : Launch) (G : nG) (y : Nat) (mm : Nat) (msv : Nat) (mpa : Nat) (mio : Nat) (mfo : Nat) (mre : Nat) (mah : Nat) (mrw : Nat) (mrr : Nat) (mrs : Nat) (mrb : Nat) (mso : Nat) (mnu : Nat) (mse : Nat) (mbe : Nat) (men : Nat) (vS : Int32) (vC : Int32) (vT : Int32) (vF : Int32) (vL : Int32) (vK : Int32) (vR : Int32) (v0 : Int32) (vZ : Int32) (vB : Int32) (vN : Int32) (fm : Nat → Int32) (q : Int32) (sz : Nat) (hm : nMod fm) : Met l yX12_addVariant wsX12_addVariant ({ frames := 2, cells := 0, slots := 0, locals := 43 }) (va_Pc [.ref y, .int q] (n_pp G [(y, .inr (13, [.ref mm, .ref msv, .int vS, .ref mpa, .int vC, .int vT, .int vF, .ref mio, .ref mfo, .int vL, .ref mre, .int vK, .ref mah, .int vR, .ref mrw, .ref mrr, .ref mrs, .ref mrb, .int v0, .int vZ, .int vB, .int vN, .ref mso, .ref mnu, .ref mse, .ref mbe, .ref men])), (mm, eI G 1191 fm)] sz)) (va_Qi (fun (r : Int32) (_ : Unit) => r = 0) (fun (_ : Unit) (t : State) => n_po G (va_A [(y, .inr (13, [.ref mm, .ref msv, .int vS, .ref mpa, .int vC, .int vT, .int vF, .ref mio, .ref mfo, .int vL, .ref mre, .int vK, .ref mah, .int vR, .ref mrw, .ref mrr, .ref mrs, .ref mrb, .int v0, .int vZ, .int vB, .int vN, .ref mso, .ref mnu, .ref mse, .ref mbe, .ref men])), (mm, eI G 1191 fm)] sz) [(y, .inr (13, [.ref mm, .ref msv, .int vS, .ref mpa, .int vC, .int 1, .int vF, .ref mio, .ref mfo, .int vL, .ref mre, .int vK, .ref mah, .int vR, .ref mrw, .ref mrr, .ref mrs, .ref mrb, .int v0, .int vZ, .int vB, .int vN, .ref mso, .ref mnu, .ref mse, .ref mbe, .ref men]))] t) (va_A [(y, .inr (13, [.ref mm, .ref msv, .int vS, .ref mpa, .int vC, .int vT, .int vF, .ref mio, .ref mfo, .int vL, .ref mre, .int vK, .ref mah, .int vR, .ref mrw, .ref mrr, .ref mrs, .ref mrb, .int v0, .int vZ, .int vB, .int vN, .ref mso, .ref mnu, .ref mse, .ref mbe, .ref men])), (mm, eI G 1191 fm)] sz)) 0 0 (va_A [(y, .inr (13, [.ref mm, .ref msv, .int vS, .ref mpa, .int vC, .int vT, .int vF, .ref mio, .ref mfo, .int vL, .ref mre, .int vK, .ref mah, .int vR, .ref mrw, .ref mrr, .ref mrs, .ref mrb, .int v0, .int vZ, .int vB, .int vN, .ref mso, .ref mnu, .ref mse, .ref mbe, .ref men])), (mm, eI G 1191 fm)] sz) := by
  refine Met.ofW (cc := cX12_addVariant) (maxL := 3) (ret := (some .int)) (by decide) rfl ?_
  intro p e s m args below meth c s₁ B hml hv
  obtain ⟨rfl, hsz, hP, hK, hD0⟩ := hv
  have hx := B.exec
  have hb := B.bytes
  have hr := B.returns
  have hts := atoms_spec (ws := wsX12_addVariant) B.pre
  have hown : s.vm.findClass RX12 = some m.cls := findClass_of_methodNamed B.named
  have hlocks := B.notSynchronized
  subst hsz
  have hD := hD0.self (sz := s.heap.size)
  generalize hAe : va_A [(y, .inr (13, [.ref mm, .ref msv, .int vS, .ref mpa, .int vC, .int vT, .int vF, .ref mio, .ref mfo, .int vL, .ref mre, .int vK, .ref mah, .int vR, .ref mrw, .ref mrr, .ref mrs, .ref mrb, .int v0, .int vZ, .int vB, .int vN, .ref mso, .ref mnu, .ref mse, .ref mbe, .ref men])), (mm, eI G 1191 fm)] s.heap.size = A at hD ⊢
  have hA : ∀ q : Nat, s.heap.size ≤ q → A q := fun q h => by rw [← hAe]; exact Or.inr h
  have hS : va_S A s.heap s.heap [] := va_S.rf
  have hP : va_P G.1 vwCl [(y, .inr (13, [.ref mm, .ref msv, .int vS, .ref mpa, .int vC, .int vT, .int vF, .ref mio, .ref mfo, .int vL, .ref mre, .int vK, .ref mah, .int vR, .ref mrw, .ref mrr, .ref mrs, .ref mrb, .int v0, .int vZ, .int vB, .int vN, .ref mso, .ref mnu, .ref mse, .ref mbe, .ref men])), (mm, eI G 1191 fm)] s.heap := hP
  have hl := lv_entry ([.ref y, .int q]) (n := 3) (Nat.le_of_ble_eq_true rfl)
  rw [lg_entry_eq]
  generalize (lg_sl ([.ref y, .int q]) ++ List.replicate (3 - (lg_sl ([.ref y, .int q])).length) Slot.unset).toArray = ls at hl ⊢
  have hl : lv_has ls 3 [(0, .ref y), (1, .int q)] := hl
  obtain ⟨H, hH⟩ : ∃ z, z = s.heap := ⟨_, rfl⟩
  have hS : va_S A s.heap H [] := by rw [hH]; exact hS
  have hP : va_P G.1 vwCl [(y, .inr (13, [.ref mm, .ref msv, .int vS, .ref mpa, .int vC, .int vT, .int vF, .ref mio, .ref mfo, .int vL, .ref mre, .int vK, .ref mah, .int vR, .ref mrw, .ref mrr, .ref mrs, .ref mrb, .int v0, .int vZ, .int vB, .int vN, .ref mso, .ref mnu, .ref mse, .ref mbe, .ref men])), (mm, eI G 1191 fm)] H := by rw [hH]; exact hP
  refine n_heap hH ?_
  generalize ([] : List Loc) = locs at hS ⊢
  have hiX12 : ∀ w ∈ u_ws RX12 TX12 27, w ∈ wsX12_addVariant := by decide +kernel
  refine lv_aload_n hx hb dX12_addVariant_0 rfl (lv_at hl 0 rfl) ?_
  refine lv_aload_n hx hb dX12_addVariant_1 rfl (lv_at hl 0 rfl) ?_
  refine lv_iload_n hx hb dX12_addVariant_2 rfl (lv_at hl 1 rfl) ?_
  refine n_ci (wr := []) (va_runV (As := [.int q]) (rest := [.ref y]) ⟨hx, hb, hml, hown, hts⟩ (mX12_isHead l G y mm msv mpa mio mfo mre mah mrw mrr mrs mrb mso mnu mse mbe men vS vC vT vF vL vK vR v0 vZ vB vN fm q H.size hm) (cwV 1 hts gX12_addVariant_X12_isHead rfl rfl rfl (by decide +kernel) ⟨(Nat.le_of_ble_eq_true rfl), (Nat.le_of_ble_eq_true rfl)⟩) (n_prV (ci := 13) (q0 := 0) hK hP hD [0, 1] rfl (by decide) rfl rfl) rfl rfl hl.1 rfl (lv_room (Nat.le_of_ble_eq_true rfl)) dX12_addVariant_3 ⟨(Nat.le_of_ble_eq_true rfl), (Nat.le_of_ble_eq_true rfl)⟩) hP hD hS hA [0, 1] [] rfl rfl (by decide) (by decide) (fun r_1 u_2 H locs hP hD hS hw => ?_)
  have hP : va_P G.1 vwCl [(y, .inr (13, [.ref mm, .ref msv, .int vS, .ref mpa, .int vC, .int vT, .int vF, .ref mio, .ref mfo, .int vL, .ref mre, .int vK, .ref mah, .int vR, .ref mrw, .ref mrr, .ref mrs, .ref mrb, .int v0, .int vZ, .int vB, .int vN, .ref mso, .ref mnu, .ref mse, .ref mbe, .ref men])), (mm, eI G 1191 fm)] H := hP
  have hD : va_D A [(y, .inr (13, [.ref mm, .ref msv, .int vS, .ref mpa, .int vC, .int vT, .int vF, .ref mio, .ref mfo, .int vL, .ref mre, .int vK, .ref mah, .int vR, .ref mrw, .ref mrr, .ref mrs, .ref mrb, .int v0, .int vZ, .int vB, .int vN, .ref mso, .ref mnu, .ref mse, .ref mbe, .ref men])), (mm, eI G 1191 fm)] := hD
  have hw : r_1 = 0 := hw
  subst hw
  refine lv_if_eq (tgt := 13) hx hb dX12_addVariant_6 (by decide) (fun _ => ?_) (fun h9 => absurd (by decide) h9)
  refine lv_iconst (v := 1) hx hb dX12_addVariant_13 (by decide) ?_
  refine va_put (D := G.1) (ci := 13) (v := .int 1) (ty := .int) (C := RX12) (T := TX12) (N := 27) hx hb hts hiX12 tyX12 tyX12_ok nmX12 hown hK hP hD hS 0 rfl rfl 5 (by decide) (hts (.fieldLink RX12 62 "DialectDictionaryModel" "thrown" "I") (by decide +kernel)) (fun _ h9 => h9) rfl (by decide +kernel) rfl rfl (Nat.le_of_ble_eq_true rfl) dX12_addVariant_14 (fun H locs hP hD hS => ?_)
  have hP : va_P G.1 vwCl [(y, .inr (13, [.ref mm, .ref msv, .int vS, .ref mpa, .int vC, .int 1, .int vF, .ref mio, .ref mfo, .int vL, .ref mre, .int vK, .ref mah, .int vR, .ref mrw, .ref mrr, .ref mrs, .ref mrb, .int v0, .int vZ, .int vB, .int vN, .ref mso, .ref mnu, .ref mse, .ref mbe, .ref men])), (mm, eI G 1191 fm)] H := hP
  have hD : va_D A [(y, .inr (13, [.ref mm, .ref msv, .int vS, .ref mpa, .int vC, .int 1, .int vF, .ref mio, .ref mfo, .int vL, .ref mre, .int vK, .ref mah, .int vR, .ref mrw, .ref mrr, .ref mrs, .ref mrb, .int v0, .int vZ, .int vB, .int vN, .ref mso, .ref mnu, .ref mse, .ref mbe, .ref men])), (mm, eI G 1191 fm)] := hD
  refine lv_aload_n hx hb dX12_addVariant_17 rfl (lv_at hl 0 rfl) ?_
  refine va_get (D := G.1) (ci := 13) (v := .int 1) (C := RX12) (T := TX12) (N := 27) hx hb hts hiX12 hown hK hP 0 rfl rfl 5 (by decide) (hts (.fieldLink RX12 62 "DialectDictionaryModel" "thrown" "I") (by decide +kernel)) (fun _ h9 => h9) rfl dX12_addVariant_18 ?_
  refine lv_if_le (tgt := 26) hx hb dX12_addVariant_21 (by decide) (fun h9 => absurd h9 (by decide)) (fun _ => ?_)
  refine lv_iconst (v := 0) hx hb dX12_addVariant_24 (by decide) ?_
  have hP9 := n_Psub (wc := [(y, .inr (13, [.ref mm, .ref msv, .int vS, .ref mpa, .int vC, .int 1, .int vF, .ref mio, .ref mfo, .int vL, .ref mre, .int vK, .ref mah, .int vR, .ref mrw, .ref mrr, .ref mrs, .ref mrb, .int v0, .int vZ, .int vB, .int vN, .ref mso, .ref mnu, .ref mse, .ref mbe, .ref men]))]) hP [0] rfl
  have hD9 := hD.sub (ws' := [(y, .inr (13, [.ref mm, .ref msv, .int vS, .ref mpa, .int vC, .int 1, .int vF, .ref mio, .ref mfo, .int vL, .ref mre, .int vK, .ref mah, .int vR, .ref mrw, .ref mrr, .ref mrs, .ref mrb, .int v0, .int vZ, .int vB, .int vN, .ref mso, .ref mnu, .ref mse, .ref mbe, .ref men]))]) [0] (by decide) rfl
  refine W.widen (k := 0) (n := 0) (Nat.le_of_ble_eq_true rfl) (Nat.le_of_ble_eq_true rfl) ?_
  exact W.iret (v := 0) hx hb hr (fun t ht hW => ⟨⟨0, (), rfl, rfl, by rw [ht]; exact hP9, va_K.moved hW.alike hK, hD9⟩, hS.F ht⟩) hS.2.2 dX12_addVariant_25

set_option maxHeartbeats 4000000 in
set_option maxRecDepth 100000 in
theorem mX12_rename (l : Launch) (G : nG) (y : Nat) (mm : Nat) (msv : Nat) (mpa : Nat) (mio : Nat) (mfo : Nat) (mre : Nat) (mah : Nat) (mrw : Nat) (mrr : Nat) (mrs : Nat) (mrb : Nat) (mso : Nat) (mnu : Nat) (mse : Nat) (mbe : Nat) (men : Nat) (vS : Int32) (vC : Int32) (vT : Int32) (vF : Int32) (vL : Int32) (vK : Int32) (vR : Int32) (v0 : Int32) (vZ : Int32) (vB : Int32) (vN : Int32) (fm : Nat → Int32) (q : Int32) (sz : Nat) (hm : nMod fm) : Met l yX12_rename wsX12_rename ({ frames := 2, cells := 0, slots := 0, locals := 43 }) (va_Pc [.ref y, .int q] (n_pp G [(y, .inr (13, [.ref mm, .ref msv, .int vS, .ref mpa, .int vC, .int vT, .int vF, .ref mio, .ref mfo, .int vL, .ref mre, .int vK, .ref mah, .int vR, .ref mrw, .ref mrr, .ref mrs, .ref mrb, .int v0, .int vZ, .int vB, .int vN, .ref mso, .ref mnu, .ref mse, .ref mbe, .ref men])), (mm, eI G 1191 fm)] sz)) (va_Qi (fun (r : Int32) (_ : Unit) => r = 0) (fun (_ : Unit) (t : State) => n_po G (va_A [(y, .inr (13, [.ref mm, .ref msv, .int vS, .ref mpa, .int vC, .int vT, .int vF, .ref mio, .ref mfo, .int vL, .ref mre, .int vK, .ref mah, .int vR, .ref mrw, .ref mrr, .ref mrs, .ref mrb, .int v0, .int vZ, .int vB, .int vN, .ref mso, .ref mnu, .ref mse, .ref mbe, .ref men])), (mm, eI G 1191 fm)] sz) [(y, .inr (13, [.ref mm, .ref msv, .int vS, .ref mpa, .int vC, .int 1, .int vF, .ref mio, .ref mfo, .int vL, .ref mre, .int vK, .ref mah, .int vR, .ref mrw, .ref mrr, .ref mrs, .ref mrb, .int v0, .int vZ, .int vB, .int vN, .ref mso, .ref mnu, .ref mse, .ref mbe, .ref men]))] t) (va_A [(y, .inr (13, [.ref mm, .ref msv, .int vS, .ref mpa, .int vC, .int vT, .int vF, .ref mio, .ref mfo, .int vL, .ref mre, .int vK, .ref mah, .int vR, .ref mrw, .ref mrr, .ref mrs, .ref mrb, .int v0, .int vZ, .int vB, .int vN, .ref mso, .ref mnu, .ref mse, .ref mbe, .ref men])), (mm, eI G 1191 fm)] sz)) 0 0 (va_A [(y, .inr (13, [.ref mm, .ref msv, .int vS, .ref mpa, .int vC, .int vT, .int vF, .ref mio, .ref mfo, .int vL, .ref mre, .int vK, .ref mah, .int vR, .ref mrw, .ref mrr, .ref mrs, .ref mrb, .int v0, .int vZ, .int vB, .int vN, .ref mso, .ref mnu, .ref mse, .ref mbe, .ref men])), (mm, eI G 1191 fm)] sz) := by
  refine Met.ofW (cc := cX12_rename) (maxL := 5) (ret := (some .int)) (by decide) rfl ?_
  intro p e s m args below meth c s₁ B hml hv
  obtain ⟨rfl, hsz, hP, hK, hD0⟩ := hv
  have hx := B.exec
  have hb := B.bytes
  have hr := B.returns
  have hts := atoms_spec (ws := wsX12_rename) B.pre
  have hown : s.vm.findClass RX12 = some m.cls := findClass_of_methodNamed B.named
  have hlocks := B.notSynchronized
  subst hsz
  have hD := hD0.self (sz := s.heap.size)
  generalize hAe : va_A [(y, .inr (13, [.ref mm, .ref msv, .int vS, .ref mpa, .int vC, .int vT, .int vF, .ref mio, .ref mfo, .int vL, .ref mre, .int vK, .ref mah, .int vR, .ref mrw, .ref mrr, .ref mrs, .ref mrb, .int v0, .int vZ, .int vB, .int vN, .ref mso, .ref mnu, .ref mse, .ref mbe, .ref men])), (mm, eI G 1191 fm)] s.heap.size = A at hD ⊢
  have hA : ∀ q : Nat, s.heap.size ≤ q → A q := fun q h => by rw [← hAe]; exact Or.inr h
  have hS : va_S A s.heap s.heap [] := va_S.rf
  have hP : va_P G.1 vwCl [(y, .inr (13, [.ref mm, .ref msv, .int vS, .ref mpa, .int vC, .int vT, .int vF, .ref mio, .ref mfo, .int vL, .ref mre, .int vK, .ref mah, .int vR, .ref mrw, .ref mrr, .ref mrs, .ref mrb, .int v0, .int vZ, .int vB, .int vN, .ref mso, .ref mnu, .ref mse, .ref mbe, .ref men])), (mm, eI G 1191 fm)] s.heap := hP
  have hl := lv_entry ([.ref y, .int q]) (n := 5) (Nat.le_of_ble_eq_true rfl)
  rw [lg_entry_eq]
  generalize (lg_sl ([.ref y, .int q]) ++ List.replicate (5 - (lg_sl ([.ref y, .int q])).length) Slot.unset).toArray = ls at hl ⊢
  have hl : lv_has ls 5 [(0, .ref y), (1, .int q)] := hl
  obtain ⟨H, hH⟩ : ∃ z, z = s.heap := ⟨_, rfl⟩
  have hS : va_S A s.heap H [] := by rw [hH]; exact hS
  have hP : va_P G.1 vwCl [(y, .inr (13, [.ref mm, .ref msv, .int vS, .ref mpa, .int vC, .int vT, .int vF, .ref mio, .ref mfo, .int vL, .ref mre, .int vK, .ref mah, .int vR, .ref mrw, .ref mrr, .ref mrs, .ref mrb, .int v0, .int vZ, .int vB, .int vN, .ref mso, .ref mnu, .ref mse, .ref mbe, .ref men])), (mm, eI G 1191 fm)] H := by rw [hH]; exact hP
  refine n_heap hH ?_
  generalize ([] : List Loc) = locs at hS ⊢
  have hiX12 : ∀ w ∈ u_ws RX12 TX12 27, w ∈ wsX12_rename := by decide +kernel
  refine lv_aload_n hx hb dX12_rename_0 rfl (lv_at hl 0 rfl) ?_
  refine lv_aload_n hx hb dX12_rename_1 rfl (lv_at hl 0 rfl) ?_
  refine lv_iload_n hx hb dX12_rename_2 rfl (lv_at hl 1 rfl) ?_
  refine n_ci (wr := []) (va_runV (As := [.int q]) (rest := [.ref y]) ⟨hx, hb, hml, hown, hts⟩ (mX12_isHead l G y mm msv mpa mio mfo mre mah mrw mrr mrs mrb mso mnu mse mbe men vS vC vT vF vL vK vR v0 vZ vB vN fm q H.size hm) (cwV 1 hts gX12_rename_X12_isHead rfl rfl rfl (by decide +kernel) ⟨(Nat.le_of_ble_eq_true rfl), (Nat.le_of_ble_eq_true rfl)⟩) (n_prV (ci := 13) (q0 := 0) hK hP hD [0, 1] rfl (by decide) rfl rfl) rfl rfl hl.1 rfl (lv_room (Nat.le_of_ble_eq_true rfl)) dX12_rename_3 ⟨(Nat.le_of_ble_eq_true rfl), (Nat.le_of_ble_eq_true rfl)⟩) hP hD hS hA [0, 1] [] rfl rfl (by decide) (by decide) (fun r_1 u_2 H locs hP hD hS hw => ?_)
  have hP : va_P G.1 vwCl [(y, .inr (13, [.ref mm, .ref msv, .int vS, .ref mpa, .int vC, .int vT, .int vF, .ref mio, .ref mfo, .int vL, .ref mre, .int vK, .ref mah, .int vR, .ref mrw, .ref mrr, .ref mrs, .ref mrb, .int v0, .int vZ, .int vB, .int vN, .ref mso, .ref mnu, .ref mse, .ref mbe, .ref men])), (mm, eI G 1191 fm)] H := hP
  have hD : va_D A [(y, .inr (13, [.ref mm, .ref msv, .int vS, .ref mpa, .int vC, .int vT, .int vF, .ref mio, .ref mfo, .int vL, .ref mre, .int vK, .ref mah, .int vR, .ref mrw, .ref mrr, .ref mrs, .ref mrb, .int v0, .int vZ, .int vB, .int vN, .ref mso, .ref mnu, .ref mse, .ref mbe, .ref men])), (mm, eI G 1191 fm)] := hD
  have hw : r_1 = 0 := hw
  subst hw
  refine lv_if_eq (tgt := 13) hx hb dX12_rename_6 (by decide) (fun _ => ?_) (fun h9 => absurd (by decide) h9)
  refine lv_iconst (v := 1) hx hb dX12_rename_13 (by decide) ?_
  refine va_put (D := G.1) (ci := 13) (v := .int 1) (ty := .int) (C := RX12) (T := TX12) (N := 27) hx hb hts hiX12 tyX12 tyX12_ok nmX12 hown hK hP hD hS 0 rfl rfl 5 (by decide) (hts (.fieldLink RX12 62 "DialectDictionaryModel" "thrown" "I") (by decide +kernel)) (fun _ h9 => h9) rfl (by decide +kernel) rfl rfl (Nat.le_of_ble_eq_true rfl) dX12_rename_14 (fun H locs hP hD hS => ?_)
  have hP : va_P G.1 vwCl [(y, .inr (13, [.ref mm, .ref msv, .int vS, .ref mpa, .int vC, .int 1, .int vF, .ref mio, .ref mfo, .int vL, .ref mre, .int vK, .ref mah, .int vR, .ref mrw, .ref mrr, .ref mrs, .ref mrb, .int v0, .int vZ, .int vB, .int vN, .ref mso, .ref mnu, .ref mse, .ref mbe, .ref men])), (mm, eI G 1191 fm)] H := hP
  have hD : va_D A [(y, .inr (13, [.ref mm, .ref msv, .int vS, .ref mpa, .int vC, .int 1, .int vF, .ref mio, .ref mfo, .int vL, .ref mre, .int vK, .ref mah, .int vR, .ref mrw, .ref mrr, .ref mrs, .ref mrb, .int v0, .int vZ, .int vB, .int vN, .ref mso, .ref mnu, .ref mse, .ref mbe, .ref men])), (mm, eI G 1191 fm)] := hD
  refine lv_aload_n hx hb dX12_rename_17 rfl (lv_at hl 0 rfl) ?_
  refine va_get (D := G.1) (ci := 13) (v := .int 1) (C := RX12) (T := TX12) (N := 27) hx hb hts hiX12 hown hK hP 0 rfl rfl 5 (by decide) (hts (.fieldLink RX12 62 "DialectDictionaryModel" "thrown" "I") (by decide +kernel)) (fun _ h9 => h9) rfl dX12_rename_18 ?_
  refine lv_if_le (tgt := 26) hx hb dX12_rename_21 (by decide) (fun h9 => absurd h9 (by decide)) (fun _ => ?_)
  refine lv_iconst (v := 0) hx hb dX12_rename_24 (by decide) ?_
  have hP9 := n_Psub (wc := [(y, .inr (13, [.ref mm, .ref msv, .int vS, .ref mpa, .int vC, .int 1, .int vF, .ref mio, .ref mfo, .int vL, .ref mre, .int vK, .ref mah, .int vR, .ref mrw, .ref mrr, .ref mrs, .ref mrb, .int v0, .int vZ, .int vB, .int vN, .ref mso, .ref mnu, .ref mse, .ref mbe, .ref men]))]) hP [0] rfl
  have hD9 := hD.sub (ws' := [(y, .inr (13, [.ref mm, .ref msv, .int vS, .ref mpa, .int vC, .int 1, .int vF, .ref mio, .ref mfo, .int vL, .ref mre, .int vK, .ref mah, .int vR, .ref mrw, .ref mrr, .ref mrs, .ref mrb, .int v0, .int vZ, .int vB, .int vN, .ref mso, .ref mnu, .ref mse, .ref mbe, .ref men]))]) [0] (by decide) rfl
  refine W.widen (k := 0) (n := 0) (Nat.le_of_ble_eq_true rfl) (Nat.le_of_ble_eq_true rfl) ?_
  exact W.iret (v := 0) hx hb hr (fun t ht hW => ⟨⟨0, (), rfl, rfl, by rw [ht]; exact hP9, va_K.moved hW.alike hK, hD9⟩, hS.F ht⟩) hS.2.2 dX12_rename_25

set_option maxHeartbeats 4000000 in
set_option maxRecDepth 100000 in
theorem mX12_promote (l : Launch) (G : nG) (y : Nat) (mm : Nat) (msv : Nat) (mpa : Nat) (mio : Nat) (mfo : Nat) (mre : Nat) (mah : Nat) (mrw : Nat) (mrr : Nat) (mrs : Nat) (mrb : Nat) (mso : Nat) (mnu : Nat) (mse : Nat) (mbe : Nat) (men : Nat) (vS : Int32) (vC : Int32) (vT : Int32) (vF : Int32) (vL : Int32) (vK : Int32) (vR : Int32) (v0 : Int32) (vZ : Int32) (vB : Int32) (vN : Int32) (fm : Nat → Int32) (q : Int32) (q2 : Int32) (sz : Nat) (hm : nMod fm) : Met l yX12_promote wsX12_promote ({ frames := 3, cells := 0, slots := 0, locals := 65 }) (va_Pc [.ref y, .int q, .int q2] (n_pp G [(y, .inr (13, [.ref mm, .ref msv, .int vS, .ref mpa, .int vC, .int vT, .int vF, .ref mio, .ref mfo, .int vL, .ref mre, .int vK, .ref mah, .int vR, .ref mrw, .ref mrr, .ref mrs, .ref mrb, .int v0, .int vZ, .int vB, .int vN, .ref mso, .ref mnu, .ref mse, .ref mbe, .ref men])), (mm, eI G 1191 fm)] sz)) (va_Qi (fun (r : Int32) (_ : Unit) => r = 0) (fun (_ : Unit) (t : State) => n_po G (va_A [(y, .inr (13, [.ref mm, .ref msv, .int vS, .ref mpa, .int vC, .int vT, .int vF, .ref mio, .ref mfo, .int vL, .ref mre, .int vK, .ref mah, .int vR, .ref mrw, .ref mrr, .ref mrs, .ref mrb, .int v0, .int vZ, .int vB, .int vN, .ref mso, .ref mnu, .ref mse, .ref mbe, .ref men])), (mm, eI G 1191 fm)] sz) [(y, .inr (13, [.ref mm, .ref msv, .int vS, .ref mpa, .int vC, .int 1, .int vF, .ref mio, .ref mfo, .int vL, .ref mre, .int vK, .ref mah, .int vR, .ref mrw, .ref mrr, .ref mrs, .ref mrb, .int v0, .int vZ, .int vB, .int vN, .ref mso, .ref mnu, .ref mse, .ref mbe, .ref men]))] t) (va_A [(y, .inr (13, [.ref mm, .ref msv, .int vS, .ref mpa, .int vC, .int vT, .int vF, .ref mio, .ref mfo, .int vL, .ref mre, .int vK, .ref mah, .int vR, .ref mrw, .ref mrr, .ref mrs, .ref mrb, .int v0, .int vZ, .int vB, .int vN, .ref mso, .ref mnu, .ref mse, .ref mbe, .ref men])), (mm, eI G 1191 fm)] sz)) 0 0 (va_A [(y, .inr (13, [.ref mm, .ref msv, .int vS, .ref mpa, .int vC, .int vT, .int vF, .ref mio, .ref mfo, .int vL, .ref mre, .int vK, .ref mah, .int vR, .ref mrw, .ref mrr, .ref mrs, .ref mrb, .int v0, .int vZ, .int vB, .int vN, .ref mso, .ref mnu, .ref mse, .ref mbe, .ref men])), (mm, eI G 1191 fm)] sz) := by
  refine Met.ofW (cc := cX12_promote) (maxL := 7) (ret := (some .int)) (by decide) rfl ?_
  intro p e s m args below meth c s₁ B hml hv
  obtain ⟨rfl, hsz, hP, hK, hD0⟩ := hv
  have hx := B.exec
  have hb := B.bytes
  have hr := B.returns
  have hts := atoms_spec (ws := wsX12_promote) B.pre
  have hown : s.vm.findClass RX12 = some m.cls := findClass_of_methodNamed B.named
  have hlocks := B.notSynchronized
  subst hsz
  have hD := hD0.self (sz := s.heap.size)
  generalize hAe : va_A [(y, .inr (13, [.ref mm, .ref msv, .int vS, .ref mpa, .int vC, .int vT, .int vF, .ref mio, .ref mfo, .int vL, .ref mre, .int vK, .ref mah, .int vR, .ref mrw, .ref mrr, .ref mrs, .ref mrb, .int v0, .int vZ, .int vB, .int vN, .ref mso, .ref mnu, .ref mse, .ref mbe, .ref men])), (mm, eI G 1191 fm)] s.heap.size = A at hD ⊢
  have hA : ∀ q : Nat, s.heap.size ≤ q → A q := fun q h => by rw [← hAe]; exact Or.inr h
  have hS : va_S A s.heap s.heap [] := va_S.rf
  have hP : va_P G.1 vwCl [(y, .inr (13, [.ref mm, .ref msv, .int vS, .ref mpa, .int vC, .int vT, .int vF, .ref mio, .ref mfo, .int vL, .ref mre, .int vK, .ref mah, .int vR, .ref mrw, .ref mrr, .ref mrs, .ref mrb, .int v0, .int vZ, .int vB, .int vN, .ref mso, .ref mnu, .ref mse, .ref mbe, .ref men])), (mm, eI G 1191 fm)] s.heap := hP
  have hl := lv_entry ([.ref y, .int q, .int q2]) (n := 7) (Nat.le_of_ble_eq_true rfl)
  rw [lg_entry_eq]
  generalize (lg_sl ([.ref y, .int q, .int q2]) ++ List.replicate (7 - (lg_sl ([.ref y, .int q, .int q2])).length) Slot.unset).toArray = ls at hl ⊢
  have hl : lv_has ls 7 [(0, .ref y), (1, .int q), (2, .int q2)] := hl
  obtain ⟨H, hH⟩ : ∃ z, z = s.heap := ⟨_, rfl⟩
  have hS : va_S A s.heap H [] := by rw [hH]; exact hS
  have hP : va_P G.1 vwCl [(y, .inr (13, [.ref mm, .ref msv, .int vS, .ref mpa, .int vC, .int vT, .int vF, .ref mio, .ref mfo, .int vL, .ref mre, .int vK, .ref mah, .int vR, .ref mrw, .ref mrr, .ref mrs, .ref mrb, .int v0, .int vZ, .int vB, .int vN, .ref mso, .ref mnu, .ref mse, .ref mbe, .ref men])), (mm, eI G 1191 fm)] H := by rw [hH]; exact hP
  refine n_heap hH ?_
  generalize ([] : List Loc) = locs at hS ⊢
  have hiX12 : ∀ w ∈ u_ws RX12 TX12 27, w ∈ wsX12_promote := by decide +kernel
  refine lv_aload_n hx hb dX12_promote_0 rfl (lv_at hl 0 rfl) ?_
  refine lv_aload_n hx hb dX12_promote_1 rfl (lv_at hl 0 rfl) ?_
  refine lv_iload_n hx hb dX12_promote_2 rfl (lv_at hl 1 rfl) ?_
  refine lv_iload_n hx hb dX12_promote_3 rfl (lv_at hl 2 rfl) ?_
  refine n_ci (wr := []) (va_runV (As := [.int q, .int q2]) (rest := [.ref y]) ⟨hx, hb, hml, hown, hts⟩ (mX12_lacks l G y mm msv mpa mio mfo mre mah mrw mrr mrs mrb mso mnu mse mbe men vS vC vT vF vL vK vR v0 vZ vB vN fm q q2 H.size hm) (cwV 2 hts gX12_promote_X12_lacks rfl rfl rfl (by decide +kernel) ⟨(Nat.le_of_ble_eq_true rfl), (Nat.le_of_ble_eq_true rfl)⟩) (n_prV (ci := 13) (q0 := 0) hK hP hD [0, 1] rfl (by decide) rfl rfl) rfl rfl hl.1 rfl (lv_room (Nat.le_of_ble_eq_true rfl)) dX12_promote_4 ⟨(Nat.le_of_ble_eq_true rfl), (Nat.le_of_ble_eq_true rfl)⟩) hP hD hS hA [0, 1] [] rfl rfl (by decide) (by decide) (fun r_1 u_2 H locs hP hD hS hw => ?_)
  have hP : va_P G.1 vwCl [(y, .inr (13, [.ref mm, .ref msv, .int vS, .ref mpa, .int vC, .int vT, .int vF, .ref mio, .ref mfo, .int vL, .ref mre, .int vK, .ref mah, .int vR, .ref mrw, .ref mrr, .ref mrs, .ref mrb, .int v0, .int vZ, .int vB, .int vN, .ref mso, .ref mnu, .ref mse, .ref mbe, .ref men])), (mm, eI G 1191 fm)] H := hP
  have hD : va_D A [(y, .inr (13, [.ref mm, .ref msv, .int vS, .ref mpa, .int vC, .int vT, .int vF, .ref mio, .ref mfo, .int vL, .ref mre, .int vK, .ref mah, .int vR, .ref mrw, .ref mrr, .ref mrs, .ref mrb, .int v0, .int vZ, .int vB, .int vN, .ref mso, .ref mnu, .ref mse, .ref mbe, .ref men])), (mm, eI G 1191 fm)] := hD
  have hw : r_1 = 1 := hw
  subst hw
  refine va_put (D := G.1) (ci := 13) (v := .int 1) (ty := .int) (C := RX12) (T := TX12) (N := 27) hx hb hts hiX12 tyX12 tyX12_ok nmX12 hown hK hP hD hS 0 rfl rfl 5 (by decide) (hts (.fieldLink RX12 62 "DialectDictionaryModel" "thrown" "I") (by decide +kernel)) (fun _ h9 => h9) rfl (by decide +kernel) rfl rfl (Nat.le_of_ble_eq_true rfl) dX12_promote_7 (fun H locs hP hD hS => ?_)
  have hP : va_P G.1 vwCl [(y, .inr (13, [.ref mm, .ref msv, .int vS, .ref mpa, .int vC, .int 1, .int vF, .ref mio, .ref mfo, .int vL, .ref mre, .int vK, .ref mah, .int vR, .ref mrw, .ref mrr, .ref mrs, .ref mrb, .int v0, .int vZ, .int vB, .int vN, .ref mso, .ref mnu, .ref mse, .ref mbe, .ref men])), (mm, eI G 1191 fm)] H := hP
  have hD : va_D A [(y, .inr (13, [.ref mm, .ref msv, .int vS, .ref mpa, .int vC, .int 1, .int vF, .ref mio, .ref mfo, .int vL, .ref mre, .int vK, .ref mah, .int vR, .ref mrw, .ref mrr, .ref mrs, .ref mrb, .int v0, .int vZ, .int vB, .int vN, .ref mso, .ref mnu, .ref mse, .ref mbe, .ref men])), (mm, eI G 1191 fm)] := hD
  refine lv_aload_n hx hb dX12_promote_10 rfl (lv_at hl 0 rfl) ?_
  refine va_get (D := G.1) (ci := 13) (v := .int 1) (C := RX12) (T := TX12) (N := 27) hx hb hts hiX12 hown hK hP 0 rfl rfl 5 (by decide) (hts (.fieldLink RX12 62 "DialectDictionaryModel" "thrown" "I") (by decide +kernel)) (fun _ h9 => h9) rfl dX12_promote_11 ?_
  refine lv_if_le (tgt := 19) hx hb dX12_promote_14 (by decide) (fun h9 => absurd h9 (by decide)) (fun _ => ?_)
  refine lv_iconst (v := 0) hx hb dX12_promote_17 (by decide) ?_
  have hP9 := n_Psub (wc := [(y, .inr (13, [.ref mm, .ref msv, .int vS, .ref mpa, .int vC, .int 1, .int vF, .ref mio, .ref mfo, .int vL, .ref mre, .int vK, .ref mah, .int vR, .ref mrw, .ref mrr, .ref mrs, .ref mrb, .int v0, .int vZ, .int vB, .int vN, .ref mso, .ref mnu, .ref mse, .ref mbe, .ref men]))]) hP [0] rfl
  have hD9 := hD.sub (ws' := [(y, .inr (13, [.ref mm, .ref msv, .int vS, .ref mpa, .int vC, .int 1, .int vF, .ref mio, .ref mfo, .int vL, .ref mre, .int vK, .ref mah, .int vR, .ref mrw, .ref mrr, .ref mrs, .ref mrb, .int v0, .int vZ, .int vB, .int vN, .ref mso, .ref mnu, .ref mse, .ref mbe, .ref men]))]) [0] (by decide) rfl
  refine W.widen (k := 0) (n := 0) (Nat.le_of_ble_eq_true rfl) (Nat.le_of_ble_eq_true rfl) ?_
  exact W.iret (v := 0) hx hb hr (fun t ht hW => ⟨⟨0, (), rfl, rfl, by rw [ht]; exact hP9, va_K.moved hW.alike hK, hD9⟩, hS.F ht⟩) hS.2.2 dX12_promote_18

set_option maxHeartbeats 4000000 in
set_option maxRecDepth 100000 in
theorem mX12_removeVariant (l : Launch) (G : nG) (y : Nat) (mm : Nat) (msv : Nat) (mpa : Nat) (mio : Nat) (mfo : Nat) (mre : Nat) (mah : Nat) (mrw : Nat) (mrr : Nat) (mrs : Nat) (mrb : Nat) (mso : Nat) (mnu : Nat) (mse : Nat) (mbe : Nat) (men : Nat) (vS : Int32) (vC : Int32) (vT : Int32) (vF : Int32) (vL : Int32) (vK : Int32) (vR : Int32) (v0 : Int32) (vZ : Int32) (vB : Int32) (vN : Int32) (fm : Nat → Int32) (q : Int32) (q2 : Int32) (sz : Nat) (hm : nMod fm) : Met l yX12_removeVariant wsX12_removeVariant ({ frames := 3, cells := 0, slots := 0, locals := 65 }) (va_Pc [.ref y, .int q, .int q2] (n_pp G [(y, .inr (13, [.ref mm, .ref msv, .int vS, .ref mpa, .int vC, .int vT, .int vF, .ref mio, .ref mfo, .int vL, .ref mre, .int vK, .ref mah, .int vR, .ref mrw, .ref mrr, .ref mrs, .ref mrb, .int v0, .int vZ, .int vB, .int vN, .ref mso, .ref mnu, .ref mse, .ref mbe, .ref men])), (mm, eI G 1191 fm)] sz)) (va_Qi (fun (r : Int32) (_ : Unit) => r = 0) (fun (_ : Unit) (t : State) => n_po G (va_A [(y, .inr (13, [.ref mm, .ref msv, .int vS, .ref mpa, .int vC, .int vT, .int vF, .ref mio, .ref mfo, .int vL, .ref mre, .int vK, .ref mah, .int vR, .ref mrw, .ref mrr, .ref mrs, .ref mrb, .int v0, .int vZ, .int vB, .int vN, .ref mso, .ref mnu, .ref mse, .ref mbe, .ref men])), (mm, eI G 1191 fm)] sz) [(y, .inr (13, [.ref mm, .ref msv, .int vS, .ref mpa, .int vC, .int 1, .int vF, .ref mio, .ref mfo, .int vL, .ref mre, .int vK, .ref mah, .int vR, .ref mrw, .ref mrr, .ref mrs, .ref mrb, .int v0, .int vZ, .int vB, .int vN, .ref mso, .ref mnu, .ref mse, .ref mbe, .ref men]))] t) (va_A [(y, .inr (13, [.ref mm, .ref msv, .int vS, .ref mpa, .int vC, .int vT, .int vF, .ref mio, .ref mfo, .int vL, .ref mre, .int vK, .ref mah, .int vR, .ref mrw, .ref mrr, .ref mrs, .ref mrb, .int v0, .int vZ, .int vB, .int vN, .ref mso, .ref mnu, .ref mse, .ref mbe, .ref men])), (mm, eI G 1191 fm)] sz)) 0 0 (va_A [(y, .inr (13, [.ref mm, .ref msv, .int vS, .ref mpa, .int vC, .int vT, .int vF, .ref mio, .ref mfo, .int vL, .ref mre, .int vK, .ref mah, .int vR, .ref mrw, .ref mrr, .ref mrs, .ref mrb, .int v0, .int vZ, .int vB, .int vN, .ref mso, .ref mnu, .ref mse, .ref mbe, .ref men])), (mm, eI G 1191 fm)] sz) := by
  refine Met.ofW (cc := cX12_removeVariant) (maxL := 4) (ret := (some .int)) (by decide) rfl ?_
  intro p e s m args below meth c s₁ B hml hv
  obtain ⟨rfl, hsz, hP, hK, hD0⟩ := hv
  have hx := B.exec
  have hb := B.bytes
  have hr := B.returns
  have hts := atoms_spec (ws := wsX12_removeVariant) B.pre
  have hown : s.vm.findClass RX12 = some m.cls := findClass_of_methodNamed B.named
  have hlocks := B.notSynchronized
  subst hsz
  have hD := hD0.self (sz := s.heap.size)
  generalize hAe : va_A [(y, .inr (13, [.ref mm, .ref msv, .int vS, .ref mpa, .int vC, .int vT, .int vF, .ref mio, .ref mfo, .int vL, .ref mre, .int vK, .ref mah, .int vR, .ref mrw, .ref mrr, .ref mrs, .ref mrb, .int v0, .int vZ, .int vB, .int vN, .ref mso, .ref mnu, .ref mse, .ref mbe, .ref men])), (mm, eI G 1191 fm)] s.heap.size = A at hD ⊢
  have hA : ∀ q : Nat, s.heap.size ≤ q → A q := fun q h => by rw [← hAe]; exact Or.inr h
  have hS : va_S A s.heap s.heap [] := va_S.rf
  have hP : va_P G.1 vwCl [(y, .inr (13, [.ref mm, .ref msv, .int vS, .ref mpa, .int vC, .int vT, .int vF, .ref mio, .ref mfo, .int vL, .ref mre, .int vK, .ref mah, .int vR, .ref mrw, .ref mrr, .ref mrs, .ref mrb, .int v0, .int vZ, .int vB, .int vN, .ref mso, .ref mnu, .ref mse, .ref mbe, .ref men])), (mm, eI G 1191 fm)] s.heap := hP
  have hl := lv_entry ([.ref y, .int q, .int q2]) (n := 4) (Nat.le_of_ble_eq_true rfl)
  rw [lg_entry_eq]
  generalize (lg_sl ([.ref y, .int q, .int q2]) ++ List.replicate (4 - (lg_sl ([.ref y, .int q, .int q2])).length) Slot.unset).toArray = ls at hl ⊢
  have hl : lv_has ls 4 [(0, .ref y), (1, .int q), (2, .int q2)] := hl
  obtain ⟨H, hH⟩ : ∃ z, z = s.heap := ⟨_, rfl⟩
  have hS : va_S A s.heap H [] := by rw [hH]; exact hS
  have hP : va_P G.1 vwCl [(y, .inr (13, [.ref mm, .ref msv, .int vS, .ref mpa, .int vC, .int vT, .int vF, .ref mio, .ref mfo, .int vL, .ref mre, .int vK, .ref mah, .int vR, .ref mrw, .ref mrr, .ref mrs, .ref mrb, .int v0, .int vZ, .int vB, .int vN, .ref mso, .ref mnu, .ref mse, .ref mbe, .ref men])), (mm, eI G 1191 fm)] H := by rw [hH]; exact hP
  refine n_heap hH ?_
  generalize ([] : List Loc) = locs at hS ⊢
  have hiX12 : ∀ w ∈ u_ws RX12 TX12 27, w ∈ wsX12_removeVariant := by decide +kernel
  refine lv_aload_n hx hb dX12_removeVariant_0 rfl (lv_at hl 0 rfl) ?_
  refine lv_aload_n hx hb dX12_removeVariant_1 rfl (lv_at hl 0 rfl) ?_
  refine lv_iload_n hx hb dX12_removeVariant_2 rfl (lv_at hl 1 rfl) ?_
  refine lv_iload_n hx hb dX12_removeVariant_3 rfl (lv_at hl 2 rfl) ?_
  refine n_ci (wr := []) (va_runV (As := [.int q, .int q2]) (rest := [.ref y]) ⟨hx, hb, hml, hown, hts⟩ (mX12_lacks l G y mm msv mpa mio mfo mre mah mrw mrr mrs mrb mso mnu mse mbe men vS vC vT vF vL vK vR v0 vZ vB vN fm q q2 H.size hm) (cwV 2 hts gX12_removeVariant_X12_lacks rfl rfl rfl (by decide +kernel) ⟨(Nat.le_of_ble_eq_true rfl), (Nat.le_of_ble_eq_true rfl)⟩) (n_prV (ci := 13) (q0 := 0) hK hP hD [0, 1] rfl (by decide) rfl rfl) rfl rfl hl.1 rfl (lv_room (Nat.le_of_ble_eq_true rfl)) dX12_removeVariant_4 ⟨(Nat.le_of_ble_eq_true rfl), (Nat.le_of_ble_eq_true rfl)⟩) hP hD hS hA [0, 1] [] rfl rfl (by decide) (by decide) (fun r_1 u_2 H locs hP hD hS hw => ?_)
  have hP : va_P G.1 vwCl [(y, .inr (13, [.ref mm, .ref msv, .int vS, .ref mpa, .int vC, .int vT, .int vF, .ref mio, .ref mfo, .int vL, .ref mre, .int vK, .ref mah, .int vR, .ref mrw, .ref mrr, .ref mrs, .ref mrb, .int v0, .int vZ, .int vB, .int vN, .ref mso, .ref mnu, .ref mse, .ref mbe, .ref men])), (mm, eI G 1191 fm)] H := hP
  have hD : va_D A [(y, .inr (13, [.ref mm, .ref msv, .int vS, .ref mpa, .int vC, .int vT, .int vF, .ref mio, .ref mfo, .int vL, .ref mre, .int vK, .ref mah, .int vR, .ref mrw, .ref mrr, .ref mrs, .ref mrb, .int v0, .int vZ, .int vB, .int vN, .ref mso, .ref mnu, .ref mse, .ref mbe, .ref men])), (mm, eI G 1191 fm)] := hD
  have hw : r_1 = 1 := hw
  subst hw
  refine va_put (D := G.1) (ci := 13) (v := .int 1) (ty := .int) (C := RX12) (T := TX12) (N := 27) hx hb hts hiX12 tyX12 tyX12_ok nmX12 hown hK hP hD hS 0 rfl rfl 5 (by decide) (hts (.fieldLink RX12 62 "DialectDictionaryModel" "thrown" "I") (by decide +kernel)) (fun _ h9 => h9) rfl (by decide +kernel) rfl rfl (Nat.le_of_ble_eq_true rfl) dX12_removeVariant_7 (fun H locs hP hD hS => ?_)
  have hP : va_P G.1 vwCl [(y, .inr (13, [.ref mm, .ref msv, .int vS, .ref mpa, .int vC, .int 1, .int vF, .ref mio, .ref mfo, .int vL, .ref mre, .int vK, .ref mah, .int vR, .ref mrw, .ref mrr, .ref mrs, .ref mrb, .int v0, .int vZ, .int vB, .int vN, .ref mso, .ref mnu, .ref mse, .ref mbe, .ref men])), (mm, eI G 1191 fm)] H := hP
  have hD : va_D A [(y, .inr (13, [.ref mm, .ref msv, .int vS, .ref mpa, .int vC, .int 1, .int vF, .ref mio, .ref mfo, .int vL, .ref mre, .int vK, .ref mah, .int vR, .ref mrw, .ref mrr, .ref mrs, .ref mrb, .int v0, .int vZ, .int vB, .int vN, .ref mso, .ref mnu, .ref mse, .ref mbe, .ref men])), (mm, eI G 1191 fm)] := hD
  refine lv_aload_n hx hb dX12_removeVariant_10 rfl (lv_at hl 0 rfl) ?_
  refine va_get (D := G.1) (ci := 13) (v := .int 1) (C := RX12) (T := TX12) (N := 27) hx hb hts hiX12 hown hK hP 0 rfl rfl 5 (by decide) (hts (.fieldLink RX12 62 "DialectDictionaryModel" "thrown" "I") (by decide +kernel)) (fun _ h9 => h9) rfl dX12_removeVariant_11 ?_
  refine lv_if_le (tgt := 19) hx hb dX12_removeVariant_14 (by decide) (fun h9 => absurd h9 (by decide)) (fun _ => ?_)
  refine lv_iconst (v := 0) hx hb dX12_removeVariant_17 (by decide) ?_
  have hP9 := n_Psub (wc := [(y, .inr (13, [.ref mm, .ref msv, .int vS, .ref mpa, .int vC, .int 1, .int vF, .ref mio, .ref mfo, .int vL, .ref mre, .int vK, .ref mah, .int vR, .ref mrw, .ref mrr, .ref mrs, .ref mrb, .int v0, .int vZ, .int vB, .int vN, .ref mso, .ref mnu, .ref mse, .ref mbe, .ref men]))]) hP [0] rfl
  have hD9 := hD.sub (ws' := [(y, .inr (13, [.ref mm, .ref msv, .int vS, .ref mpa, .int vC, .int 1, .int vF, .ref mio, .ref mfo, .int vL, .ref mre, .int vK, .ref mah, .int vR, .ref mrw, .ref mrr, .ref mrs, .ref mrb, .int v0, .int vZ, .int vB, .int vN, .ref mso, .ref mnu, .ref mse, .ref mbe, .ref men]))]) [0] (by decide) rfl
  refine W.widen (k := 0) (n := 0) (Nat.le_of_ble_eq_true rfl) (Nat.le_of_ble_eq_true rfl) ?_
  exact W.iret (v := 0) hx hb hr (fun t ht hW => ⟨⟨0, (), rfl, rfl, by rw [ht]; exact hP9, va_K.moved hW.alike hK, hD9⟩, hS.F ht⟩) hS.2.2 dX12_removeVariant_18

set_option maxHeartbeats 4000000 in
set_option maxRecDepth 100000 in
theorem mX12_remove (l : Launch) (G : nG) (y : Nat) (mm : Nat) (msv : Nat) (mpa : Nat) (mio : Nat) (mfo : Nat) (mre : Nat) (mah : Nat) (mrw : Nat) (mrr : Nat) (mrs : Nat) (mrb : Nat) (mso : Nat) (mnu : Nat) (mse : Nat) (mbe : Nat) (men : Nat) (vS : Int32) (vC : Int32) (vT : Int32) (vF : Int32) (vL : Int32) (vK : Int32) (vR : Int32) (v0 : Int32) (vZ : Int32) (vB : Int32) (vN : Int32) (fm : Nat → Int32) (q : Int32) (sz : Nat) (hm : nMod fm) : Met l yX12_remove wsX12_remove ({ frames := 2, cells := 0, slots := 0, locals := 43 }) (va_Pc [.ref y, .int q] (n_pp G [(y, .inr (13, [.ref mm, .ref msv, .int vS, .ref mpa, .int vC, .int vT, .int vF, .ref mio, .ref mfo, .int vL, .ref mre, .int vK, .ref mah, .int vR, .ref mrw, .ref mrr, .ref mrs, .ref mrb, .int v0, .int vZ, .int vB, .int vN, .ref mso, .ref mnu, .ref mse, .ref mbe, .ref men])), (mm, eI G 1191 fm)] sz)) (va_Qi (fun (r : Int32) (_ : Unit) => r = 0) (fun (_ : Unit) (t : State) => n_po G (va_A [(y, .inr (13, [.ref mm, .ref msv, .int vS, .ref mpa, .int vC, .int vT, .int vF, .ref mio, .ref mfo, .int vL, .ref mre, .int vK, .ref mah, .int vR, .ref mrw, .ref mrr, .ref mrs, .ref mrb, .int v0, .int vZ, .int vB, .int vN, .ref mso, .ref mnu, .ref mse, .ref mbe, .ref men])), (mm, eI G 1191 fm)] sz) [(y, .inr (13, [.ref mm, .ref msv, .int vS, .ref mpa, .int vC, .int 1, .int vF, .ref mio, .ref mfo, .int vL, .ref mre, .int vK, .ref mah, .int vR, .ref mrw, .ref mrr, .ref mrs, .ref mrb, .int v0, .int vZ, .int vB, .int vN, .ref mso, .ref mnu, .ref mse, .ref mbe, .ref men]))] t) (va_A [(y, .inr (13, [.ref mm, .ref msv, .int vS, .ref mpa, .int vC, .int vT, .int vF, .ref mio, .ref mfo, .int vL, .ref mre, .int vK, .ref mah, .int vR, .ref mrw, .ref mrr, .ref mrs, .ref mrb, .int v0, .int vZ, .int vB, .int vN, .ref mso, .ref mnu, .ref mse, .ref mbe, .ref men])), (mm, eI G 1191 fm)] sz)) 0 0 (va_A [(y, .inr (13, [.ref mm, .ref msv, .int vS, .ref mpa, .int vC, .int vT, .int vF, .ref mio, .ref mfo, .int vL, .ref mre, .int vK, .ref mah, .int vR, .ref mrw, .ref mrr, .ref mrs, .ref mrb, .int v0, .int vZ, .int vB, .int vN, .ref mso, .ref mnu, .ref mse, .ref mbe, .ref men])), (mm, eI G 1191 fm)] sz) := by
  refine Met.ofW (cc := cX12_remove) (maxL := 3) (ret := (some .int)) (by decide) rfl ?_
  intro p e s m args below meth c s₁ B hml hv
  obtain ⟨rfl, hsz, hP, hK, hD0⟩ := hv
  have hx := B.exec
  have hb := B.bytes
  have hr := B.returns
  have hts := atoms_spec (ws := wsX12_remove) B.pre
  have hown : s.vm.findClass RX12 = some m.cls := findClass_of_methodNamed B.named
  have hlocks := B.notSynchronized
  subst hsz
  have hD := hD0.self (sz := s.heap.size)
  generalize hAe : va_A [(y, .inr (13, [.ref mm, .ref msv, .int vS, .ref mpa, .int vC, .int vT, .int vF, .ref mio, .ref mfo, .int vL, .ref mre, .int vK, .ref mah, .int vR, .ref mrw, .ref mrr, .ref mrs, .ref mrb, .int v0, .int vZ, .int vB, .int vN, .ref mso, .ref mnu, .ref mse, .ref mbe, .ref men])), (mm, eI G 1191 fm)] s.heap.size = A at hD ⊢
  have hA : ∀ q : Nat, s.heap.size ≤ q → A q := fun q h => by rw [← hAe]; exact Or.inr h
  have hS : va_S A s.heap s.heap [] := va_S.rf
  have hP : va_P G.1 vwCl [(y, .inr (13, [.ref mm, .ref msv, .int vS, .ref mpa, .int vC, .int vT, .int vF, .ref mio, .ref mfo, .int vL, .ref mre, .int vK, .ref mah, .int vR, .ref mrw, .ref mrr, .ref mrs, .ref mrb, .int v0, .int vZ, .int vB, .int vN, .ref mso, .ref mnu, .ref mse, .ref mbe, .ref men])), (mm, eI G 1191 fm)] s.heap := hP
  have hl := lv_entry ([.ref y, .int q]) (n := 3) (Nat.le_of_ble_eq_true rfl)
  rw [lg_entry_eq]
  generalize (lg_sl ([.ref y, .int q]) ++ List.replicate (3 - (lg_sl ([.ref y, .int q])).length) Slot.unset).toArray = ls at hl ⊢
  have hl : lv_has ls 3 [(0, .ref y), (1, .int q)] := hl
  obtain ⟨H, hH⟩ : ∃ z, z = s.heap := ⟨_, rfl⟩
  have hS : va_S A s.heap H [] := by rw [hH]; exact hS
  have hP : va_P G.1 vwCl [(y, .inr (13, [.ref mm, .ref msv, .int vS, .ref mpa, .int vC, .int vT, .int vF, .ref mio, .ref mfo, .int vL, .ref mre, .int vK, .ref mah, .int vR, .ref mrw, .ref mrr, .ref mrs, .ref mrb, .int v0, .int vZ, .int vB, .int vN, .ref mso, .ref mnu, .ref mse, .ref mbe, .ref men])), (mm, eI G 1191 fm)] H := by rw [hH]; exact hP
  refine n_heap hH ?_
  generalize ([] : List Loc) = locs at hS ⊢
  have hiX12 : ∀ w ∈ u_ws RX12 TX12 27, w ∈ wsX12_remove := by decide +kernel
  refine lv_aload_n hx hb dX12_remove_0 rfl (lv_at hl 0 rfl) ?_
  refine lv_aload_n hx hb dX12_remove_1 rfl (lv_at hl 0 rfl) ?_
  refine lv_iload_n hx hb dX12_remove_2 rfl (lv_at hl 1 rfl) ?_
  refine n_ci (wr := []) (va_runV (As := [.int q]) (rest := [.ref y]) ⟨hx, hb, hml, hown, hts⟩ (mX12_isHead l G y mm msv mpa mio mfo mre mah mrw mrr mrs mrb mso mnu mse mbe men vS vC vT vF vL vK vR v0 vZ vB vN fm q H.size hm) (cwV 1 hts gX12_remove_X12_isHead rfl rfl rfl (by decide +kernel) ⟨(Nat.le_of_ble_eq_true rfl), (Nat.le_of_ble_eq_true rfl)⟩) (n_prV (ci := 13) (q0 := 0) hK hP hD [0, 1] rfl (by decide) rfl rfl) rfl rfl hl.1 rfl (lv_room (Nat.le_of_ble_eq_true rfl)) dX12_remove_3 ⟨(Nat.le_of_ble_eq_true rfl), (Nat.le_of_ble_eq_true rfl)⟩) hP hD hS hA [0, 1] [] rfl rfl (by decide) (by decide) (fun r_1 u_2 H locs hP hD hS hw => ?_)
  have hP : va_P G.1 vwCl [(y, .inr (13, [.ref mm, .ref msv, .int vS, .ref mpa, .int vC, .int vT, .int vF, .ref mio, .ref mfo, .int vL, .ref mre, .int vK, .ref mah, .int vR, .ref mrw, .ref mrr, .ref mrs, .ref mrb, .int v0, .int vZ, .int vB, .int vN, .ref mso, .ref mnu, .ref mse, .ref mbe, .ref men])), (mm, eI G 1191 fm)] H := hP
  have hD : va_D A [(y, .inr (13, [.ref mm, .ref msv, .int vS, .ref mpa, .int vC, .int vT, .int vF, .ref mio, .ref mfo, .int vL, .ref mre, .int vK, .ref mah, .int vR, .ref mrw, .ref mrr, .ref mrs, .ref mrb, .int v0, .int vZ, .int vB, .int vN, .ref mso, .ref mnu, .ref mse, .ref mbe, .ref men])), (mm, eI G 1191 fm)] := hD
  have hw : r_1 = 0 := hw
  subst hw
  refine lv_if_eq (tgt := 13) hx hb dX12_remove_6 (by decide) (fun _ => ?_) (fun h9 => absurd (by decide) h9)
  refine lv_iconst (v := 1) hx hb dX12_remove_13 (by decide) ?_
  refine va_put (D := G.1) (ci := 13) (v := .int 1) (ty := .int) (C := RX12) (T := TX12) (N := 27) hx hb hts hiX12 tyX12 tyX12_ok nmX12 hown hK hP hD hS 0 rfl rfl 5 (by decide) (hts (.fieldLink RX12 62 "DialectDictionaryModel" "thrown" "I") (by decide +kernel)) (fun _ h9 => h9) rfl (by decide +kernel) rfl rfl (Nat.le_of_ble_eq_true rfl) dX12_remove_14 (fun H locs hP hD hS => ?_)
  have hP : va_P G.1 vwCl [(y, .inr (13, [.ref mm, .ref msv, .int vS, .ref mpa, .int vC, .int 1, .int vF, .ref mio, .ref mfo, .int vL, .ref mre, .int vK, .ref mah, .int vR, .ref mrw, .ref mrr, .ref mrs, .ref mrb, .int v0, .int vZ, .int vB, .int vN, .ref mso, .ref mnu, .ref mse, .ref mbe, .ref men])), (mm, eI G 1191 fm)] H := hP
  have hD : va_D A [(y, .inr (13, [.ref mm, .ref msv, .int vS, .ref mpa, .int vC, .int 1, .int vF, .ref mio, .ref mfo, .int vL, .ref mre, .int vK, .ref mah, .int vR, .ref mrw, .ref mrr, .ref mrs, .ref mrb, .int v0, .int vZ, .int vB, .int vN, .ref mso, .ref mnu, .ref mse, .ref mbe, .ref men])), (mm, eI G 1191 fm)] := hD
  refine lv_aload_n hx hb dX12_remove_17 rfl (lv_at hl 0 rfl) ?_
  refine va_get (D := G.1) (ci := 13) (v := .int 1) (C := RX12) (T := TX12) (N := 27) hx hb hts hiX12 hown hK hP 0 rfl rfl 5 (by decide) (hts (.fieldLink RX12 62 "DialectDictionaryModel" "thrown" "I") (by decide +kernel)) (fun _ h9 => h9) rfl dX12_remove_18 ?_
  refine lv_if_le (tgt := 26) hx hb dX12_remove_21 (by decide) (fun h9 => absurd h9 (by decide)) (fun _ => ?_)
  refine lv_iconst (v := 0) hx hb dX12_remove_24 (by decide) ?_
  have hP9 := n_Psub (wc := [(y, .inr (13, [.ref mm, .ref msv, .int vS, .ref mpa, .int vC, .int 1, .int vF, .ref mio, .ref mfo, .int vL, .ref mre, .int vK, .ref mah, .int vR, .ref mrw, .ref mrr, .ref mrs, .ref mrb, .int v0, .int vZ, .int vB, .int vN, .ref mso, .ref mnu, .ref mse, .ref mbe, .ref men]))]) hP [0] rfl
  have hD9 := hD.sub (ws' := [(y, .inr (13, [.ref mm, .ref msv, .int vS, .ref mpa, .int vC, .int 1, .int vF, .ref mio, .ref mfo, .int vL, .ref mre, .int vK, .ref mah, .int vR, .ref mrw, .ref mrr, .ref mrs, .ref mrb, .int v0, .int vZ, .int vB, .int vN, .ref mso, .ref mnu, .ref mse, .ref mbe, .ref men]))]) [0] (by decide) rfl
  refine W.widen (k := 0) (n := 0) (Nat.le_of_ble_eq_true rfl) (Nat.le_of_ble_eq_true rfl) ?_
  exact W.iret (v := 0) hx hb hr (fun t ht hW => ⟨⟨0, (), rfl, rfl, by rw [ht]; exact hP9, va_K.moved hW.alike hK, hD9⟩, hS.F ht⟩) hS.2.2 dX12_remove_25

set_option maxHeartbeats 4000000 in
set_option maxRecDepth 100000 in
theorem mX12_join (l : Launch) (G : nG) (y : Nat) (mm : Nat) (msv : Nat) (mpa : Nat) (mio : Nat) (mfo : Nat) (mre : Nat) (mah : Nat) (mrw : Nat) (mrr : Nat) (mrs : Nat) (mrb : Nat) (mso : Nat) (mnu : Nat) (mse : Nat) (mbe : Nat) (men : Nat) (vS : Int32) (vC : Int32) (vT : Int32) (vF : Int32) (vL : Int32) (vK : Int32) (vR : Int32) (v0 : Int32) (vZ : Int32) (vB : Int32) (vN : Int32) (fm : Nat → Int32) (q : Int32) (q2 : Int32) (sz : Nat) (hm : nMod fm) : Met l yX12_join wsX12_join ({ frames := 2, cells := 0, slots := 0, locals := 43 }) (va_Pc [.ref y, .int q, .int q2] (n_pp G [(y, .inr (13, [.ref mm, .ref msv, .int vS, .ref mpa, .int vC, .int vT, .int vF, .ref mio, .ref mfo, .int vL, .ref mre, .int vK, .ref mah, .int vR, .ref mrw, .ref mrr, .ref mrs, .ref mrb, .int v0, .int vZ, .int vB, .int vN, .ref mso, .ref mnu, .ref mse, .ref mbe, .ref men])), (mm, eI G 1191 fm)] sz)) (va_Qi (fun (r : Int32) (_ : Unit) => r = 0) (fun (_ : Unit) (t : State) => n_po G (va_A [(y, .inr (13, [.ref mm, .ref msv, .int vS, .ref mpa, .int vC, .int vT, .int vF, .ref mio, .ref mfo, .int vL, .ref mre, .int vK, .ref mah, .int vR, .ref mrw, .ref mrr, .ref mrs, .ref mrb, .int v0, .int vZ, .int vB, .int vN, .ref mso, .ref mnu, .ref mse, .ref mbe, .ref men])), (mm, eI G 1191 fm)] sz) [(y, .inr (13, [.ref mm, .ref msv, .int vS, .ref mpa, .int vC, .int 1, .int vF, .ref mio, .ref mfo, .int vL, .ref mre, .int vK, .ref mah, .int vR, .ref mrw, .ref mrr, .ref mrs, .ref mrb, .int v0, .int vZ, .int vB, .int vN, .ref mso, .ref mnu, .ref mse, .ref mbe, .ref men]))] t) (va_A [(y, .inr (13, [.ref mm, .ref msv, .int vS, .ref mpa, .int vC, .int vT, .int vF, .ref mio, .ref mfo, .int vL, .ref mre, .int vK, .ref mah, .int vR, .ref mrw, .ref mrr, .ref mrs, .ref mrb, .int v0, .int vZ, .int vB, .int vN, .ref mso, .ref mnu, .ref mse, .ref mbe, .ref men])), (mm, eI G 1191 fm)] sz)) 0 0 (va_A [(y, .inr (13, [.ref mm, .ref msv, .int vS, .ref mpa, .int vC, .int vT, .int vF, .ref mio, .ref mfo, .int vL, .ref mre, .int vK, .ref mah, .int vR, .ref mrw, .ref mrr, .ref mrs, .ref mrb, .int v0, .int vZ, .int vB, .int vN, .ref mso, .ref mnu, .ref mse, .ref mbe, .ref men])), (mm, eI G 1191 fm)] sz) := by
  refine Met.ofW (cc := cX12_join) (maxL := 3) (ret := (some .int)) (by decide) rfl ?_
  intro p e s m args below meth c s₁ B hml hv
  obtain ⟨rfl, hsz, hP, hK, hD0⟩ := hv
  have hx := B.exec
  have hb := B.bytes
  have hr := B.returns
  have hts := atoms_spec (ws := wsX12_join) B.pre
  have hown : s.vm.findClass RX12 = some m.cls := findClass_of_methodNamed B.named
  have hlocks := B.notSynchronized
  subst hsz
  have hD := hD0.self (sz := s.heap.size)
  generalize hAe : va_A [(y, .inr (13, [.ref mm, .ref msv, .int vS, .ref mpa, .int vC, .int vT, .int vF, .ref mio, .ref mfo, .int vL, .ref mre, .int vK, .ref mah, .int vR, .ref mrw, .ref mrr, .ref mrs, .ref mrb, .int v0, .int vZ, .int vB, .int vN, .ref mso, .ref mnu, .ref mse, .ref mbe, .ref men])), (mm, eI G 1191 fm)] s.heap.size = A at hD ⊢
  have hA : ∀ q : Nat, s.heap.size ≤ q → A q := fun q h => by rw [← hAe]; exact Or.inr h
  have hS : va_S A s.heap s.heap [] := va_S.rf
  have hP : va_P G.1 vwCl [(y, .inr (13, [.ref mm, .ref msv, .int vS, .ref mpa, .int vC, .int vT, .int vF, .ref mio, .ref mfo, .int vL, .ref mre, .int vK, .ref mah, .int vR, .ref mrw, .ref mrr, .ref mrs, .ref mrb, .int v0, .int vZ, .int vB, .int vN, .ref mso, .ref mnu, .ref mse, .ref mbe, .ref men])), (mm, eI G 1191 fm)] s.heap := hP
  have hl := lv_entry ([.ref y, .int q, .int q2]) (n := 3) (Nat.le_of_ble_eq_true rfl)
  rw [lg_entry_eq]
  generalize (lg_sl ([.ref y, .int q, .int q2]) ++ List.replicate (3 - (lg_sl ([.ref y, .int q, .int q2])).length) Slot.unset).toArray = ls at hl ⊢
  have hl : lv_has ls 3 [(0, .ref y), (1, .int q), (2, .int q2)] := hl
  obtain ⟨H, hH⟩ : ∃ z, z = s.heap := ⟨_, rfl⟩
  have hS : va_S A s.heap H [] := by rw [hH]; exact hS
  have hP : va_P G.1 vwCl [(y, .inr (13, [.ref mm, .ref msv, .int vS, .ref mpa, .int vC, .int vT, .int vF, .ref mio, .ref mfo, .int vL, .ref mre, .int vK, .ref mah, .int vR, .ref mrw, .ref mrr, .ref mrs, .ref mrb, .int v0, .int vZ, .int vB, .int vN, .ref mso, .ref mnu, .ref mse, .ref mbe, .ref men])), (mm, eI G 1191 fm)] H := by rw [hH]; exact hP
  refine n_heap hH ?_
  generalize ([] : List Loc) = locs at hS ⊢
  have hiX12 : ∀ w ∈ u_ws RX12 TX12 27, w ∈ wsX12_join := by decide +kernel
  refine lv_aload_n hx hb dX12_join_0 rfl (lv_at hl 0 rfl) ?_
  refine lv_aload_n hx hb dX12_join_1 rfl (lv_at hl 0 rfl) ?_
  refine lv_iload_n hx hb dX12_join_2 rfl (lv_at hl 1 rfl) ?_
  refine n_ci (wr := []) (va_runV (As := [.int q]) (rest := [.ref y]) ⟨hx, hb, hml, hown, hts⟩ (mX12_isHead l G y mm msv mpa mio mfo mre mah mrw mrr mrs mrb mso mnu mse mbe men vS vC vT vF vL vK vR v0 vZ vB vN fm q H.size hm) (cwV 1 hts gX12_join_X12_isHead rfl rfl rfl (by decide +kernel) ⟨(Nat.le_of_ble_eq_true rfl), (Nat.le_of_ble_eq_true rfl)⟩) (n_prV (ci := 13) (q0 := 0) hK hP hD [0, 1] rfl (by decide) rfl rfl) rfl rfl hl.1 rfl (lv_room (Nat.le_of_ble_eq_true rfl)) dX12_join_3 ⟨(Nat.le_of_ble_eq_true rfl), (Nat.le_of_ble_eq_true rfl)⟩) hP hD hS hA [0, 1] [] rfl rfl (by decide) (by decide) (fun r_1 u_2 H locs hP hD hS hw => ?_)
  have hP : va_P G.1 vwCl [(y, .inr (13, [.ref mm, .ref msv, .int vS, .ref mpa, .int vC, .int vT, .int vF, .ref mio, .ref mfo, .int vL, .ref mre, .int vK, .ref mah, .int vR, .ref mrw, .ref mrr, .ref mrs, .ref mrb, .int v0, .int vZ, .int vB, .int vN, .ref mso, .ref mnu, .ref mse, .ref mbe, .ref men])), (mm, eI G 1191 fm)] H := hP
  have hD : va_D A [(y, .inr (13, [.ref mm, .ref msv, .int vS, .ref mpa, .int vC, .int vT, .int vF, .ref mio, .ref mfo, .int vL, .ref mre, .int vK, .ref mah, .int vR, .ref mrw, .ref mrr, .ref mrs, .ref mrb, .int v0, .int vZ, .int vB, .int vN, .ref mso, .ref mnu, .ref mse, .ref mbe, .ref men])), (mm, eI G 1191 fm)] := hD
  have hw : r_1 = 0 := hw
  subst hw
  refine lv_if_eq (tgt := 21) hx hb dX12_join_6 (by decide) (fun _ => ?_) (fun h9 => absurd (by decide) h9)
  refine lv_iconst (v := 1) hx hb dX12_join_21 (by decide) ?_
  refine va_put (D := G.1) (ci := 13) (v := .int 1) (ty := .int) (C := RX12) (T := TX12) (N := 27) hx hb hts hiX12 tyX12 tyX12_ok nmX12 hown hK hP hD hS 0 rfl rfl 5 (by decide) (hts (.fieldLink RX12 62 "DialectDictionaryModel" "thrown" "I") (by decide +kernel)) (fun _ h9 => h9) rfl (by decide +kernel) rfl rfl (Nat.le_of_ble_eq_true rfl) dX12_join_22 (fun H locs hP hD hS => ?_)
  have hP : va_P G.1 vwCl [(y, .inr (13, [.ref mm, .ref msv, .int vS, .ref mpa, .int vC, .int 1, .int vF, .ref mio, .ref mfo, .int vL, .ref mre, .int vK, .ref mah, .int vR, .ref mrw, .ref mrr, .ref mrs, .ref mrb, .int v0, .int vZ, .int vB, .int vN, .ref mso, .ref mnu, .ref mse, .ref mbe, .ref men])), (mm, eI G 1191 fm)] H := hP
  have hD : va_D A [(y, .inr (13, [.ref mm, .ref msv, .int vS, .ref mpa, .int vC, .int 1, .int vF, .ref mio, .ref mfo, .int vL, .ref mre, .int vK, .ref mah, .int vR, .ref mrw, .ref mrr, .ref mrs, .ref mrb, .int v0, .int vZ, .int vB, .int vN, .ref mso, .ref mnu, .ref mse, .ref mbe, .ref men])), (mm, eI G 1191 fm)] := hD
  refine lv_aload_n hx hb dX12_join_25 rfl (lv_at hl 0 rfl) ?_
  refine va_get (D := G.1) (ci := 13) (v := .int 1) (C := RX12) (T := TX12) (N := 27) hx hb hts hiX12 hown hK hP 0 rfl rfl 5 (by decide) (hts (.fieldLink RX12 62 "DialectDictionaryModel" "thrown" "I") (by decide +kernel)) (fun _ h9 => h9) rfl dX12_join_26 ?_
  refine lv_if_le (tgt := 34) hx hb dX12_join_29 (by decide) (fun h9 => absurd h9 (by decide)) (fun _ => ?_)
  refine lv_iconst (v := 0) hx hb dX12_join_32 (by decide) ?_
  have hP9 := n_Psub (wc := [(y, .inr (13, [.ref mm, .ref msv, .int vS, .ref mpa, .int vC, .int 1, .int vF, .ref mio, .ref mfo, .int vL, .ref mre, .int vK, .ref mah, .int vR, .ref mrw, .ref mrr, .ref mrs, .ref mrb, .int v0, .int vZ, .int vB, .int vN, .ref mso, .ref mnu, .ref mse, .ref mbe, .ref men]))]) hP [0] rfl
  have hD9 := hD.sub (ws' := [(y, .inr (13, [.ref mm, .ref msv, .int vS, .ref mpa, .int vC, .int 1, .int vF, .ref mio, .ref mfo, .int vL, .ref mre, .int vK, .ref mah, .int vR, .ref mrw, .ref mrr, .ref mrs, .ref mrb, .int v0, .int vZ, .int vB, .int vN, .ref mso, .ref mnu, .ref mse, .ref mbe, .ref men]))]) [0] (by decide) rfl
  refine W.widen (k := 0) (n := 0) (Nat.le_of_ble_eq_true rfl) (Nat.le_of_ble_eq_true rfl) ?_
  exact W.iret (v := 0) hx hb hr (fun t ht hW => ⟨⟨0, (), rfl, rfl, by rw [ht]; exact hP9, va_K.moved hW.alike hK, hD9⟩, hS.F ht⟩) hS.2.2 dX12_join_33

set_option maxHeartbeats 4000000 in
set_option maxRecDepth 100000 in
theorem mX12_headword (l : Launch) (G : nG) (y : Nat) (mm : Nat) (msv : Nat) (mpa : Nat) (mio : Nat) (mfo : Nat) (mre : Nat) (mah : Nat) (mrw : Nat) (mrr : Nat) (mrs : Nat) (mrb : Nat) (mso : Nat) (mnu : Nat) (mse : Nat) (mbe : Nat) (men : Nat) (vS : Int32) (vC : Int32) (vT : Int32) (vF : Int32) (vL : Int32) (vK : Int32) (vR : Int32) (v0 : Int32) (vZ : Int32) (vB : Int32) (vN : Int32) (fm : Nat → Int32) (q : Int32) (q2 : Int32) (sz : Nat) (hm : nMod fm) : Met l yX12_headword wsX12_headword ({ frames := 2, cells := 0, slots := 0, locals := 43 }) (va_Pc [.ref y, .int q, .int q2] (n_pp G [(y, .inr (13, [.ref mm, .ref msv, .int vS, .ref mpa, .int vC, .int vT, .int vF, .ref mio, .ref mfo, .int vL, .ref mre, .int vK, .ref mah, .int vR, .ref mrw, .ref mrr, .ref mrs, .ref mrb, .int v0, .int vZ, .int vB, .int vN, .ref mso, .ref mnu, .ref mse, .ref mbe, .ref men])), (mm, eI G 1191 fm)] sz)) (va_Qi (fun (r : Int32) (_ : Unit) => r = 0) (fun (_ : Unit) (t : State) => n_po G (va_A [(y, .inr (13, [.ref mm, .ref msv, .int vS, .ref mpa, .int vC, .int vT, .int vF, .ref mio, .ref mfo, .int vL, .ref mre, .int vK, .ref mah, .int vR, .ref mrw, .ref mrr, .ref mrs, .ref mrb, .int v0, .int vZ, .int vB, .int vN, .ref mso, .ref mnu, .ref mse, .ref mbe, .ref men])), (mm, eI G 1191 fm)] sz) [(y, .inr (13, [.ref mm, .ref msv, .int vS, .ref mpa, .int vC, .int 1, .int vF, .ref mio, .ref mfo, .int vL, .ref mre, .int vK, .ref mah, .int vR, .ref mrw, .ref mrr, .ref mrs, .ref mrb, .int v0, .int vZ, .int vB, .int vN, .ref mso, .ref mnu, .ref mse, .ref mbe, .ref men]))] t) (va_A [(y, .inr (13, [.ref mm, .ref msv, .int vS, .ref mpa, .int vC, .int vT, .int vF, .ref mio, .ref mfo, .int vL, .ref mre, .int vK, .ref mah, .int vR, .ref mrw, .ref mrr, .ref mrs, .ref mrb, .int v0, .int vZ, .int vB, .int vN, .ref mso, .ref mnu, .ref mse, .ref mbe, .ref men])), (mm, eI G 1191 fm)] sz)) 0 0 (va_A [(y, .inr (13, [.ref mm, .ref msv, .int vS, .ref mpa, .int vC, .int vT, .int vF, .ref mio, .ref mfo, .int vL, .ref mre, .int vK, .ref mah, .int vR, .ref mrw, .ref mrr, .ref mrs, .ref mrb, .int v0, .int vZ, .int vB, .int vN, .ref mso, .ref mnu, .ref mse, .ref mbe, .ref men])), (mm, eI G 1191 fm)] sz) := by
  refine Met.ofW (cc := cX12_headword) (maxL := 3) (ret := (some .int)) (by decide) rfl ?_
  intro p e s m args below meth c s₁ B hml hv
  obtain ⟨rfl, hsz, hP, hK, hD0⟩ := hv
  have hx := B.exec
  have hb := B.bytes
  have hr := B.returns
  have hts := atoms_spec (ws := wsX12_headword) B.pre
  have hown : s.vm.findClass RX12 = some m.cls := findClass_of_methodNamed B.named
  have hlocks := B.notSynchronized
  subst hsz
  have hD := hD0.self (sz := s.heap.size)
  generalize hAe : va_A [(y, .inr (13, [.ref mm, .ref msv, .int vS, .ref mpa, .int vC, .int vT, .int vF, .ref mio, .ref mfo, .int vL, .ref mre, .int vK, .ref mah, .int vR, .ref mrw, .ref mrr, .ref mrs, .ref mrb, .int v0, .int vZ, .int vB, .int vN, .ref mso, .ref mnu, .ref mse, .ref mbe, .ref men])), (mm, eI G 1191 fm)] s.heap.size = A at hD ⊢
  have hA : ∀ q : Nat, s.heap.size ≤ q → A q := fun q h => by rw [← hAe]; exact Or.inr h
  have hS : va_S A s.heap s.heap [] := va_S.rf
  have hP : va_P G.1 vwCl [(y, .inr (13, [.ref mm, .ref msv, .int vS, .ref mpa, .int vC, .int vT, .int vF, .ref mio, .ref mfo, .int vL, .ref mre, .int vK, .ref mah, .int vR, .ref mrw, .ref mrr, .ref mrs, .ref mrb, .int v0, .int vZ, .int vB, .int vN, .ref mso, .ref mnu, .ref mse, .ref mbe, .ref men])), (mm, eI G 1191 fm)] s.heap := hP
  have hl := lv_entry ([.ref y, .int q, .int q2]) (n := 3) (Nat.le_of_ble_eq_true rfl)
  rw [lg_entry_eq]
  generalize (lg_sl ([.ref y, .int q, .int q2]) ++ List.replicate (3 - (lg_sl ([.ref y, .int q, .int q2])).length) Slot.unset).toArray = ls at hl ⊢
  have hl : lv_has ls 3 [(0, .ref y), (1, .int q), (2, .int q2)] := hl
  obtain ⟨H, hH⟩ : ∃ z, z = s.heap := ⟨_, rfl⟩
  have hS : va_S A s.heap H [] := by rw [hH]; exact hS
  have hP : va_P G.1 vwCl [(y, .inr (13, [.ref mm, .ref msv, .int vS, .ref mpa, .int vC, .int vT, .int vF, .ref mio, .ref mfo, .int vL, .ref mre, .int vK, .ref mah, .int vR, .ref mrw, .ref mrr, .ref mrs, .ref mrb, .int v0, .int vZ, .int vB, .int vN, .ref mso, .ref mnu, .ref mse, .ref mbe, .ref men])), (mm, eI G 1191 fm)] H := by rw [hH]; exact hP
  refine n_heap hH ?_
  generalize ([] : List Loc) = locs at hS ⊢
  have hiX12 : ∀ w ∈ u_ws RX12 TX12 27, w ∈ wsX12_headword := by decide +kernel
  refine lv_aload_n hx hb dX12_headword_0 rfl (lv_at hl 0 rfl) ?_
  refine lv_aload_n hx hb dX12_headword_1 rfl (lv_at hl 0 rfl) ?_
  refine lv_iload_n hx hb dX12_headword_2 rfl (lv_at hl 1 rfl) ?_
  refine n_ci (wr := []) (va_runV (As := [.int q]) (rest := [.ref y]) ⟨hx, hb, hml, hown, hts⟩ (mX12_isHead l G y mm msv mpa mio mfo mre mah mrw mrr mrs mrb mso mnu mse mbe men vS vC vT vF vL vK vR v0 vZ vB vN fm q H.size hm) (cwV 1 hts gX12_headword_X12_isHead rfl rfl rfl (by decide +kernel) ⟨(Nat.le_of_ble_eq_true rfl), (Nat.le_of_ble_eq_true rfl)⟩) (n_prV (ci := 13) (q0 := 0) hK hP hD [0, 1] rfl (by decide) rfl rfl) rfl rfl hl.1 rfl (lv_room (Nat.le_of_ble_eq_true rfl)) dX12_headword_3 ⟨(Nat.le_of_ble_eq_true rfl), (Nat.le_of_ble_eq_true rfl)⟩) hP hD hS hA [0, 1] [] rfl rfl (by decide) (by decide) (fun r_1 u_2 H locs hP hD hS hw => ?_)
  have hP : va_P G.1 vwCl [(y, .inr (13, [.ref mm, .ref msv, .int vS, .ref mpa, .int vC, .int vT, .int vF, .ref mio, .ref mfo, .int vL, .ref mre, .int vK, .ref mah, .int vR, .ref mrw, .ref mrr, .ref mrs, .ref mrb, .int v0, .int vZ, .int vB, .int vN, .ref mso, .ref mnu, .ref mse, .ref mbe, .ref men])), (mm, eI G 1191 fm)] H := hP
  have hD : va_D A [(y, .inr (13, [.ref mm, .ref msv, .int vS, .ref mpa, .int vC, .int vT, .int vF, .ref mio, .ref mfo, .int vL, .ref mre, .int vK, .ref mah, .int vR, .ref mrw, .ref mrr, .ref mrs, .ref mrb, .int v0, .int vZ, .int vB, .int vN, .ref mso, .ref mnu, .ref mse, .ref mbe, .ref men])), (mm, eI G 1191 fm)] := hD
  have hw : r_1 = 0 := hw
  subst hw
  refine lv_if_ne (tgt := 13) hx hb dX12_headword_6 (by decide) (fun h9 => absurd (by decide) h9) (fun _ => ?_)
  refine lv_iconst (v := 1) hx hb dX12_headword_9 (by decide) ?_
  refine lv_goto (tgt := 28) hx hb dX12_headword_10 (by decide) ?_
  refine va_put (D := G.1) (ci := 13) (v := .int 1) (ty := .int) (C := RX12) (T := TX12) (N := 27) hx hb hts hiX12 tyX12 tyX12_ok nmX12 hown hK hP hD hS 0 rfl rfl 5 (by decide) (hts (.fieldLink RX12 62 "DialectDictionaryModel" "thrown" "I") (by decide +kernel)) (fun _ h9 => h9) rfl (by decide +kernel) rfl rfl (Nat.le_of_ble_eq_true rfl) dX12_headword_28 (fun H locs hP hD hS => ?_)
  have hP : va_P G.1 vwCl [(y, .inr (13, [.ref mm, .ref msv, .int vS, .ref mpa, .int vC, .int 1, .int vF, .ref mio, .ref mfo, .int vL, .ref mre, .int vK, .ref mah, .int vR, .ref mrw, .ref mrr, .ref mrs, .ref mrb, .int v0, .int vZ, .int vB, .int vN, .ref mso, .ref mnu, .ref mse, .ref mbe, .ref men])), (mm, eI G 1191 fm)] H := hP
  have hD : va_D A [(y, .inr (13, [.ref mm, .ref msv, .int vS, .ref mpa, .int vC, .int 1, .int vF, .ref mio, .ref mfo, .int vL, .ref mre, .int vK, .ref mah, .int vR, .ref mrw, .ref mrr, .ref mrs, .ref mrb, .int v0, .int vZ, .int vB, .int vN, .ref mso, .ref mnu, .ref mse, .ref mbe, .ref men])), (mm, eI G 1191 fm)] := hD
  refine lv_aload_n hx hb dX12_headword_31 rfl (lv_at hl 0 rfl) ?_
  refine va_get (D := G.1) (ci := 13) (v := .int 1) (C := RX12) (T := TX12) (N := 27) hx hb hts hiX12 hown hK hP 0 rfl rfl 5 (by decide) (hts (.fieldLink RX12 62 "DialectDictionaryModel" "thrown" "I") (by decide +kernel)) (fun _ h9 => h9) rfl dX12_headword_32 ?_
  refine lv_if_le (tgt := 40) hx hb dX12_headword_35 (by decide) (fun h9 => absurd h9 (by decide)) (fun _ => ?_)
  refine lv_iconst (v := 0) hx hb dX12_headword_38 (by decide) ?_
  have hP9 := n_Psub (wc := [(y, .inr (13, [.ref mm, .ref msv, .int vS, .ref mpa, .int vC, .int 1, .int vF, .ref mio, .ref mfo, .int vL, .ref mre, .int vK, .ref mah, .int vR, .ref mrw, .ref mrr, .ref mrs, .ref mrb, .int v0, .int vZ, .int vB, .int vN, .ref mso, .ref mnu, .ref mse, .ref mbe, .ref men]))]) hP [0] rfl
  have hD9 := hD.sub (ws' := [(y, .inr (13, [.ref mm, .ref msv, .int vS, .ref mpa, .int vC, .int 1, .int vF, .ref mio, .ref mfo, .int vL, .ref mre, .int vK, .ref mah, .int vR, .ref mrw, .ref mrr, .ref mrs, .ref mrb, .int v0, .int vZ, .int vB, .int vN, .ref mso, .ref mnu, .ref mse, .ref mbe, .ref men]))]) [0] (by decide) rfl
  refine W.widen (k := 0) (n := 0) (Nat.le_of_ble_eq_true rfl) (Nat.le_of_ble_eq_true rfl) ?_
  exact W.iret (v := 0) hx hb hr (fun t ht hW => ⟨⟨0, (), rfl, rfl, by rw [ht]; exact hP9, va_K.moved hW.alike hK, hD9⟩, hS.F ht⟩) hS.2.2 dX12_headword_39

set_option maxHeartbeats 4000000 in
set_option maxRecDepth 100000 in
theorem mX12_letterOf (l : Launch) (G : nG) (y : Nat) (mm : Nat) (msv : Nat) (mpa : Nat) (mio : Nat) (mfo : Nat) (mre : Nat) (mah : Nat) (mrw : Nat) (mrr : Nat) (mrs : Nat) (mrb : Nat) (mso : Nat) (mnu : Nat) (mse : Nat) (mbe : Nat) (men : Nat) (vS : Int32) (vC : Int32) (vT : Int32) (vF : Int32) (vL : Int32) (vK : Int32) (vR : Int32) (v0 : Int32) (vZ : Int32) (vB : Int32) (vN : Int32) (fm : Nat → Int32) (q : Int32) (q2 : Int32) (q3 : Int32) (sz : Nat) (hm : nMod fm) : Met l yX12_letterOf wsX12_letterOf ({ frames := 2, cells := 0, slots := 0, locals := 43 }) (va_Pc [.ref y, .int q, .int q2, .int q3] (n_pp G [(y, .inr (13, [.ref mm, .ref msv, .int vS, .ref mpa, .int vC, .int vT, .int vF, .ref mio, .ref mfo, .int vL, .ref mre, .int vK, .ref mah, .int vR, .ref mrw, .ref mrr, .ref mrs, .ref mrb, .int v0, .int vZ, .int vB, .int vN, .ref mso, .ref mnu, .ref mse, .ref mbe, .ref men])), (mm, eI G 1191 fm)] sz)) (va_Qi (fun (r : Int32) (_ : Unit) => r = 0) (fun (_ : Unit) (t : State) => n_po G (va_A [(y, .inr (13, [.ref mm, .ref msv, .int vS, .ref mpa, .int vC, .int vT, .int vF, .ref mio, .ref mfo, .int vL, .ref mre, .int vK, .ref mah, .int vR, .ref mrw, .ref mrr, .ref mrs, .ref mrb, .int v0, .int vZ, .int vB, .int vN, .ref mso, .ref mnu, .ref mse, .ref mbe, .ref men])), (mm, eI G 1191 fm)] sz) [(y, .inr (13, [.ref mm, .ref msv, .int vS, .ref mpa, .int vC, .int 1, .int vF, .ref mio, .ref mfo, .int vL, .ref mre, .int vK, .ref mah, .int vR, .ref mrw, .ref mrr, .ref mrs, .ref mrb, .int v0, .int vZ, .int vB, .int vN, .ref mso, .ref mnu, .ref mse, .ref mbe, .ref men]))] t) (va_A [(y, .inr (13, [.ref mm, .ref msv, .int vS, .ref mpa, .int vC, .int vT, .int vF, .ref mio, .ref mfo, .int vL, .ref mre, .int vK, .ref mah, .int vR, .ref mrw, .ref mrr, .ref mrs, .ref mrb, .int v0, .int vZ, .int vB, .int vN, .ref mso, .ref mnu, .ref mse, .ref mbe, .ref men])), (mm, eI G 1191 fm)] sz)) 0 0 (va_A [(y, .inr (13, [.ref mm, .ref msv, .int vS, .ref mpa, .int vC, .int vT, .int vF, .ref mio, .ref mfo, .int vL, .ref mre, .int vK, .ref mah, .int vR, .ref mrw, .ref mrr, .ref mrs, .ref mrb, .int v0, .int vZ, .int vB, .int vN, .ref mso, .ref mnu, .ref mse, .ref mbe, .ref men])), (mm, eI G 1191 fm)] sz) := by
  refine Met.ofW (cc := cX12_letterOf) (maxL := 4) (ret := (some .int)) (by decide) rfl ?_
  intro p e s m args below meth c s₁ B hml hv
  obtain ⟨rfl, hsz, hP, hK, hD0⟩ := hv
  have hx := B.exec
  have hb := B.bytes
  have hr := B.returns
  have hts := atoms_spec (ws := wsX12_letterOf) B.pre
  have hown : s.vm.findClass RX12 = some m.cls := findClass_of_methodNamed B.named
  have hlocks := B.notSynchronized
  subst hsz
  have hD := hD0.self (sz := s.heap.size)
  generalize hAe : va_A [(y, .inr (13, [.ref mm, .ref msv, .int vS, .ref mpa, .int vC, .int vT, .int vF, .ref mio, .ref mfo, .int vL, .ref mre, .int vK, .ref mah, .int vR, .ref mrw, .ref mrr, .ref mrs, .ref mrb, .int v0, .int vZ, .int vB, .int vN, .ref mso, .ref mnu, .ref mse, .ref mbe, .ref men])), (mm, eI G 1191 fm)] s.heap.size = A at hD ⊢
  have hA : ∀ q : Nat, s.heap.size ≤ q → A q := fun q h => by rw [← hAe]; exact Or.inr h
  have hS : va_S A s.heap s.heap [] := va_S.rf
  have hP : va_P G.1 vwCl [(y, .inr (13, [.ref mm, .ref msv, .int vS, .ref mpa, .int vC, .int vT, .int vF, .ref mio, .ref mfo, .int vL, .ref mre, .int vK, .ref mah, .int vR, .ref mrw, .ref mrr, .ref mrs, .ref mrb, .int v0, .int vZ, .int vB, .int vN, .ref mso, .ref mnu, .ref mse, .ref mbe, .ref men])), (mm, eI G 1191 fm)] s.heap := hP
  have hl := lv_entry ([.ref y, .int q, .int q2, .int q3]) (n := 4) (Nat.le_of_ble_eq_true rfl)
  rw [lg_entry_eq]
  generalize (lg_sl ([.ref y, .int q, .int q2, .int q3]) ++ List.replicate (4 - (lg_sl ([.ref y, .int q, .int q2, .int q3])).length) Slot.unset).toArray = ls at hl ⊢
  have hl : lv_has ls 4 [(0, .ref y), (1, .int q), (2, .int q2), (3, .int q3)] := hl
  obtain ⟨H, hH⟩ : ∃ z, z = s.heap := ⟨_, rfl⟩
  have hS : va_S A s.heap H [] := by rw [hH]; exact hS
  have hP : va_P G.1 vwCl [(y, .inr (13, [.ref mm, .ref msv, .int vS, .ref mpa, .int vC, .int vT, .int vF, .ref mio, .ref mfo, .int vL, .ref mre, .int vK, .ref mah, .int vR, .ref mrw, .ref mrr, .ref mrs, .ref mrb, .int v0, .int vZ, .int vB, .int vN, .ref mso, .ref mnu, .ref mse, .ref mbe, .ref men])), (mm, eI G 1191 fm)] H := by rw [hH]; exact hP
  refine n_heap hH ?_
  generalize ([] : List Loc) = locs at hS ⊢
  have hiX12 : ∀ w ∈ u_ws RX12 TX12 27, w ∈ wsX12_letterOf := by decide +kernel
  refine lv_aload_n hx hb dX12_letterOf_0 rfl (lv_at hl 0 rfl) ?_
  refine lv_aload_n hx hb dX12_letterOf_1 rfl (lv_at hl 0 rfl) ?_
  refine lv_iload_n hx hb dX12_letterOf_2 rfl (lv_at hl 1 rfl) ?_
  refine n_ci (wr := []) (va_runV (As := [.int q]) (rest := [.ref y]) ⟨hx, hb, hml, hown, hts⟩ (mX12_isHead l G y mm msv mpa mio mfo mre mah mrw mrr mrs mrb mso mnu mse mbe men vS vC vT vF vL vK vR v0 vZ vB vN fm q H.size hm) (cwV 1 hts gX12_letterOf_X12_isHead rfl rfl rfl (by decide +kernel) ⟨(Nat.le_of_ble_eq_true rfl), (Nat.le_of_ble_eq_true rfl)⟩) (n_prV (ci := 13) (q0 := 0) hK hP hD [0, 1] rfl (by decide) rfl rfl) rfl rfl hl.1 rfl (lv_room (Nat.le_of_ble_eq_true rfl)) dX12_letterOf_3 ⟨(Nat.le_of_ble_eq_true rfl), (Nat.le_of_ble_eq_true rfl)⟩) hP hD hS hA [0, 1] [] rfl rfl (by decide) (by decide) (fun r_1 u_2 H locs hP hD hS hw => ?_)
  have hP : va_P G.1 vwCl [(y, .inr (13, [.ref mm, .ref msv, .int vS, .ref mpa, .int vC, .int vT, .int vF, .ref mio, .ref mfo, .int vL, .ref mre, .int vK, .ref mah, .int vR, .ref mrw, .ref mrr, .ref mrs, .ref mrb, .int v0, .int vZ, .int vB, .int vN, .ref mso, .ref mnu, .ref mse, .ref mbe, .ref men])), (mm, eI G 1191 fm)] H := hP
  have hD : va_D A [(y, .inr (13, [.ref mm, .ref msv, .int vS, .ref mpa, .int vC, .int vT, .int vF, .ref mio, .ref mfo, .int vL, .ref mre, .int vK, .ref mah, .int vR, .ref mrw, .ref mrr, .ref mrs, .ref mrb, .int v0, .int vZ, .int vB, .int vN, .ref mso, .ref mnu, .ref mse, .ref mbe, .ref men])), (mm, eI G 1191 fm)] := hD
  have hw : r_1 = 0 := hw
  subst hw
  refine lv_if_ne (tgt := 13) hx hb dX12_letterOf_6 (by decide) (fun h9 => absurd (by decide) h9) (fun _ => ?_)
  refine lv_iconst (v := 1) hx hb dX12_letterOf_9 (by decide) ?_
  refine lv_goto (tgt := 49) hx hb dX12_letterOf_10 (by decide) ?_
  refine va_put (D := G.1) (ci := 13) (v := .int 1) (ty := .int) (C := RX12) (T := TX12) (N := 27) hx hb hts hiX12 tyX12 tyX12_ok nmX12 hown hK hP hD hS 0 rfl rfl 5 (by decide) (hts (.fieldLink RX12 62 "DialectDictionaryModel" "thrown" "I") (by decide +kernel)) (fun _ h9 => h9) rfl (by decide +kernel) rfl rfl (Nat.le_of_ble_eq_true rfl) dX12_letterOf_49 (fun H locs hP hD hS => ?_)
  have hP : va_P G.1 vwCl [(y, .inr (13, [.ref mm, .ref msv, .int vS, .ref mpa, .int vC, .int 1, .int vF, .ref mio, .ref mfo, .int vL, .ref mre, .int vK, .ref mah, .int vR, .ref mrw, .ref mrr, .ref mrs, .ref mrb, .int v0, .int vZ, .int vB, .int vN, .ref mso, .ref mnu, .ref mse, .ref mbe, .ref men])), (mm, eI G 1191 fm)] H := hP
  have hD : va_D A [(y, .inr (13, [.ref mm, .ref msv, .int vS, .ref mpa, .int vC, .int 1, .int vF, .ref mio, .ref mfo, .int vL, .ref mre, .int vK, .ref mah, .int vR, .ref mrw, .ref mrr, .ref mrs, .ref mrb, .int v0, .int vZ, .int vB, .int vN, .ref mso, .ref mnu, .ref mse, .ref mbe, .ref men])), (mm, eI G 1191 fm)] := hD
  refine lv_aload_n hx hb dX12_letterOf_52 rfl (lv_at hl 0 rfl) ?_
  refine va_get (D := G.1) (ci := 13) (v := .int 1) (C := RX12) (T := TX12) (N := 27) hx hb hts hiX12 hown hK hP 0 rfl rfl 5 (by decide) (hts (.fieldLink RX12 62 "DialectDictionaryModel" "thrown" "I") (by decide +kernel)) (fun _ h9 => h9) rfl dX12_letterOf_53 ?_
  refine lv_if_le (tgt := 63) hx hb dX12_letterOf_56 (by decide) (fun h9 => absurd h9 (by decide)) (fun _ => ?_)
  refine lv_iconst (v := 0) hx hb dX12_letterOf_59 (by decide) ?_
  refine lv_goto (tgt := 83) hx hb dX12_letterOf_60 (by decide) ?_
  have hP9 := n_Psub (wc := [(y, .inr (13, [.ref mm, .ref msv, .int vS, .ref mpa, .int vC, .int 1, .int vF, .ref mio, .ref mfo, .int vL, .ref mre, .int vK, .ref mah, .int vR, .ref mrw, .ref mrr, .ref mrs, .ref mrb, .int v0, .int vZ, .int vB, .int vN, .ref mso, .ref mnu, .ref mse, .ref mbe, .ref men]))]) hP [0] rfl
  have hD9 := hD.sub (ws' := [(y, .inr (13, [.ref mm, .ref msv, .int vS, .ref mpa, .int vC, .int 1, .int vF, .ref mio, .ref mfo, .int vL, .ref mre, .int vK, .ref mah, .int vR, .ref mrw, .ref mrr, .ref mrs, .ref mrb, .int v0, .int vZ, .int vB, .int vN, .ref mso, .ref mnu, .ref mse, .ref mbe, .ref men]))]) [0] (by decide) rfl
  refine W.widen (k := 0) (n := 0) (Nat.le_of_ble_eq_true rfl) (Nat.le_of_ble_eq_true rfl) ?_
  exact W.iret (v := 0) hx hb hr (fun t ht hW => ⟨⟨0, (), rfl, rfl, by rw [ht]; exact hP9, va_K.moved hW.alike hK, hD9⟩, hS.F ht⟩) hS.2.2 dX12_letterOf_83

set_option maxHeartbeats 4000000 in
set_option maxRecDepth 100000 in
theorem mX12_compare (l : Launch) (G : nG) (y : Nat) (mm : Nat) (msv : Nat) (mpa : Nat) (mio : Nat) (mfo : Nat) (mre : Nat) (mah : Nat) (mrw : Nat) (mrr : Nat) (mrs : Nat) (mrb : Nat) (mso : Nat) (mnu : Nat) (mse : Nat) (mbe : Nat) (men : Nat) (vS : Int32) (vC : Int32) (vT : Int32) (vF : Int32) (vL : Int32) (vK : Int32) (vR : Int32) (v0 : Int32) (vZ : Int32) (vB : Int32) (vN : Int32) (fm : Nat → Int32) (q : Int32) (q2 : Int32) (q3 : Int32) (q4 : Int32) (sz : Nat) (hm : nMod fm) : Met l yX12_compare wsX12_compare ({ frames := 3, cells := 0, slots := 0, locals := 67 }) (va_Pc [.ref y, .int q, .int q2, .int q3, .int q4] (n_pp G [(y, .inr (13, [.ref mm, .ref msv, .int vS, .ref mpa, .int vC, .int vT, .int vF, .ref mio, .ref mfo, .int vL, .ref mre, .int vK, .ref mah, .int vR, .ref mrw, .ref mrr, .ref mrs, .ref mrb, .int v0, .int vZ, .int vB, .int vN, .ref mso, .ref mnu, .ref mse, .ref mbe, .ref men])), (mm, eI G 1191 fm)] sz)) (va_Qi (fun (r : Int32) (_ : Unit) => r = 0) (fun (_ : Unit) (t : State) => n_po G (va_A [(y, .inr (13, [.ref mm, .ref msv, .int vS, .ref mpa, .int vC, .int vT, .int vF, .ref mio, .ref mfo, .int vL, .ref mre, .int vK, .ref mah, .int vR, .ref mrw, .ref mrr, .ref mrs, .ref mrb, .int v0, .int vZ, .int vB, .int vN, .ref mso, .ref mnu, .ref mse, .ref mbe, .ref men])), (mm, eI G 1191 fm)] sz) [(y, .inr (13, [.ref mm, .ref msv, .int vS, .ref mpa, .int vC, .int 1, .int vF, .ref mio, .ref mfo, .int vL, .ref mre, .int vK, .ref mah, .int vR, .ref mrw, .ref mrr, .ref mrs, .ref mrb, .int v0, .int vZ, .int vB, .int vN, .ref mso, .ref mnu, .ref mse, .ref mbe, .ref men]))] t) (va_A [(y, .inr (13, [.ref mm, .ref msv, .int vS, .ref mpa, .int vC, .int vT, .int vF, .ref mio, .ref mfo, .int vL, .ref mre, .int vK, .ref mah, .int vR, .ref mrw, .ref mrr, .ref mrs, .ref mrb, .int v0, .int vZ, .int vB, .int vN, .ref mso, .ref mnu, .ref mse, .ref mbe, .ref men])), (mm, eI G 1191 fm)] sz)) 0 0 (va_A [(y, .inr (13, [.ref mm, .ref msv, .int vS, .ref mpa, .int vC, .int vT, .int vF, .ref mio, .ref mfo, .int vL, .ref mre, .int vK, .ref mah, .int vR, .ref mrw, .ref mrr, .ref mrs, .ref mrb, .int v0, .int vZ, .int vB, .int vN, .ref mso, .ref mnu, .ref mse, .ref mbe, .ref men])), (mm, eI G 1191 fm)] sz) := by
  refine Met.ofW (cc := cX12_compare) (maxL := 5) (ret := (some .int)) (by decide) rfl ?_
  intro p e s m args below meth c s₁ B hml hv
  obtain ⟨rfl, hsz, hP, hK, hD0⟩ := hv
  have hx := B.exec
  have hb := B.bytes
  have hr := B.returns
  have hts := atoms_spec (ws := wsX12_compare) B.pre
  have hown : s.vm.findClass RX12 = some m.cls := findClass_of_methodNamed B.named
  have hlocks := B.notSynchronized
  subst hsz
  have hD := hD0.self (sz := s.heap.size)
  generalize hAe : va_A [(y, .inr (13, [.ref mm, .ref msv, .int vS, .ref mpa, .int vC, .int vT, .int vF, .ref mio, .ref mfo, .int vL, .ref mre, .int vK, .ref mah, .int vR, .ref mrw, .ref mrr, .ref mrs, .ref mrb, .int v0, .int vZ, .int vB, .int vN, .ref mso, .ref mnu, .ref mse, .ref mbe, .ref men])), (mm, eI G 1191 fm)] s.heap.size = A at hD ⊢
  have hA : ∀ q : Nat, s.heap.size ≤ q → A q := fun q h => by rw [← hAe]; exact Or.inr h
  have hS : va_S A s.heap s.heap [] := va_S.rf
  have hP : va_P G.1 vwCl [(y, .inr (13, [.ref mm, .ref msv, .int vS, .ref mpa, .int vC, .int vT, .int vF, .ref mio, .ref mfo, .int vL, .ref mre, .int vK, .ref mah, .int vR, .ref mrw, .ref mrr, .ref mrs, .ref mrb, .int v0, .int vZ, .int vB, .int vN, .ref mso, .ref mnu, .ref mse, .ref mbe, .ref men])), (mm, eI G 1191 fm)] s.heap := hP
  have hl := lv_entry ([.ref y, .int q, .int q2, .int q3, .int q4]) (n := 5) (Nat.le_of_ble_eq_true rfl)
  rw [lg_entry_eq]
  generalize (lg_sl ([.ref y, .int q, .int q2, .int q3, .int q4]) ++ List.replicate (5 - (lg_sl ([.ref y, .int q, .int q2, .int q3, .int q4])).length) Slot.unset).toArray = ls at hl ⊢
  have hl : lv_has ls 5 [(0, .ref y), (1, .int q), (2, .int q2), (3, .int q3), (4, .int q4)] := hl
  obtain ⟨H, hH⟩ : ∃ z, z = s.heap := ⟨_, rfl⟩
  have hS : va_S A s.heap H [] := by rw [hH]; exact hS
  have hP : va_P G.1 vwCl [(y, .inr (13, [.ref mm, .ref msv, .int vS, .ref mpa, .int vC, .int vT, .int vF, .ref mio, .ref mfo, .int vL, .ref mre, .int vK, .ref mah, .int vR, .ref mrw, .ref mrr, .ref mrs, .ref mrb, .int v0, .int vZ, .int vB, .int vN, .ref mso, .ref mnu, .ref mse, .ref mbe, .ref men])), (mm, eI G 1191 fm)] H := by rw [hH]; exact hP
  refine n_heap hH ?_
  generalize ([] : List Loc) = locs at hS ⊢
  have hiX12 : ∀ w ∈ u_ws RX12 TX12 27, w ∈ wsX12_compare := by decide +kernel
  refine lv_aload_n hx hb dX12_compare_0 rfl (lv_at hl 0 rfl) ?_
  refine lv_aload_n hx hb dX12_compare_1 rfl (lv_at hl 0 rfl) ?_
  refine lv_iload_n hx hb dX12_compare_2 rfl (lv_at hl 1 rfl) ?_
  refine lv_iload_n hx hb dX12_compare_3 rfl (lv_at hl 2 rfl) ?_
  refine lv_iload_n hx hb dX12_compare_4 rfl (lv_at hl 3 rfl) ?_
  refine lv_iload hx hb dX12_compare_5 (lv_at hl 4 rfl) ?_
  refine n_ci (wr := []) (va_runV (As := [.int q, .int q2, .int q3, .int q4]) (rest := [.ref y]) ⟨hx, hb, hml, hown, hts⟩ (mX12_lacksEither l G y mm msv mpa mio mfo mre mah mrw mrr mrs mrb mso mnu mse mbe men vS vC vT vF vL vK vR v0 vZ vB vN fm q q2 q3 q4 H.size hm) (cwV 4 hts gX12_compare_X12_lacksEither rfl rfl rfl (by decide +kernel) ⟨(Nat.le_of_ble_eq_true rfl), (Nat.le_of_ble_eq_true rfl)⟩) (n_prV (ci := 13) (q0 := 0) hK hP hD [0, 1] rfl (by decide) rfl rfl) rfl rfl hl.1 rfl (lv_room (Nat.le_of_ble_eq_true rfl)) dX12_compare_7 ⟨(Nat.le_of_ble_eq_true rfl), (Nat.le_of_ble_eq_true rfl)⟩) hP hD hS hA [0, 1] [] rfl rfl (by decide) (by decide) (fun r_1 u_2 H locs hP hD hS hw => ?_)
  have hP : va_P G.1 vwCl [(y, .inr (13, [.ref mm, .ref msv, .int vS, .ref mpa, .int vC, .int vT, .int vF, .ref mio, .ref mfo, .int vL, .ref mre, .int vK, .ref mah, .int vR, .ref mrw, .ref mrr, .ref mrs, .ref mrb, .int v0, .int vZ, .int vB, .int vN, .ref mso, .ref mnu, .ref mse, .ref mbe, .ref men])), (mm, eI G 1191 fm)] H := hP
  have hD : va_D A [(y, .inr (13, [.ref mm, .ref msv, .int vS, .ref mpa, .int vC, .int vT, .int vF, .ref mio, .ref mfo, .int vL, .ref mre, .int vK, .ref mah, .int vR, .ref mrw, .ref mrr, .ref mrs, .ref mrb, .int v0, .int vZ, .int vB, .int vN, .ref mso, .ref mnu, .ref mse, .ref mbe, .ref men])), (mm, eI G 1191 fm)] := hD
  have hw : r_1 = 1 := hw
  subst hw
  refine va_put (D := G.1) (ci := 13) (v := .int 1) (ty := .int) (C := RX12) (T := TX12) (N := 27) hx hb hts hiX12 tyX12 tyX12_ok nmX12 hown hK hP hD hS 0 rfl rfl 5 (by decide) (hts (.fieldLink RX12 62 "DialectDictionaryModel" "thrown" "I") (by decide +kernel)) (fun _ h9 => h9) rfl (by decide +kernel) rfl rfl (Nat.le_of_ble_eq_true rfl) dX12_compare_10 (fun H locs hP hD hS => ?_)
  have hP : va_P G.1 vwCl [(y, .inr (13, [.ref mm, .ref msv, .int vS, .ref mpa, .int vC, .int 1, .int vF, .ref mio, .ref mfo, .int vL, .ref mre, .int vK, .ref mah, .int vR, .ref mrw, .ref mrr, .ref mrs, .ref mrb, .int v0, .int vZ, .int vB, .int vN, .ref mso, .ref mnu, .ref mse, .ref mbe, .ref men])), (mm, eI G 1191 fm)] H := hP
  have hD : va_D A [(y, .inr (13, [.ref mm, .ref msv, .int vS, .ref mpa, .int vC, .int 1, .int vF, .ref mio, .ref mfo, .int vL, .ref mre, .int vK, .ref mah, .int vR, .ref mrw, .ref mrr, .ref mrs, .ref mrb, .int v0, .int vZ, .int vB, .int vN, .ref mso, .ref mnu, .ref mse, .ref mbe, .ref men])), (mm, eI G 1191 fm)] := hD
  refine lv_aload_n hx hb dX12_compare_13 rfl (lv_at hl 0 rfl) ?_
  refine va_get (D := G.1) (ci := 13) (v := .int 1) (C := RX12) (T := TX12) (N := 27) hx hb hts hiX12 hown hK hP 0 rfl rfl 5 (by decide) (hts (.fieldLink RX12 62 "DialectDictionaryModel" "thrown" "I") (by decide +kernel)) (fun _ h9 => h9) rfl dX12_compare_14 ?_
  refine lv_if_le (tgt := 24) hx hb dX12_compare_17 (by decide) (fun h9 => absurd h9 (by decide)) (fun _ => ?_)
  refine lv_iconst (v := 0) hx hb dX12_compare_20 (by decide) ?_
  refine lv_goto (tgt := 51) hx hb dX12_compare_21 (by decide) ?_
  have hP9 := n_Psub (wc := [(y, .inr (13, [.ref mm, .ref msv, .int vS, .ref mpa, .int vC, .int 1, .int vF, .ref mio, .ref mfo, .int vL, .ref mre, .int vK, .ref mah, .int vR, .ref mrw, .ref mrr, .ref mrs, .ref mrb, .int v0, .int vZ, .int vB, .int vN, .ref mso, .ref mnu, .ref mse, .ref mbe, .ref men]))]) hP [0] rfl
  have hD9 := hD.sub (ws' := [(y, .inr (13, [.ref mm, .ref msv, .int vS, .ref mpa, .int vC, .int 1, .int vF, .ref mio, .ref mfo, .int vL, .ref mre, .int vK, .ref mah, .int vR, .ref mrw, .ref mrr, .ref mrs, .ref mrb, .int v0, .int vZ, .int vB, .int vN, .ref mso, .ref mnu, .ref mse, .ref mbe, .ref men]))]) [0] (by decide) rfl
  refine W.widen (k := 0) (n := 0) (Nat.le_of_ble_eq_true rfl) (Nat.le_of_ble_eq_true rfl) ?_
  exact W.iret (v := 0) hx hb hr (fun t ht hW => ⟨⟨0, (), rfl, rfl, by rw [ht]; exact hP9, va_K.moved hW.alike hK, hD9⟩, hS.F ht⟩) hS.2.2 dX12_compare_51

set_option maxHeartbeats 4000000 in
set_option maxRecDepth 100000 in
theorem mX12_refer (l : Launch) (G : nG) (y : Nat) (mm : Nat) (msv : Nat) (mpa : Nat) (mio : Nat) (mfo : Nat) (mre : Nat) (mah : Nat) (mrw : Nat) (mrr : Nat) (mrs : Nat) (mrb : Nat) (mso : Nat) (mnu : Nat) (mse : Nat) (mbe : Nat) (men : Nat) (vS : Int32) (vC : Int32) (vT : Int32) (vF : Int32) (vL : Int32) (vK : Int32) (vR : Int32) (v0 : Int32) (vZ : Int32) (vB : Int32) (vN : Int32) (fm : Nat → Int32) (q : Int32) (q2 : Int32) (sz : Nat) (hm : nMod fm) : Met l yX12_refer wsX12_refer ({ frames := 2, cells := 0, slots := 0, locals := 43 }) (va_Pc [.ref y, .int q, .int q2] (n_pp G [(y, .inr (13, [.ref mm, .ref msv, .int vS, .ref mpa, .int vC, .int vT, .int vF, .ref mio, .ref mfo, .int vL, .ref mre, .int vK, .ref mah, .int vR, .ref mrw, .ref mrr, .ref mrs, .ref mrb, .int v0, .int vZ, .int vB, .int vN, .ref mso, .ref mnu, .ref mse, .ref mbe, .ref men])), (mm, eI G 1191 fm)] sz)) (va_Qi (fun (r : Int32) (_ : Unit) => r = 0) (fun (_ : Unit) (t : State) => n_po G (va_A [(y, .inr (13, [.ref mm, .ref msv, .int vS, .ref mpa, .int vC, .int vT, .int vF, .ref mio, .ref mfo, .int vL, .ref mre, .int vK, .ref mah, .int vR, .ref mrw, .ref mrr, .ref mrs, .ref mrb, .int v0, .int vZ, .int vB, .int vN, .ref mso, .ref mnu, .ref mse, .ref mbe, .ref men])), (mm, eI G 1191 fm)] sz) [(y, .inr (13, [.ref mm, .ref msv, .int vS, .ref mpa, .int vC, .int 1, .int vF, .ref mio, .ref mfo, .int vL, .ref mre, .int vK, .ref mah, .int vR, .ref mrw, .ref mrr, .ref mrs, .ref mrb, .int v0, .int vZ, .int vB, .int vN, .ref mso, .ref mnu, .ref mse, .ref mbe, .ref men]))] t) (va_A [(y, .inr (13, [.ref mm, .ref msv, .int vS, .ref mpa, .int vC, .int vT, .int vF, .ref mio, .ref mfo, .int vL, .ref mre, .int vK, .ref mah, .int vR, .ref mrw, .ref mrr, .ref mrs, .ref mrb, .int v0, .int vZ, .int vB, .int vN, .ref mso, .ref mnu, .ref mse, .ref mbe, .ref men])), (mm, eI G 1191 fm)] sz)) 0 0 (va_A [(y, .inr (13, [.ref mm, .ref msv, .int vS, .ref mpa, .int vC, .int vT, .int vF, .ref mio, .ref mfo, .int vL, .ref mre, .int vK, .ref mah, .int vR, .ref mrw, .ref mrr, .ref mrs, .ref mrb, .int v0, .int vZ, .int vB, .int vN, .ref mso, .ref mnu, .ref mse, .ref mbe, .ref men])), (mm, eI G 1191 fm)] sz) := by
  refine Met.ofW (cc := cX12_refer) (maxL := 4) (ret := (some .int)) (by decide) rfl ?_
  intro p e s m args below meth c s₁ B hml hv
  obtain ⟨rfl, hsz, hP, hK, hD0⟩ := hv
  have hx := B.exec
  have hb := B.bytes
  have hr := B.returns
  have hts := atoms_spec (ws := wsX12_refer) B.pre
  have hown : s.vm.findClass RX12 = some m.cls := findClass_of_methodNamed B.named
  have hlocks := B.notSynchronized
  subst hsz
  have hD := hD0.self (sz := s.heap.size)
  generalize hAe : va_A [(y, .inr (13, [.ref mm, .ref msv, .int vS, .ref mpa, .int vC, .int vT, .int vF, .ref mio, .ref mfo, .int vL, .ref mre, .int vK, .ref mah, .int vR, .ref mrw, .ref mrr, .ref mrs, .ref mrb, .int v0, .int vZ, .int vB, .int vN, .ref mso, .ref mnu, .ref mse, .ref mbe, .ref men])), (mm, eI G 1191 fm)] s.heap.size = A at hD ⊢
  have hA : ∀ q : Nat, s.heap.size ≤ q → A q := fun q h => by rw [← hAe]; exact Or.inr h
  have hS : va_S A s.heap s.heap [] := va_S.rf
  have hP : va_P G.1 vwCl [(y, .inr (13, [.ref mm, .ref msv, .int vS, .ref mpa, .int vC, .int vT, .int vF, .ref mio, .ref mfo, .int vL, .ref mre, .int vK, .ref mah, .int vR, .ref mrw, .ref mrr, .ref mrs, .ref mrb, .int v0, .int vZ, .int vB, .int vN, .ref mso, .ref mnu, .ref mse, .ref mbe, .ref men])), (mm, eI G 1191 fm)] s.heap := hP
  have hl := lv_entry ([.ref y, .int q, .int q2]) (n := 4) (Nat.le_of_ble_eq_true rfl)
  rw [lg_entry_eq]
  generalize (lg_sl ([.ref y, .int q, .int q2]) ++ List.replicate (4 - (lg_sl ([.ref y, .int q, .int q2])).length) Slot.unset).toArray = ls at hl ⊢
  have hl : lv_has ls 4 [(0, .ref y), (1, .int q), (2, .int q2)] := hl
  obtain ⟨H, hH⟩ : ∃ z, z = s.heap := ⟨_, rfl⟩
  have hS : va_S A s.heap H [] := by rw [hH]; exact hS
  have hP : va_P G.1 vwCl [(y, .inr (13, [.ref mm, .ref msv, .int vS, .ref mpa, .int vC, .int vT, .int vF, .ref mio, .ref mfo, .int vL, .ref mre, .int vK, .ref mah, .int vR, .ref mrw, .ref mrr, .ref mrs, .ref mrb, .int v0, .int vZ, .int vB, .int vN, .ref mso, .ref mnu, .ref mse, .ref mbe, .ref men])), (mm, eI G 1191 fm)] H := by rw [hH]; exact hP
  refine n_heap hH ?_
  generalize ([] : List Loc) = locs at hS ⊢
  have hiX12 : ∀ w ∈ u_ws RX12 TX12 27, w ∈ wsX12_refer := by decide +kernel
  refine lv_aload_n hx hb dX12_refer_0 rfl (lv_at hl 0 rfl) ?_
  refine lv_aload_n hx hb dX12_refer_1 rfl (lv_at hl 0 rfl) ?_
  refine lv_iload_n hx hb dX12_refer_2 rfl (lv_at hl 1 rfl) ?_
  refine n_ci (wr := []) (va_runV (As := [.int q]) (rest := [.ref y]) ⟨hx, hb, hml, hown, hts⟩ (mX12_isHead l G y mm msv mpa mio mfo mre mah mrw mrr mrs mrb mso mnu mse mbe men vS vC vT vF vL vK vR v0 vZ vB vN fm q H.size hm) (cwV 1 hts gX12_refer_X12_isHead rfl rfl rfl (by decide +kernel) ⟨(Nat.le_of_ble_eq_true rfl), (Nat.le_of_ble_eq_true rfl)⟩) (n_prV (ci := 13) (q0 := 0) hK hP hD [0, 1] rfl (by decide) rfl rfl) rfl rfl hl.1 rfl (lv_room (Nat.le_of_ble_eq_true rfl)) dX12_refer_3 ⟨(Nat.le_of_ble_eq_true rfl), (Nat.le_of_ble_eq_true rfl)⟩) hP hD hS hA [0, 1] [] rfl rfl (by decide) (by decide) (fun r_1 u_2 H locs hP hD hS hw => ?_)
  have hP : va_P G.1 vwCl [(y, .inr (13, [.ref mm, .ref msv, .int vS, .ref mpa, .int vC, .int vT, .int vF, .ref mio, .ref mfo, .int vL, .ref mre, .int vK, .ref mah, .int vR, .ref mrw, .ref mrr, .ref mrs, .ref mrb, .int v0, .int vZ, .int vB, .int vN, .ref mso, .ref mnu, .ref mse, .ref mbe, .ref men])), (mm, eI G 1191 fm)] H := hP
  have hD : va_D A [(y, .inr (13, [.ref mm, .ref msv, .int vS, .ref mpa, .int vC, .int vT, .int vF, .ref mio, .ref mfo, .int vL, .ref mre, .int vK, .ref mah, .int vR, .ref mrw, .ref mrr, .ref mrs, .ref mrb, .int v0, .int vZ, .int vB, .int vN, .ref mso, .ref mnu, .ref mse, .ref mbe, .ref men])), (mm, eI G 1191 fm)] := hD
  have hw : r_1 = 0 := hw
  subst hw
  refine lv_if_eq (tgt := 26) hx hb dX12_refer_6 (by decide) (fun _ => ?_) (fun h9 => absurd (by decide) h9)
  refine lv_iconst (v := 1) hx hb dX12_refer_26 (by decide) ?_
  refine va_put (D := G.1) (ci := 13) (v := .int 1) (ty := .int) (C := RX12) (T := TX12) (N := 27) hx hb hts hiX12 tyX12 tyX12_ok nmX12 hown hK hP hD hS 0 rfl rfl 5 (by decide) (hts (.fieldLink RX12 62 "DialectDictionaryModel" "thrown" "I") (by decide +kernel)) (fun _ h9 => h9) rfl (by decide +kernel) rfl rfl (Nat.le_of_ble_eq_true rfl) dX12_refer_27 (fun H locs hP hD hS => ?_)
  have hP : va_P G.1 vwCl [(y, .inr (13, [.ref mm, .ref msv, .int vS, .ref mpa, .int vC, .int 1, .int vF, .ref mio, .ref mfo, .int vL, .ref mre, .int vK, .ref mah, .int vR, .ref mrw, .ref mrr, .ref mrs, .ref mrb, .int v0, .int vZ, .int vB, .int vN, .ref mso, .ref mnu, .ref mse, .ref mbe, .ref men])), (mm, eI G 1191 fm)] H := hP
  have hD : va_D A [(y, .inr (13, [.ref mm, .ref msv, .int vS, .ref mpa, .int vC, .int 1, .int vF, .ref mio, .ref mfo, .int vL, .ref mre, .int vK, .ref mah, .int vR, .ref mrw, .ref mrr, .ref mrs, .ref mrb, .int v0, .int vZ, .int vB, .int vN, .ref mso, .ref mnu, .ref mse, .ref mbe, .ref men])), (mm, eI G 1191 fm)] := hD
  refine lv_aload_n hx hb dX12_refer_30 rfl (lv_at hl 0 rfl) ?_
  refine va_get (D := G.1) (ci := 13) (v := .int 1) (C := RX12) (T := TX12) (N := 27) hx hb hts hiX12 hown hK hP 0 rfl rfl 5 (by decide) (hts (.fieldLink RX12 62 "DialectDictionaryModel" "thrown" "I") (by decide +kernel)) (fun _ h9 => h9) rfl dX12_refer_31 ?_
  refine lv_if_le (tgt := 39) hx hb dX12_refer_34 (by decide) (fun h9 => absurd h9 (by decide)) (fun _ => ?_)
  refine lv_iconst (v := 0) hx hb dX12_refer_37 (by decide) ?_
  have hP9 := n_Psub (wc := [(y, .inr (13, [.ref mm, .ref msv, .int vS, .ref mpa, .int vC, .int 1, .int vF, .ref mio, .ref mfo, .int vL, .ref mre, .int vK, .ref mah, .int vR, .ref mrw, .ref mrr, .ref mrs, .ref mrb, .int v0, .int vZ, .int vB, .int vN, .ref mso, .ref mnu, .ref mse, .ref mbe, .ref men]))]) hP [0] rfl
  have hD9 := hD.sub (ws' := [(y, .inr (13, [.ref mm, .ref msv, .int vS, .ref mpa, .int vC, .int 1, .int vF, .ref mio, .ref mfo, .int vL, .ref mre, .int vK, .ref mah, .int vR, .ref mrw, .ref mrr, .ref mrs, .ref mrb, .int v0, .int vZ, .int vB, .int vN, .ref mso, .ref mnu, .ref mse, .ref mbe, .ref men]))]) [0] (by decide) rfl
  refine W.widen (k := 0) (n := 0) (Nat.le_of_ble_eq_true rfl) (Nat.le_of_ble_eq_true rfl) ?_
  exact W.iret (v := 0) hx hb hr (fun t ht hW => ⟨⟨0, (), rfl, rfl, by rw [ht]; exact hP9, va_K.moved hW.alike hK, hD9⟩, hS.F ht⟩) hS.2.2 dX12_refer_38

set_option maxHeartbeats 4000000 in
set_option maxRecDepth 100000 in
theorem mX12_steps (l : Launch) (G : nG) (y : Nat) (mm : Nat) (msv : Nat) (mpa : Nat) (mio : Nat) (mfo : Nat) (mre : Nat) (mah : Nat) (mrw : Nat) (mrr : Nat) (mrs : Nat) (mrb : Nat) (mso : Nat) (mnu : Nat) (mse : Nat) (mbe : Nat) (men : Nat) (vS : Int32) (vC : Int32) (vT : Int32) (vF : Int32) (vL : Int32) (vK : Int32) (vR : Int32) (v0 : Int32) (vZ : Int32) (vB : Int32) (vN : Int32) (fm : Nat → Int32) (q : Int32) (q2 : Int32) (sz : Nat) (hm : nMod fm) : Met l yX12_steps wsX12_steps ({ frames := 2, cells := 0, slots := 0, locals := 43 }) (va_Pc [.ref y, .int q, .int q2] (n_pp G [(y, .inr (13, [.ref mm, .ref msv, .int vS, .ref mpa, .int vC, .int vT, .int vF, .ref mio, .ref mfo, .int vL, .ref mre, .int vK, .ref mah, .int vR, .ref mrw, .ref mrr, .ref mrs, .ref mrb, .int v0, .int vZ, .int vB, .int vN, .ref mso, .ref mnu, .ref mse, .ref mbe, .ref men])), (mm, eI G 1191 fm)] sz)) (va_Qi (fun (r : Int32) (_ : Unit) => r = 0) (fun (_ : Unit) (t : State) => n_po G (va_A [(y, .inr (13, [.ref mm, .ref msv, .int vS, .ref mpa, .int vC, .int vT, .int vF, .ref mio, .ref mfo, .int vL, .ref mre, .int vK, .ref mah, .int vR, .ref mrw, .ref mrr, .ref mrs, .ref mrb, .int v0, .int vZ, .int vB, .int vN, .ref mso, .ref mnu, .ref mse, .ref mbe, .ref men])), (mm, eI G 1191 fm)] sz) [(y, .inr (13, [.ref mm, .ref msv, .int vS, .ref mpa, .int vC, .int 1, .int vF, .ref mio, .ref mfo, .int vL, .ref mre, .int vK, .ref mah, .int vR, .ref mrw, .ref mrr, .ref mrs, .ref mrb, .int v0, .int vZ, .int vB, .int vN, .ref mso, .ref mnu, .ref mse, .ref mbe, .ref men]))] t) (va_A [(y, .inr (13, [.ref mm, .ref msv, .int vS, .ref mpa, .int vC, .int vT, .int vF, .ref mio, .ref mfo, .int vL, .ref mre, .int vK, .ref mah, .int vR, .ref mrw, .ref mrr, .ref mrs, .ref mrb, .int v0, .int vZ, .int vB, .int vN, .ref mso, .ref mnu, .ref mse, .ref mbe, .ref men])), (mm, eI G 1191 fm)] sz)) 0 0 (va_A [(y, .inr (13, [.ref mm, .ref msv, .int vS, .ref mpa, .int vC, .int vT, .int vF, .ref mio, .ref mfo, .int vL, .ref mre, .int vK, .ref mah, .int vR, .ref mrw, .ref mrr, .ref mrs, .ref mrb, .int v0, .int vZ, .int vB, .int vN, .ref mso, .ref mnu, .ref mse, .ref mbe, .ref men])), (mm, eI G 1191 fm)] sz) := by
  refine Met.ofW (cc := cX12_steps) (maxL := 5) (ret := (some .int)) (by decide) rfl ?_
  intro p e s m args below meth c s₁ B hml hv
  obtain ⟨rfl, hsz, hP, hK, hD0⟩ := hv
  have hx := B.exec
  have hb := B.bytes
  have hr := B.returns
  have hts := atoms_spec (ws := wsX12_steps) B.pre
  have hown : s.vm.findClass RX12 = some m.cls := findClass_of_methodNamed B.named
  have hlocks := B.notSynchronized
  subst hsz
  have hD := hD0.self (sz := s.heap.size)
  generalize hAe : va_A [(y, .inr (13, [.ref mm, .ref msv, .int vS, .ref mpa, .int vC, .int vT, .int vF, .ref mio, .ref mfo, .int vL, .ref mre, .int vK, .ref mah, .int vR, .ref mrw, .ref mrr, .ref mrs, .ref mrb, .int v0, .int vZ, .int vB, .int vN, .ref mso, .ref mnu, .ref mse, .ref mbe, .ref men])), (mm, eI G 1191 fm)] s.heap.size = A at hD ⊢
  have hA : ∀ q : Nat, s.heap.size ≤ q → A q := fun q h => by rw [← hAe]; exact Or.inr h
  have hS : va_S A s.heap s.heap [] := va_S.rf
  have hP : va_P G.1 vwCl [(y, .inr (13, [.ref mm, .ref msv, .int vS, .ref mpa, .int vC, .int vT, .int vF, .ref mio, .ref mfo, .int vL, .ref mre, .int vK, .ref mah, .int vR, .ref mrw, .ref mrr, .ref mrs, .ref mrb, .int v0, .int vZ, .int vB, .int vN, .ref mso, .ref mnu, .ref mse, .ref mbe, .ref men])), (mm, eI G 1191 fm)] s.heap := hP
  have hl := lv_entry ([.ref y, .int q, .int q2]) (n := 5) (Nat.le_of_ble_eq_true rfl)
  rw [lg_entry_eq]
  generalize (lg_sl ([.ref y, .int q, .int q2]) ++ List.replicate (5 - (lg_sl ([.ref y, .int q, .int q2])).length) Slot.unset).toArray = ls at hl ⊢
  have hl : lv_has ls 5 [(0, .ref y), (1, .int q), (2, .int q2)] := hl
  obtain ⟨H, hH⟩ : ∃ z, z = s.heap := ⟨_, rfl⟩
  have hS : va_S A s.heap H [] := by rw [hH]; exact hS
  have hP : va_P G.1 vwCl [(y, .inr (13, [.ref mm, .ref msv, .int vS, .ref mpa, .int vC, .int vT, .int vF, .ref mio, .ref mfo, .int vL, .ref mre, .int vK, .ref mah, .int vR, .ref mrw, .ref mrr, .ref mrs, .ref mrb, .int v0, .int vZ, .int vB, .int vN, .ref mso, .ref mnu, .ref mse, .ref mbe, .ref men])), (mm, eI G 1191 fm)] H := by rw [hH]; exact hP
  refine n_heap hH ?_
  generalize ([] : List Loc) = locs at hS ⊢
  have hiX12 : ∀ w ∈ u_ws RX12 TX12 27, w ∈ wsX12_steps := by decide +kernel
  refine lv_aload_n hx hb dX12_steps_0 rfl (lv_at hl 0 rfl) ?_
  refine lv_aload_n hx hb dX12_steps_1 rfl (lv_at hl 0 rfl) ?_
  refine lv_iload_n hx hb dX12_steps_2 rfl (lv_at hl 1 rfl) ?_
  refine n_ci (wr := []) (va_runV (As := [.int q]) (rest := [.ref y]) ⟨hx, hb, hml, hown, hts⟩ (mX12_isHead l G y mm msv mpa mio mfo mre mah mrw mrr mrs mrb mso mnu mse mbe men vS vC vT vF vL vK vR v0 vZ vB vN fm q H.size hm) (cwV 1 hts gX12_steps_X12_isHead rfl rfl rfl (by decide +kernel) ⟨(Nat.le_of_ble_eq_true rfl), (Nat.le_of_ble_eq_true rfl)⟩) (n_prV (ci := 13) (q0 := 0) hK hP hD [0, 1] rfl (by decide) rfl rfl) rfl rfl hl.1 rfl (lv_room (Nat.le_of_ble_eq_true rfl)) dX12_steps_3 ⟨(Nat.le_of_ble_eq_true rfl), (Nat.le_of_ble_eq_true rfl)⟩) hP hD hS hA [0, 1] [] rfl rfl (by decide) (by decide) (fun r_1 u_2 H locs hP hD hS hw => ?_)
  have hP : va_P G.1 vwCl [(y, .inr (13, [.ref mm, .ref msv, .int vS, .ref mpa, .int vC, .int vT, .int vF, .ref mio, .ref mfo, .int vL, .ref mre, .int vK, .ref mah, .int vR, .ref mrw, .ref mrr, .ref mrs, .ref mrb, .int v0, .int vZ, .int vB, .int vN, .ref mso, .ref mnu, .ref mse, .ref mbe, .ref men])), (mm, eI G 1191 fm)] H := hP
  have hD : va_D A [(y, .inr (13, [.ref mm, .ref msv, .int vS, .ref mpa, .int vC, .int vT, .int vF, .ref mio, .ref mfo, .int vL, .ref mre, .int vK, .ref mah, .int vR, .ref mrw, .ref mrr, .ref mrs, .ref mrb, .int v0, .int vZ, .int vB, .int vN, .ref mso, .ref mnu, .ref mse, .ref mbe, .ref men])), (mm, eI G 1191 fm)] := hD
  have hw : r_1 = 0 := hw
  subst hw
  refine lv_if_eq (tgt := 21) hx hb dX12_steps_6 (by decide) (fun _ => ?_) (fun h9 => absurd (by decide) h9)
  refine lv_iconst (v := 1) hx hb dX12_steps_21 (by decide) ?_
  refine va_put (D := G.1) (ci := 13) (v := .int 1) (ty := .int) (C := RX12) (T := TX12) (N := 27) hx hb hts hiX12 tyX12 tyX12_ok nmX12 hown hK hP hD hS 0 rfl rfl 5 (by decide) (hts (.fieldLink RX12 62 "DialectDictionaryModel" "thrown" "I") (by decide +kernel)) (fun _ h9 => h9) rfl (by decide +kernel) rfl rfl (Nat.le_of_ble_eq_true rfl) dX12_steps_22 (fun H locs hP hD hS => ?_)
  have hP : va_P G.1 vwCl [(y, .inr (13, [.ref mm, .ref msv, .int vS, .ref mpa, .int vC, .int 1, .int vF, .ref mio, .ref mfo, .int vL, .ref mre, .int vK, .ref mah, .int vR, .ref mrw, .ref mrr, .ref mrs, .ref mrb, .int v0, .int vZ, .int vB, .int vN, .ref mso, .ref mnu, .ref mse, .ref mbe, .ref men])), (mm, eI G 1191 fm)] H := hP
  have hD : va_D A [(y, .inr (13, [.ref mm, .ref msv, .int vS, .ref mpa, .int vC, .int 1, .int vF, .ref mio, .ref mfo, .int vL, .ref mre, .int vK, .ref mah, .int vR, .ref mrw, .ref mrr, .ref mrs, .ref mrb, .int v0, .int vZ, .int vB, .int vN, .ref mso, .ref mnu, .ref mse, .ref mbe, .ref men])), (mm, eI G 1191 fm)] := hD
  refine lv_aload_n hx hb dX12_steps_25 rfl (lv_at hl 0 rfl) ?_
  refine va_get (D := G.1) (ci := 13) (v := .int 1) (C := RX12) (T := TX12) (N := 27) hx hb hts hiX12 hown hK hP 0 rfl rfl 5 (by decide) (hts (.fieldLink RX12 62 "DialectDictionaryModel" "thrown" "I") (by decide +kernel)) (fun _ h9 => h9) rfl dX12_steps_26 ?_
  refine lv_if_le (tgt := 34) hx hb dX12_steps_29 (by decide) (fun h9 => absurd h9 (by decide)) (fun _ => ?_)
  refine lv_iconst (v := 0) hx hb dX12_steps_32 (by decide) ?_
  have hP9 := n_Psub (wc := [(y, .inr (13, [.ref mm, .ref msv, .int vS, .ref mpa, .int vC, .int 1, .int vF, .ref mio, .ref mfo, .int vL, .ref mre, .int vK, .ref mah, .int vR, .ref mrw, .ref mrr, .ref mrs, .ref mrb, .int v0, .int vZ, .int vB, .int vN, .ref mso, .ref mnu, .ref mse, .ref mbe, .ref men]))]) hP [0] rfl
  have hD9 := hD.sub (ws' := [(y, .inr (13, [.ref mm, .ref msv, .int vS, .ref mpa, .int vC, .int 1, .int vF, .ref mio, .ref mfo, .int vL, .ref mre, .int vK, .ref mah, .int vR, .ref mrw, .ref mrr, .ref mrs, .ref mrb, .int v0, .int vZ, .int vB, .int vN, .ref mso, .ref mnu, .ref mse, .ref mbe, .ref men]))]) [0] (by decide) rfl
  refine W.widen (k := 0) (n := 0) (Nat.le_of_ble_eq_true rfl) (Nat.le_of_ble_eq_true rfl) ?_
  exact W.iret (v := 0) hx hb hr (fun t ht hW => ⟨⟨0, (), rfl, rfl, by rw [ht]; exact hP9, va_K.moved hW.alike hK, hD9⟩, hS.F ht⟩) hS.2.2 dX12_steps_33

set_option maxHeartbeats 4000000 in
set_option maxRecDepth 100000 in
theorem mX12_derived (l : Launch) (G : nG) (y : Nat) (mm : Nat) (msv : Nat) (mpa : Nat) (mio : Nat) (mfo : Nat) (mre : Nat) (mah : Nat) (mrw : Nat) (mrr : Nat) (mrs : Nat) (mrb : Nat) (mso : Nat) (mnu : Nat) (mse : Nat) (mbe : Nat) (men : Nat) (vS : Int32) (vC : Int32) (vT : Int32) (vF : Int32) (vL : Int32) (vK : Int32) (vR : Int32) (v0 : Int32) (vZ : Int32) (vB : Int32) (vN : Int32) (fm : Nat → Int32) (q : Int32) (q2 : Int32) (q3 : Int32) (q4 : Int32) (sz : Nat) (hm : nMod fm) : Met l yX12_derived wsX12_derived ({ frames := 3, cells := 0, slots := 0, locals := 65 }) (va_Pc [.ref y, .int q, .int q2, .int q3, .int q4] (n_pp G [(y, .inr (13, [.ref mm, .ref msv, .int vS, .ref mpa, .int vC, .int vT, .int vF, .ref mio, .ref mfo, .int vL, .ref mre, .int vK, .ref mah, .int vR, .ref mrw, .ref mrr, .ref mrs, .ref mrb, .int v0, .int vZ, .int vB, .int vN, .ref mso, .ref mnu, .ref mse, .ref mbe, .ref men])), (mm, eI G 1191 fm)] sz)) (va_Qi (fun (r : Int32) (_ : Unit) => r = 0) (fun (_ : Unit) (t : State) => n_po G (va_A [(y, .inr (13, [.ref mm, .ref msv, .int vS, .ref mpa, .int vC, .int vT, .int vF, .ref mio, .ref mfo, .int vL, .ref mre, .int vK, .ref mah, .int vR, .ref mrw, .ref mrr, .ref mrs, .ref mrb, .int v0, .int vZ, .int vB, .int vN, .ref mso, .ref mnu, .ref mse, .ref mbe, .ref men])), (mm, eI G 1191 fm)] sz) [(y, .inr (13, [.ref mm, .ref msv, .int vS, .ref mpa, .int vC, .int 1, .int vF, .ref mio, .ref mfo, .int vL, .ref mre, .int vK, .ref mah, .int vR, .ref mrw, .ref mrr, .ref mrs, .ref mrb, .int v0, .int vZ, .int vB, .int vN, .ref mso, .ref mnu, .ref mse, .ref mbe, .ref men]))] t) (va_A [(y, .inr (13, [.ref mm, .ref msv, .int vS, .ref mpa, .int vC, .int vT, .int vF, .ref mio, .ref mfo, .int vL, .ref mre, .int vK, .ref mah, .int vR, .ref mrw, .ref mrr, .ref mrs, .ref mrb, .int v0, .int vZ, .int vB, .int vN, .ref mso, .ref mnu, .ref mse, .ref mbe, .ref men])), (mm, eI G 1191 fm)] sz)) 0 0 (va_A [(y, .inr (13, [.ref mm, .ref msv, .int vS, .ref mpa, .int vC, .int vT, .int vF, .ref mio, .ref mfo, .int vL, .ref mre, .int vK, .ref mah, .int vR, .ref mrw, .ref mrr, .ref mrs, .ref mrb, .int v0, .int vZ, .int vB, .int vN, .ref mso, .ref mnu, .ref mse, .ref mbe, .ref men])), (mm, eI G 1191 fm)] sz) := by
  refine Met.ofW (cc := cX12_derived) (maxL := 5) (ret := (some .int)) (by decide) rfl ?_
  intro p e s m args below meth c s₁ B hml hv
  obtain ⟨rfl, hsz, hP, hK, hD0⟩ := hv
  have hx := B.exec
  have hb := B.bytes
  have hr := B.returns
  have hts := atoms_spec (ws := wsX12_derived) B.pre
  have hown : s.vm.findClass RX12 = some m.cls := findClass_of_methodNamed B.named
  have hlocks := B.notSynchronized
  subst hsz
  have hD := hD0.self (sz := s.heap.size)
  generalize hAe : va_A [(y, .inr (13, [.ref mm, .ref msv, .int vS, .ref mpa, .int vC, .int vT, .int vF, .ref mio, .ref mfo, .int vL, .ref mre, .int vK, .ref mah, .int vR, .ref mrw, .ref mrr, .ref mrs, .ref mrb, .int v0, .int vZ, .int vB, .int vN, .ref mso, .ref mnu, .ref mse, .ref mbe, .ref men])), (mm, eI G 1191 fm)] s.heap.size = A at hD ⊢
  have hA : ∀ q : Nat, s.heap.size ≤ q → A q := fun q h => by rw [← hAe]; exact Or.inr h
  have hS : va_S A s.heap s.heap [] := va_S.rf
  have hP : va_P G.1 vwCl [(y, .inr (13, [.ref mm, .ref msv, .int vS, .ref mpa, .int vC, .int vT, .int vF, .ref mio, .ref mfo, .int vL, .ref mre, .int vK, .ref mah, .int vR, .ref mrw, .ref mrr, .ref mrs, .ref mrb, .int v0, .int vZ, .int vB, .int vN, .ref mso, .ref mnu, .ref mse, .ref mbe, .ref men])), (mm, eI G 1191 fm)] s.heap := hP
  have hl := lv_entry ([.ref y, .int q, .int q2, .int q3, .int q4]) (n := 5) (Nat.le_of_ble_eq_true rfl)
  rw [lg_entry_eq]
  generalize (lg_sl ([.ref y, .int q, .int q2, .int q3, .int q4]) ++ List.replicate (5 - (lg_sl ([.ref y, .int q, .int q2, .int q3, .int q4])).length) Slot.unset).toArray = ls at hl ⊢
  have hl : lv_has ls 5 [(0, .ref y), (1, .int q), (2, .int q2), (3, .int q3), (4, .int q4)] := hl
  obtain ⟨H, hH⟩ : ∃ z, z = s.heap := ⟨_, rfl⟩
  have hS : va_S A s.heap H [] := by rw [hH]; exact hS
  have hP : va_P G.1 vwCl [(y, .inr (13, [.ref mm, .ref msv, .int vS, .ref mpa, .int vC, .int vT, .int vF, .ref mio, .ref mfo, .int vL, .ref mre, .int vK, .ref mah, .int vR, .ref mrw, .ref mrr, .ref mrs, .ref mrb, .int v0, .int vZ, .int vB, .int vN, .ref mso, .ref mnu, .ref mse, .ref mbe, .ref men])), (mm, eI G 1191 fm)] H := by rw [hH]; exact hP
  refine n_heap hH ?_
  generalize ([] : List Loc) = locs at hS ⊢
  have hiX12 : ∀ w ∈ u_ws RX12 TX12 27, w ∈ wsX12_derived := by decide +kernel
  refine lv_aload_n hx hb dX12_derived_0 rfl (lv_at hl 0 rfl) ?_
  refine lv_aload_n hx hb dX12_derived_1 rfl (lv_at hl 0 rfl) ?_
  refine lv_iload_n hx hb dX12_derived_2 rfl (lv_at hl 1 rfl) ?_
  refine lv_iload_n hx hb dX12_derived_3 rfl (lv_at hl 2 rfl) ?_
  refine n_ci (wr := []) (va_runV (As := [.int q, .int q2]) (rest := [.ref y]) ⟨hx, hb, hml, hown, hts⟩ (mX12_lacksForm l G y mm msv mpa mio mfo mre mah mrw mrr mrs mrb mso mnu mse mbe men vS vC vT vF vL vK vR v0 vZ vB vN fm q q2 H.size hm) (cwV 2 hts gX12_derived_X12_lacksForm rfl rfl rfl (by decide +kernel) ⟨(Nat.le_of_ble_eq_true rfl), (Nat.le_of_ble_eq_true rfl)⟩) (n_prV (ci := 13) (q0 := 0) hK hP hD [0, 1] rfl (by decide) rfl rfl) rfl rfl hl.1 rfl (lv_room (Nat.le_of_ble_eq_true rfl)) dX12_derived_4 ⟨(Nat.le_of_ble_eq_true rfl), (Nat.le_of_ble_eq_true rfl)⟩) hP hD hS hA [0, 1] [] rfl rfl (by decide) (by decide) (fun r_1 u_2 H locs hP hD hS hw => ?_)
  have hP : va_P G.1 vwCl [(y, .inr (13, [.ref mm, .ref msv, .int vS, .ref mpa, .int vC, .int vT, .int vF, .ref mio, .ref mfo, .int vL, .ref mre, .int vK, .ref mah, .int vR, .ref mrw, .ref mrr, .ref mrs, .ref mrb, .int v0, .int vZ, .int vB, .int vN, .ref mso, .ref mnu, .ref mse, .ref mbe, .ref men])), (mm, eI G 1191 fm)] H := hP
  have hD : va_D A [(y, .inr (13, [.ref mm, .ref msv, .int vS, .ref mpa, .int vC, .int vT, .int vF, .ref mio, .ref mfo, .int vL, .ref mre, .int vK, .ref mah, .int vR, .ref mrw, .ref mrr, .ref mrs, .ref mrb, .int v0, .int vZ, .int vB, .int vN, .ref mso, .ref mnu, .ref mse, .ref mbe, .ref men])), (mm, eI G 1191 fm)] := hD
  have hw : r_1 = 1 := hw
  subst hw
  refine va_put (D := G.1) (ci := 13) (v := .int 1) (ty := .int) (C := RX12) (T := TX12) (N := 27) hx hb hts hiX12 tyX12 tyX12_ok nmX12 hown hK hP hD hS 0 rfl rfl 5 (by decide) (hts (.fieldLink RX12 62 "DialectDictionaryModel" "thrown" "I") (by decide +kernel)) (fun _ h9 => h9) rfl (by decide +kernel) rfl rfl (Nat.le_of_ble_eq_true rfl) dX12_derived_7 (fun H locs hP hD hS => ?_)
  have hP : va_P G.1 vwCl [(y, .inr (13, [.ref mm, .ref msv, .int vS, .ref mpa, .int vC, .int 1, .int vF, .ref mio, .ref mfo, .int vL, .ref mre, .int vK, .ref mah, .int vR, .ref mrw, .ref mrr, .ref mrs, .ref mrb, .int v0, .int vZ, .int vB, .int vN, .ref mso, .ref mnu, .ref mse, .ref mbe, .ref men])), (mm, eI G 1191 fm)] H := hP
  have hD : va_D A [(y, .inr (13, [.ref mm, .ref msv, .int vS, .ref mpa, .int vC, .int 1, .int vF, .ref mio, .ref mfo, .int vL, .ref mre, .int vK, .ref mah, .int vR, .ref mrw, .ref mrr, .ref mrs, .ref mrb, .int v0, .int vZ, .int vB, .int vN, .ref mso, .ref mnu, .ref mse, .ref mbe, .ref men])), (mm, eI G 1191 fm)] := hD
  refine lv_aload_n hx hb dX12_derived_10 rfl (lv_at hl 0 rfl) ?_
  refine va_get (D := G.1) (ci := 13) (v := .int 1) (C := RX12) (T := TX12) (N := 27) hx hb hts hiX12 hown hK hP 0 rfl rfl 5 (by decide) (hts (.fieldLink RX12 62 "DialectDictionaryModel" "thrown" "I") (by decide +kernel)) (fun _ h9 => h9) rfl dX12_derived_11 ?_
  refine lv_if_le (tgt := 19) hx hb dX12_derived_14 (by decide) (fun h9 => absurd h9 (by decide)) (fun _ => ?_)
  refine lv_iconst (v := 0) hx hb dX12_derived_17 (by decide) ?_
  have hP9 := n_Psub (wc := [(y, .inr (13, [.ref mm, .ref msv, .int vS, .ref mpa, .int vC, .int 1, .int vF, .ref mio, .ref mfo, .int vL, .ref mre, .int vK, .ref mah, .int vR, .ref mrw, .ref mrr, .ref mrs, .ref mrb, .int v0, .int vZ, .int vB, .int vN, .ref mso, .ref mnu, .ref mse, .ref mbe, .ref men]))]) hP [0] rfl
  have hD9 := hD.sub (ws' := [(y, .inr (13, [.ref mm, .ref msv, .int vS, .ref mpa, .int vC, .int 1, .int vF, .ref mio, .ref mfo, .int vL, .ref mre, .int vK, .ref mah, .int vR, .ref mrw, .ref mrr, .ref mrs, .ref mrb, .int v0, .int vZ, .int vB, .int vN, .ref mso, .ref mnu, .ref mse, .ref mbe, .ref men]))]) [0] (by decide) rfl
  refine W.widen (k := 0) (n := 0) (Nat.le_of_ble_eq_true rfl) (Nat.le_of_ble_eq_true rfl) ?_
  exact W.iret (v := 0) hx hb hr (fun t ht hW => ⟨⟨0, (), rfl, rfl, by rw [ht]; exact hP9, va_K.moved hW.alike hK, hD9⟩, hS.F ht⟩) hS.2.2 dX12_derived_18

set_option maxHeartbeats 4000000 in
set_option maxRecDepth 100000 in
theorem mX12_by (l : Launch) (G : nG) (y : Nat) (mm : Nat) (msv : Nat) (mpa : Nat) (mio : Nat) (mfo : Nat) (mre : Nat) (mah : Nat) (mrw : Nat) (mrr : Nat) (mrs : Nat) (mrb : Nat) (mso : Nat) (mnu : Nat) (mse : Nat) (mbe : Nat) (men : Nat) (vS : Int32) (vC : Int32) (vT : Int32) (vF : Int32) (vL : Int32) (vK : Int32) (vR : Int32) (v0 : Int32) (vZ : Int32) (vB : Int32) (vN : Int32) (fm : Nat → Int32) (q : Int32) (q2 : Int32) (q3 : Int32) (sz : Nat) (hm : nMod fm) : Met l yX12_by wsX12_by ({ frames := 3, cells := 0, slots := 0, locals := 65 }) (va_Pc [.ref y, .int q, .int q2, .int q3] (n_pp G [(y, .inr (13, [.ref mm, .ref msv, .int vS, .ref mpa, .int vC, .int vT, .int vF, .ref mio, .ref mfo, .int vL, .ref mre, .int vK, .ref mah, .int vR, .ref mrw, .ref mrr, .ref mrs, .ref mrb, .int v0, .int vZ, .int vB, .int vN, .ref mso, .ref mnu, .ref mse, .ref mbe, .ref men])), (mm, eI G 1191 fm)] sz)) (va_Qi (fun (r : Int32) (_ : Unit) => r = 0) (fun (_ : Unit) (t : State) => n_po G (va_A [(y, .inr (13, [.ref mm, .ref msv, .int vS, .ref mpa, .int vC, .int vT, .int vF, .ref mio, .ref mfo, .int vL, .ref mre, .int vK, .ref mah, .int vR, .ref mrw, .ref mrr, .ref mrs, .ref mrb, .int v0, .int vZ, .int vB, .int vN, .ref mso, .ref mnu, .ref mse, .ref mbe, .ref men])), (mm, eI G 1191 fm)] sz) [(y, .inr (13, [.ref mm, .ref msv, .int vS, .ref mpa, .int vC, .int 1, .int vF, .ref mio, .ref mfo, .int vL, .ref mre, .int vK, .ref mah, .int vR, .ref mrw, .ref mrr, .ref mrs, .ref mrb, .int v0, .int vZ, .int vB, .int vN, .ref mso, .ref mnu, .ref mse, .ref mbe, .ref men]))] t) (va_A [(y, .inr (13, [.ref mm, .ref msv, .int vS, .ref mpa, .int vC, .int vT, .int vF, .ref mio, .ref mfo, .int vL, .ref mre, .int vK, .ref mah, .int vR, .ref mrw, .ref mrr, .ref mrs, .ref mrb, .int v0, .int vZ, .int vB, .int vN, .ref mso, .ref mnu, .ref mse, .ref mbe, .ref men])), (mm, eI G 1191 fm)] sz)) 0 0 (va_A [(y, .inr (13, [.ref mm, .ref msv, .int vS, .ref mpa, .int vC, .int vT, .int vF, .ref mio, .ref mfo, .int vL, .ref mre, .int vK, .ref mah, .int vR, .ref mrw, .ref mrr, .ref mrs, .ref mrb, .int v0, .int vZ, .int vB, .int vN, .ref mso, .ref mnu, .ref mse, .ref mbe, .ref men])), (mm, eI G 1191 fm)] sz) := by
  refine Met.ofW (cc := cX12_by) (maxL := 4) (ret := (some .int)) (by decide) rfl ?_
  intro p e s m args below meth c s₁ B hml hv
  obtain ⟨rfl, hsz, hP, hK, hD0⟩ := hv
  have hx := B.exec
  have hb := B.bytes
  have hr := B.returns
  have hts := atoms_spec (ws := wsX12_by) B.pre
  have hown : s.vm.findClass RX12 = some m.cls := findClass_of_methodNamed B.named
  have hlocks := B.notSynchronized
  subst hsz
  have hD := hD0.self (sz := s.heap.size)
  generalize hAe : va_A [(y, .inr (13, [.ref mm, .ref msv, .int vS, .ref mpa, .int vC, .int vT, .int vF, .ref mio, .ref mfo, .int vL, .ref mre, .int vK, .ref mah, .int vR, .ref mrw, .ref mrr, .ref mrs, .ref mrb, .int v0, .int vZ, .int vB, .int vN, .ref mso, .ref mnu, .ref mse, .ref mbe, .ref men])), (mm, eI G 1191 fm)] s.heap.size = A at hD ⊢
  have hA : ∀ q : Nat, s.heap.size ≤ q → A q := fun q h => by rw [← hAe]; exact Or.inr h
  have hS : va_S A s.heap s.heap [] := va_S.rf
  have hP : va_P G.1 vwCl [(y, .inr (13, [.ref mm, .ref msv, .int vS, .ref mpa, .int vC, .int vT, .int vF, .ref mio, .ref mfo, .int vL, .ref mre, .int vK, .ref mah, .int vR, .ref mrw, .ref mrr, .ref mrs, .ref mrb, .int v0, .int vZ, .int vB, .int vN, .ref mso, .ref mnu, .ref mse, .ref mbe, .ref men])), (mm, eI G 1191 fm)] s.heap := hP
  have hl := lv_entry ([.ref y, .int q, .int q2, .int q3]) (n := 4) (Nat.le_of_ble_eq_true rfl)
  rw [lg_entry_eq]
  generalize (lg_sl ([.ref y, .int q, .int q2, .int q3]) ++ List.replicate (4 - (lg_sl ([.ref y, .int q, .int q2, .int q3])).length) Slot.unset).toArray = ls at hl ⊢
  have hl : lv_has ls 4 [(0, .ref y), (1, .int q), (2, .int q2), (3, .int q3)] := hl
  obtain ⟨H, hH⟩ : ∃ z, z = s.heap := ⟨_, rfl⟩
  have hS : va_S A s.heap H [] := by rw [hH]; exact hS
  have hP : va_P G.1 vwCl [(y, .inr (13, [.ref mm, .ref msv, .int vS, .ref mpa, .int vC, .int vT, .int vF, .ref mio, .ref mfo, .int vL, .ref mre, .int vK, .ref mah, .int vR, .ref mrw, .ref mrr, .ref mrs, .ref mrb, .int v0, .int vZ, .int vB, .int vN, .ref mso, .ref mnu, .ref mse, .ref mbe, .ref men])), (mm, eI G 1191 fm)] H := by rw [hH]; exact hP
  refine n_heap hH ?_
  generalize ([] : List Loc) = locs at hS ⊢
  have hiX12 : ∀ w ∈ u_ws RX12 TX12 27, w ∈ wsX12_by := by decide +kernel
  refine lv_aload_n hx hb dX12_by_0 rfl (lv_at hl 0 rfl) ?_
  refine lv_aload_n hx hb dX12_by_1 rfl (lv_at hl 0 rfl) ?_
  refine lv_iload_n hx hb dX12_by_2 rfl (lv_at hl 1 rfl) ?_
  refine lv_iload_n hx hb dX12_by_3 rfl (lv_at hl 2 rfl) ?_
  refine n_ci (wr := []) (va_runV (As := [.int q, .int q2]) (rest := [.ref y]) ⟨hx, hb, hml, hown, hts⟩ (mX12_lacksForm l G y mm msv mpa mio mfo mre mah mrw mrr mrs mrb mso mnu mse mbe men vS vC vT vF vL vK vR v0 vZ vB vN fm q q2 H.size hm) (cwV 2 hts gX12_by_X12_lacksForm rfl rfl rfl (by decide +kernel) ⟨(Nat.le_of_ble_eq_true rfl), (Nat.le_of_ble_eq_true rfl)⟩) (n_prV (ci := 13) (q0 := 0) hK hP hD [0, 1] rfl (by decide) rfl rfl) rfl rfl hl.1 rfl (lv_room (Nat.le_of_ble_eq_true rfl)) dX12_by_4 ⟨(Nat.le_of_ble_eq_true rfl), (Nat.le_of_ble_eq_true rfl)⟩) hP hD hS hA [0, 1] [] rfl rfl (by decide) (by decide) (fun r_1 u_2 H locs hP hD hS hw => ?_)
  have hP : va_P G.1 vwCl [(y, .inr (13, [.ref mm, .ref msv, .int vS, .ref mpa, .int vC, .int vT, .int vF, .ref mio, .ref mfo, .int vL, .ref mre, .int vK, .ref mah, .int vR, .ref mrw, .ref mrr, .ref mrs, .ref mrb, .int v0, .int vZ, .int vB, .int vN, .ref mso, .ref mnu, .ref mse, .ref mbe, .ref men])), (mm, eI G 1191 fm)] H := hP
  have hD : va_D A [(y, .inr (13, [.ref mm, .ref msv, .int vS, .ref mpa, .int vC, .int vT, .int vF, .ref mio, .ref mfo, .int vL, .ref mre, .int vK, .ref mah, .int vR, .ref mrw, .ref mrr, .ref mrs, .ref mrb, .int v0, .int vZ, .int vB, .int vN, .ref mso, .ref mnu, .ref mse, .ref mbe, .ref men])), (mm, eI G 1191 fm)] := hD
  have hw : r_1 = 1 := hw
  subst hw
  refine va_put (D := G.1) (ci := 13) (v := .int 1) (ty := .int) (C := RX12) (T := TX12) (N := 27) hx hb hts hiX12 tyX12 tyX12_ok nmX12 hown hK hP hD hS 0 rfl rfl 5 (by decide) (hts (.fieldLink RX12 62 "DialectDictionaryModel" "thrown" "I") (by decide +kernel)) (fun _ h9 => h9) rfl (by decide +kernel) rfl rfl (Nat.le_of_ble_eq_true rfl) dX12_by_7 (fun H locs hP hD hS => ?_)
  have hP : va_P G.1 vwCl [(y, .inr (13, [.ref mm, .ref msv, .int vS, .ref mpa, .int vC, .int 1, .int vF, .ref mio, .ref mfo, .int vL, .ref mre, .int vK, .ref mah, .int vR, .ref mrw, .ref mrr, .ref mrs, .ref mrb, .int v0, .int vZ, .int vB, .int vN, .ref mso, .ref mnu, .ref mse, .ref mbe, .ref men])), (mm, eI G 1191 fm)] H := hP
  have hD : va_D A [(y, .inr (13, [.ref mm, .ref msv, .int vS, .ref mpa, .int vC, .int 1, .int vF, .ref mio, .ref mfo, .int vL, .ref mre, .int vK, .ref mah, .int vR, .ref mrw, .ref mrr, .ref mrs, .ref mrb, .int v0, .int vZ, .int vB, .int vN, .ref mso, .ref mnu, .ref mse, .ref mbe, .ref men])), (mm, eI G 1191 fm)] := hD
  refine lv_aload_n hx hb dX12_by_10 rfl (lv_at hl 0 rfl) ?_
  refine va_get (D := G.1) (ci := 13) (v := .int 1) (C := RX12) (T := TX12) (N := 27) hx hb hts hiX12 hown hK hP 0 rfl rfl 5 (by decide) (hts (.fieldLink RX12 62 "DialectDictionaryModel" "thrown" "I") (by decide +kernel)) (fun _ h9 => h9) rfl dX12_by_11 ?_
  refine lv_if_le (tgt := 19) hx hb dX12_by_14 (by decide) (fun h9 => absurd h9 (by decide)) (fun _ => ?_)
  refine lv_iconst (v := 0) hx hb dX12_by_17 (by decide) ?_
  have hP9 := n_Psub (wc := [(y, .inr (13, [.ref mm, .ref msv, .int vS, .ref mpa, .int vC, .int 1, .int vF, .ref mio, .ref mfo, .int vL, .ref mre, .int vK, .ref mah, .int vR, .ref mrw, .ref mrr, .ref mrs, .ref mrb, .int v0, .int vZ, .int vB, .int vN, .ref mso, .ref mnu, .ref mse, .ref mbe, .ref men]))]) hP [0] rfl
  have hD9 := hD.sub (ws' := [(y, .inr (13, [.ref mm, .ref msv, .int vS, .ref mpa, .int vC, .int 1, .int vF, .ref mio, .ref mfo, .int vL, .ref mre, .int vK, .ref mah, .int vR, .ref mrw, .ref mrr, .ref mrs, .ref mrb, .int v0, .int vZ, .int vB, .int vN, .ref mso, .ref mnu, .ref mse, .ref mbe, .ref men]))]) [0] (by decide) rfl
  refine W.widen (k := 0) (n := 0) (Nat.le_of_ble_eq_true rfl) (Nat.le_of_ble_eq_true rfl) ?_
  exact W.iret (v := 0) hx hb hr (fun t ht hW => ⟨⟨0, (), rfl, rfl, by rw [ht]; exact hP9, va_K.moved hW.alike hK, hD9⟩, hS.F ht⟩) hS.2.2 dX12_by_18

set_option maxHeartbeats 4000000 in
set_option maxRecDepth 100000 in
theorem mX12_proves (l : Launch) (G : nG) (y : Nat) (mm : Nat) (msv : Nat) (mpa : Nat) (mio : Nat) (mfo : Nat) (mre : Nat) (mah : Nat) (mrw : Nat) (mrr : Nat) (mrs : Nat) (mrb : Nat) (mso : Nat) (mnu : Nat) (mse : Nat) (mbe : Nat) (men : Nat) (vS : Int32) (vC : Int32) (vT : Int32) (vF : Int32) (vL : Int32) (vK : Int32) (vR : Int32) (v0 : Int32) (vZ : Int32) (vB : Int32) (vN : Int32) (fm : Nat → Int32) (q : Int32) (q2 : Int32) (q3 : Int32) (q4 : Int32) (sz : Nat) (hm : nMod fm) : Met l yX12_proves wsX12_proves ({ frames := 3, cells := 0, slots := 0, locals := 67 }) (va_Pc [.ref y, .int q, .int q2, .int q3, .int q4] (n_pp G [(y, .inr (13, [.ref mm, .ref msv, .int vS, .ref mpa, .int vC, .int vT, .int vF, .ref mio, .ref mfo, .int vL, .ref mre, .int vK, .ref mah, .int vR, .ref mrw, .ref mrr, .ref mrs, .ref mrb, .int v0, .int vZ, .int vB, .int vN, .ref mso, .ref mnu, .ref mse, .ref mbe, .ref men])), (mm, eI G 1191 fm)] sz)) (va_Qi (fun (r : Int32) (_ : Unit) => r = 0) (fun (_ : Unit) (t : State) => n_po G (va_A [(y, .inr (13, [.ref mm, .ref msv, .int vS, .ref mpa, .int vC, .int vT, .int vF, .ref mio, .ref mfo, .int vL, .ref mre, .int vK, .ref mah, .int vR, .ref mrw, .ref mrr, .ref mrs, .ref mrb, .int v0, .int vZ, .int vB, .int vN, .ref mso, .ref mnu, .ref mse, .ref mbe, .ref men])), (mm, eI G 1191 fm)] sz) [(y, .inr (13, [.ref mm, .ref msv, .int vS, .ref mpa, .int vC, .int 1, .int vF, .ref mio, .ref mfo, .int vL, .ref mre, .int vK, .ref mah, .int vR, .ref mrw, .ref mrr, .ref mrs, .ref mrb, .int v0, .int vZ, .int vB, .int vN, .ref mso, .ref mnu, .ref mse, .ref mbe, .ref men]))] t) (va_A [(y, .inr (13, [.ref mm, .ref msv, .int vS, .ref mpa, .int vC, .int vT, .int vF, .ref mio, .ref mfo, .int vL, .ref mre, .int vK, .ref mah, .int vR, .ref mrw, .ref mrr, .ref mrs, .ref mrb, .int v0, .int vZ, .int vB, .int vN, .ref mso, .ref mnu, .ref mse, .ref mbe, .ref men])), (mm, eI G 1191 fm)] sz)) 0 0 (va_A [(y, .inr (13, [.ref mm, .ref msv, .int vS, .ref mpa, .int vC, .int vT, .int vF, .ref mio, .ref mfo, .int vL, .ref mre, .int vK, .ref mah, .int vR, .ref mrw, .ref mrr, .ref mrs, .ref mrb, .int v0, .int vZ, .int vB, .int vN, .ref mso, .ref mnu, .ref mse, .ref mbe, .ref men])), (mm, eI G 1191 fm)] sz) := by
  refine Met.ofW (cc := cX12_proves) (maxL := 6) (ret := (some .int)) (by decide) rfl ?_
  intro p e s m args below meth c s₁ B hml hv
  obtain ⟨rfl, hsz, hP, hK, hD0⟩ := hv
  have hx := B.exec
  have hb := B.bytes
  have hr := B.returns
  have hts := atoms_spec (ws := wsX12_proves) B.pre
  have hown : s.vm.findClass RX12 = some m.cls := findClass_of_methodNamed B.named
  have hlocks := B.notSynchronized
  subst hsz
  have hD := hD0.self (sz := s.heap.size)
  generalize hAe : va_A [(y, .inr (13, [.ref mm, .ref msv, .int vS, .ref mpa, .int vC, .int vT, .int vF, .ref mio, .ref mfo, .int vL, .ref mre, .int vK, .ref mah, .int vR, .ref mrw, .ref mrr, .ref mrs, .ref mrb, .int v0, .int vZ, .int vB, .int vN, .ref mso, .ref mnu, .ref mse, .ref mbe, .ref men])), (mm, eI G 1191 fm)] s.heap.size = A at hD ⊢
  have hA : ∀ q : Nat, s.heap.size ≤ q → A q := fun q h => by rw [← hAe]; exact Or.inr h
  have hS : va_S A s.heap s.heap [] := va_S.rf
  have hP : va_P G.1 vwCl [(y, .inr (13, [.ref mm, .ref msv, .int vS, .ref mpa, .int vC, .int vT, .int vF, .ref mio, .ref mfo, .int vL, .ref mre, .int vK, .ref mah, .int vR, .ref mrw, .ref mrr, .ref mrs, .ref mrb, .int v0, .int vZ, .int vB, .int vN, .ref mso, .ref mnu, .ref mse, .ref mbe, .ref men])), (mm, eI G 1191 fm)] s.heap := hP
  have hl := lv_entry ([.ref y, .int q, .int q2, .int q3, .int q4]) (n := 6) (Nat.le_of_ble_eq_true rfl)
  rw [lg_entry_eq]
  generalize (lg_sl ([.ref y, .int q, .int q2, .int q3, .int q4]) ++ List.replicate (6 - (lg_sl ([.ref y, .int q, .int q2, .int q3, .int q4])).length) Slot.unset).toArray = ls at hl ⊢
  have hl : lv_has ls 6 [(0, .ref y), (1, .int q), (2, .int q2), (3, .int q3), (4, .int q4)] := hl
  obtain ⟨H, hH⟩ : ∃ z, z = s.heap := ⟨_, rfl⟩
  have hS : va_S A s.heap H [] := by rw [hH]; exact hS
  have hP : va_P G.1 vwCl [(y, .inr (13, [.ref mm, .ref msv, .int vS, .ref mpa, .int vC, .int vT, .int vF, .ref mio, .ref mfo, .int vL, .ref mre, .int vK, .ref mah, .int vR, .ref mrw, .ref mrr, .ref mrs, .ref mrb, .int v0, .int vZ, .int vB, .int vN, .ref mso, .ref mnu, .ref mse, .ref mbe, .ref men])), (mm, eI G 1191 fm)] H := by rw [hH]; exact hP
  refine n_heap hH ?_
  generalize ([] : List Loc) = locs at hS ⊢
  have hiX12 : ∀ w ∈ u_ws RX12 TX12 27, w ∈ wsX12_proves := by decide +kernel
  refine lv_aload_n hx hb dX12_proves_0 rfl (lv_at hl 0 rfl) ?_
  refine lv_aload_n hx hb dX12_proves_1 rfl (lv_at hl 0 rfl) ?_
  refine lv_iload_n hx hb dX12_proves_2 rfl (lv_at hl 1 rfl) ?_
  refine lv_iload_n hx hb dX12_proves_3 rfl (lv_at hl 2 rfl) ?_
  refine lv_iload_n hx hb dX12_proves_4 rfl (lv_at hl 3 rfl) ?_
  refine lv_iload hx hb dX12_proves_5 (lv_at hl 4 rfl) ?_
  refine n_ci (wr := []) (va_runV (As := [.int q, .int q2, .int q3, .int q4]) (rest := [.ref y]) ⟨hx, hb, hml, hown, hts⟩ (mX12_lacksEither l G y mm msv mpa mio mfo mre mah mrw mrr mrs mrb mso mnu mse mbe men vS vC vT vF vL vK vR v0 vZ vB vN fm q q2 q3 q4 H.size hm) (cwV 4 hts gX12_proves_X12_lacksEither rfl rfl rfl (by decide +kernel) ⟨(Nat.le_of_ble_eq_true rfl), (Nat.le_of_ble_eq_true rfl)⟩) (n_prV (ci := 13) (q0 := 0) hK hP hD [0, 1] rfl (by decide) rfl rfl) rfl rfl hl.1 rfl (lv_room (Nat.le_of_ble_eq_true rfl)) dX12_proves_7 ⟨(Nat.le_of_ble_eq_true rfl), (Nat.le_of_ble_eq_true rfl)⟩) hP hD hS hA [0, 1] [] rfl rfl (by decide) (by decide) (fun r_1 u_2 H locs hP hD hS hw => ?_)
  have hP : va_P G.1 vwCl [(y, .inr (13, [.ref mm, .ref msv, .int vS, .ref mpa, .int vC, .int vT, .int vF, .ref mio, .ref mfo, .int vL, .ref mre, .int vK, .ref mah, .int vR, .ref mrw, .ref mrr, .ref mrs, .ref mrb, .int v0, .int vZ, .int vB, .int vN, .ref mso, .ref mnu, .ref mse, .ref mbe, .ref men])), (mm, eI G 1191 fm)] H := hP
  have hD : va_D A [(y, .inr (13, [.ref mm, .ref msv, .int vS, .ref mpa, .int vC, .int vT, .int vF, .ref mio, .ref mfo, .int vL, .ref mre, .int vK, .ref mah, .int vR, .ref mrw, .ref mrr, .ref mrs, .ref mrb, .int v0, .int vZ, .int vB, .int vN, .ref mso, .ref mnu, .ref mse, .ref mbe, .ref men])), (mm, eI G 1191 fm)] := hD
  have hw : r_1 = 1 := hw
  subst hw
  refine va_put (D := G.1) (ci := 13) (v := .int 1) (ty := .int) (C := RX12) (T := TX12) (N := 27) hx hb hts hiX12 tyX12 tyX12_ok nmX12 hown hK hP hD hS 0 rfl rfl 5 (by decide) (hts (.fieldLink RX12 62 "DialectDictionaryModel" "thrown" "I") (by decide +kernel)) (fun _ h9 => h9) rfl (by decide +kernel) rfl rfl (Nat.le_of_ble_eq_true rfl) dX12_proves_10 (fun H locs hP hD hS => ?_)
  have hP : va_P G.1 vwCl [(y, .inr (13, [.ref mm, .ref msv, .int vS, .ref mpa, .int vC, .int 1, .int vF, .ref mio, .ref mfo, .int vL, .ref mre, .int vK, .ref mah, .int vR, .ref mrw, .ref mrr, .ref mrs, .ref mrb, .int v0, .int vZ, .int vB, .int vN, .ref mso, .ref mnu, .ref mse, .ref mbe, .ref men])), (mm, eI G 1191 fm)] H := hP
  have hD : va_D A [(y, .inr (13, [.ref mm, .ref msv, .int vS, .ref mpa, .int vC, .int 1, .int vF, .ref mio, .ref mfo, .int vL, .ref mre, .int vK, .ref mah, .int vR, .ref mrw, .ref mrr, .ref mrs, .ref mrb, .int v0, .int vZ, .int vB, .int vN, .ref mso, .ref mnu, .ref mse, .ref mbe, .ref men])), (mm, eI G 1191 fm)] := hD
  refine lv_aload_n hx hb dX12_proves_13 rfl (lv_at hl 0 rfl) ?_
  refine va_get (D := G.1) (ci := 13) (v := .int 1) (C := RX12) (T := TX12) (N := 27) hx hb hts hiX12 hown hK hP 0 rfl rfl 5 (by decide) (hts (.fieldLink RX12 62 "DialectDictionaryModel" "thrown" "I") (by decide +kernel)) (fun _ h9 => h9) rfl dX12_proves_14 ?_
  refine lv_if_le (tgt := 22) hx hb dX12_proves_17 (by decide) (fun h9 => absurd h9 (by decide)) (fun _ => ?_)
  refine lv_iconst (v := 0) hx hb dX12_proves_20 (by decide) ?_
  have hP9 := n_Psub (wc := [(y, .inr (13, [.ref mm, .ref msv, .int vS, .ref mpa, .int vC, .int 1, .int vF, .ref mio, .ref mfo, .int vL, .ref mre, .int vK, .ref mah, .int vR, .ref mrw, .ref mrr, .ref mrs, .ref mrb, .int v0, .int vZ, .int vB, .int vN, .ref mso, .ref mnu, .ref mse, .ref mbe, .ref men]))]) hP [0] rfl
  have hD9 := hD.sub (ws' := [(y, .inr (13, [.ref mm, .ref msv, .int vS, .ref mpa, .int vC, .int 1, .int vF, .ref mio, .ref mfo, .int vL, .ref mre, .int vK, .ref mah, .int vR, .ref mrw, .ref mrr, .ref mrs, .ref mrb, .int v0, .int vZ, .int vB, .int vN, .ref mso, .ref mnu, .ref mse, .ref mbe, .ref men]))]) [0] (by decide) rfl
  refine W.widen (k := 0) (n := 0) (Nat.le_of_ble_eq_true rfl) (Nat.le_of_ble_eq_true rfl) ?_
  exact W.iret (v := 0) hx hb hr (fun t ht hW => ⟨⟨0, (), rfl, rfl, by rw [ht]; exact hP9, va_K.moved hW.alike hK, hD9⟩, hS.F ht⟩) hS.2.2 dX12_proves_21

set_option maxHeartbeats 4000000 in
set_option maxRecDepth 100000 in
theorem mX12_exchange (l : Launch) (G : nG) (y : Nat) (mm : Nat) (msv : Nat) (mpa : Nat) (mio : Nat) (mfo : Nat) (mre : Nat) (mah : Nat) (mrw : Nat) (mrr : Nat) (mrs : Nat) (mrb : Nat) (mso : Nat) (mnu : Nat) (mse : Nat) (mbe : Nat) (men : Nat) (vS : Int32) (vC : Int32) (vT : Int32) (vF : Int32) (vL : Int32) (vK : Int32) (vR : Int32) (v0 : Int32) (vZ : Int32) (vB : Int32) (vN : Int32) (fm : Nat → Int32) (q : Int32) (q2 : Int32) (sz : Nat) (hm : nMod fm) : Met l yX12_exchange wsX12_exchange ({ frames := 2, cells := 0, slots := 0, locals := 43 }) (va_Pc [.ref y, .int q, .int q2] (n_pp G [(y, .inr (13, [.ref mm, .ref msv, .int vS, .ref mpa, .int vC, .int vT, .int vF, .ref mio, .ref mfo, .int vL, .ref mre, .int vK, .ref mah, .int vR, .ref mrw, .ref mrr, .ref mrs, .ref mrb, .int v0, .int vZ, .int vB, .int vN, .ref mso, .ref mnu, .ref mse, .ref mbe, .ref men])), (mm, eI G 1191 fm)] sz)) (va_Qi (fun (r : Int32) (_ : Unit) => r = 0) (fun (_ : Unit) (t : State) => n_po G (va_A [(y, .inr (13, [.ref mm, .ref msv, .int vS, .ref mpa, .int vC, .int vT, .int vF, .ref mio, .ref mfo, .int vL, .ref mre, .int vK, .ref mah, .int vR, .ref mrw, .ref mrr, .ref mrs, .ref mrb, .int v0, .int vZ, .int vB, .int vN, .ref mso, .ref mnu, .ref mse, .ref mbe, .ref men])), (mm, eI G 1191 fm)] sz) [(y, .inr (13, [.ref mm, .ref msv, .int vS, .ref mpa, .int vC, .int 1, .int vF, .ref mio, .ref mfo, .int vL, .ref mre, .int vK, .ref mah, .int vR, .ref mrw, .ref mrr, .ref mrs, .ref mrb, .int v0, .int vZ, .int vB, .int vN, .ref mso, .ref mnu, .ref mse, .ref mbe, .ref men]))] t) (va_A [(y, .inr (13, [.ref mm, .ref msv, .int vS, .ref mpa, .int vC, .int vT, .int vF, .ref mio, .ref mfo, .int vL, .ref mre, .int vK, .ref mah, .int vR, .ref mrw, .ref mrr, .ref mrs, .ref mrb, .int v0, .int vZ, .int vB, .int vN, .ref mso, .ref mnu, .ref mse, .ref mbe, .ref men])), (mm, eI G 1191 fm)] sz)) 0 0 (va_A [(y, .inr (13, [.ref mm, .ref msv, .int vS, .ref mpa, .int vC, .int vT, .int vF, .ref mio, .ref mfo, .int vL, .ref mre, .int vK, .ref mah, .int vR, .ref mrw, .ref mrr, .ref mrs, .ref mrb, .int v0, .int vZ, .int vB, .int vN, .ref mso, .ref mnu, .ref mse, .ref mbe, .ref men])), (mm, eI G 1191 fm)] sz) := by
  refine Met.ofW (cc := cX12_exchange) (maxL := 5) (ret := (some .int)) (by decide) rfl ?_
  intro p e s m args below meth c s₁ B hml hv
  obtain ⟨rfl, hsz, hP, hK, hD0⟩ := hv
  have hx := B.exec
  have hb := B.bytes
  have hr := B.returns
  have hts := atoms_spec (ws := wsX12_exchange) B.pre
  have hown : s.vm.findClass RX12 = some m.cls := findClass_of_methodNamed B.named
  have hlocks := B.notSynchronized
  subst hsz
  have hD := hD0.self (sz := s.heap.size)
  generalize hAe : va_A [(y, .inr (13, [.ref mm, .ref msv, .int vS, .ref mpa, .int vC, .int vT, .int vF, .ref mio, .ref mfo, .int vL, .ref mre, .int vK, .ref mah, .int vR, .ref mrw, .ref mrr, .ref mrs, .ref mrb, .int v0, .int vZ, .int vB, .int vN, .ref mso, .ref mnu, .ref mse, .ref mbe, .ref men])), (mm, eI G 1191 fm)] s.heap.size = A at hD ⊢
  have hA : ∀ q : Nat, s.heap.size ≤ q → A q := fun q h => by rw [← hAe]; exact Or.inr h
  have hS : va_S A s.heap s.heap [] := va_S.rf
  have hP : va_P G.1 vwCl [(y, .inr (13, [.ref mm, .ref msv, .int vS, .ref mpa, .int vC, .int vT, .int vF, .ref mio, .ref mfo, .int vL, .ref mre, .int vK, .ref mah, .int vR, .ref mrw, .ref mrr, .ref mrs, .ref mrb, .int v0, .int vZ, .int vB, .int vN, .ref mso, .ref mnu, .ref mse, .ref mbe, .ref men])), (mm, eI G 1191 fm)] s.heap := hP
  have hl := lv_entry ([.ref y, .int q, .int q2]) (n := 5) (Nat.le_of_ble_eq_true rfl)
  rw [lg_entry_eq]
  generalize (lg_sl ([.ref y, .int q, .int q2]) ++ List.replicate (5 - (lg_sl ([.ref y, .int q, .int q2])).length) Slot.unset).toArray = ls at hl ⊢
  have hl : lv_has ls 5 [(0, .ref y), (1, .int q), (2, .int q2)] := hl
  obtain ⟨H, hH⟩ : ∃ z, z = s.heap := ⟨_, rfl⟩
  have hS : va_S A s.heap H [] := by rw [hH]; exact hS
  have hP : va_P G.1 vwCl [(y, .inr (13, [.ref mm, .ref msv, .int vS, .ref mpa, .int vC, .int vT, .int vF, .ref mio, .ref mfo, .int vL, .ref mre, .int vK, .ref mah, .int vR, .ref mrw, .ref mrr, .ref mrs, .ref mrb, .int v0, .int vZ, .int vB, .int vN, .ref mso, .ref mnu, .ref mse, .ref mbe, .ref men])), (mm, eI G 1191 fm)] H := by rw [hH]; exact hP
  refine n_heap hH ?_
  generalize ([] : List Loc) = locs at hS ⊢
  have hiX12 : ∀ w ∈ u_ws RX12 TX12 27, w ∈ wsX12_exchange := by decide +kernel
  refine lv_aload_n hx hb dX12_exchange_0 rfl (lv_at hl 0 rfl) ?_
  refine lv_aload_n hx hb dX12_exchange_1 rfl (lv_at hl 0 rfl) ?_
  refine lv_iload_n hx hb dX12_exchange_2 rfl (lv_at hl 1 rfl) ?_
  refine n_ci (wr := []) (va_runV (As := [.int q]) (rest := [.ref y]) ⟨hx, hb, hml, hown, hts⟩ (mX12_isRule l G y mm msv mpa mio mfo mre mah mrw mrr mrs mrb mso mnu mse mbe men vS vC vT vF vL vK vR v0 vZ vB vN fm q H.size hm) (cwV 1 hts gX12_exchange_X12_isRule rfl rfl rfl (by decide +kernel) ⟨(Nat.le_of_ble_eq_true rfl), (Nat.le_of_ble_eq_true rfl)⟩) (n_prV (ci := 13) (q0 := 0) hK hP hD [0, 1] rfl (by decide) rfl rfl) rfl rfl hl.1 rfl (lv_room (Nat.le_of_ble_eq_true rfl)) dX12_exchange_3 ⟨(Nat.le_of_ble_eq_true rfl), (Nat.le_of_ble_eq_true rfl)⟩) hP hD hS hA [0, 1] [] rfl rfl (by decide) (by decide) (fun r_1 u_2 H locs hP hD hS hw => ?_)
  have hP : va_P G.1 vwCl [(y, .inr (13, [.ref mm, .ref msv, .int vS, .ref mpa, .int vC, .int vT, .int vF, .ref mio, .ref mfo, .int vL, .ref mre, .int vK, .ref mah, .int vR, .ref mrw, .ref mrr, .ref mrs, .ref mrb, .int v0, .int vZ, .int vB, .int vN, .ref mso, .ref mnu, .ref mse, .ref mbe, .ref men])), (mm, eI G 1191 fm)] H := hP
  have hD : va_D A [(y, .inr (13, [.ref mm, .ref msv, .int vS, .ref mpa, .int vC, .int vT, .int vF, .ref mio, .ref mfo, .int vL, .ref mre, .int vK, .ref mah, .int vR, .ref mrw, .ref mrr, .ref mrs, .ref mrb, .int v0, .int vZ, .int vB, .int vN, .ref mso, .ref mnu, .ref mse, .ref mbe, .ref men])), (mm, eI G 1191 fm)] := hD
  have hw : r_1 = 0 := hw
  subst hw
  refine lv_if_eq (tgt := 21) hx hb dX12_exchange_6 (by decide) (fun _ => ?_) (fun h9 => absurd (by decide) h9)
  refine lv_iconst (v := 1) hx hb dX12_exchange_21 (by decide) ?_
  refine va_put (D := G.1) (ci := 13) (v := .int 1) (ty := .int) (C := RX12) (T := TX12) (N := 27) hx hb hts hiX12 tyX12 tyX12_ok nmX12 hown hK hP hD hS 0 rfl rfl 5 (by decide) (hts (.fieldLink RX12 62 "DialectDictionaryModel" "thrown" "I") (by decide +kernel)) (fun _ h9 => h9) rfl (by decide +kernel) rfl rfl (Nat.le_of_ble_eq_true rfl) dX12_exchange_22 (fun H locs hP hD hS => ?_)
  have hP : va_P G.1 vwCl [(y, .inr (13, [.ref mm, .ref msv, .int vS, .ref mpa, .int vC, .int 1, .int vF, .ref mio, .ref mfo, .int vL, .ref mre, .int vK, .ref mah, .int vR, .ref mrw, .ref mrr, .ref mrs, .ref mrb, .int v0, .int vZ, .int vB, .int vN, .ref mso, .ref mnu, .ref mse, .ref mbe, .ref men])), (mm, eI G 1191 fm)] H := hP
  have hD : va_D A [(y, .inr (13, [.ref mm, .ref msv, .int vS, .ref mpa, .int vC, .int 1, .int vF, .ref mio, .ref mfo, .int vL, .ref mre, .int vK, .ref mah, .int vR, .ref mrw, .ref mrr, .ref mrs, .ref mrb, .int v0, .int vZ, .int vB, .int vN, .ref mso, .ref mnu, .ref mse, .ref mbe, .ref men])), (mm, eI G 1191 fm)] := hD
  refine lv_aload_n hx hb dX12_exchange_25 rfl (lv_at hl 0 rfl) ?_
  refine va_get (D := G.1) (ci := 13) (v := .int 1) (C := RX12) (T := TX12) (N := 27) hx hb hts hiX12 hown hK hP 0 rfl rfl 5 (by decide) (hts (.fieldLink RX12 62 "DialectDictionaryModel" "thrown" "I") (by decide +kernel)) (fun _ h9 => h9) rfl dX12_exchange_26 ?_
  refine lv_if_le (tgt := 34) hx hb dX12_exchange_29 (by decide) (fun h9 => absurd h9 (by decide)) (fun _ => ?_)
  refine lv_iconst (v := 0) hx hb dX12_exchange_32 (by decide) ?_
  have hP9 := n_Psub (wc := [(y, .inr (13, [.ref mm, .ref msv, .int vS, .ref mpa, .int vC, .int 1, .int vF, .ref mio, .ref mfo, .int vL, .ref mre, .int vK, .ref mah, .int vR, .ref mrw, .ref mrr, .ref mrs, .ref mrb, .int v0, .int vZ, .int vB, .int vN, .ref mso, .ref mnu, .ref mse, .ref mbe, .ref men]))]) hP [0] rfl
  have hD9 := hD.sub (ws' := [(y, .inr (13, [.ref mm, .ref msv, .int vS, .ref mpa, .int vC, .int 1, .int vF, .ref mio, .ref mfo, .int vL, .ref mre, .int vK, .ref mah, .int vR, .ref mrw, .ref mrr, .ref mrs, .ref mrb, .int v0, .int vZ, .int vB, .int vN, .ref mso, .ref mnu, .ref mse, .ref mbe, .ref men]))]) [0] (by decide) rfl
  refine W.widen (k := 0) (n := 0) (Nat.le_of_ble_eq_true rfl) (Nat.le_of_ble_eq_true rfl) ?_
  exact W.iret (v := 0) hx hb hr (fun t ht hW => ⟨⟨0, (), rfl, rfl, by rw [ht]; exact hP9, va_K.moved hW.alike hK, hD9⟩, hS.F ht⟩) hS.2.2 dX12_exchange_33

set_option maxHeartbeats 4000000 in
set_option maxRecDepth 100000 in
theorem mX12_removeRule (l : Launch) (G : nG) (y : Nat) (mm : Nat) (msv : Nat) (mpa : Nat) (mio : Nat) (mfo : Nat) (mre : Nat) (mah : Nat) (mrw : Nat) (mrr : Nat) (mrs : Nat) (mrb : Nat) (mso : Nat) (mnu : Nat) (mse : Nat) (mbe : Nat) (men : Nat) (vS : Int32) (vC : Int32) (vT : Int32) (vF : Int32) (vL : Int32) (vK : Int32) (vR : Int32) (v0 : Int32) (vZ : Int32) (vB : Int32) (vN : Int32) (fm : Nat → Int32) (q : Int32) (sz : Nat) (hm : nMod fm) : Met l yX12_removeRule wsX12_removeRule ({ frames := 2, cells := 0, slots := 0, locals := 43 }) (va_Pc [.ref y, .int q] (n_pp G [(y, .inr (13, [.ref mm, .ref msv, .int vS, .ref mpa, .int vC, .int vT, .int vF, .ref mio, .ref mfo, .int vL, .ref mre, .int vK, .ref mah, .int vR, .ref mrw, .ref mrr, .ref mrs, .ref mrb, .int v0, .int vZ, .int vB, .int vN, .ref mso, .ref mnu, .ref mse, .ref mbe, .ref men])), (mm, eI G 1191 fm)] sz)) (va_Qi (fun (r : Int32) (_ : Unit) => r = 0) (fun (_ : Unit) (t : State) => n_po G (va_A [(y, .inr (13, [.ref mm, .ref msv, .int vS, .ref mpa, .int vC, .int vT, .int vF, .ref mio, .ref mfo, .int vL, .ref mre, .int vK, .ref mah, .int vR, .ref mrw, .ref mrr, .ref mrs, .ref mrb, .int v0, .int vZ, .int vB, .int vN, .ref mso, .ref mnu, .ref mse, .ref mbe, .ref men])), (mm, eI G 1191 fm)] sz) [(y, .inr (13, [.ref mm, .ref msv, .int vS, .ref mpa, .int vC, .int 1, .int vF, .ref mio, .ref mfo, .int vL, .ref mre, .int vK, .ref mah, .int vR, .ref mrw, .ref mrr, .ref mrs, .ref mrb, .int v0, .int vZ, .int vB, .int vN, .ref mso, .ref mnu, .ref mse, .ref mbe, .ref men]))] t) (va_A [(y, .inr (13, [.ref mm, .ref msv, .int vS, .ref mpa, .int vC, .int vT, .int vF, .ref mio, .ref mfo, .int vL, .ref mre, .int vK, .ref mah, .int vR, .ref mrw, .ref mrr, .ref mrs, .ref mrb, .int v0, .int vZ, .int vB, .int vN, .ref mso, .ref mnu, .ref mse, .ref mbe, .ref men])), (mm, eI G 1191 fm)] sz)) 0 0 (va_A [(y, .inr (13, [.ref mm, .ref msv, .int vS, .ref mpa, .int vC, .int vT, .int vF, .ref mio, .ref mfo, .int vL, .ref mre, .int vK, .ref mah, .int vR, .ref mrw, .ref mrr, .ref mrs, .ref mrb, .int v0, .int vZ, .int vB, .int vN, .ref mso, .ref mnu, .ref mse, .ref mbe, .ref men])), (mm, eI G 1191 fm)] sz) := by
  refine Met.ofW (cc := cX12_removeRule) (maxL := 3) (ret := (some .int)) (by decide) rfl ?_
  intro p e s m args below meth c s₁ B hml hv
  obtain ⟨rfl, hsz, hP, hK, hD0⟩ := hv
  have hx := B.exec
  have hb := B.bytes
  have hr := B.returns
  have hts := atoms_spec (ws := wsX12_removeRule) B.pre
  have hown : s.vm.findClass RX12 = some m.cls := findClass_of_methodNamed B.named
  have hlocks := B.notSynchronized
  subst hsz
  have hD := hD0.self (sz := s.heap.size)
  generalize hAe : va_A [(y, .inr (13, [.ref mm, .ref msv, .int vS, .ref mpa, .int vC, .int vT, .int vF, .ref mio, .ref mfo, .int vL, .ref mre, .int vK, .ref mah, .int vR, .ref mrw, .ref mrr, .ref mrs, .ref mrb, .int v0, .int vZ, .int vB, .int vN, .ref mso, .ref mnu, .ref mse, .ref mbe, .ref men])), (mm, eI G 1191 fm)] s.heap.size = A at hD ⊢
  have hA : ∀ q : Nat, s.heap.size ≤ q → A q := fun q h => by rw [← hAe]; exact Or.inr h
  have hS : va_S A s.heap s.heap [] := va_S.rf
  have hP : va_P G.1 vwCl [(y, .inr (13, [.ref mm, .ref msv, .int vS, .ref mpa, .int vC, .int vT, .int vF, .ref mio, .ref mfo, .int vL, .ref mre, .int vK, .ref mah, .int vR, .ref mrw, .ref mrr, .ref mrs, .ref mrb, .int v0, .int vZ, .int vB, .int vN, .ref mso, .ref mnu, .ref mse, .ref mbe, .ref men])), (mm, eI G 1191 fm)] s.heap := hP
  have hl := lv_entry ([.ref y, .int q]) (n := 3) (Nat.le_of_ble_eq_true rfl)
  rw [lg_entry_eq]
  generalize (lg_sl ([.ref y, .int q]) ++ List.replicate (3 - (lg_sl ([.ref y, .int q])).length) Slot.unset).toArray = ls at hl ⊢
  have hl : lv_has ls 3 [(0, .ref y), (1, .int q)] := hl
  obtain ⟨H, hH⟩ : ∃ z, z = s.heap := ⟨_, rfl⟩
  have hS : va_S A s.heap H [] := by rw [hH]; exact hS
  have hP : va_P G.1 vwCl [(y, .inr (13, [.ref mm, .ref msv, .int vS, .ref mpa, .int vC, .int vT, .int vF, .ref mio, .ref mfo, .int vL, .ref mre, .int vK, .ref mah, .int vR, .ref mrw, .ref mrr, .ref mrs, .ref mrb, .int v0, .int vZ, .int vB, .int vN, .ref mso, .ref mnu, .ref mse, .ref mbe, .ref men])), (mm, eI G 1191 fm)] H := by rw [hH]; exact hP
  refine n_heap hH ?_
  generalize ([] : List Loc) = locs at hS ⊢
  have hiX12 : ∀ w ∈ u_ws RX12 TX12 27, w ∈ wsX12_removeRule := by decide +kernel
  refine lv_aload_n hx hb dX12_removeRule_0 rfl (lv_at hl 0 rfl) ?_
  refine lv_aload_n hx hb dX12_removeRule_1 rfl (lv_at hl 0 rfl) ?_
  refine lv_iload_n hx hb dX12_removeRule_2 rfl (lv_at hl 1 rfl) ?_
  refine n_ci (wr := []) (va_runV (As := [.int q]) (rest := [.ref y]) ⟨hx, hb, hml, hown, hts⟩ (mX12_isRule l G y mm msv mpa mio mfo mre mah mrw mrr mrs mrb mso mnu mse mbe men vS vC vT vF vL vK vR v0 vZ vB vN fm q H.size hm) (cwV 1 hts gX12_removeRule_X12_isRule rfl rfl rfl (by decide +kernel) ⟨(Nat.le_of_ble_eq_true rfl), (Nat.le_of_ble_eq_true rfl)⟩) (n_prV (ci := 13) (q0 := 0) hK hP hD [0, 1] rfl (by decide) rfl rfl) rfl rfl hl.1 rfl (lv_room (Nat.le_of_ble_eq_true rfl)) dX12_removeRule_3 ⟨(Nat.le_of_ble_eq_true rfl), (Nat.le_of_ble_eq_true rfl)⟩) hP hD hS hA [0, 1] [] rfl rfl (by decide) (by decide) (fun r_1 u_2 H locs hP hD hS hw => ?_)
  have hP : va_P G.1 vwCl [(y, .inr (13, [.ref mm, .ref msv, .int vS, .ref mpa, .int vC, .int vT, .int vF, .ref mio, .ref mfo, .int vL, .ref mre, .int vK, .ref mah, .int vR, .ref mrw, .ref mrr, .ref mrs, .ref mrb, .int v0, .int vZ, .int vB, .int vN, .ref mso, .ref mnu, .ref mse, .ref mbe, .ref men])), (mm, eI G 1191 fm)] H := hP
  have hD : va_D A [(y, .inr (13, [.ref mm, .ref msv, .int vS, .ref mpa, .int vC, .int vT, .int vF, .ref mio, .ref mfo, .int vL, .ref mre, .int vK, .ref mah, .int vR, .ref mrw, .ref mrr, .ref mrs, .ref mrb, .int v0, .int vZ, .int vB, .int vN, .ref mso, .ref mnu, .ref mse, .ref mbe, .ref men])), (mm, eI G 1191 fm)] := hD
  have hw : r_1 = 0 := hw
  subst hw
  refine lv_if_eq (tgt := 13) hx hb dX12_removeRule_6 (by decide) (fun _ => ?_) (fun h9 => absurd (by decide) h9)
  refine lv_iconst (v := 1) hx hb dX12_removeRule_13 (by decide) ?_
  refine va_put (D := G.1) (ci := 13) (v := .int 1) (ty := .int) (C := RX12) (T := TX12) (N := 27) hx hb hts hiX12 tyX12 tyX12_ok nmX12 hown hK hP hD hS 0 rfl rfl 5 (by decide) (hts (.fieldLink RX12 62 "DialectDictionaryModel" "thrown" "I") (by decide +kernel)) (fun _ h9 => h9) rfl (by decide +kernel) rfl rfl (Nat.le_of_ble_eq_true rfl) dX12_removeRule_14 (fun H locs hP hD hS => ?_)
  have hP : va_P G.1 vwCl [(y, .inr (13, [.ref mm, .ref msv, .int vS, .ref mpa, .int vC, .int 1, .int vF, .ref mio, .ref mfo, .int vL, .ref mre, .int vK, .ref mah, .int vR, .ref mrw, .ref mrr, .ref mrs, .ref mrb, .int v0, .int vZ, .int vB, .int vN, .ref mso, .ref mnu, .ref mse, .ref mbe, .ref men])), (mm, eI G 1191 fm)] H := hP
  have hD : va_D A [(y, .inr (13, [.ref mm, .ref msv, .int vS, .ref mpa, .int vC, .int 1, .int vF, .ref mio, .ref mfo, .int vL, .ref mre, .int vK, .ref mah, .int vR, .ref mrw, .ref mrr, .ref mrs, .ref mrb, .int v0, .int vZ, .int vB, .int vN, .ref mso, .ref mnu, .ref mse, .ref mbe, .ref men])), (mm, eI G 1191 fm)] := hD
  refine lv_aload_n hx hb dX12_removeRule_17 rfl (lv_at hl 0 rfl) ?_
  refine va_get (D := G.1) (ci := 13) (v := .int 1) (C := RX12) (T := TX12) (N := 27) hx hb hts hiX12 hown hK hP 0 rfl rfl 5 (by decide) (hts (.fieldLink RX12 62 "DialectDictionaryModel" "thrown" "I") (by decide +kernel)) (fun _ h9 => h9) rfl dX12_removeRule_18 ?_
  refine lv_if_le (tgt := 26) hx hb dX12_removeRule_21 (by decide) (fun h9 => absurd h9 (by decide)) (fun _ => ?_)
  refine lv_iconst (v := 0) hx hb dX12_removeRule_24 (by decide) ?_
  have hP9 := n_Psub (wc := [(y, .inr (13, [.ref mm, .ref msv, .int vS, .ref mpa, .int vC, .int 1, .int vF, .ref mio, .ref mfo, .int vL, .ref mre, .int vK, .ref mah, .int vR, .ref mrw, .ref mrr, .ref mrs, .ref mrb, .int v0, .int vZ, .int vB, .int vN, .ref mso, .ref mnu, .ref mse, .ref mbe, .ref men]))]) hP [0] rfl
  have hD9 := hD.sub (ws' := [(y, .inr (13, [.ref mm, .ref msv, .int vS, .ref mpa, .int vC, .int 1, .int vF, .ref mio, .ref mfo, .int vL, .ref mre, .int vK, .ref mah, .int vR, .ref mrw, .ref mrr, .ref mrs, .ref mrb, .int v0, .int vZ, .int vB, .int vN, .ref mso, .ref mnu, .ref mse, .ref mbe, .ref men]))]) [0] (by decide) rfl
  refine W.widen (k := 0) (n := 0) (Nat.le_of_ble_eq_true rfl) (Nat.le_of_ble_eq_true rfl) ?_
  exact W.iret (v := 0) hx hb hr (fun t ht hW => ⟨⟨0, (), rfl, rfl, by rw [ht]; exact hP9, va_K.moved hW.alike hK, hD9⟩, hS.F ht⟩) hS.2.2 dX12_removeRule_25

set_option maxHeartbeats 4000000 in
set_option maxRecDepth 100000 in
theorem mX12_rule (l : Launch) (G : nG) (y : Nat) (mm : Nat) (msv : Nat) (mpa : Nat) (mio : Nat) (mfo : Nat) (mre : Nat) (mah : Nat) (mrw : Nat) (mrr : Nat) (mrs : Nat) (mrb : Nat) (mso : Nat) (mnu : Nat) (mse : Nat) (mbe : Nat) (men : Nat) (vS : Int32) (vC : Int32) (vT : Int32) (vF : Int32) (vL : Int32) (vK : Int32) (vR : Int32) (v0 : Int32) (vZ : Int32) (vB : Int32) (vN : Int32) (fm : Nat → Int32) (q : Int32) (q2 : Int32) (sz : Nat) (hm : nMod fm) : Met l yX12_rule wsX12_rule ({ frames := 2, cells := 0, slots := 0, locals := 43 }) (va_Pc [.ref y, .int q, .int q2] (n_pp G [(y, .inr (13, [.ref mm, .ref msv, .int vS, .ref mpa, .int vC, .int vT, .int vF, .ref mio, .ref mfo, .int vL, .ref mre, .int vK, .ref mah, .int vR, .ref mrw, .ref mrr, .ref mrs, .ref mrb, .int v0, .int vZ, .int vB, .int vN, .ref mso, .ref mnu, .ref mse, .ref mbe, .ref men])), (mm, eI G 1191 fm)] sz)) (va_Qi (fun (r : Int32) (_ : Unit) => r = 0) (fun (_ : Unit) (t : State) => n_po G (va_A [(y, .inr (13, [.ref mm, .ref msv, .int vS, .ref mpa, .int vC, .int vT, .int vF, .ref mio, .ref mfo, .int vL, .ref mre, .int vK, .ref mah, .int vR, .ref mrw, .ref mrr, .ref mrs, .ref mrb, .int v0, .int vZ, .int vB, .int vN, .ref mso, .ref mnu, .ref mse, .ref mbe, .ref men])), (mm, eI G 1191 fm)] sz) [(y, .inr (13, [.ref mm, .ref msv, .int vS, .ref mpa, .int vC, .int 1, .int vF, .ref mio, .ref mfo, .int vL, .ref mre, .int vK, .ref mah, .int vR, .ref mrw, .ref mrr, .ref mrs, .ref mrb, .int v0, .int vZ, .int vB, .int vN, .ref mso, .ref mnu, .ref mse, .ref mbe, .ref men]))] t) (va_A [(y, .inr (13, [.ref mm, .ref msv, .int vS, .ref mpa, .int vC, .int vT, .int vF, .ref mio, .ref mfo, .int vL, .ref mre, .int vK, .ref mah, .int vR, .ref mrw, .ref mrr, .ref mrs, .ref mrb, .int v0, .int vZ, .int vB, .int vN, .ref mso, .ref mnu, .ref mse, .ref mbe, .ref men])), (mm, eI G 1191 fm)] sz)) 0 0 (va_A [(y, .inr (13, [.ref mm, .ref msv, .int vS, .ref mpa, .int vC, .int vT, .int vF, .ref mio, .ref mfo, .int vL, .ref mre, .int vK, .ref mah, .int vR, .ref mrw, .ref mrr, .ref mrs, .ref mrb, .int v0, .int vZ, .int vB, .int vN, .ref mso, .ref mnu, .ref mse, .ref mbe, .ref men])), (mm, eI G 1191 fm)] sz) := by
  refine Met.ofW (cc := cX12_rule) (maxL := 3) (ret := (some .int)) (by decide) rfl ?_
  intro p e s m args below meth c s₁ B hml hv
  obtain ⟨rfl, hsz, hP, hK, hD0⟩ := hv
  have hx := B.exec
  have hb := B.bytes
  have hr := B.returns
  have hts := atoms_spec (ws := wsX12_rule) B.pre
  have hown : s.vm.findClass RX12 = some m.cls := findClass_of_methodNamed B.named
  have hlocks := B.notSynchronized
  subst hsz
  have hD := hD0.self (sz := s.heap.size)
  generalize hAe : va_A [(y, .inr (13, [.ref mm, .ref msv, .int vS, .ref mpa, .int vC, .int vT, .int vF, .ref mio, .ref mfo, .int vL, .ref mre, .int vK, .ref mah, .int vR, .ref mrw, .ref mrr, .ref mrs, .ref mrb, .int v0, .int vZ, .int vB, .int vN, .ref mso, .ref mnu, .ref mse, .ref mbe, .ref men])), (mm, eI G 1191 fm)] s.heap.size = A at hD ⊢
  have hA : ∀ q : Nat, s.heap.size ≤ q → A q := fun q h => by rw [← hAe]; exact Or.inr h
  have hS : va_S A s.heap s.heap [] := va_S.rf
  have hP : va_P G.1 vwCl [(y, .inr (13, [.ref mm, .ref msv, .int vS, .ref mpa, .int vC, .int vT, .int vF, .ref mio, .ref mfo, .int vL, .ref mre, .int vK, .ref mah, .int vR, .ref mrw, .ref mrr, .ref mrs, .ref mrb, .int v0, .int vZ, .int vB, .int vN, .ref mso, .ref mnu, .ref mse, .ref mbe, .ref men])), (mm, eI G 1191 fm)] s.heap := hP
  have hl := lv_entry ([.ref y, .int q, .int q2]) (n := 3) (Nat.le_of_ble_eq_true rfl)
  rw [lg_entry_eq]
  generalize (lg_sl ([.ref y, .int q, .int q2]) ++ List.replicate (3 - (lg_sl ([.ref y, .int q, .int q2])).length) Slot.unset).toArray = ls at hl ⊢
  have hl : lv_has ls 3 [(0, .ref y), (1, .int q), (2, .int q2)] := hl
  obtain ⟨H, hH⟩ : ∃ z, z = s.heap := ⟨_, rfl⟩
  have hS : va_S A s.heap H [] := by rw [hH]; exact hS
  have hP : va_P G.1 vwCl [(y, .inr (13, [.ref mm, .ref msv, .int vS, .ref mpa, .int vC, .int vT, .int vF, .ref mio, .ref mfo, .int vL, .ref mre, .int vK, .ref mah, .int vR, .ref mrw, .ref mrr, .ref mrs, .ref mrb, .int v0, .int vZ, .int vB, .int vN, .ref mso, .ref mnu, .ref mse, .ref mbe, .ref men])), (mm, eI G 1191 fm)] H := by rw [hH]; exact hP
  refine n_heap hH ?_
  generalize ([] : List Loc) = locs at hS ⊢
  have hiX12 : ∀ w ∈ u_ws RX12 TX12 27, w ∈ wsX12_rule := by decide +kernel
  refine lv_aload_n hx hb dX12_rule_0 rfl (lv_at hl 0 rfl) ?_
  refine lv_aload_n hx hb dX12_rule_1 rfl (lv_at hl 0 rfl) ?_
  refine lv_iload_n hx hb dX12_rule_2 rfl (lv_at hl 1 rfl) ?_
  refine n_ci (wr := []) (va_runV (As := [.int q]) (rest := [.ref y]) ⟨hx, hb, hml, hown, hts⟩ (mX12_isRule l G y mm msv mpa mio mfo mre mah mrw mrr mrs mrb mso mnu mse mbe men vS vC vT vF vL vK vR v0 vZ vB vN fm q H.size hm) (cwV 1 hts gX12_rule_X12_isRule rfl rfl rfl (by decide +kernel) ⟨(Nat.le_of_ble_eq_true rfl), (Nat.le_of_ble_eq_true rfl)⟩) (n_prV (ci := 13) (q0 := 0) hK hP hD [0, 1] rfl (by decide) rfl rfl) rfl rfl hl.1 rfl (lv_room (Nat.le_of_ble_eq_true rfl)) dX12_rule_3 ⟨(Nat.le_of_ble_eq_true rfl), (Nat.le_of_ble_eq_true rfl)⟩) hP hD hS hA [0, 1] [] rfl rfl (by decide) (by decide) (fun r_1 u_2 H locs hP hD hS hw => ?_)
  have hP : va_P G.1 vwCl [(y, .inr (13, [.ref mm, .ref msv, .int vS, .ref mpa, .int vC, .int vT, .int vF, .ref mio, .ref mfo, .int vL, .ref mre, .int vK, .ref mah, .int vR, .ref mrw, .ref mrr, .ref mrs, .ref mrb, .int v0, .int vZ, .int vB, .int vN, .ref mso, .ref mnu, .ref mse, .ref mbe, .ref men])), (mm, eI G 1191 fm)] H := hP
  have hD : va_D A [(y, .inr (13, [.ref mm, .ref msv, .int vS, .ref mpa, .int vC, .int vT, .int vF, .ref mio, .ref mfo, .int vL, .ref mre, .int vK, .ref mah, .int vR, .ref mrw, .ref mrr, .ref mrs, .ref mrb, .int v0, .int vZ, .int vB, .int vN, .ref mso, .ref mnu, .ref mse, .ref mbe, .ref men])), (mm, eI G 1191 fm)] := hD
  have hw : r_1 = 0 := hw
  subst hw
  refine lv_if_ne (tgt := 13) hx hb dX12_rule_6 (by decide) (fun h9 => absurd (by decide) h9) (fun _ => ?_)
  refine lv_iconst (v := 1) hx hb dX12_rule_9 (by decide) ?_
  refine lv_goto (tgt := 27) hx hb dX12_rule_10 (by decide) ?_
  refine va_put (D := G.1) (ci := 13) (v := .int 1) (ty := .int) (C := RX12) (T := TX12) (N := 27) hx hb hts hiX12 tyX12 tyX12_ok nmX12 hown hK hP hD hS 0 rfl rfl 5 (by decide) (hts (.fieldLink RX12 62 "DialectDictionaryModel" "thrown" "I") (by decide +kernel)) (fun _ h9 => h9) rfl (by decide +kernel) rfl rfl (Nat.le_of_ble_eq_true rfl) dX12_rule_27 (fun H locs hP hD hS => ?_)
  have hP : va_P G.1 vwCl [(y, .inr (13, [.ref mm, .ref msv, .int vS, .ref mpa, .int vC, .int 1, .int vF, .ref mio, .ref mfo, .int vL, .ref mre, .int vK, .ref mah, .int vR, .ref mrw, .ref mrr, .ref mrs, .ref mrb, .int v0, .int vZ, .int vB, .int vN, .ref mso, .ref mnu, .ref mse, .ref mbe, .ref men])), (mm, eI G 1191 fm)] H := hP
  have hD : va_D A [(y, .inr (13, [.ref mm, .ref msv, .int vS, .ref mpa, .int vC, .int 1, .int vF, .ref mio, .ref mfo, .int vL, .ref mre, .int vK, .ref mah, .int vR, .ref mrw, .ref mrr, .ref mrs, .ref mrb, .int v0, .int vZ, .int vB, .int vN, .ref mso, .ref mnu, .ref mse, .ref mbe, .ref men])), (mm, eI G 1191 fm)] := hD
  refine lv_aload_n hx hb dX12_rule_30 rfl (lv_at hl 0 rfl) ?_
  refine va_get (D := G.1) (ci := 13) (v := .int 1) (C := RX12) (T := TX12) (N := 27) hx hb hts hiX12 hown hK hP 0 rfl rfl 5 (by decide) (hts (.fieldLink RX12 62 "DialectDictionaryModel" "thrown" "I") (by decide +kernel)) (fun _ h9 => h9) rfl dX12_rule_31 ?_
  refine lv_if_le (tgt := 39) hx hb dX12_rule_34 (by decide) (fun h9 => absurd h9 (by decide)) (fun _ => ?_)
  refine lv_iconst (v := 0) hx hb dX12_rule_37 (by decide) ?_
  have hP9 := n_Psub (wc := [(y, .inr (13, [.ref mm, .ref msv, .int vS, .ref mpa, .int vC, .int 1, .int vF, .ref mio, .ref mfo, .int vL, .ref mre, .int vK, .ref mah, .int vR, .ref mrw, .ref mrr, .ref mrs, .ref mrb, .int v0, .int vZ, .int vB, .int vN, .ref mso, .ref mnu, .ref mse, .ref mbe, .ref men]))]) hP [0] rfl
  have hD9 := hD.sub (ws' := [(y, .inr (13, [.ref mm, .ref msv, .int vS, .ref mpa, .int vC, .int 1, .int vF, .ref mio, .ref mfo, .int vL, .ref mre, .int vK, .ref mah, .int vR, .ref mrw, .ref mrr, .ref mrs, .ref mrb, .int v0, .int vZ, .int vB, .int vN, .ref mso, .ref mnu, .ref mse, .ref mbe, .ref men]))]) [0] (by decide) rfl
  refine W.widen (k := 0) (n := 0) (Nat.le_of_ble_eq_true rfl) (Nat.le_of_ble_eq_true rfl) ?_
  exact W.iret (v := 0) hx hb hr (fun t ht hW => ⟨⟨0, (), rfl, rfl, by rw [ht]; exact hP9, va_K.moved hW.alike hK, hD9⟩, hS.F ht⟩) hS.2.2 dX12_rule_38

set_option maxHeartbeats 4000000 in
set_option maxRecDepth 100000 in
theorem mX12_ordered (l : Launch) (G : nG) (y : Nat) (mm : Nat) (msv : Nat) (mpa : Nat) (mio : Nat) (mfo : Nat) (mre : Nat) (mah : Nat) (mrw : Nat) (mrr : Nat) (mrs : Nat) (mrb : Nat) (mso : Nat) (mnu : Nat) (mse : Nat) (mbe : Nat) (men : Nat) (vS : Int32) (vC : Int32) (vT : Int32) (vF : Int32) (vL : Int32) (vK : Int32) (vR : Int32) (v0 : Int32) (vZ : Int32) (vB : Int32) (vN : Int32) (fm : Nat → Int32) (q : Int32) (sz : Nat) (hm : nMod fm) : Met l yX12_ordered wsX12_ordered ({ frames := 1, cells := 0, slots := 0, locals := 21 }) (va_Pc [.ref y, .int q] (n_pp G [(y, .inr (13, [.ref mm, .ref msv, .int vS, .ref mpa, .int vC, .int vT, .int vF, .ref mio, .ref mfo, .int vL, .ref mre, .int vK, .ref mah, .int vR, .ref mrw, .ref mrr, .ref mrs, .ref mrb, .int v0, .int vZ, .int vB, .int vN, .ref mso, .ref mnu, .ref mse, .ref mbe, .ref men])), (mm, eI G 1191 fm)] sz)) (va_Qi (fun (r : Int32) (_ : Unit) => r = 0) (fun (_ : Unit) (t : State) => n_po G (va_A [(y, .inr (13, [.ref mm, .ref msv, .int vS, .ref mpa, .int vC, .int vT, .int vF, .ref mio, .ref mfo, .int vL, .ref mre, .int vK, .ref mah, .int vR, .ref mrw, .ref mrr, .ref mrs, .ref mrb, .int v0, .int vZ, .int vB, .int vN, .ref mso, .ref mnu, .ref mse, .ref mbe, .ref men])), (mm, eI G 1191 fm)] sz) [(y, .inr (13, [.ref mm, .ref msv, .int vS, .ref mpa, .int vC, .int 1, .int vF, .ref mio, .ref mfo, .int vL, .ref mre, .int vK, .ref mah, .int vR, .ref mrw, .ref mrr, .ref mrs, .ref mrb, .int v0, .int vZ, .int vB, .int vN, .ref mso, .ref mnu, .ref mse, .ref mbe, .ref men]))] t) (va_A [(y, .inr (13, [.ref mm, .ref msv, .int vS, .ref mpa, .int vC, .int vT, .int vF, .ref mio, .ref mfo, .int vL, .ref mre, .int vK, .ref mah, .int vR, .ref mrw, .ref mrr, .ref mrs, .ref mrb, .int v0, .int vZ, .int vB, .int vN, .ref mso, .ref mnu, .ref mse, .ref mbe, .ref men])), (mm, eI G 1191 fm)] sz)) 0 0 (va_A [(y, .inr (13, [.ref mm, .ref msv, .int vS, .ref mpa, .int vC, .int vT, .int vF, .ref mio, .ref mfo, .int vL, .ref mre, .int vK, .ref mah, .int vR, .ref mrw, .ref mrr, .ref mrs, .ref mrb, .int v0, .int vZ, .int vB, .int vN, .ref mso, .ref mnu, .ref mse, .ref mbe, .ref men])), (mm, eI G 1191 fm)] sz) := by
  refine Met.ofW (cc := cX12_ordered) (maxL := 3) (ret := (some .int)) (by decide) rfl ?_
  intro p e s m args below meth c s₁ B hml hv
  obtain ⟨rfl, hsz, hP, hK, hD0⟩ := hv
  have hx := B.exec
  have hb := B.bytes
  have hr := B.returns
  have hts := atoms_spec (ws := wsX12_ordered) B.pre
  have hown : s.vm.findClass RX12 = some m.cls := findClass_of_methodNamed B.named
  have hlocks := B.notSynchronized
  subst hsz
  have hD := hD0.self (sz := s.heap.size)
  generalize hAe : va_A [(y, .inr (13, [.ref mm, .ref msv, .int vS, .ref mpa, .int vC, .int vT, .int vF, .ref mio, .ref mfo, .int vL, .ref mre, .int vK, .ref mah, .int vR, .ref mrw, .ref mrr, .ref mrs, .ref mrb, .int v0, .int vZ, .int vB, .int vN, .ref mso, .ref mnu, .ref mse, .ref mbe, .ref men])), (mm, eI G 1191 fm)] s.heap.size = A at hD ⊢
  have hA : ∀ q : Nat, s.heap.size ≤ q → A q := fun q h => by rw [← hAe]; exact Or.inr h
  have hS : va_S A s.heap s.heap [] := va_S.rf
  have hP : va_P G.1 vwCl [(y, .inr (13, [.ref mm, .ref msv, .int vS, .ref mpa, .int vC, .int vT, .int vF, .ref mio, .ref mfo, .int vL, .ref mre, .int vK, .ref mah, .int vR, .ref mrw, .ref mrr, .ref mrs, .ref mrb, .int v0, .int vZ, .int vB, .int vN, .ref mso, .ref mnu, .ref mse, .ref mbe, .ref men])), (mm, eI G 1191 fm)] s.heap := hP
  have hl := lv_entry ([.ref y, .int q]) (n := 3) (Nat.le_of_ble_eq_true rfl)
  rw [lg_entry_eq]
  generalize (lg_sl ([.ref y, .int q]) ++ List.replicate (3 - (lg_sl ([.ref y, .int q])).length) Slot.unset).toArray = ls at hl ⊢
  have hl : lv_has ls 3 [(0, .ref y), (1, .int q)] := hl
  obtain ⟨H, hH⟩ : ∃ z, z = s.heap := ⟨_, rfl⟩
  have hS : va_S A s.heap H [] := by rw [hH]; exact hS
  have hP : va_P G.1 vwCl [(y, .inr (13, [.ref mm, .ref msv, .int vS, .ref mpa, .int vC, .int vT, .int vF, .ref mio, .ref mfo, .int vL, .ref mre, .int vK, .ref mah, .int vR, .ref mrw, .ref mrr, .ref mrs, .ref mrb, .int v0, .int vZ, .int vB, .int vN, .ref mso, .ref mnu, .ref mse, .ref mbe, .ref men])), (mm, eI G 1191 fm)] H := by rw [hH]; exact hP
  refine n_heap hH ?_
  generalize ([] : List Loc) = locs at hS ⊢
  have hiX12 : ∀ w ∈ u_ws RX12 TX12 27, w ∈ wsX12_ordered := by decide +kernel
  refine lv_aload_n hx hb dX12_ordered_0 rfl (lv_at hl 0 rfl) ?_
  refine lv_iconst (v := 0) hx hb dX12_ordered_1 (by decide) ?_
  refine va_put (D := G.1) (ci := 13) (v := .int 0) (ty := .int) (C := RX12) (T := TX12) (N := 27) hx hb hts hiX12 tyX12 tyX12_ok nmX12 hown hK hP hD hS 0 rfl rfl 5 (by decide) (hts (.fieldLink RX12 62 "DialectDictionaryModel" "thrown" "I") (by decide +kernel)) (fun _ h9 => h9) rfl (by decide +kernel) rfl rfl (Nat.le_of_ble_eq_true rfl) dX12_ordered_2 (fun H locs hP hD hS => ?_)
  have hP : va_P G.1 vwCl [(y, .inr (13, [.ref mm, .ref msv, .int vS, .ref mpa, .int vC, .int 0, .int vF, .ref mio, .ref mfo, .int vL, .ref mre, .int vK, .ref mah, .int vR, .ref mrw, .ref mrr, .ref mrs, .ref mrb, .int v0, .int vZ, .int vB, .int vN, .ref mso, .ref mnu, .ref mse, .ref mbe, .ref men])), (mm, eI G 1191 fm)] H := hP
  have hD : va_D A [(y, .inr (13, [.ref mm, .ref msv, .int vS, .ref mpa, .int vC, .int 0, .int vF, .ref mio, .ref mfo, .int vL, .ref mre, .int vK, .ref mah, .int vR, .ref mrw, .ref mrr, .ref mrs, .ref mrb, .int v0, .int vZ, .int vB, .int vN, .ref mso, .ref mnu, .ref mse, .ref mbe, .ref men])), (mm, eI G 1191 fm)] := hD
  refine lv_iconst (v := 0) hx hb dX12_ordered_5 (by decide) ?_
  refine lv_istore_n (lv' := [(2, .int 0), (0, .ref y), (1, .int q)]) hx hb dX12_ordered_6 rfl hl (by decide) rfl (fun ls hl => ?_)
  refine lv_iload_n hx hb dX12_ordered_7 rfl (lv_at hl 0 rfl) ?_
  refine lv_aload_n hx hb dX12_ordered_8 rfl (lv_at hl 1 rfl) ?_
  refine va_get (D := G.1) (ci := 13) (v := .ref mm) (C := RX12) (T := TX12) (N := 27) hx hb hts hiX12 hown hK hP 0 rfl rfl 0 (by decide) (hts (.fieldLink RX12 9 "DialectDictionaryModel" "m" "[I") (by decide +kernel)) (fun _ h9 => h9) rfl dX12_ordered_9 ?_
  refine lv_bipush (v := 37) hx hb dX12_ordered_12 (by decide) ?_
  refine va_iald hx hb hK hP 1 0 rfl rfl (n_in (by decide)) dX12_ordered_14 ?_
  refine n_eqi (y := 0) hm.2.2.1 ?_
  refine lv_icmp_ge (tgt := 35) hx hb dX12_ordered_15 (by decide) (fun _ => ?_) (fun h9 => absurd (by decide) h9)
  refine lv_aload_n hx hb dX12_ordered_35 rfl (lv_at hl 1 rfl) ?_
  refine lv_iconst (v := 1) hx hb dX12_ordered_36 (by decide) ?_
  refine n_ci (wr := [(mm, eI G 1191 fm)]) (va_runV (As := [.int 1]) (rest := []) ⟨hx, hb, hml, hown, hts⟩ (mX12_refuse l G y mm msv mpa mio mfo mre mah mrw mrr mrs mrb mso mnu mse mbe men vS vC 0 vF vL vK vR v0 vZ vB vN 1 H.size) (cwV 1 hts gX12_ordered_X12_refuse rfl rfl rfl (by decide +kernel) ⟨(Nat.le_of_ble_eq_true rfl), (Nat.le_of_ble_eq_true rfl)⟩) (n_prV (ci := 13) (q0 := 0) hK hP hD [0] rfl (by decide) rfl rfl) rfl rfl hl.1 rfl (lv_room (Nat.le_of_ble_eq_true rfl)) dX12_ordered_37 ⟨(Nat.le_of_ble_eq_true rfl), (Nat.le_of_ble_eq_true rfl)⟩) hP hD hS hA [0] [1] rfl rfl (by decide) (by decide) (fun r_1 u_2 H locs hP hD hS hw => ?_)
  have hP : va_P G.1 vwCl [(mm, eI G 1191 fm), (y, .inr (13, [.ref mm, .ref msv, .int vS, .ref mpa, .int vC, .int 1, .int vF, .ref mio, .ref mfo, .int vL, .ref mre, .int vK, .ref mah, .int vR, .ref mrw, .ref mrr, .ref mrs, .ref mrb, .int v0, .int vZ, .int vB, .int vN, .ref mso, .ref mnu, .ref mse, .ref mbe, .ref men]))] H := hP
  have hD : va_D A [(mm, eI G 1191 fm), (y, .inr (13, [.ref mm, .ref msv, .int vS, .ref mpa, .int vC, .int 1, .int vF, .ref mio, .ref mfo, .int vL, .ref mre, .int vK, .ref mah, .int vR, .ref mrw, .ref mrr, .ref mrs, .ref mrb, .int v0, .int vZ, .int vB, .int vN, .ref mso, .ref mnu, .ref mse, .ref mbe, .ref men]))] := hD
  have hw : r_1 = 0 := hw
  subst hw
  have hP9 := n_Psub (wc := [(y, .inr (13, [.ref mm, .ref msv, .int vS, .ref mpa, .int vC, .int 1, .int vF, .ref mio, .ref mfo, .int vL, .ref mre, .int vK, .ref mah, .int vR, .ref mrw, .ref mrr, .ref mrs, .ref mrb, .int v0, .int vZ, .int vB, .int vN, .ref mso, .ref mnu, .ref mse, .ref mbe, .ref men]))]) hP [1] rfl
  have hD9 := hD.sub (ws' := [(y, .inr (13, [.ref mm, .ref msv, .int vS, .ref mpa, .int vC, .int 1, .int vF, .ref mio, .ref mfo, .int vL, .ref mre, .int vK, .ref mah, .int vR, .ref mrw, .ref mrr, .ref mrs, .ref mrb, .int v0, .int vZ, .int vB, .int vN, .ref mso, .ref mnu, .ref mse, .ref mbe, .ref men]))]) [1] (by decide) rfl
  refine W.widen (k := 0) (n := 0) (Nat.le_of_ble_eq_true rfl) (Nat.le_of_ble_eq_true rfl) ?_
  exact W.iret (v := 0) hx hb hr (fun t ht hW => ⟨⟨0, (), rfl, rfl, by rw [ht]; exact hP9, va_K.moved hW.alike hK, hD9⟩, hS.F ht⟩) hS.2.2 dX12_ordered_40

set_option maxHeartbeats 4000000 in
set_option maxRecDepth 100000 in
theorem mX12_meanLength (l : Launch) (G : nG) (y : Nat) (mm : Nat) (msv : Nat) (mpa : Nat) (mio : Nat) (mfo : Nat) (mre : Nat) (mah : Nat) (mrw : Nat) (mrr : Nat) (mrs : Nat) (mrb : Nat) (mso : Nat) (mnu : Nat) (mse : Nat) (mbe : Nat) (men : Nat) (vS : Int32) (vC : Int32) (vT : Int32) (vF : Int32) (vL : Int32) (vK : Int32) (vR : Int32) (v0 : Int32) (vZ : Int32) (vB : Int32) (vN : Int32) (fm : Nat → Int32) (sz : Nat) (hm : nMod fm) : Met l yX12_meanLength wsX12_meanLength ({ frames := 1, cells := 0, slots := 0, locals := 22 }) (va_Pc [.ref y] (n_pp G [(y, .inr (13, [.ref mm, .ref msv, .int vS, .ref mpa, .int vC, .int vT, .int vF, .ref mio, .ref mfo, .int vL, .ref mre, .int vK, .ref mah, .int vR, .ref mrw, .ref mrr, .ref mrs, .ref mrb, .int v0, .int vZ, .int vB, .int vN, .ref mso, .ref mnu, .ref mse, .ref mbe, .ref men])), (mm, eI G 1191 fm)] sz)) (va_Qd (fun (r : UInt64) (_ : Unit) => r = 0) (fun (_ : Unit) (t : State) => n_po G (va_A [(y, .inr (13, [.ref mm, .ref msv, .int vS, .ref mpa, .int vC, .int vT, .int vF, .ref mio, .ref mfo, .int vL, .ref mre, .int vK, .ref mah, .int vR, .ref mrw, .ref mrr, .ref mrs, .ref mrb, .int v0, .int vZ, .int vB, .int vN, .ref mso, .ref mnu, .ref mse, .ref mbe, .ref men])), (mm, eI G 1191 fm)] sz) [(y, .inr (13, [.ref mm, .ref msv, .int vS, .ref mpa, .int vC, .int 1, .int vF, .ref mio, .ref mfo, .int vL, .ref mre, .int vK, .ref mah, .int vR, .ref mrw, .ref mrr, .ref mrs, .ref mrb, .int v0, .int vZ, .int vB, .int vN, .ref mso, .ref mnu, .ref mse, .ref mbe, .ref men]))] t) (va_A [(y, .inr (13, [.ref mm, .ref msv, .int vS, .ref mpa, .int vC, .int vT, .int vF, .ref mio, .ref mfo, .int vL, .ref mre, .int vK, .ref mah, .int vR, .ref mrw, .ref mrr, .ref mrs, .ref mrb, .int v0, .int vZ, .int vB, .int vN, .ref mso, .ref mnu, .ref mse, .ref mbe, .ref men])), (mm, eI G 1191 fm)] sz)) 0 0 (va_A [(y, .inr (13, [.ref mm, .ref msv, .int vS, .ref mpa, .int vC, .int vT, .int vF, .ref mio, .ref mfo, .int vL, .ref mre, .int vK, .ref mah, .int vR, .ref mrw, .ref mrr, .ref mrs, .ref mrb, .int v0, .int vZ, .int vB, .int vN, .ref mso, .ref mnu, .ref mse, .ref mbe, .ref men])), (mm, eI G 1191 fm)] sz) := by
  refine Met.ofW (cc := cX12_meanLength) (maxL := 2) (ret := (some .double)) (by decide) rfl ?_
  intro p e s m args below meth c s₁ B hml hv
  obtain ⟨rfl, hsz, hP, hK, hD0⟩ := hv
  have hx := B.exec
  have hb := B.bytes
  have hr := B.returns
  have hts := atoms_spec (ws := wsX12_meanLength) B.pre
  have hown : s.vm.findClass RX12 = some m.cls := findClass_of_methodNamed B.named
  have hlocks := B.notSynchronized
  subst hsz
  have hD := hD0.self (sz := s.heap.size)
  generalize hAe : va_A [(y, .inr (13, [.ref mm, .ref msv, .int vS, .ref mpa, .int vC, .int vT, .int vF, .ref mio, .ref mfo, .int vL, .ref mre, .int vK, .ref mah, .int vR, .ref mrw, .ref mrr, .ref mrs, .ref mrb, .int v0, .int vZ, .int vB, .int vN, .ref mso, .ref mnu, .ref mse, .ref mbe, .ref men])), (mm, eI G 1191 fm)] s.heap.size = A at hD ⊢
  have hA : ∀ q : Nat, s.heap.size ≤ q → A q := fun q h => by rw [← hAe]; exact Or.inr h
  have hS : va_S A s.heap s.heap [] := va_S.rf
  have hP : va_P G.1 vwCl [(y, .inr (13, [.ref mm, .ref msv, .int vS, .ref mpa, .int vC, .int vT, .int vF, .ref mio, .ref mfo, .int vL, .ref mre, .int vK, .ref mah, .int vR, .ref mrw, .ref mrr, .ref mrs, .ref mrb, .int v0, .int vZ, .int vB, .int vN, .ref mso, .ref mnu, .ref mse, .ref mbe, .ref men])), (mm, eI G 1191 fm)] s.heap := hP
  have hl := lv_entry ([.ref y]) (n := 2) (Nat.le_of_ble_eq_true rfl)
  rw [lg_entry_eq]
  generalize (lg_sl ([.ref y]) ++ List.replicate (2 - (lg_sl ([.ref y])).length) Slot.unset).toArray = ls at hl ⊢
  have hl : lv_has ls 2 [(0, .ref y)] := hl
  obtain ⟨H, hH⟩ : ∃ z, z = s.heap := ⟨_, rfl⟩
  have hS : va_S A s.heap H [] := by rw [hH]; exact hS
  have hP : va_P G.1 vwCl [(y, .inr (13, [.ref mm, .ref msv, .int vS, .ref mpa, .int vC, .int vT, .int vF, .ref mio, .ref mfo, .int vL, .ref mre, .int vK, .ref mah, .int vR, .ref mrw, .ref mrr, .ref mrs, .ref mrb, .int v0, .int vZ, .int vB, .int vN, .ref mso, .ref mnu, .ref mse, .ref mbe, .ref men])), (mm, eI G 1191 fm)] H := by rw [hH]; exact hP
  refine n_heap hH ?_
  generalize ([] : List Loc) = locs at hS ⊢
  have hiX12 : ∀ w ∈ u_ws RX12 TX12 27, w ∈ wsX12_meanLength := by decide +kernel
  refine lv_aload_n hx hb dX12_meanLength_0 rfl (lv_at hl 0 rfl) ?_
  refine n_ci (wr := []) (va_runV (As := []) (rest := []) ⟨hx, hb, hml, hown, hts⟩ (mX12_allForms l G y mm msv mpa mio mfo mre mah mrw mrr mrs mrb mso mnu mse mbe men vS vC vT vF vL vK vR v0 vZ vB vN fm H.size hm) (cwV 0 hts gX12_meanLength_X12_allForms rfl rfl rfl (by decide +kernel) ⟨(Nat.le_of_ble_eq_true rfl), (Nat.le_of_ble_eq_true rfl)⟩) (n_prV (ci := 13) (q0 := 0) hK hP hD [0, 1] rfl (by decide) rfl rfl) rfl rfl hl.1 rfl (lv_room (Nat.le_of_ble_eq_true rfl)) dX12_meanLength_1 ⟨(Nat.le_of_ble_eq_true rfl), (Nat.le_of_ble_eq_true rfl)⟩) hP hD hS hA [0, 1] [] rfl rfl (by decide) (by decide) (fun r_1 u_2 H locs hP hD hS hw => ?_)
  have hP : va_P G.1 vwCl [(y, .inr (13, [.ref mm, .ref msv, .int vS, .ref mpa, .int vC, .int vT, .int vF, .ref mio, .ref mfo, .int vL, .ref mre, .int vK, .ref mah, .int vR, .ref mrw, .ref mrr, .ref mrs, .ref mrb, .int v0, .int vZ, .int vB, .int vN, .ref mso, .ref mnu, .ref mse, .ref mbe, .ref men])), (mm, eI G 1191 fm)] H := hP
  have hD : va_D A [(y, .inr (13, [.ref mm, .ref msv, .int vS, .ref mpa, .int vC, .int vT, .int vF, .ref mio, .ref mfo, .int vL, .ref mre, .int vK, .ref mah, .int vR, .ref mrw, .ref mrr, .ref mrs, .ref mrb, .int v0, .int vZ, .int vB, .int vN, .ref mso, .ref mnu, .ref mse, .ref mbe, .ref men])), (mm, eI G 1191 fm)] := hD
  have hw : r_1 = 0 := hw
  subst hw
  refine lv_istore_n (lv' := [(1, .int 0), (0, .ref y)]) hx hb dX12_meanLength_4 rfl hl (by decide) rfl (fun ls hl => ?_)
  refine lv_aload_n hx hb dX12_meanLength_5 rfl (lv_at hl 1 rfl) ?_
  refine lv_iload_n hx hb dX12_meanLength_6 rfl (lv_at hl 0 rfl) ?_
  refine lv_if_ne (tgt := 14) hx hb dX12_meanLength_7 (by decide) (fun h9 => absurd (by decide) h9) (fun _ => ?_)
  refine lv_iconst (v := 1) hx hb dX12_meanLength_10 (by decide) ?_
  refine lv_goto (tgt := 15) hx hb dX12_meanLength_11 (by decide) ?_
  refine va_put (D := G.1) (ci := 13) (v := .int 1) (ty := .int) (C := RX12) (T := TX12) (N := 27) hx hb hts hiX12 tyX12 tyX12_ok nmX12 hown hK hP hD hS 0 rfl rfl 5 (by decide) (hts (.fieldLink RX12 62 "DialectDictionaryModel" "thrown" "I") (by decide +kernel)) (fun _ h9 => h9) rfl (by decide +kernel) rfl rfl (Nat.le_of_ble_eq_true rfl) dX12_meanLength_15 (fun H locs hP hD hS => ?_)
  have hP : va_P G.1 vwCl [(y, .inr (13, [.ref mm, .ref msv, .int vS, .ref mpa, .int vC, .int 1, .int vF, .ref mio, .ref mfo, .int vL, .ref mre, .int vK, .ref mah, .int vR, .ref mrw, .ref mrr, .ref mrs, .ref mrb, .int v0, .int vZ, .int vB, .int vN, .ref mso, .ref mnu, .ref mse, .ref mbe, .ref men])), (mm, eI G 1191 fm)] H := hP
  have hD : va_D A [(y, .inr (13, [.ref mm, .ref msv, .int vS, .ref mpa, .int vC, .int 1, .int vF, .ref mio, .ref mfo, .int vL, .ref mre, .int vK, .ref mah, .int vR, .ref mrw, .ref mrr, .ref mrs, .ref mrb, .int v0, .int vZ, .int vB, .int vN, .ref mso, .ref mnu, .ref mse, .ref mbe, .ref men])), (mm, eI G 1191 fm)] := hD
  refine lv_iload_n hx hb dX12_meanLength_18 rfl (lv_at hl 0 rfl) ?_
  refine lv_if_ne (tgt := 26) hx hb dX12_meanLength_19 (by decide) (fun h9 => absurd (by decide) h9) (fun _ => ?_)
  refine lv_dconst0 hx hb dX12_meanLength_22 ?_
  refine lv_goto (tgt := 34) hx hb dX12_meanLength_23 (by decide) ?_
  have hP9 := n_Psub (wc := [(y, .inr (13, [.ref mm, .ref msv, .int vS, .ref mpa, .int vC, .int 1, .int vF, .ref mio, .ref mfo, .int vL, .ref mre, .int vK, .ref mah, .int vR, .ref mrw, .ref mrr, .ref mrs, .ref mrb, .int v0, .int vZ, .int vB, .int vN, .ref mso, .ref mnu, .ref mse, .ref mbe, .ref men]))]) hP [0] rfl
  have hD9 := hD.sub (ws' := [(y, .inr (13, [.ref mm, .ref msv, .int vS, .ref mpa, .int vC, .int 1, .int vF, .ref mio, .ref mfo, .int vL, .ref mre, .int vK, .ref mah, .int vR, .ref mrw, .ref mrr, .ref mrs, .ref mrb, .int v0, .int vZ, .int vB, .int vN, .ref mso, .ref mnu, .ref mse, .ref mbe, .ref men]))]) [0] (by decide) rfl
  refine W.widen (k := 0) (n := 0) (Nat.le_of_ble_eq_true rfl) (Nat.le_of_ble_eq_true rfl) ?_
  exact W.dret (v := 0) hx hb hr (fun t ht hW => ⟨⟨0, (), rfl, rfl, by rw [ht]; exact hP9, va_K.moved hW.alike hK, hD9⟩, hS.F ht⟩) hS.2.2 dX12_meanLength_34

set_option maxHeartbeats 4000000 in
set_option maxRecDepth 100000 in
theorem mX12_changedShare (l : Launch) (G : nG) (y : Nat) (mm : Nat) (msv : Nat) (mpa : Nat) (mio : Nat) (mfo : Nat) (mre : Nat) (mah : Nat) (mrw : Nat) (mrr : Nat) (mrs : Nat) (mrb : Nat) (mso : Nat) (mnu : Nat) (mse : Nat) (mbe : Nat) (men : Nat) (vS : Int32) (vC : Int32) (vT : Int32) (vF : Int32) (vL : Int32) (vK : Int32) (vR : Int32) (v0 : Int32) (vZ : Int32) (vB : Int32) (vN : Int32) (fm : Nat → Int32) (sz : Nat) (hm : nMod fm) : Met l yX12_changedShare wsX12_changedShare ({ frames := 0, cells := 0, slots := 0, locals := 0 }) (va_Pc [.ref y] (n_pp G [(y, .inr (13, [.ref mm, .ref msv, .int vS, .ref mpa, .int vC, .int vT, .int vF, .ref mio, .ref mfo, .int vL, .ref mre, .int vK, .ref mah, .int vR, .ref mrw, .ref mrr, .ref mrs, .ref mrb, .int v0, .int vZ, .int vB, .int vN, .ref mso, .ref mnu, .ref mse, .ref mbe, .ref men])), (mm, eI G 1191 fm)] sz)) (va_Qf (fun (r : UInt32) (_ : Unit) => r = 0) (fun (_ : Unit) (t : State) => n_po G (va_A [(y, .inr (13, [.ref mm, .ref msv, .int vS, .ref mpa, .int vC, .int vT, .int vF, .ref mio, .ref mfo, .int vL, .ref mre, .int vK, .ref mah, .int vR, .ref mrw, .ref mrr, .ref mrs, .ref mrb, .int v0, .int vZ, .int vB, .int vN, .ref mso, .ref mnu, .ref mse, .ref mbe, .ref men])), (mm, eI G 1191 fm)] sz) [(y, .inr (13, [.ref mm, .ref msv, .int vS, .ref mpa, .int vC, .int 1, .int vF, .ref mio, .ref mfo, .int vL, .ref mre, .int vK, .ref mah, .int vR, .ref mrw, .ref mrr, .ref mrs, .ref mrb, .int v0, .int vZ, .int vB, .int vN, .ref mso, .ref mnu, .ref mse, .ref mbe, .ref men]))] t) (va_A [(y, .inr (13, [.ref mm, .ref msv, .int vS, .ref mpa, .int vC, .int vT, .int vF, .ref mio, .ref mfo, .int vL, .ref mre, .int vK, .ref mah, .int vR, .ref mrw, .ref mrr, .ref mrs, .ref mrb, .int v0, .int vZ, .int vB, .int vN, .ref mso, .ref mnu, .ref mse, .ref mbe, .ref men])), (mm, eI G 1191 fm)] sz)) 0 0 (va_A [(y, .inr (13, [.ref mm, .ref msv, .int vS, .ref mpa, .int vC, .int vT, .int vF, .ref mio, .ref mfo, .int vL, .ref mre, .int vK, .ref mah, .int vR, .ref mrw, .ref mrr, .ref mrs, .ref mrb, .int v0, .int vZ, .int vB, .int vN, .ref mso, .ref mnu, .ref mse, .ref mbe, .ref men])), (mm, eI G 1191 fm)] sz) := by
  refine Met.ofW (cc := cX12_changedShare) (maxL := 3) (ret := (some .float)) (by decide) rfl ?_
  intro p e s m args below meth c s₁ B hml hv
  obtain ⟨rfl, hsz, hP, hK, hD0⟩ := hv
  have hx := B.exec
  have hb := B.bytes
  have hr := B.returns
  have hts := atoms_spec (ws := wsX12_changedShare) B.pre
  have hown : s.vm.findClass RX12 = some m.cls := findClass_of_methodNamed B.named
  have hlocks := B.notSynchronized
  subst hsz
  have hD := hD0.self (sz := s.heap.size)
  generalize hAe : va_A [(y, .inr (13, [.ref mm, .ref msv, .int vS, .ref mpa, .int vC, .int vT, .int vF, .ref mio, .ref mfo, .int vL, .ref mre, .int vK, .ref mah, .int vR, .ref mrw, .ref mrr, .ref mrs, .ref mrb, .int v0, .int vZ, .int vB, .int vN, .ref mso, .ref mnu, .ref mse, .ref mbe, .ref men])), (mm, eI G 1191 fm)] s.heap.size = A at hD ⊢
  have hA : ∀ q : Nat, s.heap.size ≤ q → A q := fun q h => by rw [← hAe]; exact Or.inr h
  have hS : va_S A s.heap s.heap [] := va_S.rf
  have hP : va_P G.1 vwCl [(y, .inr (13, [.ref mm, .ref msv, .int vS, .ref mpa, .int vC, .int vT, .int vF, .ref mio, .ref mfo, .int vL, .ref mre, .int vK, .ref mah, .int vR, .ref mrw, .ref mrr, .ref mrs, .ref mrb, .int v0, .int vZ, .int vB, .int vN, .ref mso, .ref mnu, .ref mse, .ref mbe, .ref men])), (mm, eI G 1191 fm)] s.heap := hP
  have hl := lv_entry ([.ref y]) (n := 3) (Nat.le_of_ble_eq_true rfl)
  rw [lg_entry_eq]
  generalize (lg_sl ([.ref y]) ++ List.replicate (3 - (lg_sl ([.ref y])).length) Slot.unset).toArray = ls at hl ⊢
  have hl : lv_has ls 3 [(0, .ref y)] := hl
  obtain ⟨H, hH⟩ : ∃ z, z = s.heap := ⟨_, rfl⟩
  have hS : va_S A s.heap H [] := by rw [hH]; exact hS
  have hP : va_P G.1 vwCl [(y, .inr (13, [.ref mm, .ref msv, .int vS, .ref mpa, .int vC, .int vT, .int vF, .ref mio, .ref mfo, .int vL, .ref mre, .int vK, .ref mah, .int vR, .ref mrw, .ref mrr, .ref mrs, .ref mrb, .int v0, .int vZ, .int vB, .int vN, .ref mso, .ref mnu, .ref mse, .ref mbe, .ref men])), (mm, eI G 1191 fm)] H := by rw [hH]; exact hP
  refine n_heap hH ?_
  generalize ([] : List Loc) = locs at hS ⊢
  have hiX12 : ∀ w ∈ u_ws RX12 TX12 27, w ∈ wsX12_changedShare := by decide +kernel
  refine lv_aload_n hx hb dX12_changedShare_0 rfl (lv_at hl 0 rfl) ?_
  refine lv_aload_n hx hb dX12_changedShare_1 rfl (lv_at hl 0 rfl) ?_
  refine va_get (D := G.1) (ci := 13) (v := .ref mm) (C := RX12) (T := TX12) (N := 27) hx hb hts hiX12 hown hK hP 0 rfl rfl 0 (by decide) (hts (.fieldLink RX12 9 "DialectDictionaryModel" "m" "[I") (by decide +kernel)) (fun _ h9 => h9) rfl dX12_changedShare_2 ?_
  refine lv_bipush (v := 37) hx hb dX12_changedShare_5 (by decide) ?_
  refine va_iald hx hb hK hP 1 0 rfl rfl (n_in (by decide)) dX12_changedShare_7 ?_
  refine n_eqi (y := 0) hm.2.2.1 ?_
  refine lv_if_ne (tgt := 15) hx hb dX12_changedShare_8 (by decide) (fun h9 => absurd (by decide) h9) (fun _ => ?_)
  refine lv_iconst (v := 1) hx hb dX12_changedShare_11 (by decide) ?_
  refine lv_goto (tgt := 16) hx hb dX12_changedShare_12 (by decide) ?_
  refine va_put (D := G.1) (ci := 13) (v := .int 1) (ty := .int) (C := RX12) (T := TX12) (N := 27) hx hb hts hiX12 tyX12 tyX12_ok nmX12 hown hK hP hD hS 0 rfl rfl 5 (by decide) (hts (.fieldLink RX12 62 "DialectDictionaryModel" "thrown" "I") (by decide +kernel)) (fun _ h9 => h9) rfl (by decide +kernel) rfl rfl (Nat.le_of_ble_eq_true rfl) dX12_changedShare_16 (fun H locs hP hD hS => ?_)
  have hP : va_P G.1 vwCl [(y, .inr (13, [.ref mm, .ref msv, .int vS, .ref mpa, .int vC, .int 1, .int vF, .ref mio, .ref mfo, .int vL, .ref mre, .int vK, .ref mah, .int vR, .ref mrw, .ref mrr, .ref mrs, .ref mrb, .int v0, .int vZ, .int vB, .int vN, .ref mso, .ref mnu, .ref mse, .ref mbe, .ref men])), (mm, eI G 1191 fm)] H := hP
  have hD : va_D A [(y, .inr (13, [.ref mm, .ref msv, .int vS, .ref mpa, .int vC, .int 1, .int vF, .ref mio, .ref mfo, .int vL, .ref mre, .int vK, .ref mah, .int vR, .ref mrw, .ref mrr, .ref mrs, .ref mrb, .int v0, .int vZ, .int vB, .int vN, .ref mso, .ref mnu, .ref mse, .ref mbe, .ref men])), (mm, eI G 1191 fm)] := hD
  refine lv_aload_n hx hb dX12_changedShare_19 rfl (lv_at hl 0 rfl) ?_
  refine va_get (D := G.1) (ci := 13) (v := .int 1) (C := RX12) (T := TX12) (N := 27) hx hb hts hiX12 hown hK hP 0 rfl rfl 5 (by decide) (hts (.fieldLink RX12 62 "DialectDictionaryModel" "thrown" "I") (by decide +kernel)) (fun _ h9 => h9) rfl dX12_changedShare_20 ?_
  refine lv_if_le (tgt := 28) hx hb dX12_changedShare_23 (by decide) (fun h9 => absurd h9 (by decide)) (fun _ => ?_)
  refine lv_fconst0 hx hb dX12_changedShare_26 ?_
  have hP9 := n_Psub (wc := [(y, .inr (13, [.ref mm, .ref msv, .int vS, .ref mpa, .int vC, .int 1, .int vF, .ref mio, .ref mfo, .int vL, .ref mre, .int vK, .ref mah, .int vR, .ref mrw, .ref mrr, .ref mrs, .ref mrb, .int v0, .int vZ, .int vB, .int vN, .ref mso, .ref mnu, .ref mse, .ref mbe, .ref men]))]) hP [0] rfl
  have hD9 := hD.sub (ws' := [(y, .inr (13, [.ref mm, .ref msv, .int vS, .ref mpa, .int vC, .int 1, .int vF, .ref mio, .ref mfo, .int vL, .ref mre, .int vK, .ref mah, .int vR, .ref mrw, .ref mrr, .ref mrs, .ref mrb, .int v0, .int vZ, .int vB, .int vN, .ref mso, .ref mnu, .ref mse, .ref mbe, .ref men]))]) [0] (by decide) rfl
  refine W.widen (k := 0) (n := 0) (Nat.le_of_ble_eq_true rfl) (Nat.le_of_ble_eq_true rfl) ?_
  exact W.fret (v := 0) hx hb hr (fun t ht hW => ⟨⟨0, (), rfl, rfl, by rw [ht]; exact hP9, va_K.moved hW.alike hK, hD9⟩, hS.F ht⟩) hS.2.2 dX12_changedShare_27

set_option maxHeartbeats 4000000 in
set_option maxRecDepth 100000 in
theorem mX12_undo (l : Launch) (G : nG) (y : Nat) (mm : Nat) (msv : Nat) (mpa : Nat) (mio : Nat) (mfo : Nat) (mre : Nat) (mah : Nat) (mrw : Nat) (mrr : Nat) (mrs : Nat) (mrb : Nat) (mso : Nat) (mnu : Nat) (mse : Nat) (mbe : Nat) (men : Nat) (vS : Int32) (vT : Int32) (vF : Int32) (vL : Int32) (vK : Int32) (vR : Int32) (v0 : Int32) (vZ : Int32) (vB : Int32) (vN : Int32) (sz : Nat) : Met l yX12_undo wsX12_undo ({ frames := 1, cells := 0, slots := 0, locals := 21 }) (va_Pc [.ref y] (n_pp G [(y, .inr (13, [.ref mm, .ref msv, .int vS, .ref mpa, .int 0, .int vT, .int vF, .ref mio, .ref mfo, .int vL, .ref mre, .int vK, .ref mah, .int vR, .ref mrw, .ref mrr, .ref mrs, .ref mrb, .int v0, .int vZ, .int vB, .int vN, .ref mso, .ref mnu, .ref mse, .ref mbe, .ref men]))] sz)) (va_Qi (fun (r : Int32) (_ : Unit) => r = 0) (fun (_ : Unit) (t : State) => n_po G (va_A [(y, .inr (13, [.ref mm, .ref msv, .int vS, .ref mpa, .int 0, .int vT, .int vF, .ref mio, .ref mfo, .int vL, .ref mre, .int vK, .ref mah, .int vR, .ref mrw, .ref mrr, .ref mrs, .ref mrb, .int v0, .int vZ, .int vB, .int vN, .ref mso, .ref mnu, .ref mse, .ref mbe, .ref men]))] sz) [(y, .inr (13, [.ref mm, .ref msv, .int vS, .ref mpa, .int 0, .int 1, .int vF, .ref mio, .ref mfo, .int vL, .ref mre, .int vK, .ref mah, .int vR, .ref mrw, .ref mrr, .ref mrs, .ref mrb, .int v0, .int vZ, .int vB, .int vN, .ref mso, .ref mnu, .ref mse, .ref mbe, .ref men]))] t) (va_A [(y, .inr (13, [.ref mm, .ref msv, .int vS, .ref mpa, .int 0, .int vT, .int vF, .ref mio, .ref mfo, .int vL, .ref mre, .int vK, .ref mah, .int vR, .ref mrw, .ref mrr, .ref mrs, .ref mrb, .int v0, .int vZ, .int vB, .int vN, .ref mso, .ref mnu, .ref mse, .ref mbe, .ref men]))] sz)) 0 0 (va_A [(y, .inr (13, [.ref mm, .ref msv, .int vS, .ref mpa, .int 0, .int vT, .int vF, .ref mio, .ref mfo, .int vL, .ref mre, .int vK, .ref mah, .int vR, .ref mrw, .ref mrr, .ref mrs, .ref mrb, .int v0, .int vZ, .int vB, .int vN, .ref mso, .ref mnu, .ref mse, .ref mbe, .ref men]))] sz) := by
  refine Met.ofW (cc := cX12_undo) (maxL := 2) (ret := (some .int)) (by decide) rfl ?_
  intro p e s m args below meth c s₁ B hml hv
  obtain ⟨rfl, hsz, hP, hK, hD0⟩ := hv
  have hx := B.exec
  have hb := B.bytes
  have hr := B.returns
  have hts := atoms_spec (ws := wsX12_undo) B.pre
  have hown : s.vm.findClass RX12 = some m.cls := findClass_of_methodNamed B.named
  have hlocks := B.notSynchronized
  subst hsz
  have hD := hD0.self (sz := s.heap.size)
  generalize hAe : va_A [(y, .inr (13, [.ref mm, .ref msv, .int vS, .ref mpa, .int 0, .int vT, .int vF, .ref mio, .ref mfo, .int vL, .ref mre, .int vK, .ref mah, .int vR, .ref mrw, .ref mrr, .ref mrs, .ref mrb, .int v0, .int vZ, .int vB, .int vN, .ref mso, .ref mnu, .ref mse, .ref mbe, .ref men]))] s.heap.size = A at hD ⊢
  have hA : ∀ q : Nat, s.heap.size ≤ q → A q := fun q h => by rw [← hAe]; exact Or.inr h
  have hS : va_S A s.heap s.heap [] := va_S.rf
  have hP : va_P G.1 vwCl [(y, .inr (13, [.ref mm, .ref msv, .int vS, .ref mpa, .int 0, .int vT, .int vF, .ref mio, .ref mfo, .int vL, .ref mre, .int vK, .ref mah, .int vR, .ref mrw, .ref mrr, .ref mrs, .ref mrb, .int v0, .int vZ, .int vB, .int vN, .ref mso, .ref mnu, .ref mse, .ref mbe, .ref men]))] s.heap := hP
  have hl := lv_entry ([.ref y]) (n := 2) (Nat.le_of_ble_eq_true rfl)
  rw [lg_entry_eq]
  generalize (lg_sl ([.ref y]) ++ List.replicate (2 - (lg_sl ([.ref y])).length) Slot.unset).toArray = ls at hl ⊢
  have hl : lv_has ls 2 [(0, .ref y)] := hl
  obtain ⟨H, hH⟩ : ∃ z, z = s.heap := ⟨_, rfl⟩
  have hS : va_S A s.heap H [] := by rw [hH]; exact hS
  have hP : va_P G.1 vwCl [(y, .inr (13, [.ref mm, .ref msv, .int vS, .ref mpa, .int 0, .int vT, .int vF, .ref mio, .ref mfo, .int vL, .ref mre, .int vK, .ref mah, .int vR, .ref mrw, .ref mrr, .ref mrs, .ref mrb, .int v0, .int vZ, .int vB, .int vN, .ref mso, .ref mnu, .ref mse, .ref mbe, .ref men]))] H := by rw [hH]; exact hP
  refine n_heap hH ?_
  generalize ([] : List Loc) = locs at hS ⊢
  have hiX12 : ∀ w ∈ u_ws RX12 TX12 27, w ∈ wsX12_undo := by decide +kernel
  refine lv_aload_n hx hb dX12_undo_0 rfl (lv_at hl 0 rfl) ?_
  refine lv_iconst (v := 0) hx hb dX12_undo_1 (by decide) ?_
  refine va_put (D := G.1) (ci := 13) (v := .int 0) (ty := .int) (C := RX12) (T := TX12) (N := 27) hx hb hts hiX12 tyX12 tyX12_ok nmX12 hown hK hP hD hS 0 rfl rfl 5 (by decide) (hts (.fieldLink RX12 62 "DialectDictionaryModel" "thrown" "I") (by decide +kernel)) (fun _ h9 => h9) rfl (by decide +kernel) rfl rfl (Nat.le_of_ble_eq_true rfl) dX12_undo_2 (fun H locs hP hD hS => ?_)
  have hP : va_P G.1 vwCl [(y, .inr (13, [.ref mm, .ref msv, .int vS, .ref mpa, .int 0, .int 0, .int vF, .ref mio, .ref mfo, .int vL, .ref mre, .int vK, .ref mah, .int vR, .ref mrw, .ref mrr, .ref mrs, .ref mrb, .int v0, .int vZ, .int vB, .int vN, .ref mso, .ref mnu, .ref mse, .ref mbe, .ref men]))] H := hP
  have hD : va_D A [(y, .inr (13, [.ref mm, .ref msv, .int vS, .ref mpa, .int 0, .int 0, .int vF, .ref mio, .ref mfo, .int vL, .ref mre, .int vK, .ref mah, .int vR, .ref mrw, .ref mrr, .ref mrs, .ref mrb, .int v0, .int vZ, .int vB, .int vN, .ref mso, .ref mnu, .ref mse, .ref mbe, .ref men]))] := hD
  refine lv_aload_n hx hb dX12_undo_5 rfl (lv_at hl 0 rfl) ?_
  refine va_get (D := G.1) (ci := 13) (v := .int 0) (C := RX12) (T := TX12) (N := 27) hx hb hts hiX12 hown hK hP 0 rfl rfl 4 (by decide) (hts (.fieldLink RX12 65 "DialectDictionaryModel" "changes" "I") (by decide +kernel)) (fun _ h9 => h9) rfl dX12_undo_6 ?_
  refine lv_if_ne (tgt := 18) hx hb dX12_undo_9 (by decide) (fun h9 => absurd (by decide) h9) (fun _ => ?_)
  refine lv_aload_n hx hb dX12_undo_12 rfl (lv_at hl 0 rfl) ?_
  refine lv_iconst (v := 1) hx hb dX12_undo_13 (by decide) ?_
  refine n_ci (wr := []) (va_runV (As := [.int 1]) (rest := []) ⟨hx, hb, hml, hown, hts⟩ (mX12_refuse l G y mm msv mpa mio mfo mre mah mrw mrr mrs mrb mso mnu mse mbe men vS 0 0 vF vL vK vR v0 vZ vB vN 1 H.size) (cwV 1 hts gX12_undo_X12_refuse rfl rfl rfl (by decide +kernel) ⟨(Nat.le_of_ble_eq_true rfl), (Nat.le_of_ble_eq_true rfl)⟩) (n_prV (ci := 13) (q0 := 0) hK hP hD [0] rfl (by decide) rfl rfl) rfl rfl hl.1 rfl (lv_room (Nat.le_of_ble_eq_true rfl)) dX12_undo_14 ⟨(Nat.le_of_ble_eq_true rfl), (Nat.le_of_ble_eq_true rfl)⟩) hP hD hS hA [0] [] rfl rfl (by decide) (by decide) (fun r_1 u_2 H locs hP hD hS hw => ?_)
  have hP : va_P G.1 vwCl [(y, .inr (13, [.ref mm, .ref msv, .int vS, .ref mpa, .int 0, .int 1, .int vF, .ref mio, .ref mfo, .int vL, .ref mre, .int vK, .ref mah, .int vR, .ref mrw, .ref mrr, .ref mrs, .ref mrb, .int v0, .int vZ, .int vB, .int vN, .ref mso, .ref mnu, .ref mse, .ref mbe, .ref men]))] H := hP
  have hD : va_D A [(y, .inr (13, [.ref mm, .ref msv, .int vS, .ref mpa, .int 0, .int 1, .int vF, .ref mio, .ref mfo, .int vL, .ref mre, .int vK, .ref mah, .int vR, .ref mrw, .ref mrr, .ref mrs, .ref mrb, .int v0, .int vZ, .int vB, .int vN, .ref mso, .ref mnu, .ref mse, .ref mbe, .ref men]))] := hD
  have hw : r_1 = 0 := hw
  subst hw
  have hP9 := n_Psub (wc := [(y, .inr (13, [.ref mm, .ref msv, .int vS, .ref mpa, .int 0, .int 1, .int vF, .ref mio, .ref mfo, .int vL, .ref mre, .int vK, .ref mah, .int vR, .ref mrw, .ref mrr, .ref mrs, .ref mrb, .int v0, .int vZ, .int vB, .int vN, .ref mso, .ref mnu, .ref mse, .ref mbe, .ref men]))]) hP [0] rfl
  have hD9 := hD.sub (ws' := [(y, .inr (13, [.ref mm, .ref msv, .int vS, .ref mpa, .int 0, .int 1, .int vF, .ref mio, .ref mfo, .int vL, .ref mre, .int vK, .ref mah, .int vR, .ref mrw, .ref mrr, .ref mrs, .ref mrb, .int v0, .int vZ, .int vB, .int vN, .ref mso, .ref mnu, .ref mse, .ref mbe, .ref men]))]) [0] (by decide) rfl
  refine W.widen (k := 0) (n := 0) (Nat.le_of_ble_eq_true rfl) (Nat.le_of_ble_eq_true rfl) ?_
  exact W.iret (v := 0) hx hb hr (fun t ht hW => ⟨⟨0, (), rfl, rfl, by rw [ht]; exact hP9, va_K.moved hW.alike hK, hD9⟩, hS.F ht⟩) hS.2.2 dX12_undo_17

set_option maxHeartbeats 4000000 in
set_option maxRecDepth 100000 in
theorem mX12_restore (l : Launch) (G : nG) (y : Nat) (mm : Nat) (msv : Nat) (mpa : Nat) (mio : Nat) (mfo : Nat) (mre : Nat) (mah : Nat) (mrw : Nat) (mrr : Nat) (mrs : Nat) (mrb : Nat) (mso : Nat) (mnu : Nat) (mse : Nat) (mbe : Nat) (men : Nat) (vC : Int32) (vT : Int32) (vF : Int32) (vL : Int32) (vK : Int32) (vR : Int32) (v0 : Int32) (vZ : Int32) (vB : Int32) (vN : Int32) (sz : Nat) : Met l yX12_restore wsX12_restore ({ frames := 1, cells := 0, slots := 0, locals := 21 }) (va_Pc [.ref y] (n_pp G [(y, .inr (13, [.ref mm, .ref msv, .int 0, .ref mpa, .int vC, .int vT, .int vF, .ref mio, .ref mfo, .int vL, .ref mre, .int vK, .ref mah, .int vR, .ref mrw, .ref mrr, .ref mrs, .ref mrb, .int v0, .int vZ, .int vB, .int vN, .ref mso, .ref mnu, .ref mse, .ref mbe, .ref men]))] sz)) (va_Qi (fun (r : Int32) (_ : Unit) => r = 0) (fun (_ : Unit) (t : State) => n_po G (va_A [(y, .inr (13, [.ref mm, .ref msv, .int 0, .ref mpa, .int vC, .int vT, .int vF, .ref mio, .ref mfo, .int vL, .ref mre, .int vK, .ref mah, .int vR, .ref mrw, .ref mrr, .ref mrs, .ref mrb, .int v0, .int vZ, .int vB, .int vN, .ref mso, .ref mnu, .ref mse, .ref mbe, .ref men]))] sz) [(y, .inr (13, [.ref mm, .ref msv, .int 0, .ref mpa, .int vC, .int 1, .int vF, .ref mio, .ref mfo, .int vL, .ref mre, .int vK, .ref mah, .int vR, .ref mrw, .ref mrr, .ref mrs, .ref mrb, .int v0, .int vZ, .int vB, .int vN, .ref mso, .ref mnu, .ref mse, .ref mbe, .ref men]))] t) (va_A [(y, .inr (13, [.ref mm, .ref msv, .int 0, .ref mpa, .int vC, .int vT, .int vF, .ref mio, .ref mfo, .int vL, .ref mre, .int vK, .ref mah, .int vR, .ref mrw, .ref mrr, .ref mrs, .ref mrb, .int v0, .int vZ, .int vB, .int vN, .ref mso, .ref mnu, .ref mse, .ref mbe, .ref men]))] sz)) 0 0 (va_A [(y, .inr (13, [.ref mm, .ref msv, .int 0, .ref mpa, .int vC, .int vT, .int vF, .ref mio, .ref mfo, .int vL, .ref mre, .int vK, .ref mah, .int vR, .ref mrw, .ref mrr, .ref mrs, .ref mrb, .int v0, .int vZ, .int vB, .int vN, .ref mso, .ref mnu, .ref mse, .ref mbe, .ref men]))] sz) := by
  refine Met.ofW (cc := cX12_restore) (maxL := 2) (ret := (some .int)) (by decide) rfl ?_
  intro p e s m args below meth c s₁ B hml hv
  obtain ⟨rfl, hsz, hP, hK, hD0⟩ := hv
  have hx := B.exec
  have hb := B.bytes
  have hr := B.returns
  have hts := atoms_spec (ws := wsX12_restore) B.pre
  have hown : s.vm.findClass RX12 = some m.cls := findClass_of_methodNamed B.named
  have hlocks := B.notSynchronized
  subst hsz
  have hD := hD0.self (sz := s.heap.size)
  generalize hAe : va_A [(y, .inr (13, [.ref mm, .ref msv, .int 0, .ref mpa, .int vC, .int vT, .int vF, .ref mio, .ref mfo, .int vL, .ref mre, .int vK, .ref mah, .int vR, .ref mrw, .ref mrr, .ref mrs, .ref mrb, .int v0, .int vZ, .int vB, .int vN, .ref mso, .ref mnu, .ref mse, .ref mbe, .ref men]))] s.heap.size = A at hD ⊢
  have hA : ∀ q : Nat, s.heap.size ≤ q → A q := fun q h => by rw [← hAe]; exact Or.inr h
  have hS : va_S A s.heap s.heap [] := va_S.rf
  have hP : va_P G.1 vwCl [(y, .inr (13, [.ref mm, .ref msv, .int 0, .ref mpa, .int vC, .int vT, .int vF, .ref mio, .ref mfo, .int vL, .ref mre, .int vK, .ref mah, .int vR, .ref mrw, .ref mrr, .ref mrs, .ref mrb, .int v0, .int vZ, .int vB, .int vN, .ref mso, .ref mnu, .ref mse, .ref mbe, .ref men]))] s.heap := hP
  have hl := lv_entry ([.ref y]) (n := 2) (Nat.le_of_ble_eq_true rfl)
  rw [lg_entry_eq]
  generalize (lg_sl ([.ref y]) ++ List.replicate (2 - (lg_sl ([.ref y])).length) Slot.unset).toArray = ls at hl ⊢
  have hl : lv_has ls 2 [(0, .ref y)] := hl
  obtain ⟨H, hH⟩ : ∃ z, z = s.heap := ⟨_, rfl⟩
  have hS : va_S A s.heap H [] := by rw [hH]; exact hS
  have hP : va_P G.1 vwCl [(y, .inr (13, [.ref mm, .ref msv, .int 0, .ref mpa, .int vC, .int vT, .int vF, .ref mio, .ref mfo, .int vL, .ref mre, .int vK, .ref mah, .int vR, .ref mrw, .ref mrr, .ref mrs, .ref mrb, .int v0, .int vZ, .int vB, .int vN, .ref mso, .ref mnu, .ref mse, .ref mbe, .ref men]))] H := by rw [hH]; exact hP
  refine n_heap hH ?_
  generalize ([] : List Loc) = locs at hS ⊢
  have hiX12 : ∀ w ∈ u_ws RX12 TX12 27, w ∈ wsX12_restore := by decide +kernel
  refine lv_aload_n hx hb dX12_restore_0 rfl (lv_at hl 0 rfl) ?_
  refine lv_iconst (v := 0) hx hb dX12_restore_1 (by decide) ?_
  refine va_put (D := G.1) (ci := 13) (v := .int 0) (ty := .int) (C := RX12) (T := TX12) (N := 27) hx hb hts hiX12 tyX12 tyX12_ok nmX12 hown hK hP hD hS 0 rfl rfl 5 (by decide) (hts (.fieldLink RX12 62 "DialectDictionaryModel" "thrown" "I") (by decide +kernel)) (fun _ h9 => h9) rfl (by decide +kernel) rfl rfl (Nat.le_of_ble_eq_true rfl) dX12_restore_2 (fun H locs hP hD hS => ?_)
  have hP : va_P G.1 vwCl [(y, .inr (13, [.ref mm, .ref msv, .int 0, .ref mpa, .int vC, .int 0, .int vF, .ref mio, .ref mfo, .int vL, .ref mre, .int vK, .ref mah, .int vR, .ref mrw, .ref mrr, .ref mrs, .ref mrb, .int v0, .int vZ, .int vB, .int vN, .ref mso, .ref mnu, .ref mse, .ref mbe, .ref men]))] H := hP
  have hD : va_D A [(y, .inr (13, [.ref mm, .ref msv, .int 0, .ref mpa, .int vC, .int 0, .int vF, .ref mio, .ref mfo, .int vL, .ref mre, .int vK, .ref mah, .int vR, .ref mrw, .ref mrr, .ref mrs, .ref mrb, .int v0, .int vZ, .int vB, .int vN, .ref mso, .ref mnu, .ref mse, .ref mbe, .ref men]))] := hD
  refine lv_aload_n hx hb dX12_restore_5 rfl (lv_at hl 0 rfl) ?_
  refine va_get (D := G.1) (ci := 13) (v := .int 0) (C := RX12) (T := TX12) (N := 27) hx hb hts hiX12 hown hK hP 0 rfl rfl 2 (by decide) (hts (.fieldLink RX12 280 "DialectDictionaryModel" "isSaved" "Z") (by decide +kernel)) (fun _ h9 => h9) rfl dX12_restore_6 ?_
  refine lv_if_ne (tgt := 18) hx hb dX12_restore_9 (by decide) (fun h9 => absurd (by decide) h9) (fun _ => ?_)
  refine lv_aload_n hx hb dX12_restore_12 rfl (lv_at hl 0 rfl) ?_
  refine lv_iconst (v := 1) hx hb dX12_restore_13 (by decide) ?_
  refine n_ci (wr := []) (va_runV (As := [.int 1]) (rest := []) ⟨hx, hb, hml, hown, hts⟩ (mX12_refuse l G y mm msv mpa mio mfo mre mah mrw mrr mrs mrb mso mnu mse mbe men 0 vC 0 vF vL vK vR v0 vZ vB vN 1 H.size) (cwV 1 hts gX12_restore_X12_refuse rfl rfl rfl (by decide +kernel) ⟨(Nat.le_of_ble_eq_true rfl), (Nat.le_of_ble_eq_true rfl)⟩) (n_prV (ci := 13) (q0 := 0) hK hP hD [0] rfl (by decide) rfl rfl) rfl rfl hl.1 rfl (lv_room (Nat.le_of_ble_eq_true rfl)) dX12_restore_14 ⟨(Nat.le_of_ble_eq_true rfl), (Nat.le_of_ble_eq_true rfl)⟩) hP hD hS hA [0] [] rfl rfl (by decide) (by decide) (fun r_1 u_2 H locs hP hD hS hw => ?_)
  have hP : va_P G.1 vwCl [(y, .inr (13, [.ref mm, .ref msv, .int 0, .ref mpa, .int vC, .int 1, .int vF, .ref mio, .ref mfo, .int vL, .ref mre, .int vK, .ref mah, .int vR, .ref mrw, .ref mrr, .ref mrs, .ref mrb, .int v0, .int vZ, .int vB, .int vN, .ref mso, .ref mnu, .ref mse, .ref mbe, .ref men]))] H := hP
  have hD : va_D A [(y, .inr (13, [.ref mm, .ref msv, .int 0, .ref mpa, .int vC, .int 1, .int vF, .ref mio, .ref mfo, .int vL, .ref mre, .int vK, .ref mah, .int vR, .ref mrw, .ref mrr, .ref mrs, .ref mrb, .int v0, .int vZ, .int vB, .int vN, .ref mso, .ref mnu, .ref mse, .ref mbe, .ref men]))] := hD
  have hw : r_1 = 0 := hw
  subst hw
  have hP9 := n_Psub (wc := [(y, .inr (13, [.ref mm, .ref msv, .int 0, .ref mpa, .int vC, .int 1, .int vF, .ref mio, .ref mfo, .int vL, .ref mre, .int vK, .ref mah, .int vR, .ref mrw, .ref mrr, .ref mrs, .ref mrb, .int v0, .int vZ, .int vB, .int vN, .ref mso, .ref mnu, .ref mse, .ref mbe, .ref men]))]) hP [0] rfl
  have hD9 := hD.sub (ws' := [(y, .inr (13, [.ref mm, .ref msv, .int 0, .ref mpa, .int vC, .int 1, .int vF, .ref mio, .ref mfo, .int vL, .ref mre, .int vK, .ref mah, .int vR, .ref mrw, .ref mrr, .ref mrs, .ref mrb, .int v0, .int vZ, .int vB, .int vN, .ref mso, .ref mnu, .ref mse, .ref mbe, .ref men]))]) [0] (by decide) rfl
  refine W.widen (k := 0) (n := 0) (Nat.le_of_ble_eq_true rfl) (Nat.le_of_ble_eq_true rfl) ?_
  exact W.iret (v := 0) hx hb hr (fun t ht hW => ⟨⟨0, (), rfl, rfl, by rw [ht]; exact hP9, va_K.moved hW.alike hK, hD9⟩, hS.F ht⟩) hS.2.2 dX12_restore_17

set_option maxHeartbeats 4000000 in
set_option maxRecDepth 100000 in
theorem mX12_here (l : Launch) (G : nG) (y : Nat) (mm : Nat) (msv : Nat) (mpa : Nat) (mio : Nat) (mfo : Nat) (mre : Nat) (mah : Nat) (mrw : Nat) (mrr : Nat) (mrs : Nat) (mrb : Nat) (mso : Nat) (mnu : Nat) (mse : Nat) (mbe : Nat) (men : Nat) (vS : Int32) (vC : Int32) (vT : Int32) (vF : Int32) (vL : Int32) (vK : Int32) (vR : Int32) (vB : Int32) (vN : Int32) (sz : Nat) : Met l yX12_here wsX12_here ({ frames := 0, cells := 0, slots := 0, locals := 0 }) (va_Pc [.ref y] (n_pp G [(y, .inr (13, [.ref mm, .ref msv, .int vS, .ref mpa, .int vC, .int vT, .int vF, .ref mio, .ref mfo, .int vL, .ref mre, .int vK, .ref mah, .int vR, .ref mrw, .ref mrr, .ref mrs, .ref mrb, .int 0, .int 0, .int vB, .int vN, .ref mso, .ref mnu, .ref mse, .ref mbe, .ref men]))] sz)) (va_Qi (fun (r : Int32) (_ : Unit) => r = (-1)) (fun (_ : Unit) (t : State) => n_po G (va_A [(y, .inr (13, [.ref mm, .ref msv, .int vS, .ref mpa, .int vC, .int vT, .int vF, .ref mio, .ref mfo, .int vL, .ref mre, .int vK, .ref mah, .int vR, .ref mrw, .ref mrr, .ref mrs, .ref mrb, .int 0, .int 0, .int vB, .int vN, .ref mso, .ref mnu, .ref mse, .ref mbe, .ref men]))] sz) [(y, .inr (13, [.ref mm, .ref msv, .int vS, .ref mpa, .int vC, .int vT, .int vF, .ref mio, .ref mfo, .int vL, .ref mre, .int vK, .ref mah, .int vR, .ref mrw, .ref mrr, .ref mrs, .ref mrb, .int 0, .int 0, .int vB, .int vN, .ref mso, .ref mnu, .ref mse, .ref mbe, .ref men]))] t) (va_A [(y, .inr (13, [.ref mm, .ref msv, .int vS, .ref mpa, .int vC, .int vT, .int vF, .ref mio, .ref mfo, .int vL, .ref mre, .int vK, .ref mah, .int vR, .ref mrw, .ref mrr, .ref mrs, .ref mrb, .int 0, .int 0, .int vB, .int vN, .ref mso, .ref mnu, .ref mse, .ref mbe, .ref men]))] sz)) 0 0 (va_A [(y, .inr (13, [.ref mm, .ref msv, .int vS, .ref mpa, .int vC, .int vT, .int vF, .ref mio, .ref mfo, .int vL, .ref mre, .int vK, .ref mah, .int vR, .ref mrw, .ref mrr, .ref mrs, .ref mrb, .int 0, .int 0, .int vB, .int vN, .ref mso, .ref mnu, .ref mse, .ref mbe, .ref men]))] sz) := by
  refine Met.ofW (cc := cX12_here) (maxL := 1) (ret := (some .int)) (by decide) rfl ?_
  intro p e s m args below meth c s₁ B hml hv
  obtain ⟨rfl, hsz, hP, hK, hD0⟩ := hv
  have hx := B.exec
  have hb := B.bytes
  have hr := B.returns
  have hts := atoms_spec (ws := wsX12_here) B.pre
  have hown : s.vm.findClass RX12 = some m.cls := findClass_of_methodNamed B.named
  have hlocks := B.notSynchronized
  subst hsz
  have hD := hD0.self (sz := s.heap.size)
  generalize hAe : va_A [(y, .inr (13, [.ref mm, .ref msv, .int vS, .ref mpa, .int vC, .int vT, .int vF, .ref mio, .ref mfo, .int vL, .ref mre, .int vK, .ref mah, .int vR, .ref mrw, .ref mrr, .ref mrs, .ref mrb, .int 0, .int 0, .int vB, .int vN, .ref mso, .ref mnu, .ref mse, .ref mbe, .ref men]))] s.heap.size = A at hD ⊢
  have hA : ∀ q : Nat, s.heap.size ≤ q → A q := fun q h => by rw [← hAe]; exact Or.inr h
  have hS : va_S A s.heap s.heap [] := va_S.rf
  have hP : va_P G.1 vwCl [(y, .inr (13, [.ref mm, .ref msv, .int vS, .ref mpa, .int vC, .int vT, .int vF, .ref mio, .ref mfo, .int vL, .ref mre, .int vK, .ref mah, .int vR, .ref mrw, .ref mrr, .ref mrs, .ref mrb, .int 0, .int 0, .int vB, .int vN, .ref mso, .ref mnu, .ref mse, .ref mbe, .ref men]))] s.heap := hP
  have hl := lv_entry ([.ref y]) (n := 1) (Nat.le_of_ble_eq_true rfl)
  rw [lg_entry_eq]
  generalize (lg_sl ([.ref y]) ++ List.replicate (1 - (lg_sl ([.ref y])).length) Slot.unset).toArray = ls at hl ⊢
  have hl : lv_has ls 1 [(0, .ref y)] := hl
  obtain ⟨H, hH⟩ : ∃ z, z = s.heap := ⟨_, rfl⟩
  have hS : va_S A s.heap H [] := by rw [hH]; exact hS
  have hP : va_P G.1 vwCl [(y, .inr (13, [.ref mm, .ref msv, .int vS, .ref mpa, .int vC, .int vT, .int vF, .ref mio, .ref mfo, .int vL, .ref mre, .int vK, .ref mah, .int vR, .ref mrw, .ref mrr, .ref mrs, .ref mrb, .int 0, .int 0, .int vB, .int vN, .ref mso, .ref mnu, .ref mse, .ref mbe, .ref men]))] H := by rw [hH]; exact hP
  refine n_heap hH ?_
  generalize ([] : List Loc) = locs at hS ⊢
  have hiX12 : ∀ w ∈ u_ws RX12 TX12 27, w ∈ wsX12_here := by decide +kernel
  refine lv_aload_n hx hb dX12_here_0 rfl (lv_at hl 0 rfl) ?_
  refine va_get (D := G.1) (ci := 13) (v := .int 0) (C := RX12) (T := TX12) (N := 27) hx hb hts hiX12 hown hK hP 0 rfl rfl 18 (by decide) (hts (.fieldLink RX12 248 "DialectDictionaryModel" "at0" "I") (by decide +kernel)) (fun _ h9 => h9) rfl dX12_here_1 ?_
  refine lv_aload_n hx hb dX12_here_4 rfl (lv_at hl 0 rfl) ?_
  refine va_get (D := G.1) (ci := 13) (v := .int 0) (C := RX12) (T := TX12) (N := 27) hx hb hts hiX12 hown hK hP 0 rfl rfl 19 (by decide) (hts (.fieldLink RX12 251 "DialectDictionaryModel" "size0" "I") (by decide +kernel)) (fun _ h9 => h9) rfl dX12_here_5 ?_
  refine lv_icmp_ge (tgt := 23) hx hb dX12_here_8 (by decide) (fun _ => ?_) (fun h9 => absurd (by decide) h9)
  refine lv_iconst (v := -1) hx hb dX12_here_23 (by decide) ?_
  have hP9 := n_Psub (wc := [(y, .inr (13, [.ref mm, .ref msv, .int vS, .ref mpa, .int vC, .int vT, .int vF, .ref mio, .ref mfo, .int vL, .ref mre, .int vK, .ref mah, .int vR, .ref mrw, .ref mrr, .ref mrs, .ref mrb, .int 0, .int 0, .int vB, .int vN, .ref mso, .ref mnu, .ref mse, .ref mbe, .ref men]))]) hP [0] rfl
  have hD9 := hD.sub (ws' := [(y, .inr (13, [.ref mm, .ref msv, .int vS, .ref mpa, .int vC, .int vT, .int vF, .ref mio, .ref mfo, .int vL, .ref mre, .int vK, .ref mah, .int vR, .ref mrw, .ref mrr, .ref mrs, .ref mrb, .int 0, .int 0, .int vB, .int vN, .ref mso, .ref mnu, .ref mse, .ref mbe, .ref men]))]) [0] (by decide) rfl
  refine W.widen (k := 0) (n := 0) (Nat.le_of_ble_eq_true rfl) (Nat.le_of_ble_eq_true rfl) ?_
  exact W.iret (v := (-1)) hx hb hr (fun t ht hW => ⟨⟨(-1), (), rfl, rfl, by rw [ht]; exact hP9, va_K.moved hW.alike hK, hD9⟩, hS.F ht⟩) hS.2.2 dX12_here_24

set_option maxHeartbeats 4000000 in
set_option maxRecDepth 100000 in
theorem mX12_readNumber (l : Launch) (G : nG) (y : Nat) (mm : Nat) (msv : Nat) (mpa : Nat) (mio : Nat) (mfo : Nat) (mre : Nat) (mah : Nat) (mrw : Nat) (mrr : Nat) (mrs : Nat) (mrb : Nat) (mso : Nat) (mnu : Nat) (mse : Nat) (mbe : Nat) (men : Nat) (vS : Int32) (vC : Int32) (vT : Int32) (vF : Int32) (vL : Int32) (vK : Int32) (vR : Int32) (vN : Int32) (sz : Nat) : Met l yX12_readNumber wsX12_readNumber ({ frames := 1, cells := 0, slots := 0, locals := 22 }) (va_Pc [.ref y] (n_pp G [(y, .inr (13, [.ref mm, .ref msv, .int vS, .ref mpa, .int vC, .int vT, .int vF, .ref mio, .ref mfo, .int vL, .ref mre, .int vK, .ref mah, .int vR, .ref mrw, .ref mrr, .ref mrs, .ref mrb, .int 0, .int 0, .int 0, .int vN, .ref mso, .ref mnu, .ref mse, .ref mbe, .ref men]))] sz)) (va_Qi (fun (r : Int32) (_ : Unit) => r = 0) (fun (_ : Unit) (t : State) => n_po G (va_A [(y, .inr (13, [.ref mm, .ref msv, .int vS, .ref mpa, .int vC, .int vT, .int vF, .ref mio, .ref mfo, .int vL, .ref mre, .int vK, .ref mah, .int vR, .ref mrw, .ref mrr, .ref mrs, .ref mrb, .int 0, .int 0, .int 0, .int vN, .ref mso, .ref mnu, .ref mse, .ref mbe, .ref men]))] sz) [(y, .inr (13, [.ref mm, .ref msv, .int vS, .ref mpa, .int vC, .int vT, .int vF, .ref mio, .ref mfo, .int vL, .ref mre, .int vK, .ref mah, .int vR, .ref mrw, .ref mrr, .ref mrs, .ref mrb, .int 0, .int 0, .int 1, .int vN, .ref mso, .ref mnu, .ref mse, .ref mbe, .ref men]))] t) (va_A [(y, .inr (13, [.ref mm, .ref msv, .int vS, .ref mpa, .int vC, .int vT, .int vF, .ref mio, .ref mfo, .int vL, .ref mre, .int vK, .ref mah, .int vR, .ref mrw, .ref mrr, .ref mrs, .ref mrb, .int 0, .int 0, .int 0, .int vN, .ref mso, .ref mnu, .ref mse, .ref mbe, .ref men]))] sz)) 0 0 (va_A [(y, .inr (13, [.ref mm, .ref msv, .int vS, .ref mpa, .int vC, .int vT, .int vF, .ref mio, .ref mfo, .int vL, .ref mre, .int vK, .ref mah, .int vR, .ref mrw, .ref mrr, .ref mrs, .ref mrb, .int 0, .int 0, .int 0, .int vN, .ref mso, .ref mnu, .ref mse, .ref mbe, .ref men]))] sz) := by
  refine Met.ofW (cc := cX12_readNumber) (maxL := 3) (ret := (some .int)) (by decide) rfl ?_
  intro p e s m args below meth c s₁ B hml hv
  obtain ⟨rfl, hsz, hP, hK, hD0⟩ := hv
  have hx := B.exec
  have hb := B.bytes
  have hr := B.returns
  have hts := atoms_spec (ws := wsX12_readNumber) B.pre
  have hown : s.vm.findClass RX12 = some m.cls := findClass_of_methodNamed B.named
  have hlocks := B.notSynchronized
  subst hsz
  have hD := hD0.self (sz := s.heap.size)
  generalize hAe : va_A [(y, .inr (13, [.ref mm, .ref msv, .int vS, .ref mpa, .int vC, .int vT, .int vF, .ref mio, .ref mfo, .int vL, .ref mre, .int vK, .ref mah, .int vR, .ref mrw, .ref mrr, .ref mrs, .ref mrb, .int 0, .int 0, .int 0, .int vN, .ref mso, .ref mnu, .ref mse, .ref mbe, .ref men]))] s.heap.size = A at hD ⊢
  have hA : ∀ q : Nat, s.heap.size ≤ q → A q := fun q h => by rw [← hAe]; exact Or.inr h
  have hS : va_S A s.heap s.heap [] := va_S.rf
  have hP : va_P G.1 vwCl [(y, .inr (13, [.ref mm, .ref msv, .int vS, .ref mpa, .int vC, .int vT, .int vF, .ref mio, .ref mfo, .int vL, .ref mre, .int vK, .ref mah, .int vR, .ref mrw, .ref mrr, .ref mrs, .ref mrb, .int 0, .int 0, .int 0, .int vN, .ref mso, .ref mnu, .ref mse, .ref mbe, .ref men]))] s.heap := hP
  have hl := lv_entry ([.ref y]) (n := 3) (Nat.le_of_ble_eq_true rfl)
  rw [lg_entry_eq]
  generalize (lg_sl ([.ref y]) ++ List.replicate (3 - (lg_sl ([.ref y])).length) Slot.unset).toArray = ls at hl ⊢
  have hl : lv_has ls 3 [(0, .ref y)] := hl
  obtain ⟨H, hH⟩ : ∃ z, z = s.heap := ⟨_, rfl⟩
  have hS : va_S A s.heap H [] := by rw [hH]; exact hS
  have hP : va_P G.1 vwCl [(y, .inr (13, [.ref mm, .ref msv, .int vS, .ref mpa, .int vC, .int vT, .int vF, .ref mio, .ref mfo, .int vL, .ref mre, .int vK, .ref mah, .int vR, .ref mrw, .ref mrr, .ref mrs, .ref mrb, .int 0, .int 0, .int 0, .int vN, .ref mso, .ref mnu, .ref mse, .ref mbe, .ref men]))] H := by rw [hH]; exact hP
  refine n_heap hH ?_
  generalize ([] : List Loc) = locs at hS ⊢
  have hiX12 : ∀ w ∈ u_ws RX12 TX12 27, w ∈ wsX12_readNumber := by decide +kernel
  refine lv_iconst (v := 0) hx hb dX12_readNumber_0 (by decide) ?_
  refine lv_istore_n (lv' := [(1, .int 0), (0, .ref y)]) hx hb dX12_readNumber_1 rfl hl (by decide) rfl (fun ls hl => ?_)
  refine lv_iconst (v := 0) hx hb dX12_readNumber_2 (by decide) ?_
  refine lv_istore_n (lv' := [(2, .int 0), (1, .int 0), (0, .ref y)]) hx hb dX12_readNumber_3 rfl hl (by decide) rfl (fun ls hl => ?_)
  refine lv_iload_n hx hb dX12_readNumber_4 rfl (lv_at hl 0 rfl) ?_
  refine lv_iconst (v := 2) hx hb dX12_readNumber_5 (by decide) ?_
  refine lv_icmp_ge (tgt := 52) hx hb dX12_readNumber_6 (by decide) (fun h9 => absurd h9 (by decide)) (fun _ => ?_)
  refine lv_aload_n hx hb dX12_readNumber_9 rfl (lv_at hl 2 rfl) ?_
  refine n_ci (wr := []) (va_runV (As := []) (rest := []) ⟨hx, hb, hml, hown, hts⟩ (mX12_here l G y mm msv mpa mio mfo mre mah mrw mrr mrs mrb mso mnu mse mbe men vS vC vT vF vL vK vR 0 vN H.size) (cwV 0 hts gX12_readNumber_X12_here rfl rfl rfl (by decide +kernel) ⟨(Nat.le_of_ble_eq_true rfl), (Nat.le_of_ble_eq_true rfl)⟩) (n_prV (ci := 13) (q0 := 0) hK hP hD [0] rfl (by decide) rfl rfl) rfl rfl hl.1 rfl (lv_room (Nat.le_of_ble_eq_true rfl)) dX12_readNumber_10 ⟨(Nat.le_of_ble_eq_true rfl), (Nat.le_of_ble_eq_true rfl)⟩) hP hD hS hA [0] [] rfl rfl (by decide) (by decide) (fun r_1 u_2 H locs hP hD hS hw => ?_)
  have hP : va_P G.1 vwCl [(y, .inr (13, [.ref mm, .ref msv, .int vS, .ref mpa, .int vC, .int vT, .int vF, .ref mio, .ref mfo, .int vL, .ref mre, .int vK, .ref mah, .int vR, .ref mrw, .ref mrr, .ref mrs, .ref mrb, .int 0, .int 0, .int 0, .int vN, .ref mso, .ref mnu, .ref mse, .ref mbe, .ref men]))] H := hP
  have hD : va_D A [(y, .inr (13, [.ref mm, .ref msv, .int vS, .ref mpa, .int vC, .int vT, .int vF, .ref mio, .ref mfo, .int vL, .ref mre, .int vK, .ref mah, .int vR, .ref mrw, .ref mrr, .ref mrs, .ref mrb, .int 0, .int 0, .int 0, .int vN, .ref mso, .ref mnu, .ref mse, .ref mbe, .ref men]))] := hD
  have hw : r_1 = (-1) := hw
  subst hw
  refine lv_bipush (v := 48) hx hb dX12_readNumber_13 (by decide) ?_
  refine lv_bipush (v := 57) hx hb dX12_readNumber_15 (by decide) ?_
  refine n_ci (wr := [(y, .inr (13, [.ref mm, .ref msv, .int vS, .ref mpa, .int vC, .int vT, .int vF, .ref mio, .ref mfo, .int vL, .ref mre, .int vK, .ref mah, .int vR, .ref mrw, .ref mrr, .ref mrs, .ref mrb, .int 0, .int 0, .int 0, .int vN, .ref mso, .ref mnu, .ref mse, .ref mbe, .ref men]))]) (va_runS (As := [.int (-1), .int 48, .int 57]) (rest := []) ⟨hx, hb, hml, hown, hts⟩ (mX12_in1 l G H.size) (va_cwS 3 hts gX12_readNumber_X12_in rfl rfl rfl (by decide +kernel) ⟨(Nat.le_of_ble_eq_true rfl), (Nat.le_of_ble_eq_true rfl)⟩) (n_prS hK hP hD [] rfl (by decide)) rfl rfl hl.1 rfl (lv_room (Nat.le_of_ble_eq_true rfl)) dX12_readNumber_17 ⟨(Nat.le_of_ble_eq_true rfl), (Nat.le_of_ble_eq_true rfl)⟩) hP hD hS hA [] [0] rfl rfl (by decide) (by decide) (fun r_3 u_4 H locs hP hD hS hw => ?_)
  have hP : va_P G.1 vwCl [(y, .inr (13, [.ref mm, .ref msv, .int vS, .ref mpa, .int vC, .int vT, .int vF, .ref mio, .ref mfo, .int vL, .ref mre, .int vK, .ref mah, .int vR, .ref mrw, .ref mrr, .ref mrs, .ref mrb, .int 0, .int 0, .int 0, .int vN, .ref mso, .ref mnu, .ref mse, .ref mbe, .ref men]))] H := hP
  have hD : va_D A [(y, .inr (13, [.ref mm, .ref msv, .int vS, .ref mpa, .int vC, .int vT, .int vF, .ref mio, .ref mfo, .int vL, .ref mre, .int vK, .ref mah, .int vR, .ref mrw, .ref mrr, .ref mrs, .ref mrb, .int 0, .int 0, .int 0, .int vN, .ref mso, .ref mnu, .ref mse, .ref mbe, .ref men]))] := hD
  have hw : r_3 = 0 := hw
  subst hw
  refine lv_if_eq (tgt := 52) hx hb dX12_readNumber_20 (by decide) (fun _ => ?_) (fun h9 => absurd (by decide) h9)
  refine lv_aload_n hx hb dX12_readNumber_52 rfl (lv_at hl 2 rfl) ?_
  refine lv_aload_n hx hb dX12_readNumber_53 rfl (lv_at hl 2 rfl) ?_
  refine va_get (D := G.1) (ci := 13) (v := .int 0) (C := RX12) (T := TX12) (N := 27) hx hb hts hiX12 hown hK hP 0 rfl rfl 20 (by decide) (hts (.fieldLink RX12 257 "DialectDictionaryModel" "isBad" "Z") (by decide +kernel)) (fun _ h9 => h9) rfl dX12_readNumber_54 ?_
  refine lv_if_ne (tgt := 64) hx hb dX12_readNumber_57 (by decide) (fun h9 => absurd (by decide) h9) (fun _ => ?_)
  refine lv_iload_n hx hb dX12_readNumber_60 rfl (lv_at hl 0 rfl) ?_
  refine lv_if_ne (tgt := 68) hx hb dX12_readNumber_61 (by decide) (fun h9 => absurd (by decide) h9) (fun _ => ?_)
  refine lv_iconst (v := 1) hx hb dX12_readNumber_64 (by decide) ?_
  refine lv_goto (tgt := 69) hx hb dX12_readNumber_65 (by decide) ?_
  refine va_put (D := G.1) (ci := 13) (v := .int 1) (ty := .boolean) (C := RX12) (T := TX12) (N := 27) hx hb hts hiX12 tyX12 tyX12_ok nmX12 hown hK hP hD hS 0 rfl rfl 20 (by decide) (hts (.fieldLink RX12 257 "DialectDictionaryModel" "isBad" "Z") (by decide +kernel)) (fun _ h9 => h9) rfl (by decide +kernel) rfl rfl (Nat.le_of_ble_eq_true rfl) dX12_readNumber_69 (fun H locs hP hD hS => ?_)
  have hP : va_P G.1 vwCl [(y, .inr (13, [.ref mm, .ref msv, .int vS, .ref mpa, .int vC, .int vT, .int vF, .ref mio, .ref mfo, .int vL, .ref mre, .int vK, .ref mah, .int vR, .ref mrw, .ref mrr, .ref mrs, .ref mrb, .int 0, .int 0, .int 1, .int vN, .ref mso, .ref mnu, .ref mse, .ref mbe, .ref men]))] H := hP
  have hD : va_D A [(y, .inr (13, [.ref mm, .ref msv, .int vS, .ref mpa, .int vC, .int vT, .int vF, .ref mio, .ref mfo, .int vL, .ref mre, .int vK, .ref mah, .int vR, .ref mrw, .ref mrr, .ref mrs, .ref mrb, .int 0, .int 0, .int 1, .int vN, .ref mso, .ref mnu, .ref mse, .ref mbe, .ref men]))] := hD
  refine lv_iload_n hx hb dX12_readNumber_72 rfl (lv_at hl 1 rfl) ?_
  have hP9 := n_Psub (wc := [(y, .inr (13, [.ref mm, .ref msv, .int vS, .ref mpa, .int vC, .int vT, .int vF, .ref mio, .ref mfo, .int vL, .ref mre, .int vK, .ref mah, .int vR, .ref mrw, .ref mrr, .ref mrs, .ref mrb, .int 0, .int 0, .int 1, .int vN, .ref mso, .ref mnu, .ref mse, .ref mbe, .ref men]))]) hP [0] rfl
  have hD9 := hD.sub (ws' := [(y, .inr (13, [.ref mm, .ref msv, .int vS, .ref mpa, .int vC, .int vT, .int vF, .ref mio, .ref mfo, .int vL, .ref mre, .int vK, .ref mah, .int vR, .ref mrw, .ref mrr, .ref mrs, .ref mrb, .int 0, .int 0, .int 1, .int vN, .ref mso, .ref mnu, .ref mse, .ref mbe, .ref men]))]) [0] (by decide) rfl
  refine W.widen (k := 0) (n := 0) (Nat.le_of_ble_eq_true rfl) (Nat.le_of_ble_eq_true rfl) ?_
  exact W.iret (v := 0) hx hb hr (fun t ht hW => ⟨⟨0, (), rfl, rfl, by rw [ht]; exact hP9, va_K.moved hW.alike hK, hD9⟩, hS.F ht⟩) hS.2.2 dX12_readNumber_73

set_option maxHeartbeats 4000000 in
set_option maxRecDepth 100000 in
theorem mX12_readCommand (l : Launch) (G : nG) (y : Nat) (mm : Nat) (msv : Nat) (mpa : Nat) (mio : Nat) (mfo : Nat) (mre : Nat) (mah : Nat) (mrw : Nat) (mrr : Nat) (mrs : Nat) (mrb : Nat) (mso : Nat) (mnu : Nat) (mse : Nat) (mbe : Nat) (men : Nat) (vS : Int32) (vC : Int32) (vT : Int32) (vF : Int32) (vL : Int32) (vK : Int32) (vR : Int32) (fn : Nat → Int32) (fs : Nat → Int32) (sz : Nat) : Met l yX12_readCommand wsX12_readCommand ({ frames := 2, cells := 0, slots := 0, locals := 44 }) (va_Pc [.ref y] (n_pp G [(y, .inr (13, [.ref mm, .ref msv, .int vS, .ref mpa, .int vC, .int vT, .int vF, .ref mio, .ref mfo, .int vL, .ref mre, .int vK, .ref mah, .int vR, .ref mrw, .ref mrr, .ref mrs, .ref mrb, .int 0, .int 0, .int 0, .int 0, .ref mso, .ref mnu, .ref mse, .ref mbe, .ref men])), (mnu, eI G 60 fn), (mso, eI G 60 fs)] sz)) (va_Qv (fun (_ : Unit) => True) (fun (_ : Unit) (t : State) => n_po G (va_A [(y, .inr (13, [.ref mm, .ref msv, .int vS, .ref mpa, .int vC, .int vT, .int vF, .ref mio, .ref mfo, .int vL, .ref mre, .int vK, .ref mah, .int vR, .ref mrw, .ref mrr, .ref mrs, .ref mrb, .int 0, .int 0, .int 0, .int 0, .ref mso, .ref mnu, .ref mse, .ref mbe, .ref men])), (mnu, eI G 60 fn), (mso, eI G 60 fs)] sz) [(y, .inr (13, [.ref mm, .ref msv, .int vS, .ref mpa, .int vC, .int vT, .int vF, .ref mio, .ref mfo, .int vL, .ref mre, .int vK, .ref mah, .int vR, .ref mrw, .ref mrr, .ref mrs, .ref mrb, .int 0, .int 0, .int 1, .int 1, .ref mso, .ref mnu, .ref mse, .ref mbe, .ref men]))] t) (va_A [(y, .inr (13, [.ref mm, .ref msv, .int vS, .ref mpa, .int vC, .int vT, .int vF, .ref mio, .ref mfo, .int vL, .ref mre, .int vK, .ref mah, .int vR, .ref mrw, .ref mrr, .ref mrs, .ref mrb, .int 0, .int 0, .int 0, .int 0, .ref mso, .ref mnu, .ref mse, .ref mbe, .ref men])), (mnu, eI G 60 fn), (mso, eI G 60 fs)] sz)) 0 0 (va_A [(y, .inr (13, [.ref mm, .ref msv, .int vS, .ref mpa, .int vC, .int vT, .int vF, .ref mio, .ref mfo, .int vL, .ref mre, .int vK, .ref mah, .int vR, .ref mrw, .ref mrr, .ref mrs, .ref mrb, .int 0, .int 0, .int 0, .int 0, .ref mso, .ref mnu, .ref mse, .ref mbe, .ref men])), (mnu, eI G 60 fn), (mso, eI G 60 fs)] sz) := by
  refine Met.ofW (cc := cX12_readCommand) (maxL := 2) (ret := none) (by decide) rfl ?_
  intro p e s m args below meth c s₁ B hml hv
  obtain ⟨rfl, hsz, hP, hK, hD0⟩ := hv
  have hx := B.exec
  have hb := B.bytes
  have hr := B.returns
  have hts := atoms_spec (ws := wsX12_readCommand) B.pre
  have hown : s.vm.findClass RX12 = some m.cls := findClass_of_methodNamed B.named
  have hlocks := B.notSynchronized
  subst hsz
  have hD := hD0.self (sz := s.heap.size)
  generalize hAe : va_A [(y, .inr (13, [.ref mm, .ref msv, .int vS, .ref mpa, .int vC, .int vT, .int vF, .ref mio, .ref mfo, .int vL, .ref mre, .int vK, .ref mah, .int vR, .ref mrw, .ref mrr, .ref mrs, .ref mrb, .int 0, .int 0, .int 0, .int 0, .ref mso, .ref mnu, .ref mse, .ref mbe, .ref men])), (mnu, eI G 60 fn), (mso, eI G 60 fs)] s.heap.size = A at hD ⊢
  have hA : ∀ q : Nat, s.heap.size ≤ q → A q := fun q h => by rw [← hAe]; exact Or.inr h
  have hS : va_S A s.heap s.heap [] := va_S.rf
  have hP : va_P G.1 vwCl [(y, .inr (13, [.ref mm, .ref msv, .int vS, .ref mpa, .int vC, .int vT, .int vF, .ref mio, .ref mfo, .int vL, .ref mre, .int vK, .ref mah, .int vR, .ref mrw, .ref mrr, .ref mrs, .ref mrb, .int 0, .int 0, .int 0, .int 0, .ref mso, .ref mnu, .ref mse, .ref mbe, .ref men])), (mnu, eI G 60 fn), (mso, eI G 60 fs)] s.heap := hP
  have hl := lv_entry ([.ref y]) (n := 2) (Nat.le_of_ble_eq_true rfl)
  rw [lg_entry_eq]
  generalize (lg_sl ([.ref y]) ++ List.replicate (2 - (lg_sl ([.ref y])).length) Slot.unset).toArray = ls at hl ⊢
  have hl : lv_has ls 2 [(0, .ref y)] := hl
  obtain ⟨H, hH⟩ : ∃ z, z = s.heap := ⟨_, rfl⟩
  have hS : va_S A s.heap H [] := by rw [hH]; exact hS
  have hP : va_P G.1 vwCl [(y, .inr (13, [.ref mm, .ref msv, .int vS, .ref mpa, .int vC, .int vT, .int vF, .ref mio, .ref mfo, .int vL, .ref mre, .int vK, .ref mah, .int vR, .ref mrw, .ref mrr, .ref mrs, .ref mrb, .int 0, .int 0, .int 0, .int 0, .ref mso, .ref mnu, .ref mse, .ref mbe, .ref men])), (mnu, eI G 60 fn), (mso, eI G 60 fs)] H := by rw [hH]; exact hP
  refine n_heap hH ?_
  generalize ([] : List Loc) = locs at hS ⊢
  have hiX12 : ∀ w ∈ u_ws RX12 TX12 27, w ∈ wsX12_readCommand := by decide +kernel
  refine lv_aload_n hx hb dX12_readCommand_0 rfl (lv_at hl 0 rfl) ?_
  refine n_ci (wr := [(mnu, eI G 60 fn), (mso, eI G 60 fs)]) (va_runV (As := []) (rest := []) ⟨hx, hb, hml, hown, hts⟩ (mX12_here l G y mm msv mpa mio mfo mre mah mrw mrr mrs mrb mso mnu mse mbe men vS vC vT vF vL vK vR 0 0 H.size) (cwV 0 hts gX12_readCommand_X12_here rfl rfl rfl (by decide +kernel) ⟨(Nat.le_of_ble_eq_true rfl), (Nat.le_of_ble_eq_true rfl)⟩) (n_prV (ci := 13) (q0 := 0) hK hP hD [0] rfl (by decide) rfl rfl) rfl rfl hl.1 rfl (lv_room (Nat.le_of_ble_eq_true rfl)) dX12_readCommand_1 ⟨(Nat.le_of_ble_eq_true rfl), (Nat.le_of_ble_eq_true rfl)⟩) hP hD hS hA [0] [1, 2] rfl rfl (by decide) (by decide) (fun r_1 u_2 H locs hP hD hS hw => ?_)
  have hP : va_P G.1 vwCl [(mnu, eI G 60 fn), (mso, eI G 60 fs), (y, .inr (13, [.ref mm, .ref msv, .int vS, .ref mpa, .int vC, .int vT, .int vF, .ref mio, .ref mfo, .int vL, .ref mre, .int vK, .ref mah, .int vR, .ref mrw, .ref mrr, .ref mrs, .ref mrb, .int 0, .int 0, .int 0, .int 0, .ref mso, .ref mnu, .ref mse, .ref mbe, .ref men]))] H := hP
  have hD : va_D A [(mnu, eI G 60 fn), (mso, eI G 60 fs), (y, .inr (13, [.ref mm, .ref msv, .int vS, .ref mpa, .int vC, .int vT, .int vF, .ref mio, .ref mfo, .int vL, .ref mre, .int vK, .ref mah, .int vR, .ref mrw, .ref mrr, .ref mrs, .ref mrb, .int 0, .int 0, .int 0, .int 0, .ref mso, .ref mnu, .ref mse, .ref mbe, .ref men]))] := hD
  have hw : r_1 = (-1) := hw
  subst hw
  refine lv_bipush (v := 43) hx hb dX12_readCommand_4 (by decide) ?_
  refine lv_icmp_ne (tgt := 33) hx hb dX12_readCommand_6 (by decide) (fun _ => ?_) (fun h9 => absurd h9 (by decide))
  refine lv_aload_n hx hb dX12_readCommand_33 rfl (lv_at hl 0 rfl) ?_
  refine va_get (D := G.1) (ci := 13) (v := .ref mnu) (C := RX12) (T := TX12) (N := 27) hx hb hts hiX12 hown hK hP 2 rfl rfl 23 (by decide) (hts (.fieldLink RX12 50 "DialectDictionaryModel" "number" "[I") (by decide +kernel)) (fun _ h9 => h9) rfl dX12_readCommand_34 ?_
  refine lv_aload_n hx hb dX12_readCommand_37 rfl (lv_at hl 0 rfl) ?_
  refine va_get (D := G.1) (ci := 13) (v := .int 0) (C := RX12) (T := TX12) (N := 27) hx hb hts hiX12 hown hK hP 2 rfl rfl 21 (by decide) (hts (.fieldLink RX12 261 "DialectDictionaryModel" "commands" "I") (by decide +kernel)) (fun _ h9 => h9) rfl dX12_readCommand_38 ?_
  refine lv_aload_n hx hb dX12_readCommand_41 rfl (lv_at hl 0 rfl) ?_
  refine n_ci (wr := [(mnu, eI G 60 fn), (mso, eI G 60 fs)]) (va_runV (As := []) (rest := [.int 0, .ref mnu]) ⟨hx, hb, hml, hown, hts⟩ (mX12_readNumber l G y mm msv mpa mio mfo mre mah mrw mrr mrs mrb mso mnu mse mbe men vS vC vT vF vL vK vR 0 H.size) (cwV 0 hts gX12_readCommand_X12_readNumber rfl rfl rfl (by decide +kernel) ⟨(Nat.le_of_ble_eq_true rfl), (Nat.le_of_ble_eq_true rfl)⟩) (n_prV (ci := 13) (q0 := 2) hK hP hD [2] rfl (by decide) rfl rfl) rfl rfl hl.1 rfl (lv_room (Nat.le_of_ble_eq_true rfl)) dX12_readCommand_42 ⟨(Nat.le_of_ble_eq_true rfl), (Nat.le_of_ble_eq_true rfl)⟩) hP hD hS hA [2] [0, 1] rfl rfl (by decide) (by decide) (fun r_3 u_4 H locs hP hD hS hw => ?_)
  have hP : va_P G.1 vwCl [(mnu, eI G 60 fn), (mso, eI G 60 fs), (y, .inr (13, [.ref mm, .ref msv, .int vS, .ref mpa, .int vC, .int vT, .int vF, .ref mio, .ref mfo, .int vL, .ref mre, .int vK, .ref mah, .int vR, .ref mrw, .ref mrr, .ref mrs, .ref mrb, .int 0, .int 0, .int 1, .int 0, .ref mso, .ref mnu, .ref mse, .ref mbe, .ref men]))] H := hP
  have hD : va_D A [(mnu, eI G 60 fn), (mso, eI G 60 fs), (y, .inr (13, [.ref mm, .ref msv, .int vS, .ref mpa, .int vC, .int vT, .int vF, .ref mio, .ref mfo, .int vL, .ref mre, .int vK, .ref mah, .int vR, .ref mrw, .ref mrr, .ref mrs, .ref mrb, .int 0, .int 0, .int 1, .int 0, .ref mso, .ref mnu, .ref mse, .ref mbe, .ref men]))] := hD
  have hw : r_3 = 0 := hw
  subst hw
  refine va_iast hx hb hK hP hD hS 0 0 rfl rfl (n_in (by decide)) dX12_readCommand_45 (fun H locs hP hD hS => ?_)
  have hP : va_P G.1 vwCl [(mnu, eI G 60 (upd fn ((0 : Int32).toNatClampNeg) 0)), (mso, eI G 60 fs), (y, .inr (13, [.ref mm, .ref msv, .int vS, .ref mpa, .int vC, .int vT, .int vF, .ref mio, .ref mfo, .int vL, .ref mre, .int vK, .ref mah, .int vR, .ref mrw, .ref mrr, .ref mrs, .ref mrb, .int 0, .int 0, .int 1, .int 0, .ref mso, .ref mnu, .ref mse, .ref mbe, .ref men]))] H := hP
  have hD : va_D A [(mnu, eI G 60 (upd fn ((0 : Int32).toNatClampNeg) 0)), (mso, eI G 60 fs), (y, .inr (13, [.ref mm, .ref msv, .int vS, .ref mpa, .int vC, .int vT, .int vF, .ref mio, .ref mfo, .int vL, .ref mre, .int vK, .ref mah, .int vR, .ref mrw, .ref mrr, .ref mrs, .ref mrb, .int 0, .int 0, .int 1, .int 0, .ref mso, .ref mnu, .ref mse, .ref mbe, .ref men]))] := hD
  refine lv_aload_n hx hb dX12_readCommand_46 rfl (lv_at hl 0 rfl) ?_
  refine n_ci (wr := [(mnu, eI G 60 (upd fn ((0 : Int32).toNatClampNeg) 0)), (mso, eI G 60 fs)]) (va_runV (As := []) (rest := []) ⟨hx, hb, hml, hown, hts⟩ (mX12_here l G y mm msv mpa mio mfo mre mah mrw mrr mrs mrb mso mnu mse mbe men vS vC vT vF vL vK vR 1 0 H.size) (cwV 0 hts gX12_readCommand_X12_here rfl rfl rfl (by decide +kernel) ⟨(Nat.le_of_ble_eq_true rfl), (Nat.le_of_ble_eq_true rfl)⟩) (n_prV (ci := 13) (q0 := 2) hK hP hD [2] rfl (by decide) rfl rfl) rfl rfl hl.1 rfl (lv_room (Nat.le_of_ble_eq_true rfl)) dX12_readCommand_47 ⟨(Nat.le_of_ble_eq_true rfl), (Nat.le_of_ble_eq_true rfl)⟩) hP hD hS hA [2] [0, 1] rfl rfl (by decide) (by decide) (fun r_5 u_6 H locs hP hD hS hw => ?_)
  have hP : va_P G.1 vwCl [(mnu, eI G 60 (upd fn ((0 : Int32).toNatClampNeg) 0)), (mso, eI G 60 fs), (y, .inr (13, [.ref mm, .ref msv, .int vS, .ref mpa, .int vC, .int vT, .int vF, .ref mio, .ref mfo, .int vL, .ref mre, .int vK, .ref mah, .int vR, .ref mrw, .ref mrr, .ref mrs, .ref mrb, .int 0, .int 0, .int 1, .int 0, .ref mso, .ref mnu, .ref mse, .ref mbe, .ref men]))] H := hP
  have hD : va_D A [(mnu, eI G 60 (upd fn ((0 : Int32).toNatClampNeg) 0)), (mso, eI G 60 fs), (y, .inr (13, [.ref mm, .ref msv, .int vS, .ref mpa, .int vC, .int vT, .int vF, .ref mio, .ref mfo, .int vL, .ref mre, .int vK, .ref mah, .int vR, .ref mrw, .ref mrr, .ref mrs, .ref mrb, .int 0, .int 0, .int 1, .int 0, .ref mso, .ref mnu, .ref mse, .ref mbe, .ref men]))] := hD
  have hw : r_5 = (-1) := hw
  subst hw
  refine lv_istore_n (lv' := [(1, .int (-1)), (0, .ref y)]) hx hb dX12_readCommand_50 rfl hl (by decide) rfl (fun ls hl => ?_)
  refine lv_aload_n hx hb dX12_readCommand_51 rfl (lv_at hl 1 rfl) ?_
  refine lv_aload_n hx hb dX12_readCommand_52 rfl (lv_at hl 1 rfl) ?_
  refine va_get (D := G.1) (ci := 13) (v := .int 1) (C := RX12) (T := TX12) (N := 27) hx hb hts hiX12 hown hK hP 2 rfl rfl 20 (by decide) (hts (.fieldLink RX12 257 "DialectDictionaryModel" "isBad" "Z") (by decide +kernel)) (fun _ h9 => h9) rfl dX12_readCommand_53 ?_
  refine lv_if_ne (tgt := 77) hx hb dX12_readCommand_56 (by decide) (fun _ => ?_) (fun h9 => absurd h9 (by decide))
  refine lv_iconst (v := 1) hx hb dX12_readCommand_77 (by decide) ?_
  refine lv_goto (tgt := 82) hx hb dX12_readCommand_78 (by decide) ?_
  refine va_put (D := G.1) (ci := 13) (v := .int 1) (ty := .boolean) (C := RX12) (T := TX12) (N := 27) hx hb hts hiX12 tyX12 tyX12_ok nmX12 hown hK hP hD hS 2 rfl rfl 20 (by decide) (hts (.fieldLink RX12 257 "DialectDictionaryModel" "isBad" "Z") (by decide +kernel)) (fun _ h9 => h9) rfl (by decide +kernel) rfl rfl (Nat.le_of_ble_eq_true rfl) dX12_readCommand_82 (fun H locs hP hD hS => ?_)
  have hP : va_P G.1 vwCl [(mnu, eI G 60 (upd fn ((0 : Int32).toNatClampNeg) 0)), (mso, eI G 60 fs), (y, .inr (13, [.ref mm, .ref msv, .int vS, .ref mpa, .int vC, .int vT, .int vF, .ref mio, .ref mfo, .int vL, .ref mre, .int vK, .ref mah, .int vR, .ref mrw, .ref mrr, .ref mrs, .ref mrb, .int 0, .int 0, .int 1, .int 0, .ref mso, .ref mnu, .ref mse, .ref mbe, .ref men]))] H := hP
  have hD : va_D A [(mnu, eI G 60 (upd fn ((0 : Int32).toNatClampNeg) 0)), (mso, eI G 60 fs), (y, .inr (13, [.ref mm, .ref msv, .int vS, .ref mpa, .int vC, .int vT, .int vF, .ref mio, .ref mfo, .int vL, .ref mre, .int vK, .ref mah, .int vR, .ref mrw, .ref mrr, .ref mrs, .ref mrb, .int 0, .int 0, .int 1, .int 0, .ref mso, .ref mnu, .ref mse, .ref mbe, .ref men]))] := hD
  refine lv_aload_n hx hb dX12_readCommand_85 rfl (lv_at hl 1 rfl) ?_
  refine va_get (D := G.1) (ci := 13) (v := .ref mso) (C := RX12) (T := TX12) (N := 27) hx hb hts hiX12 hown hK hP 2 rfl rfl 22 (by decide) (hts (.fieldLink RX12 47 "DialectDictionaryModel" "sort" "[I") (by decide +kernel)) (fun _ h9 => h9) rfl dX12_readCommand_86 ?_
  refine lv_aload_n hx hb dX12_readCommand_89 rfl (lv_at hl 1 rfl) ?_
  refine va_get (D := G.1) (ci := 13) (v := .int 0) (C := RX12) (T := TX12) (N := 27) hx hb hts hiX12 hown hK hP 2 rfl rfl 21 (by decide) (hts (.fieldLink RX12 261 "DialectDictionaryModel" "commands" "I") (by decide +kernel)) (fun _ h9 => h9) rfl dX12_readCommand_90 ?_
  refine lv_iload_n hx hb dX12_readCommand_93 rfl (lv_at hl 0 rfl) ?_
  refine va_iast hx hb hK hP hD hS 1 0 rfl rfl (n_in (by decide)) dX12_readCommand_94 (fun H locs hP hD hS => ?_)
  have hP : va_P G.1 vwCl [(mnu, eI G 60 (upd fn ((0 : Int32).toNatClampNeg) 0)), (mso, eI G 60 (upd fs ((0 : Int32).toNatClampNeg) (-1))), (y, .inr (13, [.ref mm, .ref msv, .int vS, .ref mpa, .int vC, .int vT, .int vF, .ref mio, .ref mfo, .int vL, .ref mre, .int vK, .ref mah, .int vR, .ref mrw, .ref mrr, .ref mrs, .ref mrb, .int 0, .int 0, .int 1, .int 0, .ref mso, .ref mnu, .ref mse, .ref mbe, .ref men]))] H := hP
  have hD : va_D A [(mnu, eI G 60 (upd fn ((0 : Int32).toNatClampNeg) 0)), (mso, eI G 60 (upd fs ((0 : Int32).toNatClampNeg) (-1))), (y, .inr (13, [.ref mm, .ref msv, .int vS, .ref mpa, .int vC, .int vT, .int vF, .ref mio, .ref mfo, .int vL, .ref mre, .int vK, .ref mah, .int vR, .ref mrw, .ref mrr, .ref mrs, .ref mrb, .int 0, .int 0, .int 1, .int 0, .ref mso, .ref mnu, .ref mse, .ref mbe, .ref men]))] := hD
  refine lv_aload_n hx hb dX12_readCommand_95 rfl (lv_at hl 1 rfl) ?_
  refine lv_dup hx hb dX12_readCommand_96 rfl ?_
  refine va_get (D := G.1) (ci := 13) (v := .int 0) (C := RX12) (T := TX12) (N := 27) hx hb hts hiX12 hown hK hP 2 rfl rfl 18 (by decide) (hts (.fieldLink RX12 248 "DialectDictionaryModel" "at0" "I") (by decide +kernel)) (fun _ h9 => h9) rfl dX12_readCommand_97 ?_
  refine lv_aload_n hx hb dX12_readCommand_100 rfl (lv_at hl 1 rfl) ?_
  refine va_get (D := G.1) (ci := 13) (v := .int 1) (C := RX12) (T := TX12) (N := 27) hx hb hts hiX12 hown hK hP 2 rfl rfl 20 (by decide) (hts (.fieldLink RX12 257 "DialectDictionaryModel" "isBad" "Z") (by decide +kernel)) (fun _ h9 => h9) rfl dX12_readCommand_101 ?_
  refine lv_if_eq (tgt := 111) hx hb dX12_readCommand_104 (by decide) (fun h9 => absurd h9 (by decide)) (fun _ => ?_)
  refine lv_iconst (v := 0) hx hb dX12_readCommand_107 (by decide) ?_
  refine lv_goto (tgt := 112) hx hb dX12_readCommand_108 (by decide) ?_
  refine lv_iadd hx hb dX12_readCommand_112 ?_
  refine n_eqi (y := 0) (by decide) ?_
  refine va_put (D := G.1) (ci := 13) (v := .int 0) (ty := .int) (C := RX12) (T := TX12) (N := 27) hx hb hts hiX12 tyX12 tyX12_ok nmX12 hown hK hP hD hS 2 rfl rfl 18 (by decide) (hts (.fieldLink RX12 248 "DialectDictionaryModel" "at0" "I") (by decide +kernel)) (fun _ h9 => h9) rfl (by decide +kernel) rfl rfl (Nat.le_of_ble_eq_true rfl) dX12_readCommand_113 (fun H locs hP hD hS => ?_)
  have hP : va_P G.1 vwCl [(mnu, eI G 60 (upd fn ((0 : Int32).toNatClampNeg) 0)), (mso, eI G 60 (upd fs ((0 : Int32).toNatClampNeg) (-1))), (y, .inr (13, [.ref mm, .ref msv, .int vS, .ref mpa, .int vC, .int vT, .int vF, .ref mio, .ref mfo, .int vL, .ref mre, .int vK, .ref mah, .int vR, .ref mrw, .ref mrr, .ref mrs, .ref mrb, .int 0, .int 0, .int 1, .int 0, .ref mso, .ref mnu, .ref mse, .ref mbe, .ref men]))] H := hP
  have hD : va_D A [(mnu, eI G 60 (upd fn ((0 : Int32).toNatClampNeg) 0)), (mso, eI G 60 (upd fs ((0 : Int32).toNatClampNeg) (-1))), (y, .inr (13, [.ref mm, .ref msv, .int vS, .ref mpa, .int vC, .int vT, .int vF, .ref mio, .ref mfo, .int vL, .ref mre, .int vK, .ref mah, .int vR, .ref mrw, .ref mrr, .ref mrs, .ref mrb, .int 0, .int 0, .int 1, .int 0, .ref mso, .ref mnu, .ref mse, .ref mbe, .ref men]))] := hD
  refine lv_aload_n hx hb dX12_readCommand_116 rfl (lv_at hl 1 rfl) ?_
  refine va_get (D := G.1) (ci := 13) (v := .int 1) (C := RX12) (T := TX12) (N := 27) hx hb hts hiX12 hown hK hP 2 rfl rfl 20 (by decide) (hts (.fieldLink RX12 257 "DialectDictionaryModel" "isBad" "Z") (by decide +kernel)) (fun _ h9 => h9) rfl dX12_readCommand_117 ?_
  refine lv_if_ne (tgt := 158) hx hb dX12_readCommand_120 (by decide) (fun _ => ?_) (fun h9 => absurd h9 (by decide))
  refine lv_aload_n hx hb dX12_readCommand_158 rfl (lv_at hl 1 rfl) ?_
  refine va_get (D := G.1) (ci := 13) (v := .int 1) (C := RX12) (T := TX12) (N := 27) hx hb hts hiX12 hown hK hP 2 rfl rfl 20 (by decide) (hts (.fieldLink RX12 257 "DialectDictionaryModel" "isBad" "Z") (by decide +kernel)) (fun _ h9 => h9) rfl dX12_readCommand_159 ?_
  refine lv_if_ne (tgt := 178) hx hb dX12_readCommand_162 (by decide) (fun _ => ?_) (fun h9 => absurd h9 (by decide))
  refine lv_aload_n hx hb dX12_readCommand_178 rfl (lv_at hl 1 rfl) ?_
  refine lv_dup hx hb dX12_readCommand_179 rfl ?_
  refine va_get (D := G.1) (ci := 13) (v := .int 0) (C := RX12) (T := TX12) (N := 27) hx hb hts hiX12 hown hK hP 2 rfl rfl 21 (by decide) (hts (.fieldLink RX12 261 "DialectDictionaryModel" "commands" "I") (by decide +kernel)) (fun _ h9 => h9) rfl dX12_readCommand_180 ?_
  refine lv_iconst (v := 1) hx hb dX12_readCommand_183 (by decide) ?_
  refine lv_iadd hx hb dX12_readCommand_184 ?_
  refine n_eqi (y := 1) (by decide) ?_
  refine va_put (D := G.1) (ci := 13) (v := .int 1) (ty := .int) (C := RX12) (T := TX12) (N := 27) hx hb hts hiX12 tyX12 tyX12_ok nmX12 hown hK hP hD hS 2 rfl rfl 21 (by decide) (hts (.fieldLink RX12 261 "DialectDictionaryModel" "commands" "I") (by decide +kernel)) (fun _ h9 => h9) rfl (by decide +kernel) rfl rfl (Nat.le_of_ble_eq_true rfl) dX12_readCommand_185 (fun H locs hP hD hS => ?_)
  have hP : va_P G.1 vwCl [(mnu, eI G 60 (upd fn ((0 : Int32).toNatClampNeg) 0)), (mso, eI G 60 (upd fs ((0 : Int32).toNatClampNeg) (-1))), (y, .inr (13, [.ref mm, .ref msv, .int vS, .ref mpa, .int vC, .int vT, .int vF, .ref mio, .ref mfo, .int vL, .ref mre, .int vK, .ref mah, .int vR, .ref mrw, .ref mrr, .ref mrs, .ref mrb, .int 0, .int 0, .int 1, .int 1, .ref mso, .ref mnu, .ref mse, .ref mbe, .ref men]))] H := hP
  have hD : va_D A [(mnu, eI G 60 (upd fn ((0 : Int32).toNatClampNeg) 0)), (mso, eI G 60 (upd fs ((0 : Int32).toNatClampNeg) (-1))), (y, .inr (13, [.ref mm, .ref msv, .int vS, .ref mpa, .int vC, .int vT, .int vF, .ref mio, .ref mfo, .int vL, .ref mre, .int vK, .ref mah, .int vR, .ref mrw, .ref mrr, .ref mrs, .ref mrb, .int 0, .int 0, .int 1, .int 1, .ref mso, .ref mnu, .ref mse, .ref mbe, .ref men]))] := hD
  have hP9 := n_Psub (wc := [(y, .inr (13, [.ref mm, .ref msv, .int vS, .ref mpa, .int vC, .int vT, .int vF, .ref mio, .ref mfo, .int vL, .ref mre, .int vK, .ref mah, .int vR, .ref mrw, .ref mrr, .ref mrs, .ref mrb, .int 0, .int 0, .int 1, .int 1, .ref mso, .ref mnu, .ref mse, .ref mbe, .ref men]))]) hP [2] rfl
  have hD9 := hD.sub (ws' := [(y, .inr (13, [.ref mm, .ref msv, .int vS, .ref mpa, .int vC, .int vT, .int vF, .ref mio, .ref mfo, .int vL, .ref mre, .int vK, .ref mah, .int vR, .ref mrw, .ref mrr, .ref mrs, .ref mrb, .int 0, .int 0, .int 1, .int 1, .ref mso, .ref mnu, .ref mse, .ref mbe, .ref men]))]) [2] (by decide) rfl
  refine W.widen (k := 0) (n := 0) (Nat.le_of_ble_eq_true rfl) (Nat.le_of_ble_eq_true rfl) ?_
  exact W.vret hx hb hr (fun t ht hW => ⟨⟨(), rfl, trivial, by rw [ht]; exact hP9, va_K.moved hW.alike hK, hD9⟩, hS.F ht⟩) hS.2.2 dX12_readCommand_188

set_option maxHeartbeats 4000000 in
set_option maxRecDepth 100000 in
theorem mX12_isText (l : Launch) (G : nG) (y : Nat) (mm : Nat) (msv : Nat) (mpa : Nat) (mio : Nat) (mfo : Nat) (mre : Nat) (mah : Nat) (mrw : Nat) (mrr : Nat) (mrs : Nat) (mrb : Nat) (mso : Nat) (mnu : Nat) (mse : Nat) (mbe : Nat) (men : Nat) (vS : Int32) (vC : Int32) (vT : Int32) (vF : Int32) (vL : Int32) (vK : Int32) (vR : Int32) (v0 : Int32) (vB : Int32) (vN : Int32) (fn : Nat → Int32) (fs : Nat → Int32) (sz : Nat) : Met l yX12_isText wsX12_isText ({ frames := 3, cells := 0, slots := 0, locals := 65 }) (va_Pc [.ref y] (n_pp G [(y, .inr (13, [.ref mm, .ref msv, .int vS, .ref mpa, .int vC, .int vT, .int vF, .ref mio, .ref mfo, .int vL, .ref mre, .int vK, .ref mah, .int vR, .ref mrw, .ref mrr, .ref mrs, .ref mrb, .int v0, .int 0, .int vB, .int vN, .ref mso, .ref mnu, .ref mse, .ref mbe, .ref men])), (mnu, eI G 60 fn), (mso, eI G 60 fs)] sz)) (va_Qi (fun (r : Int32) (_ : Unit) => r = 0) (fun (_ : Unit) (t : State) => n_po G (va_A [(y, .inr (13, [.ref mm, .ref msv, .int vS, .ref mpa, .int vC, .int vT, .int vF, .ref mio, .ref mfo, .int vL, .ref mre, .int vK, .ref mah, .int vR, .ref mrw, .ref mrr, .ref mrs, .ref mrb, .int v0, .int 0, .int vB, .int vN, .ref mso, .ref mnu, .ref mse, .ref mbe, .ref men])), (mnu, eI G 60 fn), (mso, eI G 60 fs)] sz) [(y, .inr (13, [.ref mm, .ref msv, .int vS, .ref mpa, .int vC, .int vT, .int vF, .ref mio, .ref mfo, .int vL, .ref mre, .int vK, .ref mah, .int vR, .ref mrw, .ref mrr, .ref mrs, .ref mrb, .int 0, .int 0, .int 1, .int 1, .ref mso, .ref mnu, .ref mse, .ref mbe, .ref men]))] t) (va_A [(y, .inr (13, [.ref mm, .ref msv, .int vS, .ref mpa, .int vC, .int vT, .int vF, .ref mio, .ref mfo, .int vL, .ref mre, .int vK, .ref mah, .int vR, .ref mrw, .ref mrr, .ref mrs, .ref mrb, .int v0, .int 0, .int vB, .int vN, .ref mso, .ref mnu, .ref mse, .ref mbe, .ref men])), (mnu, eI G 60 fn), (mso, eI G 60 fs)] sz)) 0 0 (va_A [(y, .inr (13, [.ref mm, .ref msv, .int vS, .ref mpa, .int vC, .int vT, .int vF, .ref mio, .ref mfo, .int vL, .ref mre, .int vK, .ref mah, .int vR, .ref mrw, .ref mrr, .ref mrs, .ref mrb, .int v0, .int 0, .int vB, .int vN, .ref mso, .ref mnu, .ref mse, .ref mbe, .ref men])), (mnu, eI G 60 fn), (mso, eI G 60 fs)] sz) := by
  refine Met.ofW (cc := cX12_isText) (maxL := 1) (ret := (some .boolean)) (by decide) rfl ?_
  intro p e s m args below meth c s₁ B hml hv
  obtain ⟨rfl, hsz, hP, hK, hD0⟩ := hv
  have hx := B.exec
  have hb := B.bytes
  have hr := B.returns
  have hts := atoms_spec (ws := wsX12_isText) B.pre
  have hown : s.vm.findClass RX12 = some m.cls := findClass_of_methodNamed B.named
  have hlocks := B.notSynchronized
  subst hsz
  have hD := hD0.self (sz := s.heap.size)
  generalize hAe : va_A [(y, .inr (13, [.ref mm, .ref msv, .int vS, .ref mpa, .int vC, .int vT, .int vF, .ref mio, .ref mfo, .int vL, .ref mre, .int vK, .ref mah, .int vR, .ref mrw, .ref mrr, .ref mrs, .ref mrb, .int v0, .int 0, .int vB, .int vN, .ref mso, .ref mnu, .ref mse, .ref mbe, .ref men])), (mnu, eI G 60 fn), (mso, eI G 60 fs)] s.heap.size = A at hD ⊢
  have hA : ∀ q : Nat, s.heap.size ≤ q → A q := fun q h => by rw [← hAe]; exact Or.inr h
  have hS : va_S A s.heap s.heap [] := va_S.rf
  have hP : va_P G.1 vwCl [(y, .inr (13, [.ref mm, .ref msv, .int vS, .ref mpa, .int vC, .int vT, .int vF, .ref mio, .ref mfo, .int vL, .ref mre, .int vK, .ref mah, .int vR, .ref mrw, .ref mrr, .ref mrs, .ref mrb, .int v0, .int 0, .int vB, .int vN, .ref mso, .ref mnu, .ref mse, .ref mbe, .ref men])), (mnu, eI G 60 fn), (mso, eI G 60 fs)] s.heap := hP
  have hl := lv_entry ([.ref y]) (n := 1) (Nat.le_of_ble_eq_true rfl)
  rw [lg_entry_eq]
  generalize (lg_sl ([.ref y]) ++ List.replicate (1 - (lg_sl ([.ref y])).length) Slot.unset).toArray = ls at hl ⊢
  have hl : lv_has ls 1 [(0, .ref y)] := hl
  obtain ⟨H, hH⟩ : ∃ z, z = s.heap := ⟨_, rfl⟩
  have hS : va_S A s.heap H [] := by rw [hH]; exact hS
  have hP : va_P G.1 vwCl [(y, .inr (13, [.ref mm, .ref msv, .int vS, .ref mpa, .int vC, .int vT, .int vF, .ref mio, .ref mfo, .int vL, .ref mre, .int vK, .ref mah, .int vR, .ref mrw, .ref mrr, .ref mrs, .ref mrb, .int v0, .int 0, .int vB, .int vN, .ref mso, .ref mnu, .ref mse, .ref mbe, .ref men])), (mnu, eI G 60 fn), (mso, eI G 60 fs)] H := by rw [hH]; exact hP
  refine n_heap hH ?_
  generalize ([] : List Loc) = locs at hS ⊢
  have hiX12 : ∀ w ∈ u_ws RX12 TX12 27, w ∈ wsX12_isText := by decide +kernel
  refine lv_aload_n hx hb dX12_isText_0 rfl (lv_at hl 0 rfl) ?_
  refine lv_iconst (v := 0) hx hb dX12_isText_1 (by decide) ?_
  refine va_put (D := G.1) (ci := 13) (v := .int 0) (ty := .int) (C := RX12) (T := TX12) (N := 27) hx hb hts hiX12 tyX12 tyX12_ok nmX12 hown hK hP hD hS 0 rfl rfl 18 (by decide) (hts (.fieldLink RX12 248 "DialectDictionaryModel" "at0" "I") (by decide +kernel)) (fun _ h9 => h9) rfl (by decide +kernel) rfl rfl (Nat.le_of_ble_eq_true rfl) dX12_isText_2 (fun H locs hP hD hS => ?_)
  have hP : va_P G.1 vwCl [(y, .inr (13, [.ref mm, .ref msv, .int vS, .ref mpa, .int vC, .int vT, .int vF, .ref mio, .ref mfo, .int vL, .ref mre, .int vK, .ref mah, .int vR, .ref mrw, .ref mrr, .ref mrs, .ref mrb, .int 0, .int 0, .int vB, .int vN, .ref mso, .ref mnu, .ref mse, .ref mbe, .ref men])), (mnu, eI G 60 fn), (mso, eI G 60 fs)] H := hP
  have hD : va_D A [(y, .inr (13, [.ref mm, .ref msv, .int vS, .ref mpa, .int vC, .int vT, .int vF, .ref mio, .ref mfo, .int vL, .ref mre, .int vK, .ref mah, .int vR, .ref mrw, .ref mrr, .ref mrs, .ref mrb, .int 0, .int 0, .int vB, .int vN, .ref mso, .ref mnu, .ref mse, .ref mbe, .ref men])), (mnu, eI G 60 fn), (mso, eI G 60 fs)] := hD
  refine lv_aload_n hx hb dX12_isText_5 rfl (lv_at hl 0 rfl) ?_
  refine lv_iconst (v := 0) hx hb dX12_isText_6 (by decide) ?_
  refine va_put (D := G.1) (ci := 13) (v := .int 0) (ty := .boolean) (C := RX12) (T := TX12) (N := 27) hx hb hts hiX12 tyX12 tyX12_ok nmX12 hown hK hP hD hS 0 rfl rfl 20 (by decide) (hts (.fieldLink RX12 257 "DialectDictionaryModel" "isBad" "Z") (by decide +kernel)) (fun _ h9 => h9) rfl (by decide +kernel) rfl rfl (Nat.le_of_ble_eq_true rfl) dX12_isText_7 (fun H locs hP hD hS => ?_)
  have hP : va_P G.1 vwCl [(y, .inr (13, [.ref mm, .ref msv, .int vS, .ref mpa, .int vC, .int vT, .int vF, .ref mio, .ref mfo, .int vL, .ref mre, .int vK, .ref mah, .int vR, .ref mrw, .ref mrr, .ref mrs, .ref mrb, .int 0, .int 0, .int 0, .int vN, .ref mso, .ref mnu, .ref mse, .ref mbe, .ref men])), (mnu, eI G 60 fn), (mso, eI G 60 fs)] H := hP
  have hD : va_D A [(y, .inr (13, [.ref mm, .ref msv, .int vS, .ref mpa, .int vC, .int vT, .int vF, .ref mio, .ref mfo, .int vL, .ref mre, .int vK, .ref mah, .int vR, .ref mrw, .ref mrr, .ref mrs, .ref mrb, .int 0, .int 0, .int 0, .int vN, .ref mso, .ref mnu, .ref mse, .ref mbe, .ref men])), (mnu, eI G 60 fn), (mso, eI G 60 fs)] := hD
  refine lv_aload_n hx hb dX12_isText_10 rfl (lv_at hl 0 rfl) ?_
  refine lv_iconst (v := 0) hx hb dX12_isText_11 (by decide) ?_
  refine va_put (D := G.1) (ci := 13) (v := .int 0) (ty := .int) (C := RX12) (T := TX12) (N := 27) hx hb hts hiX12 tyX12 tyX12_ok nmX12 hown hK hP hD hS 0 rfl rfl 21 (by decide) (hts (.fieldLink RX12 261 "DialectDictionaryModel" "commands" "I") (by decide +kernel)) (fun _ h9 => h9) rfl (by decide +kernel) rfl rfl (Nat.le_of_ble_eq_true rfl) dX12_isText_12 (fun H locs hP hD hS => ?_)
  have hP : va_P G.1 vwCl [(y, .inr (13, [.ref mm, .ref msv, .int vS, .ref mpa, .int vC, .int vT, .int vF, .ref mio, .ref mfo, .int vL, .ref mre, .int vK, .ref mah, .int vR, .ref mrw, .ref mrr, .ref mrs, .ref mrb, .int 0, .int 0, .int 0, .int 0, .ref mso, .ref mnu, .ref mse, .ref mbe, .ref men])), (mnu, eI G 60 fn), (mso, eI G 60 fs)] H := hP
  have hD : va_D A [(y, .inr (13, [.ref mm, .ref msv, .int vS, .ref mpa, .int vC, .int vT, .int vF, .ref mio, .ref mfo, .int vL, .ref mre, .int vK, .ref mah, .int vR, .ref mrw, .ref mrr, .ref mrs, .ref mrb, .int 0, .int 0, .int 0, .int 0, .ref mso, .ref mnu, .ref mse, .ref mbe, .ref men])), (mnu, eI G 60 fn), (mso, eI G 60 fs)] := hD
  refine lv_aload_n hx hb dX12_isText_15 rfl (lv_at hl 0 rfl) ?_
  refine n_cv (wr := []) (va_runV (As := []) (rest := []) ⟨hx, hb, hml, hown, hts⟩ (mX12_readCommand l G y mm msv mpa mio mfo mre mah mrw mrr mrs mrb mso mnu mse mbe men vS vC vT vF vL vK vR fn fs H.size) (cwV 0 hts gX12_isText_X12_readCommand rfl rfl rfl (by decide +kernel) ⟨(Nat.le_of_ble_eq_true rfl), (Nat.le_of_ble_eq_true rfl)⟩) (n_prV (ci := 13) (q0 := 0) hK hP hD [0, 1, 2] rfl (by decide) rfl rfl) rfl rfl hl.1 rfl (lv_room (Nat.le_of_ble_eq_true rfl)) dX12_isText_16 ⟨(Nat.le_of_ble_eq_true rfl), (Nat.le_of_ble_eq_true rfl)⟩) hP hD hS hA [0, 1, 2] [] rfl rfl (by decide) (by decide) (fun u_1 H locs hP hD hS hw => ?_)
  have hP : va_P G.1 vwCl [(y, .inr (13, [.ref mm, .ref msv, .int vS, .ref mpa, .int vC, .int vT, .int vF, .ref mio, .ref mfo, .int vL, .ref mre, .int vK, .ref mah, .int vR, .ref mrw, .ref mrr, .ref mrs, .ref mrb, .int 0, .int 0, .int 1, .int 1, .ref mso, .ref mnu, .ref mse, .ref mbe, .ref men]))] H := hP
  have hD : va_D A [(y, .inr (13, [.ref mm, .ref msv, .int vS, .ref mpa, .int vC, .int vT, .int vF, .ref mio, .ref mfo, .int vL, .ref mre, .int vK, .ref mah, .int vR, .ref mrw, .ref mrr, .ref mrs, .ref mrb, .int 0, .int 0, .int 1, .int 1, .ref mso, .ref mnu, .ref mse, .ref mbe, .ref men]))] := hD
  refine lv_aload_n hx hb dX12_isText_19 rfl (lv_at hl 0 rfl) ?_
  refine va_get (D := G.1) (ci := 13) (v := .int 1) (C := RX12) (T := TX12) (N := 27) hx hb hts hiX12 hown hK hP 0 rfl rfl 20 (by decide) (hts (.fieldLink RX12 257 "DialectDictionaryModel" "isBad" "Z") (by decide +kernel)) (fun _ h9 => h9) rfl dX12_isText_20 ?_
  refine lv_if_ne (tgt := 90) hx hb dX12_isText_23 (by decide) (fun _ => ?_) (fun h9 => absurd h9 (by decide))
  refine lv_aload_n hx hb dX12_isText_90 rfl (lv_at hl 0 rfl) ?_
  refine va_get (D := G.1) (ci := 13) (v := .int 1) (C := RX12) (T := TX12) (N := 27) hx hb hts hiX12 hown hK hP 0 rfl rfl 20 (by decide) (hts (.fieldLink RX12 257 "DialectDictionaryModel" "isBad" "Z") (by decide +kernel)) (fun _ h9 => h9) rfl dX12_isText_91 ?_
  refine lv_if_ne (tgt := 101) hx hb dX12_isText_94 (by decide) (fun _ => ?_) (fun h9 => absurd h9 (by decide))
  refine lv_iconst (v := 0) hx hb dX12_isText_101 (by decide) ?_
  have hP9 := n_Psub (wc := [(y, .inr (13, [.ref mm, .ref msv, .int vS, .ref mpa, .int vC, .int vT, .int vF, .ref mio, .ref mfo, .int vL, .ref mre, .int vK, .ref mah, .int vR, .ref mrw, .ref mrr, .ref mrs, .ref mrb, .int 0, .int 0, .int 1, .int 1, .ref mso, .ref mnu, .ref mse, .ref mbe, .ref men]))]) hP [0] rfl
  have hD9 := hD.sub (ws' := [(y, .inr (13, [.ref mm, .ref msv, .int vS, .ref mpa, .int vC, .int vT, .int vF, .ref mio, .ref mfo, .int vL, .ref mre, .int vK, .ref mah, .int vR, .ref mrw, .ref mrr, .ref mrs, .ref mrb, .int 0, .int 0, .int 1, .int 1, .ref mso, .ref mnu, .ref mse, .ref mbe, .ref men]))]) [0] (by decide) rfl
  refine W.widen (k := 0) (n := 0) (Nat.le_of_ble_eq_true rfl) (Nat.le_of_ble_eq_true rfl) ?_
  exact W.zret (v := 0) (ty := .boolean) hx hb hr rfl (fun t ht hW => ⟨⟨0, (), rfl, rfl, by rw [ht]; exact hP9, va_K.moved hW.alike hK, hD9⟩, hS.F ht⟩) hS.2.2 dX12_isText_102

set_option maxHeartbeats 4000000 in
set_option maxRecDepth 100000 in
theorem mX12_perform (l : Launch) (G : nG) (y : Nat) (mm : Nat) (msv : Nat) (mpa : Nat) (mio : Nat) (mfo : Nat) (mre : Nat) (mah : Nat) (mrw : Nat) (mrr : Nat) (mrs : Nat) (mrb : Nat) (mso : Nat) (mnu : Nat) (mse : Nat) (mbe : Nat) (men : Nat) (vS : Int32) (vC : Int32) (vT : Int32) (vL : Int32) (vK : Int32) (vR : Int32) (v0 : Int32) (vZ : Int32) (vB : Int32) (vN : Int32) (fn : Nat → Int32) (fs : Nat → Int32) (sz : Nat) : Met l yX12_perform wsX12_perform ({ frames := 4, cells := 0, slots := 0, locals := 85 }) (va_Pc [.ref y] (n_pp G [(y, .inr (13, [.ref mm, .ref msv, .int vS, .ref mpa, .int vC, .int vT, .int 0, .ref mio, .ref mfo, .int vL, .ref mre, .int vK, .ref mah, .int vR, .ref mrw, .ref mrr, .ref mrs, .ref mrb, .int v0, .int vZ, .int vB, .int vN, .ref mso, .ref mnu, .ref mse, .ref mbe, .ref men])), (mnu, eI G 60 fn), (mso, eI G 60 fs)] sz)) (va_Qi (fun (r : Int32) (_ : Unit) => r = (-100)) (fun (_ : Unit) (t : State) => n_po G (va_A [(y, .inr (13, [.ref mm, .ref msv, .int vS, .ref mpa, .int vC, .int vT, .int 0, .ref mio, .ref mfo, .int vL, .ref mre, .int vK, .ref mah, .int vR, .ref mrw, .ref mrr, .ref mrs, .ref mrb, .int v0, .int vZ, .int vB, .int vN, .ref mso, .ref mnu, .ref mse, .ref mbe, .ref men])), (mnu, eI G 60 fn), (mso, eI G 60 fs)] sz) [(y, .inr (13, [.ref mm, .ref msv, .int vS, .ref mpa, .int vC, .int 0, .int 0, .ref mio, .ref mfo, .int vL, .ref mre, .int vK, .ref mah, .int vR, .ref mrw, .ref mrr, .ref mrs, .ref mrb, .int 0, .int 0, .int 1, .int 1, .ref mso, .ref mnu, .ref mse, .ref mbe, .ref men]))] t) (va_A [(y, .inr (13, [.ref mm, .ref msv, .int vS, .ref mpa, .int vC, .int vT, .int 0, .ref mio, .ref mfo, .int vL, .ref mre, .int vK, .ref mah, .int vR, .ref mrw, .ref mrr, .ref mrs, .ref mrb, .int v0, .int vZ, .int vB, .int vN, .ref mso, .ref mnu, .ref mse, .ref mbe, .ref men])), (mnu, eI G 60 fn), (mso, eI G 60 fs)] sz)) 0 0 (va_A [(y, .inr (13, [.ref mm, .ref msv, .int vS, .ref mpa, .int vC, .int vT, .int 0, .ref mio, .ref mfo, .int vL, .ref mre, .int vK, .ref mah, .int vR, .ref mrw, .ref mrr, .ref mrs, .ref mrb, .int v0, .int vZ, .int vB, .int vN, .ref mso, .ref mnu, .ref mse, .ref mbe, .ref men])), (mnu, eI G 60 fn), (mso, eI G 60 fs)] sz) := by
  refine Met.ofW (cc := cX12_perform) (maxL := 4) (ret := (some .int)) (by decide) rfl ?_
  intro p e s m args below meth c s₁ B hml hv
  obtain ⟨rfl, hsz, hP, hK, hD0⟩ := hv
  have hx := B.exec
  have hb := B.bytes
  have hr := B.returns
  have hts := atoms_spec (ws := wsX12_perform) B.pre
  have hown : s.vm.findClass RX12 = some m.cls := findClass_of_methodNamed B.named
  have hlocks := B.notSynchronized
  subst hsz
  have hD := hD0.self (sz := s.heap.size)
  generalize hAe : va_A [(y, .inr (13, [.ref mm, .ref msv, .int vS, .ref mpa, .int vC, .int vT, .int 0, .ref mio, .ref mfo, .int vL, .ref mre, .int vK, .ref mah, .int vR, .ref mrw, .ref mrr, .ref mrs, .ref mrb, .int v0, .int vZ, .int vB, .int vN, .ref mso, .ref mnu, .ref mse, .ref mbe, .ref men])), (mnu, eI G 60 fn), (mso, eI G 60 fs)] s.heap.size = A at hD ⊢
  have hA : ∀ q : Nat, s.heap.size ≤ q → A q := fun q h => by rw [← hAe]; exact Or.inr h
  have hS : va_S A s.heap s.heap [] := va_S.rf
  have hP : va_P G.1 vwCl [(y, .inr (13, [.ref mm, .ref msv, .int vS, .ref mpa, .int vC, .int vT, .int 0, .ref mio, .ref mfo, .int vL, .ref mre, .int vK, .ref mah, .int vR, .ref mrw, .ref mrr, .ref mrs, .ref mrb, .int v0, .int vZ, .int vB, .int vN, .ref mso, .ref mnu, .ref mse, .ref mbe, .ref men])), (mnu, eI G 60 fn), (mso, eI G 60 fs)] s.heap := hP
  have hl := lv_entry ([.ref y]) (n := 4) (Nat.le_of_ble_eq_true rfl)
  rw [lg_entry_eq]
  generalize (lg_sl ([.ref y]) ++ List.replicate (4 - (lg_sl ([.ref y])).length) Slot.unset).toArray = ls at hl ⊢
  have hl : lv_has ls 4 [(0, .ref y)] := hl
  obtain ⟨H, hH⟩ : ∃ z, z = s.heap := ⟨_, rfl⟩
  have hS : va_S A s.heap H [] := by rw [hH]; exact hS
  have hP : va_P G.1 vwCl [(y, .inr (13, [.ref mm, .ref msv, .int vS, .ref mpa, .int vC, .int vT, .int 0, .ref mio, .ref mfo, .int vL, .ref mre, .int vK, .ref mah, .int vR, .ref mrw, .ref mrr, .ref mrs, .ref mrb, .int v0, .int vZ, .int vB, .int vN, .ref mso, .ref mnu, .ref mse, .ref mbe, .ref men])), (mnu, eI G 60 fn), (mso, eI G 60 fs)] H := by rw [hH]; exact hP
  refine n_heap hH ?_
  generalize ([] : List Loc) = locs at hS ⊢
  have hiX12 : ∀ w ∈ u_ws RX12 TX12 27, w ∈ wsX12_perform := by decide +kernel
  refine lv_aload_n hx hb dX12_perform_0 rfl (lv_at hl 0 rfl) ?_
  refine lv_iconst (v := 0) hx hb dX12_perform_1 (by decide) ?_
  refine va_put (D := G.1) (ci := 13) (v := .int 0) (ty := .int) (C := RX12) (T := TX12) (N := 27) hx hb hts hiX12 tyX12 tyX12_ok nmX12 hown hK hP hD hS 0 rfl rfl 5 (by decide) (hts (.fieldLink RX12 62 "DialectDictionaryModel" "thrown" "I") (by decide +kernel)) (fun _ h9 => h9) rfl (by decide +kernel) rfl rfl (Nat.le_of_ble_eq_true rfl) dX12_perform_2 (fun H locs hP hD hS => ?_)
  have hP : va_P G.1 vwCl [(y, .inr (13, [.ref mm, .ref msv, .int vS, .ref mpa, .int vC, .int 0, .int 0, .ref mio, .ref mfo, .int vL, .ref mre, .int vK, .ref mah, .int vR, .ref mrw, .ref mrr, .ref mrs, .ref mrb, .int v0, .int vZ, .int vB, .int vN, .ref mso, .ref mnu, .ref mse, .ref mbe, .ref men])), (mnu, eI G 60 fn), (mso, eI G 60 fs)] H := hP
  have hD : va_D A [(y, .inr (13, [.ref mm, .ref msv, .int vS, .ref mpa, .int vC, .int 0, .int 0, .ref mio, .ref mfo, .int vL, .ref mre, .int vK, .ref mah, .int vR, .ref mrw, .ref mrr, .ref mrs, .ref mrb, .int v0, .int vZ, .int vB, .int vN, .ref mso, .ref mnu, .ref mse, .ref mbe, .ref men])), (mnu, eI G 60 fn), (mso, eI G 60 fs)] := hD
  refine lv_aload_n hx hb dX12_perform_5 rfl (lv_at hl 0 rfl) ?_
  refine lv_aload_n hx hb dX12_perform_6 rfl (lv_at hl 0 rfl) ?_
  refine va_get (D := G.1) (ci := 13) (v := .int 0) (C := RX12) (T := TX12) (N := 27) hx hb hts hiX12 hown hK hP 0 rfl rfl 6 (by decide) (hts (.fieldLink RX12 76 "DialectDictionaryModel" "fed" "I") (by decide +kernel)) (fun _ h9 => h9) rfl dX12_perform_7 ?_
  refine va_put (D := G.1) (ci := 13) (v := .int 0) (ty := .int) (C := RX12) (T := TX12) (N := 27) hx hb hts hiX12 tyX12 tyX12_ok nmX12 hown hK hP hD hS 0 rfl rfl 19 (by decide) (hts (.fieldLink RX12 251 "DialectDictionaryModel" "size0" "I") (by decide +kernel)) (fun _ h9 => h9) rfl (by decide +kernel) rfl rfl (Nat.le_of_ble_eq_true rfl) dX12_perform_10 (fun H locs hP hD hS => ?_)
  have hP : va_P G.1 vwCl [(y, .inr (13, [.ref mm, .ref msv, .int vS, .ref mpa, .int vC, .int 0, .int 0, .ref mio, .ref mfo, .int vL, .ref mre, .int vK, .ref mah, .int vR, .ref mrw, .ref mrr, .ref mrs, .ref mrb, .int v0, .int 0, .int vB, .int vN, .ref mso, .ref mnu, .ref mse, .ref mbe, .ref men])), (mnu, eI G 60 fn), (mso, eI G 60 fs)] H := hP
  have hD : va_D A [(y, .inr (13, [.ref mm, .ref msv, .int vS, .ref mpa, .int vC, .int 0, .int 0, .ref mio, .ref mfo, .int vL, .ref mre, .int vK, .ref mah, .int vR, .ref mrw, .ref mrr, .ref mrs, .ref mrb, .int v0, .int 0, .int vB, .int vN, .ref mso, .ref mnu, .ref mse, .ref mbe, .ref men])), (mnu, eI G 60 fn), (mso, eI G 60 fs)] := hD
  refine lv_aload_n hx hb dX12_perform_13 rfl (lv_at hl 0 rfl) ?_
  refine lv_iconst (v := 0) hx hb dX12_perform_14 (by decide) ?_
  refine va_put (D := G.1) (ci := 13) (v := .int 0) (ty := .int) (C := RX12) (T := TX12) (N := 27) hx hb hts hiX12 tyX12 tyX12_ok nmX12 hown hK hP hD hS 0 rfl rfl 6 (by decide) (hts (.fieldLink RX12 76 "DialectDictionaryModel" "fed" "I") (by decide +kernel)) (fun _ h9 => h9) rfl (by decide +kernel) rfl rfl (Nat.le_of_ble_eq_true rfl) dX12_perform_15 (fun H locs hP hD hS => ?_)
  have hP : va_P G.1 vwCl [(y, .inr (13, [.ref mm, .ref msv, .int vS, .ref mpa, .int vC, .int 0, .int 0, .ref mio, .ref mfo, .int vL, .ref mre, .int vK, .ref mah, .int vR, .ref mrw, .ref mrr, .ref mrs, .ref mrb, .int v0, .int 0, .int vB, .int vN, .ref mso, .ref mnu, .ref mse, .ref mbe, .ref men])), (mnu, eI G 60 fn), (mso, eI G 60 fs)] H := hP
  have hD : va_D A [(y, .inr (13, [.ref mm, .ref msv, .int vS, .ref mpa, .int vC, .int 0, .int 0, .ref mio, .ref mfo, .int vL, .ref mre, .int vK, .ref mah, .int vR, .ref mrw, .ref mrr, .ref mrs, .ref mrb, .int v0, .int 0, .int vB, .int vN, .ref mso, .ref mnu, .ref mse, .ref mbe, .ref men])), (mnu, eI G 60 fn), (mso, eI G 60 fs)] := hD
  refine lv_aload_n hx hb dX12_perform_18 rfl (lv_at hl 0 rfl) ?_
  refine n_ci (wr := []) (va_runV (As := []) (rest := []) ⟨hx, hb, hml, hown, hts⟩ (mX12_isText l G y mm msv mpa mio mfo mre mah mrw mrr mrs mrb mso mnu mse mbe men vS vC 0 0 vL vK vR v0 vB vN fn fs H.size) (cwV 0 hts gX12_perform_X12_isText rfl rfl rfl (by decide +kernel) ⟨(Nat.le_of_ble_eq_true rfl), (Nat.le_of_ble_eq_true rfl)⟩) (n_prV (ci := 13) (q0 := 0) hK hP hD [0, 1, 2] rfl (by decide) rfl rfl) rfl rfl hl.1 rfl (lv_room (Nat.le_of_ble_eq_true rfl)) dX12_perform_19 ⟨(Nat.le_of_ble_eq_true rfl), (Nat.le_of_ble_eq_true rfl)⟩) hP hD hS hA [0, 1, 2] [] rfl rfl (by decide) (by decide) (fun r_1 u_2 H locs hP hD hS hw => ?_)
  have hP : va_P G.1 vwCl [(y, .inr (13, [.ref mm, .ref msv, .int vS, .ref mpa, .int vC, .int 0, .int 0, .ref mio, .ref mfo, .int vL, .ref mre, .int vK, .ref mah, .int vR, .ref mrw, .ref mrr, .ref mrs, .ref mrb, .int 0, .int 0, .int 1, .int 1, .ref mso, .ref mnu, .ref mse, .ref mbe, .ref men]))] H := hP
  have hD : va_D A [(y, .inr (13, [.ref mm, .ref msv, .int vS, .ref mpa, .int vC, .int 0, .int 0, .ref mio, .ref mfo, .int vL, .ref mre, .int vK, .ref mah, .int vR, .ref mrw, .ref mrr, .ref mrs, .ref mrb, .int 0, .int 0, .int 1, .int 1, .ref mso, .ref mnu, .ref mse, .ref mbe, .ref men]))] := hD
  have hw : r_1 = 0 := hw
  subst hw
  refine lv_if_ne (tgt := 33) hx hb dX12_perform_22 (by decide) (fun h9 => absurd (by decide) h9) (fun _ => ?_)
  refine lv_bipush (v := -100) hx hb dX12_perform_25 (by decide) ?_
  refine lv_aload_n hx hb dX12_perform_27 rfl (lv_at hl 0 rfl) ?_
  refine va_get (D := G.1) (ci := 13) (v := .int 0) (C := RX12) (T := TX12) (N := 27) hx hb hts hiX12 hown hK hP 0 rfl rfl 18 (by decide) (hts (.fieldLink RX12 248 "DialectDictionaryModel" "at0" "I") (by decide +kernel)) (fun _ h9 => h9) rfl dX12_perform_28 ?_
  refine lv_isub hx hb dX12_perform_31 ?_
  refine n_eqi (y := (-100)) (by decide) ?_
  have hP9 := n_Psub (wc := [(y, .inr (13, [.ref mm, .ref msv, .int vS, .ref mpa, .int vC, .int 0, .int 0, .ref mio, .ref mfo, .int vL, .ref mre, .int vK, .ref mah, .int vR, .ref mrw, .ref mrr, .ref mrs, .ref mrb, .int 0, .int 0, .int 1, .int 1, .ref mso, .ref mnu, .ref mse, .ref mbe, .ref men]))]) hP [0] rfl
  have hD9 := hD.sub (ws' := [(y, .inr (13, [.ref mm, .ref msv, .int vS, .ref mpa, .int vC, .int 0, .int 0, .ref mio, .ref mfo, .int vL, .ref mre, .int vK, .ref mah, .int vR, .ref mrw, .ref mrr, .ref mrs, .ref mrb, .int 0, .int 0, .int 1, .int 1, .ref mso, .ref mnu, .ref mse, .ref mbe, .ref men]))]) [0] (by decide) rfl
  refine W.widen (k := 0) (n := 0) (Nat.le_of_ble_eq_true rfl) (Nat.le_of_ble_eq_true rfl) ?_
  exact W.iret (v := (-100)) hx hb hr (fun t ht hW => ⟨⟨(-100), (), rfl, rfl, by rw [ht]; exact hP9, va_K.moved hW.alike hK, hD9⟩, hS.F ht⟩) hS.2.2 dX12_perform_32

set_option maxHeartbeats 4000000 in
set_option maxRecDepth 100000 in
theorem mX12_letter (l : Launch) (G : nG) (y : Nat) (mm : Nat) (msv : Nat) (mpa : Nat) (mio : Nat) (mfo : Nat) (mre : Nat) (mah : Nat) (mrw : Nat) (mrr : Nat) (mrs : Nat) (mrb : Nat) (mso : Nat) (mnu : Nat) (mse : Nat) (mbe : Nat) (men : Nat) (vS : Int32) (vC : Int32) (vT : Int32) (vF : Int32) (vL : Int32) (vK : Int32) (vR : Int32) (v0 : Int32) (vZ : Int32) (vB : Int32) (vN : Int32) (fm : Nat → Int32) (q : Int32) (s2 : Int32) (sz : Nat) (hm : nMod fm) : Met l yX12_letter wsX12_letter ({ frames := 2, cells := 0, slots := 0, locals := 43 }) (va_Pc [.ref y, .int q, .int s2] (n_pp G [(y, .inr (13, [.ref mm, .ref msv, .int vS, .ref mpa, .int vC, .int vT, .int vF, .ref mio, .ref mfo, .int vL, .ref mre, .int vK, .ref mah, .int vR, .ref mrw, .ref mrr, .ref mrs, .ref mrb, .int v0, .int vZ, .int vB, .int vN, .ref mso, .ref mnu, .ref mse, .ref mbe, .ref men])), (mm, eI G 1191 fm)] sz)) (va_Qi (fun (r : Int32) (k_9 : Int32) => (k_9 = nkP q ∧ (k_9 = 0 → r = nvL q s2))) (fun (k_9 : Int32) (t : State) => n_po G (va_A [(y, .inr (13, [.ref mm, .ref msv, .int vS, .ref mpa, .int vC, .int vT, .int vF, .ref mio, .ref mfo, .int vL, .ref mre, .int vK, .ref mah, .int vR, .ref mrw, .ref mrr, .ref mrs, .ref mrb, .int v0, .int vZ, .int vB, .int vN, .ref mso, .ref mnu, .ref mse, .ref mbe, .ref men])), (mm, eI G 1191 fm)] sz) [(y, .inr (13, [.ref mm, .ref msv, .int vS, .ref mpa, .int vC, .int k_9, .int vF, .ref mio, .ref mfo, .int vL, .ref mre, .int vK, .ref mah, .int vR, .ref mrw, .ref mrr, .ref mrs, .ref mrb, .int v0, .int vZ, .int vB, .int vN, .ref mso, .ref mnu, .ref mse, .ref mbe, .ref men]))] t) (va_A [(y, .inr (13, [.ref mm, .ref msv, .int vS, .ref mpa, .int vC, .int vT, .int vF, .ref mio, .ref mfo, .int vL, .ref mre, .int vK, .ref mah, .int vR, .ref mrw, .ref mrr, .ref mrs, .ref mrb, .int v0, .int vZ, .int vB, .int vN, .ref mso, .ref mnu, .ref mse, .ref mbe, .ref men])), (mm, eI G 1191 fm)] sz)) 0 0 (va_A [(y, .inr (13, [.ref mm, .ref msv, .int vS, .ref mpa, .int vC, .int vT, .int vF, .ref mio, .ref mfo, .int vL, .ref mre, .int vK, .ref mah, .int vR, .ref mrw, .ref mrr, .ref mrs, .ref mrb, .int v0, .int vZ, .int vB, .int vN, .ref mso, .ref mnu, .ref mse, .ref mbe, .ref men])), (mm, eI G 1191 fm)] sz) := by
  refine Met.ofW (cc := cX12_letter) (maxL := 5) (ret := (some .char)) (by decide) rfl ?_
  intro p e s m args below meth c s₁ B hml hv
  obtain ⟨rfl, hsz, hP, hK, hD0⟩ := hv
  have hx := B.exec
  have hb := B.bytes
  have hr := B.returns
  have hts := atoms_spec (ws := wsX12_letter) B.pre
  have hown : s.vm.findClass RX12 = some m.cls := findClass_of_methodNamed B.named
  have hlocks := B.notSynchronized
  subst hsz
  have hD := hD0.self (sz := s.heap.size)
  generalize hAe : va_A [(y, .inr (13, [.ref mm, .ref msv, .int vS, .ref mpa, .int vC, .int vT, .int vF, .ref mio, .ref mfo, .int vL, .ref mre, .int vK, .ref mah, .int vR, .ref mrw, .ref mrr, .ref mrs, .ref mrb, .int v0, .int vZ, .int vB, .int vN, .ref mso, .ref mnu, .ref mse, .ref mbe, .ref men])), (mm, eI G 1191 fm)] s.heap.size = A at hD ⊢
  have hA : ∀ q : Nat, s.heap.size ≤ q → A q := fun q h => by rw [← hAe]; exact Or.inr h
  have hS : va_S A s.heap s.heap [] := va_S.rf
  have hP : va_P G.1 vwCl [(y, .inr (13, [.ref mm, .ref msv, .int vS, .ref mpa, .int vC, .int vT, .int vF, .ref mio, .ref mfo, .int vL, .ref mre, .int vK, .ref mah, .int vR, .ref mrw, .ref mrr, .ref mrs, .ref mrb, .int v0, .int vZ, .int vB, .int vN, .ref mso, .ref mnu, .ref mse, .ref mbe, .ref men])), (mm, eI G 1191 fm)] s.heap := hP
  have hl := lv_entry ([.ref y, .int q, .int s2]) (n := 5) (Nat.le_of_ble_eq_true rfl)
  rw [lg_entry_eq]
  generalize (lg_sl ([.ref y, .int q, .int s2]) ++ List.replicate (5 - (lg_sl ([.ref y, .int q, .int s2])).length) Slot.unset).toArray = ls at hl ⊢
  have hl : lv_has ls 5 [(0, .ref y), (1, .int q), (2, .int s2)] := hl
  obtain ⟨H, hH⟩ : ∃ z, z = s.heap := ⟨_, rfl⟩
  have hS : va_S A s.heap H [] := by rw [hH]; exact hS
  have hP : va_P G.1 vwCl [(y, .inr (13, [.ref mm, .ref msv, .int vS, .ref mpa, .int vC, .int vT, .int vF, .ref mio, .ref mfo, .int vL, .ref mre, .int vK, .ref mah, .int vR, .ref mrw, .ref mrr, .ref mrs, .ref mrb, .int v0, .int vZ, .int vB, .int vN, .ref mso, .ref mnu, .ref mse, .ref mbe, .ref men])), (mm, eI G 1191 fm)] H := by rw [hH]; exact hP
  refine n_heap hH ?_
  generalize ([] : List Loc) = locs at hS ⊢
  have hiX12 : ∀ w ∈ u_ws RX12 TX12 27, w ∈ wsX12_letter := by decide +kernel
  refine lv_aload_n hx hb dX12_letter_0 rfl (lv_at hl 0 rfl) ?_
  refine lv_aload_n hx hb dX12_letter_1 rfl (lv_at hl 0 rfl) ?_
  refine lv_iload_n hx hb dX12_letter_2 rfl (lv_at hl 1 rfl) ?_
  refine n_ci (wr := []) (va_runV (As := [.int q]) (rest := [.ref y]) ⟨hx, hb, hml, hown, hts⟩ (mX12_isLetterPlace l G y mm msv mpa mio mfo mre mah mrw mrr mrs mrb mso mnu mse mbe men vS vC vT vF vL vK vR v0 vZ vB vN fm q H.size hm) (cwV 1 hts gX12_letter_X12_isLetterPlace rfl rfl rfl (by decide +kernel) ⟨(Nat.le_of_ble_eq_true rfl), (Nat.le_of_ble_eq_true rfl)⟩) (n_prV (ci := 13) (q0 := 0) hK hP hD [0, 1] rfl (by decide) rfl rfl) rfl rfl hl.1 rfl (lv_room (Nat.le_of_ble_eq_true rfl)) dX12_letter_3 ⟨(Nat.le_of_ble_eq_true rfl), (Nat.le_of_ble_eq_true rfl)⟩) hP hD hS hA [0, 1] [] rfl rfl (by decide) (by decide) (fun r_1 u_2 H locs hP hD hS hw => ?_)
  have hP : va_P G.1 vwCl [(y, .inr (13, [.ref mm, .ref msv, .int vS, .ref mpa, .int vC, .int vT, .int vF, .ref mio, .ref mfo, .int vL, .ref mre, .int vK, .ref mah, .int vR, .ref mrw, .ref mrr, .ref mrs, .ref mrb, .int v0, .int vZ, .int vB, .int vN, .ref mso, .ref mnu, .ref mse, .ref mbe, .ref men])), (mm, eI G 1191 fm)] H := hP
  have hD : va_D A [(y, .inr (13, [.ref mm, .ref msv, .int vS, .ref mpa, .int vC, .int vT, .int vF, .ref mio, .ref mfo, .int vL, .ref mre, .int vK, .ref mah, .int vR, .ref mrw, .ref mrr, .ref mrs, .ref mrb, .int v0, .int vZ, .int vB, .int vN, .ref mso, .ref mnu, .ref mse, .ref mbe, .ref men])), (mm, eI G 1191 fm)] := hD
  have hw : r_1 = (nhp 26 q) := hw
  subst hw
  try dsimp only
  refine lv_if_eq (tgt := 13) hx hb dX12_letter_6 (by decide) (fun c_6 => ?_) (fun c_6 => ?_)
  · skip
    refine lv_iconst (v := 1) hx hb dX12_letter_13 (by decide) ?_
    refine va_put (D := G.1) (ci := 13) (v := .int 1) (ty := .int) (C := RX12) (T := TX12) (N := 27) hx hb hts hiX12 tyX12 tyX12_ok nmX12 hown hK hP hD hS 0 rfl rfl 5 (by decide) (hts (.fieldLink RX12 62 "DialectDictionaryModel" "thrown" "I") (by decide +kernel)) (fun _ h9 => h9) rfl (by decide +kernel) rfl rfl (Nat.le_of_ble_eq_true rfl) dX12_letter_14 (fun H locs hP hD hS => ?_)
    have hP : va_P G.1 vwCl [(y, .inr (13, [.ref mm, .ref msv, .int vS, .ref mpa, .int vC, .int 1, .int vF, .ref mio, .ref mfo, .int vL, .ref mre, .int vK, .ref mah, .int vR, .ref mrw, .ref mrr, .ref mrs, .ref mrb, .int v0, .int vZ, .int vB, .int vN, .ref mso, .ref mnu, .ref mse, .ref mbe, .ref men])), (mm, eI G 1191 fm)] H := hP
    have hD : va_D A [(y, .inr (13, [.ref mm, .ref msv, .int vS, .ref mpa, .int vC, .int 1, .int vF, .ref mio, .ref mfo, .int vL, .ref mre, .int vK, .ref mah, .int vR, .ref mrw, .ref mrr, .ref mrs, .ref mrb, .int v0, .int vZ, .int vB, .int vN, .ref mso, .ref mnu, .ref mse, .ref mbe, .ref men])), (mm, eI G 1191 fm)] := hD
    refine lv_aload_n hx hb dX12_letter_17 rfl (lv_at hl 0 rfl) ?_
    refine va_get (D := G.1) (ci := 13) (v := .int 1) (C := RX12) (T := TX12) (N := 27) hx hb hts hiX12 hown hK hP 0 rfl rfl 5 (by decide) (hts (.fieldLink RX12 62 "DialectDictionaryModel" "thrown" "I") (by decide +kernel)) (fun _ h9 => h9) rfl dX12_letter_18 ?_
    refine lv_if_le (tgt := 26) hx hb dX12_letter_21 (by decide) (fun h9 => absurd h9 (by decide)) (fun _ => ?_)
    refine lv_iconst (v := 0) hx hb dX12_letter_24 (by decide) ?_
    have hP9 := n_Psub (wc := [(y, .inr (13, [.ref mm, .ref msv, .int vS, .ref mpa, .int vC, .int 1, .int vF, .ref mio, .ref mfo, .int vL, .ref mre, .int vK, .ref mah, .int vR, .ref mrw, .ref mrr, .ref mrs, .ref mrb, .int v0, .int vZ, .int vB, .int vN, .ref mso, .ref mnu, .ref mse, .ref mbe, .ref men]))]) hP [0] rfl
    have hD9 := hD.sub (ws' := [(y, .inr (13, [.ref mm, .ref msv, .int vS, .ref mpa, .int vC, .int 1, .int vF, .ref mio, .ref mfo, .int vL, .ref mre, .int vK, .ref mah, .int vR, .ref mrw, .ref mrr, .ref mrs, .ref mrb, .int v0, .int vZ, .int vB, .int vN, .ref mso, .ref mnu, .ref mse, .ref mbe, .ref men]))]) [0] (by decide) rfl
    refine W.widen (k := 0) (n := 0) (Nat.le_of_ble_eq_true rfl) (Nat.le_of_ble_eq_true rfl) ?_
    exact W.zret (v := 0) (ty := .char) hx hb hr rfl (fun t ht hW => ⟨⟨0, 1, rfl, ⟨by rw [nkP, if_neg (nhp_no c_6)], fun h9 => absurd h9 (by decide)⟩, by rw [ht]; exact hP9, va_K.moved hW.alike hK, hD9⟩, hS.F ht⟩) hS.2.2 dX12_letter_25
  · skip
    refine lv_iconst (v := 0) hx hb dX12_letter_9 (by decide) ?_
    refine lv_goto (tgt := 14) hx hb dX12_letter_10 (by decide) ?_
    refine va_put (D := G.1) (ci := 13) (v := .int 0) (ty := .int) (C := RX12) (T := TX12) (N := 27) hx hb hts hiX12 tyX12 tyX12_ok nmX12 hown hK hP hD hS 0 rfl rfl 5 (by decide) (hts (.fieldLink RX12 62 "DialectDictionaryModel" "thrown" "I") (by decide +kernel)) (fun _ h9 => h9) rfl (by decide +kernel) rfl rfl (Nat.le_of_ble_eq_true rfl) dX12_letter_14 (fun H locs hP hD hS => ?_)
    have hP : va_P G.1 vwCl [(y, .inr (13, [.ref mm, .ref msv, .int vS, .ref mpa, .int vC, .int 0, .int vF, .ref mio, .ref mfo, .int vL, .ref mre, .int vK, .ref mah, .int vR, .ref mrw, .ref mrr, .ref mrs, .ref mrb, .int v0, .int vZ, .int vB, .int vN, .ref mso, .ref mnu, .ref mse, .ref mbe, .ref men])), (mm, eI G 1191 fm)] H := hP
    have hD : va_D A [(y, .inr (13, [.ref mm, .ref msv, .int vS, .ref mpa, .int vC, .int 0, .int vF, .ref mio, .ref mfo, .int vL, .ref mre, .int vK, .ref mah, .int vR, .ref mrw, .ref mrr, .ref mrs, .ref mrb, .int v0, .int vZ, .int vB, .int vN, .ref mso, .ref mnu, .ref mse, .ref mbe, .ref men])), (mm, eI G 1191 fm)] := hD
    refine lv_aload_n hx hb dX12_letter_17 rfl (lv_at hl 0 rfl) ?_
    refine va_get (D := G.1) (ci := 13) (v := .int 0) (C := RX12) (T := TX12) (N := 27) hx hb hts hiX12 hown hK hP 0 rfl rfl 5 (by decide) (hts (.fieldLink RX12 62 "DialectDictionaryModel" "thrown" "I") (by decide +kernel)) (fun _ h9 => h9) rfl dX12_letter_18 ?_
    refine lv_if_le (tgt := 26) hx hb dX12_letter_21 (by decide) (fun _ => ?_) (fun h9 => absurd (by decide) h9)
    obtain ⟨j, hj, e_j⟩ := nhp_of26 (nhp_1 c_6)
    subst e_j
    refine lv_aload_n hx hb dX12_letter_26 rfl (lv_at hl 0 rfl) ?_
    refine va_get (D := G.1) (ci := 13) (v := .ref mm) (C := RX12) (T := TX12) (N := 27) hx hb hts hiX12 hown hK hP 0 rfl rfl 0 (by decide) (hts (.fieldLink RX12 9 "DialectDictionaryModel" "m" "[I") (by decide +kernel)) (fun _ h9 => h9) rfl dX12_letter_27 ?_
    refine lv_iconst (v := 1) hx hb dX12_letter_30 (by decide) ?_
    refine lv_iload_n hx hb dX12_letter_31 rfl (lv_at hl 1 rfl) ?_
    refine lv_iadd hx hb dX12_letter_32 ?_
    refine n_eqi (y := (nI (1 + j))) (nI_add 1 j) ?_
    refine va_iald hx hb hK hP 1 0 rfl rfl (vp_in_nI (n := (1 + j)) (by omega) (by omega)) dX12_letter_33 ?_
    refine n_eqi (y := (nI (97 + j))) (n_ml hm hj) ?_
    refine lv_istore_n (lv' := [(3, .int (nI (97 + j))), (0, .ref y), (1, .int (nI j)), (2, .int s2)]) hx hb dX12_letter_34 rfl hl (by decide) rfl (fun ls hl => ?_)
    refine lv_iload_n hx hb dX12_letter_35 rfl (lv_at hl 0 rfl) ?_
    refine lv_sipush (v := 128) hx hb dX12_letter_36 (by decide) ?_
    refine lv_icmp_lt (tgt := 46) hx hb dX12_letter_39 (by decide) (fun _ => ?_) (fun h9 => absurd (nI_lt (b := 128) (by omega) (by decide)) h9)
    refine lv_iconst (v := 0) hx hb dX12_letter_46 (by decide) ?_
    refine lv_istore (lv' := [(4, .int 0), (3, .int (nI (97 + j))), (0, .ref y), (1, .int (nI j)), (2, .int s2)]) hx hb dX12_letter_47 hl (by decide) rfl (fun ls hl => ?_)
    refine lv_iload_n hx hb dX12_letter_49 rfl (lv_at hl 4 rfl) ?_
    refine lv_if_eq (tgt := 71) hx hb dX12_letter_50 (by decide) (fun c_50 => ?_) (fun c_50 => ?_)
    · skip
      refine lv_iload hx hb dX12_letter_71 (lv_at hl 0 rfl) ?_
      refine lv_if_eq (tgt := 84) hx hb dX12_letter_73 (by decide) (fun _ => ?_) (fun h9 => absurd (by decide) h9)
      refine lv_iload_n hx hb dX12_letter_84 rfl (lv_at hl 1 rfl) ?_
      refine lv_i2c (v := (nI (97 + j))) hx hb dX12_letter_85 (n_i2c (by omega)) ?_
      have hP9 := n_Psub (wc := [(y, .inr (13, [.ref mm, .ref msv, .int vS, .ref mpa, .int vC, .int 0, .int vF, .ref mio, .ref mfo, .int vL, .ref mre, .int vK, .ref mah, .int vR, .ref mrw, .ref mrr, .ref mrs, .ref mrb, .int v0, .int vZ, .int vB, .int vN, .ref mso, .ref mnu, .ref mse, .ref mbe, .ref men]))]) hP [0] rfl
      have hD9 := hD.sub (ws' := [(y, .inr (13, [.ref mm, .ref msv, .int vS, .ref mpa, .int vC, .int 0, .int vF, .ref mio, .ref mfo, .int vL, .ref mre, .int vK, .ref mah, .int vR, .ref mrw, .ref mrr, .ref mrs, .ref mrb, .int v0, .int vZ, .int vB, .int vN, .ref mso, .ref mnu, .ref mse, .ref mbe, .ref men]))]) [0] (by decide) rfl
      refine W.widen (k := 0) (n := 0) (Nat.le_of_ble_eq_true rfl) (Nat.le_of_ble_eq_true rfl) ?_
      exact W.zret (v := (nI (97 + j))) (ty := .char) hx hb hr (pk_charN (q := 97 + j) (by omega)).1 (fun t ht hW => ⟨⟨(nI (97 + j)), 0, rfl, ⟨by rw [nkP, if_pos (nhp_in26 hj)], fun _ => by rw [nvL, if_pos c_50]; exact (nI_add 97 j).symm⟩, by rw [ht]; exact hP9, va_K.moved hW.alike hK, hD9⟩, hS.F ht⟩) hS.2.2 dX12_letter_86
    · skip
      refine lv_iload hx hb dX12_letter_53 (lv_at hl 0 rfl) ?_
      refine lv_if_eq (tgt := 66) hx hb dX12_letter_55 (by decide) (fun _ => ?_) (fun h9 => absurd (by decide) h9)
      refine lv_bipush (v := 32) hx hb dX12_letter_66 (by decide) ?_
      refine lv_goto (tgt := 85) hx hb dX12_letter_68 (by decide) ?_
      refine lv_i2c (v := 32) hx hb dX12_letter_85 (by decide) ?_
      have hP9 := n_Psub (wc := [(y, .inr (13, [.ref mm, .ref msv, .int vS, .ref mpa, .int vC, .int 0, .int vF, .ref mio, .ref mfo, .int vL, .ref mre, .int vK, .ref mah, .int vR, .ref mrw, .ref mrr, .ref mrs, .ref mrb, .int v0, .int vZ, .int vB, .int vN, .ref mso, .ref mnu, .ref mse, .ref mbe, .ref men]))]) hP [0] rfl
      have hD9 := hD.sub (ws' := [(y, .inr (13, [.ref mm, .ref msv, .int vS, .ref mpa, .int vC, .int 0, .int vF, .ref mio, .ref mfo, .int vL, .ref mre, .int vK, .ref mah, .int vR, .ref mrw, .ref mrr, .ref mrs, .ref mrb, .int v0, .int vZ, .int vB, .int vN, .ref mso, .ref mnu, .ref mse, .ref mbe, .ref men]))]) [0] (by decide) rfl
      refine W.widen (k := 0) (n := 0) (Nat.le_of_ble_eq_true rfl) (Nat.le_of_ble_eq_true rfl) ?_
      exact W.zret (v := 32) (ty := .char) hx hb hr rfl (fun t ht hW => ⟨⟨32, 0, rfl, ⟨by rw [nkP, if_pos (nhp_in26 hj)], fun _ => by rw [nvL, if_neg c_50]⟩, by rw [ht]; exact hP9, va_K.moved hW.alike hK, hD9⟩, hS.F ht⟩) hS.2.2 dX12_letter_86

set_option maxHeartbeats 4000000 in
set_option maxRecDepth 100000 in
theorem mX12_moveLetter (l : Launch) (G : nG) (y : Nat) (mm : Nat) (msv : Nat) (mpa : Nat) (mio : Nat) (mfo : Nat) (mre : Nat) (mah : Nat) (mrw : Nat) (mrr : Nat) (mrs : Nat) (mrb : Nat) (mso : Nat) (mnu : Nat) (mse : Nat) (mbe : Nat) (men : Nat) (vS : Int32) (vT : Int32) (vF : Int32) (vL : Int32) (vK : Int32) (vR : Int32) (v0 : Int32) (vZ : Int32) (vB : Int32) (vN : Int32) (fm : Nat → Int32) (fp : Nat → Int32) (q : Int32) (q2 : Int32) (sz : Nat) (hm : nMod fm) : Met l yX12_moveLetter wsX12_moveLetter ({ frames := 2, cells := 0, slots := 0, locals := 43 }) (va_Pc [.ref y, .int q, .int q2] (n_pp G [(y, .inr (13, [.ref mm, .ref msv, .int vS, .ref mpa, .int 0, .int vT, .int vF, .ref mio, .ref mfo, .int vL, .ref mre, .int vK, .ref mah, .int vR, .ref mrw, .ref mrr, .ref mrs, .ref mrb, .int v0, .int vZ, .int vB, .int vN, .ref mso, .ref mnu, .ref mse, .ref mbe, .ref men])), (mm, eI G 1191 fm), (mpa, eI G 9528 fp)] sz)) (va_Qi (fun (r : Int32) (u9 : Int32 × Int32) => match u9 with | (k_9, k_8) => (k_9 = nkM q q2 ∧ (k_9 = 0 → r = nvM q q2))) (fun (u9 : Int32 × Int32) (t : State) => match u9 with | (k_9, k_8) => n_po G (va_A [(y, .inr (13, [.ref mm, .ref msv, .int vS, .ref mpa, .int 0, .int vT, .int vF, .ref mio, .ref mfo, .int vL, .ref mre, .int vK, .ref mah, .int vR, .ref mrw, .ref mrr, .ref mrs, .ref mrb, .int v0, .int vZ, .int vB, .int vN, .ref mso, .ref mnu, .ref mse, .ref mbe, .ref men])), (mm, eI G 1191 fm), (mpa, eI G 9528 fp)] sz) [(y, .inr (13, [.ref mm, .ref msv, .int vS, .ref mpa, .int k_8, .int k_9, .int vF, .ref mio, .ref mfo, .int vL, .ref mre, .int vK, .ref mah, .int vR, .ref mrw, .ref mrr, .ref mrs, .ref mrb, .int v0, .int vZ, .int vB, .int vN, .ref mso, .ref mnu, .ref mse, .ref mbe, .ref men]))] t) (va_A [(y, .inr (13, [.ref mm, .ref msv, .int vS, .ref mpa, .int 0, .int vT, .int vF, .ref mio, .ref mfo, .int vL, .ref mre, .int vK, .ref mah, .int vR, .ref mrw, .ref mrr, .ref mrs, .ref mrb, .int v0, .int vZ, .int vB, .int vN, .ref mso, .ref mnu, .ref mse, .ref mbe, .ref men])), (mm, eI G 1191 fm), (mpa, eI G 9528 fp)] sz)) 0 0 (va_A [(y, .inr (13, [.ref mm, .ref msv, .int vS, .ref mpa, .int 0, .int vT, .int vF, .ref mio, .ref mfo, .int vL, .ref mre, .int vK, .ref mah, .int vR, .ref mrw, .ref mrr, .ref mrs, .ref mrb, .int v0, .int vZ, .int vB, .int vN, .ref mso, .ref mnu, .ref mse, .ref mbe, .ref men])), (mm, eI G 1191 fm), (mpa, eI G 9528 fp)] sz) := by
  refine Met.ofW (cc := cX12_moveLetter) (maxL := 6) (ret := (some .int)) (by decide) rfl ?_
  intro p e s m args below meth c s₁ B hml hv
  obtain ⟨rfl, hsz, hP, hK, hD0⟩ := hv
  have hx := B.exec
  have hb := B.bytes
  have hr := B.returns
  have hts := atoms_spec (ws := wsX12_moveLetter) B.pre
  have hown : s.vm.findClass RX12 = some m.cls := findClass_of_methodNamed B.named
  have hlocks := B.notSynchronized
  subst hsz
  have hD := hD0.self (sz := s.heap.size)
  generalize hAe : va_A [(y, .inr (13, [.ref mm, .ref msv, .int vS, .ref mpa, .int 0, .int vT, .int vF, .ref mio, .ref mfo, .int vL, .ref mre, .int vK, .ref mah, .int vR, .ref mrw, .ref mrr, .ref mrs, .ref mrb, .int v0, .int vZ, .int vB, .int vN, .ref mso, .ref mnu, .ref mse, .ref mbe, .ref men])), (mm, eI G 1191 fm), (mpa, eI G 9528 fp)] s.heap.size = A at hD ⊢
  have hA : ∀ q : Nat, s.heap.size ≤ q → A q := fun q h => by rw [← hAe]; exact Or.inr h
  have hS : va_S A s.heap s.heap [] := va_S.rf
  have hP : va_P G.1 vwCl [(y, .inr (13, [.ref mm, .ref msv, .int vS, .ref mpa, .int 0, .int vT, .int vF, .ref mio, .ref mfo, .int vL, .ref mre, .int vK, .ref mah, .int vR, .ref mrw, .ref mrr, .ref mrs, .ref mrb, .int v0, .int vZ, .int vB, .int vN, .ref mso, .ref mnu, .ref mse, .ref mbe, .ref men])), (mm, eI G 1191 fm), (mpa, eI G 9528 fp)] s.heap := hP
  have hl := lv_entry ([.ref y, .int q, .int q2]) (n := 6) (Nat.le_of_ble_eq_true rfl)
  rw [lg_entry_eq]
  generalize (lg_sl ([.ref y, .int q, .int q2]) ++ List.replicate (6 - (lg_sl ([.ref y, .int q, .int q2])).length) Slot.unset).toArray = ls at hl ⊢
  have hl : lv_has ls 6 [(0, .ref y), (1, .int q), (2, .int q2)] := hl
  obtain ⟨H, hH⟩ : ∃ z, z = s.heap := ⟨_, rfl⟩
  have hS : va_S A s.heap H [] := by rw [hH]; exact hS
  have hP : va_P G.1 vwCl [(y, .inr (13, [.ref mm, .ref msv, .int vS, .ref mpa, .int 0, .int vT, .int vF, .ref mio, .ref mfo, .int vL, .ref mre, .int vK, .ref mah, .int vR, .ref mrw, .ref mrr, .ref mrs, .ref mrb, .int v0, .int vZ, .int vB, .int vN, .ref mso, .ref mnu, .ref mse, .ref mbe, .ref men])), (mm, eI G 1191 fm), (mpa, eI G 9528 fp)] H := by rw [hH]; exact hP
  refine n_heap hH ?_
  generalize ([] : List Loc) = locs at hS ⊢
  have hiX12 : ∀ w ∈ u_ws RX12 TX12 27, w ∈ wsX12_moveLetter := by decide +kernel
  refine lv_aload_n hx hb dX12_moveLetter_0 rfl (lv_at hl 0 rfl) ?_
  refine lv_aload_n hx hb dX12_moveLetter_1 rfl (lv_at hl 0 rfl) ?_
  refine lv_iload_n hx hb dX12_moveLetter_2 rfl (lv_at hl 1 rfl) ?_
  refine n_ci (wr := [(mpa, eI G 9528 fp)]) (va_runV (As := [.int q]) (rest := [.ref y]) ⟨hx, hb, hml, hown, hts⟩ (mX12_isLetterPlace l G y mm msv mpa mio mfo mre mah mrw mrr mrs mrb mso mnu mse mbe men vS 0 vT vF vL vK vR v0 vZ vB vN fm q H.size hm) (cwV 1 hts gX12_moveLetter_X12_isLetterPlace rfl rfl rfl (by decide +kernel) ⟨(Nat.le_of_ble_eq_true rfl), (Nat.le_of_ble_eq_true rfl)⟩) (n_prV (ci := 13) (q0 := 0) hK hP hD [0, 1] rfl (by decide) rfl rfl) rfl rfl hl.1 rfl (lv_room (Nat.le_of_ble_eq_true rfl)) dX12_moveLetter_3 ⟨(Nat.le_of_ble_eq_true rfl), (Nat.le_of_ble_eq_true rfl)⟩) hP hD hS hA [0, 1] [2] rfl rfl (by decide) (by decide) (fun r_1 u_2 H locs hP hD hS hw => ?_)
  have hP : va_P G.1 vwCl [(mpa, eI G 9528 fp), (y, .inr (13, [.ref mm, .ref msv, .int vS, .ref mpa, .int 0, .int vT, .int vF, .ref mio, .ref mfo, .int vL, .ref mre, .int vK, .ref mah, .int vR, .ref mrw, .ref mrr, .ref mrs, .ref mrb, .int v0, .int vZ, .int vB, .int vN, .ref mso, .ref mnu, .ref mse, .ref mbe, .ref men])), (mm, eI G 1191 fm)] H := hP
  have hD : va_D A [(mpa, eI G 9528 fp), (y, .inr (13, [.ref mm, .ref msv, .int vS, .ref mpa, .int 0, .int vT, .int vF, .ref mio, .ref mfo, .int vL, .ref mre, .int vK, .ref mah, .int vR, .ref mrw, .ref mrr, .ref mrs, .ref mrb, .int v0, .int vZ, .int vB, .int vN, .ref mso, .ref mnu, .ref mse, .ref mbe, .ref men])), (mm, eI G 1191 fm)] := hD
  have hw : r_1 = (nhp 26 q) := hw
  subst hw
  try dsimp only
  refine lv_if_eq (tgt := 21) hx hb dX12_moveLetter_6 (by decide) (fun c_6 => ?_) (fun c_6 => ?_)
  · skip
    refine lv_iconst (v := 1) hx hb dX12_moveLetter_21 (by decide) ?_
    refine va_put (D := G.1) (ci := 13) (v := .int 1) (ty := .int) (C := RX12) (T := TX12) (N := 27) hx hb hts hiX12 tyX12 tyX12_ok nmX12 hown hK hP hD hS 1 rfl rfl 5 (by decide) (hts (.fieldLink RX12 62 "DialectDictionaryModel" "thrown" "I") (by decide +kernel)) (fun _ h9 => h9) rfl (by decide +kernel) rfl rfl (Nat.le_of_ble_eq_true rfl) dX12_moveLetter_22 (fun H locs hP hD hS => ?_)
    have hP : va_P G.1 vwCl [(mpa, eI G 9528 fp), (y, .inr (13, [.ref mm, .ref msv, .int vS, .ref mpa, .int 0, .int 1, .int vF, .ref mio, .ref mfo, .int vL, .ref mre, .int vK, .ref mah, .int vR, .ref mrw, .ref mrr, .ref mrs, .ref mrb, .int v0, .int vZ, .int vB, .int vN, .ref mso, .ref mnu, .ref mse, .ref mbe, .ref men])), (mm, eI G 1191 fm)] H := hP
    have hD : va_D A [(mpa, eI G 9528 fp), (y, .inr (13, [.ref mm, .ref msv, .int vS, .ref mpa, .int 0, .int 1, .int vF, .ref mio, .ref mfo, .int vL, .ref mre, .int vK, .ref mah, .int vR, .ref mrw, .ref mrr, .ref mrs, .ref mrb, .int v0, .int vZ, .int vB, .int vN, .ref mso, .ref mnu, .ref mse, .ref mbe, .ref men])), (mm, eI G 1191 fm)] := hD
    refine lv_aload_n hx hb dX12_moveLetter_25 rfl (lv_at hl 0 rfl) ?_
    refine va_get (D := G.1) (ci := 13) (v := .int 1) (C := RX12) (T := TX12) (N := 27) hx hb hts hiX12 hown hK hP 1 rfl rfl 5 (by decide) (hts (.fieldLink RX12 62 "DialectDictionaryModel" "thrown" "I") (by decide +kernel)) (fun _ h9 => h9) rfl dX12_moveLetter_26 ?_
    refine lv_if_le (tgt := 34) hx hb dX12_moveLetter_29 (by decide) (fun h9 => absurd h9 (by decide)) (fun _ => ?_)
    refine lv_iconst (v := 0) hx hb dX12_moveLetter_32 (by decide) ?_
    have hP9 := n_Psub (wc := [(y, .inr (13, [.ref mm, .ref msv, .int vS, .ref mpa, .int 0, .int 1, .int vF, .ref mio, .ref mfo, .int vL, .ref mre, .int vK, .ref mah, .int vR, .ref mrw, .ref mrr, .ref mrs, .ref mrb, .int v0, .int vZ, .int vB, .int vN, .ref mso, .ref mnu, .ref mse, .ref mbe, .ref men]))]) hP [1] rfl
    have hD9 := hD.sub (ws' := [(y, .inr (13, [.ref mm, .ref msv, .int vS, .ref mpa, .int 0, .int 1, .int vF, .ref mio, .ref mfo, .int vL, .ref mre, .int vK, .ref mah, .int vR, .ref mrw, .ref mrr, .ref mrs, .ref mrb, .int v0, .int vZ, .int vB, .int vN, .ref mso, .ref mnu, .ref mse, .ref mbe, .ref men]))]) [1] (by decide) rfl
    refine W.widen (k := 0) (n := 0) (Nat.le_of_ble_eq_true rfl) (Nat.le_of_ble_eq_true rfl) ?_
    exact W.iret (v := 0) hx hb hr (fun t ht hW => ⟨⟨0, (1, 0), rfl, ⟨by rw [nkM, if_neg (nhp_no c_6)], fun h9 => absurd h9 (by decide)⟩, by rw [ht]; exact hP9, va_K.moved hW.alike hK, hD9⟩, hS.F ht⟩) hS.2.2 dX12_moveLetter_33
  · skip
    refine lv_aload_n hx hb dX12_moveLetter_9 rfl (lv_at hl 0 rfl) ?_
    refine lv_iload_n hx hb dX12_moveLetter_10 rfl (lv_at hl 2 rfl) ?_
    refine n_ci (wr := [(mpa, eI G 9528 fp)]) (va_runV (As := [.int q2]) (rest := [.ref y]) ⟨hx, hb, hml, hown, hts⟩ (mX12_isLetterPlace l G y mm msv mpa mio mfo mre mah mrw mrr mrs mrb mso mnu mse mbe men vS 0 vT vF vL vK vR v0 vZ vB vN fm q2 H.size hm) (cwV 1 hts gX12_moveLetter_X12_isLetterPlace rfl rfl rfl (by decide +kernel) ⟨(Nat.le_of_ble_eq_true rfl), (Nat.le_of_ble_eq_true rfl)⟩) (n_prV (ci := 13) (q0 := 1) hK hP hD [1, 2] rfl (by decide) rfl rfl) rfl rfl hl.1 rfl (lv_room (Nat.le_of_ble_eq_true rfl)) dX12_moveLetter_11 ⟨(Nat.le_of_ble_eq_true rfl), (Nat.le_of_ble_eq_true rfl)⟩) hP hD hS hA [1, 2] [0] rfl rfl (by decide) (by decide) (fun r_3 u_4 H locs hP hD hS hw => ?_)
    have hP : va_P G.1 vwCl [(mpa, eI G 9528 fp), (y, .inr (13, [.ref mm, .ref msv, .int vS, .ref mpa, .int 0, .int vT, .int vF, .ref mio, .ref mfo, .int vL, .ref mre, .int vK, .ref mah, .int vR, .ref mrw, .ref mrr, .ref mrs, .ref mrb, .int v0, .int vZ, .int vB, .int vN, .ref mso, .ref mnu, .ref mse, .ref mbe, .ref men])), (mm, eI G 1191 fm)] H := hP
    have hD : va_D A [(mpa, eI G 9528 fp), (y, .inr (13, [.ref mm, .ref msv, .int vS, .ref mpa, .int 0, .int vT, .int vF, .ref mio, .ref mfo, .int vL, .ref mre, .int vK, .ref mah, .int vR, .ref mrw, .ref mrr, .ref mrs, .ref mrb, .int v0, .int vZ, .int vB, .int vN, .ref mso, .ref mnu, .ref mse, .ref mbe, .ref men])), (mm, eI G 1191 fm)] := hD
    have hw : r_3 = (nhp 26 q2) := hw
    subst hw
    try dsimp only
    refine lv_if_eq (tgt := 21) hx hb dX12_moveLetter_14 (by decide) (fun c_14 => ?_) (fun c_14 => ?_)
    · skip
      refine lv_iconst (v := 1) hx hb dX12_moveLetter_21 (by decide) ?_
      refine va_put (D := G.1) (ci := 13) (v := .int 1) (ty := .int) (C := RX12) (T := TX12) (N := 27) hx hb hts hiX12 tyX12 tyX12_ok nmX12 hown hK hP hD hS 1 rfl rfl 5 (by decide) (hts (.fieldLink RX12 62 "DialectDictionaryModel" "thrown" "I") (by decide +kernel)) (fun _ h9 => h9) rfl (by decide +kernel) rfl rfl (Nat.le_of_ble_eq_true rfl) dX12_moveLetter_22 (fun H locs hP hD hS => ?_)
      have hP : va_P G.1 vwCl [(mpa, eI G 9528 fp), (y, .inr (13, [.ref mm, .ref msv, .int vS, .ref mpa, .int 0, .int 1, .int vF, .ref mio, .ref mfo, .int vL, .ref mre, .int vK, .ref mah, .int vR, .ref mrw, .ref mrr, .ref mrs, .ref mrb, .int v0, .int vZ, .int vB, .int vN, .ref mso, .ref mnu, .ref mse, .ref mbe, .ref men])), (mm, eI G 1191 fm)] H := hP
      have hD : va_D A [(mpa, eI G 9528 fp), (y, .inr (13, [.ref mm, .ref msv, .int vS, .ref mpa, .int 0, .int 1, .int vF, .ref mio, .ref mfo, .int vL, .ref mre, .int vK, .ref mah, .int vR, .ref mrw, .ref mrr, .ref mrs, .ref mrb, .int v0, .int vZ, .int vB, .int vN, .ref mso, .ref mnu, .ref mse, .ref mbe, .ref men])), (mm, eI G 1191 fm)] := hD
      refine lv_aload_n hx hb dX12_moveLetter_25 rfl (lv_at hl 0 rfl) ?_
      refine va_get (D := G.1) (ci := 13) (v := .int 1) (C := RX12) (T := TX12) (N := 27) hx hb hts hiX12 hown hK hP 1 rfl rfl 5 (by decide) (hts (.fieldLink RX12 62 "DialectDictionaryModel" "thrown" "I") (by decide +kernel)) (fun _ h9 => h9) rfl dX12_moveLetter_26 ?_
      refine lv_if_le (tgt := 34) hx hb dX12_moveLetter_29 (by decide) (fun h9 => absurd h9 (by decide)) (fun _ => ?_)
      refine lv_iconst (v := 0) hx hb dX12_moveLetter_32 (by decide) ?_
      have hP9 := n_Psub (wc := [(y, .inr (13, [.ref mm, .ref msv, .int vS, .ref mpa, .int 0, .int 1, .int vF, .ref mio, .ref mfo, .int vL, .ref mre, .int vK, .ref mah, .int vR, .ref mrw, .ref mrr, .ref mrs, .ref mrb, .int v0, .int vZ, .int vB, .int vN, .ref mso, .ref mnu, .ref mse, .ref mbe, .ref men]))]) hP [1] rfl
      have hD9 := hD.sub (ws' := [(y, .inr (13, [.ref mm, .ref msv, .int vS, .ref mpa, .int 0, .int 1, .int vF, .ref mio, .ref mfo, .int vL, .ref mre, .int vK, .ref mah, .int vR, .ref mrw, .ref mrr, .ref mrs, .ref mrb, .int v0, .int vZ, .int vB, .int vN, .ref mso, .ref mnu, .ref mse, .ref mbe, .ref men]))]) [1] (by decide) rfl
      refine W.widen (k := 0) (n := 0) (Nat.le_of_ble_eq_true rfl) (Nat.le_of_ble_eq_true rfl) ?_
      exact W.iret (v := 0) hx hb hr (fun t ht hW => ⟨⟨0, (1, 0), rfl, ⟨by rw [nkM, if_pos (nhp_1 c_6), if_neg (nhp_no c_14)], fun h9 => absurd h9 (by decide)⟩, by rw [ht]; exact hP9, va_K.moved hW.alike hK, hD9⟩, hS.F ht⟩) hS.2.2 dX12_moveLetter_33
    · skip
      refine lv_iconst (v := 0) hx hb dX12_moveLetter_17 (by decide) ?_
      refine lv_goto (tgt := 22) hx hb dX12_moveLetter_18 (by decide) ?_
      refine va_put (D := G.1) (ci := 13) (v := .int 0) (ty := .int) (C := RX12) (T := TX12) (N := 27) hx hb hts hiX12 tyX12 tyX12_ok nmX12 hown hK hP hD hS 1 rfl rfl 5 (by decide) (hts (.fieldLink RX12 62 "DialectDictionaryModel" "thrown" "I") (by decide +kernel)) (fun _ h9 => h9) rfl (by decide +kernel) rfl rfl (Nat.le_of_ble_eq_true rfl) dX12_moveLetter_22 (fun H locs hP hD hS => ?_)
      have hP : va_P G.1 vwCl [(mpa, eI G 9528 fp), (y, .inr (13, [.ref mm, .ref msv, .int vS, .ref mpa, .int 0, .int 0, .int vF, .ref mio, .ref mfo, .int vL, .ref mre, .int vK, .ref mah, .int vR, .ref mrw, .ref mrr, .ref mrs, .ref mrb, .int v0, .int vZ, .int vB, .int vN, .ref mso, .ref mnu, .ref mse, .ref mbe, .ref men])), (mm, eI G 1191 fm)] H := hP
      have hD : va_D A [(mpa, eI G 9528 fp), (y, .inr (13, [.ref mm, .ref msv, .int vS, .ref mpa, .int 0, .int 0, .int vF, .ref mio, .ref mfo, .int vL, .ref mre, .int vK, .ref mah, .int vR, .ref mrw, .ref mrr, .ref mrs, .ref mrb, .int v0, .int vZ, .int vB, .int vN, .ref mso, .ref mnu, .ref mse, .ref mbe, .ref men])), (mm, eI G 1191 fm)] := hD
      refine lv_aload_n hx hb dX12_moveLetter_25 rfl (lv_at hl 0 rfl) ?_
      refine va_get (D := G.1) (ci := 13) (v := .int 0) (C := RX12) (T := TX12) (N := 27) hx hb hts hiX12 hown hK hP 1 rfl rfl 5 (by decide) (hts (.fieldLink RX12 62 "DialectDictionaryModel" "thrown" "I") (by decide +kernel)) (fun _ h9 => h9) rfl dX12_moveLetter_26 ?_
      refine lv_if_le (tgt := 34) hx hb dX12_moveLetter_29 (by decide) (fun _ => ?_) (fun h9 => absurd (by decide) h9)
      refine lv_aload_n hx hb dX12_moveLetter_34 rfl (lv_at hl 0 rfl) ?_
      refine n_cv (wr := []) (va_runV (As := []) (rest := []) ⟨hx, hb, hml, hown, hts⟩ (mX12_keep l G y mm msv mpa mio mfo mre mah mrw mrr mrs mrb mso mnu mse mbe men vS 0 vF vL vK vR v0 vZ vB vN fm fp H.size) (cwV 0 hts gX12_moveLetter_X12_keep rfl rfl rfl (by decide +kernel) ⟨(Nat.le_of_ble_eq_true rfl), (Nat.le_of_ble_eq_true rfl)⟩) (n_prV (ci := 13) (q0 := 1) hK hP hD [1, 2, 0] rfl (by decide) rfl rfl) rfl rfl hl.1 rfl (lv_room (Nat.le_of_ble_eq_true rfl)) dX12_moveLetter_35 ⟨(Nat.le_of_ble_eq_true rfl), (Nat.le_of_ble_eq_true rfl)⟩) hP hD hS hA [1, 2, 0] [] rfl rfl (by decide) (by decide) (fun u_5 H locs hP hD hS hw => ?_)
      have hP : va_P G.1 vwCl [(y, .inr (13, [.ref mm, .ref msv, .int vS, .ref mpa, .int 1, .int 0, .int vF, .ref mio, .ref mfo, .int vL, .ref mre, .int vK, .ref mah, .int vR, .ref mrw, .ref mrr, .ref mrs, .ref mrb, .int v0, .int vZ, .int vB, .int vN, .ref mso, .ref mnu, .ref mse, .ref mbe, .ref men])), (mm, eI G 1191 fm)] H := hP
      have hD : va_D A [(y, .inr (13, [.ref mm, .ref msv, .int vS, .ref mpa, .int 1, .int 0, .int vF, .ref mio, .ref mfo, .int vL, .ref mre, .int vK, .ref mah, .int vR, .ref mrw, .ref mrr, .ref mrs, .ref mrb, .int v0, .int vZ, .int vB, .int vN, .ref mso, .ref mnu, .ref mse, .ref mbe, .ref men])), (mm, eI G 1191 fm)] := hD
      obtain ⟨j1, hj1, e_j1⟩ := nhp_of26 (nhp_1 c_6)
      subst e_j1
      obtain ⟨j2, hj2, e_j2⟩ := nhp_of26 (nhp_1 c_14)
      subst e_j2
      refine lv_aload_n hx hb dX12_moveLetter_38 rfl (lv_at hl 0 rfl) ?_
      refine va_get (D := G.1) (ci := 13) (v := .ref mm) (C := RX12) (T := TX12) (N := 27) hx hb hts hiX12 hown hK hP 0 rfl rfl 0 (by decide) (hts (.fieldLink RX12 9 "DialectDictionaryModel" "m" "[I") (by decide +kernel)) (fun _ h9 => h9) rfl dX12_moveLetter_39 ?_
      refine lv_iconst (v := 1) hx hb dX12_moveLetter_42 (by decide) ?_
      refine lv_iload_n hx hb dX12_moveLetter_43 rfl (lv_at hl 1 rfl) ?_
      refine lv_iadd hx hb dX12_moveLetter_44 ?_
      refine n_eqi (y := (nI (1 + j1))) (nI_add 1 j1) ?_
      refine va_iald hx hb hK hP 1 0 rfl rfl (vp_in_nI (n := (1 + j1)) (by omega) (by omega)) dX12_moveLetter_45 ?_
      refine n_eqi (y := (nI (97 + j1))) (n_ml hm hj1) ?_
      refine lv_istore_n (lv' := [(3, .int (nI (97 + j1))), (0, .ref y), (1, .int (nI j1)), (2, .int (nI j2))]) hx hb dX12_moveLetter_46 rfl hl (by decide) rfl (fun ls hl => ?_)
      refine lv_iload_n hx hb dX12_moveLetter_47 rfl (lv_at hl 2 rfl) ?_
      refine lv_iload_n hx hb dX12_moveLetter_48 rfl (lv_at hl 3 rfl) ?_
      refine lv_icmp_ge (tgt := 56) hx hb dX12_moveLetter_49 (by decide) (fun c_49 => ?_) (fun c_49 => ?_)
      · skip
        refine lv_iconst (v := -1) hx hb dX12_moveLetter_56 (by decide) ?_
        refine lv_istore (lv' := [(4, .int (-1)), (3, .int (nI (97 + j1))), (0, .ref y), (1, .int (nI j1)), (2, .int (nI j2))]) hx hb dX12_moveLetter_57 hl (by decide) rfl (fun ls hl => ?_)
        refine lv_iload_n hx hb dX12_moveLetter_59 rfl (lv_at hl 3 rfl) ?_
        refine lv_istore (lv' := [(5, .int (nI j1)), (4, .int (-1)), (3, .int (nI (97 + j1))), (0, .ref y), (1, .int (nI j1)), (2, .int (nI j2))]) hx hb dX12_moveLetter_60 hl (by decide) rfl (fun ls hl => ?_)
        have hle : j2 ≤ j1 := by
          rcases Nat.lt_or_ge j1 j2 with q9 | q9
          · exact absurd c_49 (nI_ge q9 (by omega))
          · exact q9
        have key : ∀ (n w9 : Nat), w9 = j2 + n → w9 < 26 → ∀ (x3 : Int32) (f9 : Nat → Int32) (H : Heap) (locs : List Loc) (ls : Array Slot), va_P G.1 vwCl [(y, .inr (13, [.ref mm, .ref msv, .int vS, .ref mpa, .int 1, .int 0, .int vF, .ref mio, .ref mfo, .int vL, .ref mre, .int vK, .ref mah, .int vR, .ref mrw, .ref mrr, .ref mrs, .ref mrb, .int v0, .int vZ, .int vB, .int vN, .ref mso, .ref mnu, .ref mse, .ref mbe, .ref men])), (mm, eI G 1191 f9)] H → va_D A [(y, .inr (13, [.ref mm, .ref msv, .int vS, .ref mpa, .int 1, .int 0, .int vF, .ref mio, .ref mfo, .int vL, .ref mre, .int vK, .ref mah, .int vR, .ref mrw, .ref mrr, .ref mrs, .ref mrb, .int v0, .int vZ, .int vB, .int vN, .ref mso, .ref mnu, .ref mse, .ref mbe, .ref men])), (mm, eI G 1191 f9)] → va_S A s.heap H locs → lv_has ls 6 [(5, .int (nI w9)), (4, .int (-1)), (3, .int x3), (0, .ref y), (1, .int (nI j1)), (2, .int (nI j2))] → W p l e (headSpec wsX12_moveLetter ({ frames := 2, cells := 0, slots := 0, locals := 43 })).room s m (([.ref y, .int (nI j1), .int (nI j2)] : List Value).toArray) below meth c H locs 0 0 (MQ below (va_Qi (fun (r : Int32) (u9 : Int32 × Int32) => match u9 with | (k_9, k_8) => (k_9 = nkM (nI j1) (nI j2) ∧ (k_9 = 0 → r = nvM (nI j1) (nI j2)))) (fun (u9 : Int32 × Int32) (t : State) => match u9 with | (k_9, k_8) => n_po G A [(y, .inr (13, [.ref mm, .ref msv, .int vS, .ref mpa, .int k_8, .int k_9, .int vF, .ref mio, .ref mfo, .int vL, .ref mre, .int vK, .ref mah, .int vR, .ref mrw, .ref mrr, .ref mrs, .ref mrb, .int v0, .int vZ, .int vB, .int vN, .ref mso, .ref mnu, .ref mse, .ref mbe, .ref men]))] t) A) (([.ref y, .int (nI j1), .int (nI j2)] : List Value).toArray) s 0 0 A) (F0 m 62 ls []) := by
          intro n
          induction n with
          | zero =>
            intro w9 hp hp26 x3 f9 H locs ls hP hD hS hl
            refine lv_iload hx hb dX12_moveLetter_62 (lv_at hl 0 rfl) ?_
            refine lv_iload_n hx hb dX12_moveLetter_64 rfl (lv_at hl 5 rfl) ?_
            refine lv_icmp_eq (tgt := 99) hx hb dX12_moveLetter_65 (by decide) (fun _ => ?_) (fun h9 => absurd (by rw [show w9 = j2 by omega]) h9)
            refine lv_aload_n hx hb dX12_moveLetter_99 rfl (lv_at hl 3 rfl) ?_
            refine va_get (D := G.1) (ci := 13) (v := .ref mm) (C := RX12) (T := TX12) (N := 27) hx hb hts hiX12 hown hK hP 0 rfl rfl 0 (by decide) (hts (.fieldLink RX12 9 "DialectDictionaryModel" "m" "[I") (by decide +kernel)) (fun _ h9 => h9) rfl dX12_moveLetter_100 ?_
            refine lv_iconst (v := 1) hx hb dX12_moveLetter_103 (by decide) ?_
            refine lv_iload_n hx hb dX12_moveLetter_104 rfl (lv_at hl 5 rfl) ?_
            refine lv_iadd hx hb dX12_moveLetter_105 ?_
            refine n_eqi (y := (nI (1 + j2))) (nI_add 1 j2) ?_
            refine lv_iload_n hx hb dX12_moveLetter_106 rfl (lv_at hl 2 rfl) ?_
            refine va_iast hx hb hK hP hD hS 1 0 rfl rfl (vp_in_nI (n := (1 + j2)) (by omega) (by omega)) dX12_moveLetter_107 (fun H locs hP hD hS => ?_)
            have hP : va_P G.1 vwCl [(y, .inr (13, [.ref mm, .ref msv, .int vS, .ref mpa, .int 1, .int 0, .int vF, .ref mio, .ref mfo, .int vL, .ref mre, .int vK, .ref mah, .int vR, .ref mrw, .ref mrr, .ref mrs, .ref mrb, .int v0, .int vZ, .int vB, .int vN, .ref mso, .ref mnu, .ref mse, .ref mbe, .ref men])), (mm, eI G 1191 (upd f9 (((nI (1 + j2)) : Int32).toNatClampNeg) x3))] H := hP
            have hD : va_D A [(y, .inr (13, [.ref mm, .ref msv, .int vS, .ref mpa, .int 1, .int 0, .int vF, .ref mio, .ref mfo, .int vL, .ref mre, .int vK, .ref mah, .int vR, .ref mrw, .ref mrr, .ref mrs, .ref mrb, .int v0, .int vZ, .int vB, .int vN, .ref mso, .ref mnu, .ref mse, .ref mbe, .ref men])), (mm, eI G 1191 (upd f9 (((nI (1 + j2)) : Int32).toNatClampNeg) x3))] := hD
            refine lv_iload_n hx hb dX12_moveLetter_108 rfl (lv_at hl 4 rfl) ?_
            refine lv_iload_n hx hb dX12_moveLetter_109 rfl (lv_at hl 5 rfl) ?_
            refine lv_isub hx hb dX12_moveLetter_110 ?_
            refine va_mabs hx hb (hml.trans hl.1.symm) hown (hts (.methodLink RX12 96 Lib.Math.abs.name) (by decide +kernel)) (hts (.static Lib.Math.abs.name) (by decide +kernel)) (hts (.initialized "java/lang/Math") (by decide +kernel)) (hts (.code Lib.Math.abs.name Lib.Math.abs.code 1 (some .int)) (by decide +kernel)) (Nat.le_of_ble_eq_true rfl) (Nat.le_of_ble_eq_true rfl) (Nat.le_of_ble_eq_true rfl) (Nat.le_of_ble_eq_true rfl) dX12_moveLetter_111 ?_
            have hP9 := n_Psub (wc := [(y, .inr (13, [.ref mm, .ref msv, .int vS, .ref mpa, .int 1, .int 0, .int vF, .ref mio, .ref mfo, .int vL, .ref mre, .int vK, .ref mah, .int vR, .ref mrw, .ref mrr, .ref mrs, .ref mrb, .int v0, .int vZ, .int vB, .int vN, .ref mso, .ref mnu, .ref mse, .ref mbe, .ref men]))]) hP [0] rfl
            have hD9 := hD.sub (ws' := [(y, .inr (13, [.ref mm, .ref msv, .int vS, .ref mpa, .int 1, .int 0, .int vF, .ref mio, .ref mfo, .int vL, .ref mre, .int vK, .ref mah, .int vR, .ref mrw, .ref mrr, .ref mrs, .ref mrb, .int v0, .int vZ, .int vB, .int vN, .ref mso, .ref mnu, .ref mse, .ref mbe, .ref men]))]) [0] (by decide) rfl
            refine W.widen (k := 0) (n := 0) (Nat.le_of_ble_eq_true rfl) (Nat.le_of_ble_eq_true rfl) ?_
            exact W.iret (v := (if 0 ≤ ((nI j1) - (nI j2)) then ((nI j1) - (nI j2)) else 0 - ((nI j1) - (nI j2)))) hx hb hr (fun t ht hW => ⟨⟨(if 0 ≤ ((nI j1) - (nI j2)) then ((nI j1) - (nI j2)) else 0 - ((nI j1) - (nI j2))), (0, 1), rfl, ⟨by rw [nkM, if_pos (nhp_in26 hj1), if_pos (nhp_in26 hj2)], fun _ => rfl⟩, by rw [ht]; exact hP9, va_K.moved hW.alike hK, hD9⟩, hS.F ht⟩) hS.2.2 dX12_moveLetter_114
          | succ n ih =>
            intro w9 hp hp26 x3 f9 H locs ls hP hD hS hl
            obtain ⟨z, rfl⟩ : ∃ z, w9 = z + 1 := ⟨w9 - 1, by omega⟩
            refine lv_iload hx hb dX12_moveLetter_62 (lv_at hl 0 rfl) ?_
            refine lv_iload_n hx hb dX12_moveLetter_64 rfl (lv_at hl 5 rfl) ?_
            refine lv_icmp_eq (tgt := 99) hx hb dX12_moveLetter_65 (by decide) (fun h9 => absurd h9 (fun h9 => absurd ((nI_eq (by omega) (by omega)).mp h9) (by omega))) (fun _ => ?_)
            refine lv_aload_n hx hb dX12_moveLetter_68 rfl (lv_at hl 3 rfl) ?_
            refine va_get (D := G.1) (ci := 13) (v := .ref mm) (C := RX12) (T := TX12) (N := 27) hx hb hts hiX12 hown hK hP 0 rfl rfl 0 (by decide) (hts (.fieldLink RX12 9 "DialectDictionaryModel" "m" "[I") (by decide +kernel)) (fun _ h9 => h9) rfl dX12_moveLetter_69 ?_
            refine lv_iconst (v := 1) hx hb dX12_moveLetter_72 (by decide) ?_
            refine lv_iload hx hb dX12_moveLetter_73 (lv_at hl 0 rfl) ?_
            refine lv_iadd hx hb dX12_moveLetter_75 ?_
            refine n_eqi (y := (nI (1 + (z + 1)))) (nI_add 1 (z + 1)) ?_
            refine lv_aload_n hx hb dX12_moveLetter_76 rfl (lv_at hl 3 rfl) ?_
            refine va_get (D := G.1) (ci := 13) (v := .ref mm) (C := RX12) (T := TX12) (N := 27) hx hb hts hiX12 hown hK hP 0 rfl rfl 0 (by decide) (hts (.fieldLink RX12 9 "DialectDictionaryModel" "m" "[I") (by decide +kernel)) (fun _ h9 => h9) rfl dX12_moveLetter_77 ?_
            refine lv_iconst (v := 1) hx hb dX12_moveLetter_80 (by decide) ?_
            refine lv_iload hx hb dX12_moveLetter_81 (lv_at hl 0 rfl) ?_
            refine lv_iadd hx hb dX12_moveLetter_83 ?_
            refine n_eqi (y := (nI (1 + (z + 1)))) (nI_add 1 (z + 1)) ?_
            refine lv_iload hx hb dX12_moveLetter_84 (lv_at hl 1 rfl) ?_
            refine lv_iadd hx hb dX12_moveLetter_86 ?_
            refine n_eqi (y := (nI (1 + z))) (pk_m1 (1 + z)) ?_
            refine va_iald hx hb hK hP 1 0 rfl rfl (vp_in_nI (n := (1 + z)) (by omega) (by omega)) dX12_moveLetter_87 ?_
            refine va_iast hx hb hK hP hD hS 1 0 rfl rfl (vp_in_nI (n := (1 + (z + 1))) (by omega) (by omega)) dX12_moveLetter_88 (fun H locs hP hD hS => ?_)
            have hP : va_P G.1 vwCl [(y, .inr (13, [.ref mm, .ref msv, .int vS, .ref mpa, .int 1, .int 0, .int vF, .ref mio, .ref mfo, .int vL, .ref mre, .int vK, .ref mah, .int vR, .ref mrw, .ref mrr, .ref mrs, .ref mrb, .int v0, .int vZ, .int vB, .int vN, .ref mso, .ref mnu, .ref mse, .ref mbe, .ref men])), (mm, eI G 1191 (upd f9 (((nI (1 + (z + 1))) : Int32).toNatClampNeg) (f9 (((nI (1 + z)) : Int32).toNatClampNeg))))] H := hP
            have hD : va_D A [(y, .inr (13, [.ref mm, .ref msv, .int vS, .ref mpa, .int 1, .int 0, .int vF, .ref mio, .ref mfo, .int vL, .ref mre, .int vK, .ref mah, .int vR, .ref mrw, .ref mrr, .ref mrs, .ref mrb, .int v0, .int vZ, .int vB, .int vN, .ref mso, .ref mnu, .ref mse, .ref mbe, .ref men])), (mm, eI G 1191 (upd f9 (((nI (1 + (z + 1))) : Int32).toNatClampNeg) (f9 (((nI (1 + z)) : Int32).toNatClampNeg))))] := hD
            refine lv_iload hx hb dX12_moveLetter_89 (lv_at hl 0 rfl) ?_
            refine lv_iload hx hb dX12_moveLetter_91 (lv_at hl 1 rfl) ?_
            refine lv_iadd hx hb dX12_moveLetter_93 ?_
            refine n_eqi (y := (nI z)) (pk_m1 z) ?_
            refine lv_istore (lv' := [(5, .int (nI z)), (4, .int (-1)), (3, .int x3), (0, .ref y), (1, .int (nI j1)), (2, .int (nI j2))]) hx hb dX12_moveLetter_94 hl (by decide) rfl (fun ls hl => ?_)
            refine lv_goto (tgt := 62) hx hb dX12_moveLetter_96 (by decide) ?_
            exact ih z (by omega) (by omega) x3 _ H locs ls hP hD hS (lv_sub hl [0, 1, 2, 3, 4, 5] rfl)
        exact key (j1 - j2) j1 (by omega) hj1 _ _ H locs ls hP hD hS (lv_sub hl [0, 1, 2, 3, 4, 5] rfl)
      · skip
        refine lv_iconst (v := 1) hx hb dX12_moveLetter_52 (by decide) ?_
        refine lv_goto (tgt := 57) hx hb dX12_moveLetter_53 (by decide) ?_
        refine lv_istore (lv' := [(4, .int 1), (3, .int (nI (97 + j1))), (0, .ref y), (1, .int (nI j1)), (2, .int (nI j2))]) hx hb dX12_moveLetter_57 hl (by decide) rfl (fun ls hl => ?_)
        refine lv_iload_n hx hb dX12_moveLetter_59 rfl (lv_at hl 3 rfl) ?_
        refine lv_istore (lv' := [(5, .int (nI j1)), (4, .int 1), (3, .int (nI (97 + j1))), (0, .ref y), (1, .int (nI j1)), (2, .int (nI j2))]) hx hb dX12_moveLetter_60 hl (by decide) rfl (fun ls hl => ?_)
        have hlt : j1 < j2 := by
          rcases Nat.lt_or_ge j1 j2 with q9 | q9
          · exact q9
          · exact absurd (nI_le q9 (by omega)) c_49
        have key : ∀ (n w9 : Nat), w9 + n = j2 → ∀ (x3 : Int32) (f9 : Nat → Int32) (H : Heap) (locs : List Loc) (ls : Array Slot), va_P G.1 vwCl [(y, .inr (13, [.ref mm, .ref msv, .int vS, .ref mpa, .int 1, .int 0, .int vF, .ref mio, .ref mfo, .int vL, .ref mre, .int vK, .ref mah, .int vR, .ref mrw, .ref mrr, .ref mrs, .ref mrb, .int v0, .int vZ, .int vB, .int vN, .ref mso, .ref mnu, .ref mse, .ref mbe, .ref men])), (mm, eI G 1191 f9)] H → va_D A [(y, .inr (13, [.ref mm, .ref msv, .int vS, .ref mpa, .int 1, .int 0, .int vF, .ref mio, .ref mfo, .int vL, .ref mre, .int vK, .ref mah, .int vR, .ref mrw, .ref mrr, .ref mrs, .ref mrb, .int v0, .int vZ, .int vB, .int vN, .ref mso, .ref mnu, .ref mse, .ref mbe, .ref men])), (mm, eI G 1191 f9)] → va_S A s.heap H locs → lv_has ls 6 [(5, .int (nI w9)), (4, .int 1), (3, .int x3), (0, .ref y), (1, .int (nI j1)), (2, .int (nI j2))] → W p l e (headSpec wsX12_moveLetter ({ frames := 2, cells := 0, slots := 0, locals := 43 })).room s m (([.ref y, .int (nI j1), .int (nI j2)] : List Value).toArray) below meth c H locs 0 0 (MQ below (va_Qi (fun (r : Int32) (u9 : Int32 × Int32) => match u9 with | (k_9, k_8) => (k_9 = nkM (nI j1) (nI j2) ∧ (k_9 = 0 → r = nvM (nI j1) (nI j2)))) (fun (u9 : Int32 × Int32) (t : State) => match u9 with | (k_9, k_8) => n_po G A [(y, .inr (13, [.ref mm, .ref msv, .int vS, .ref mpa, .int k_8, .int k_9, .int vF, .ref mio, .ref mfo, .int vL, .ref mre, .int vK, .ref mah, .int vR, .ref mrw, .ref mrr, .ref mrs, .ref mrb, .int v0, .int vZ, .int vB, .int vN, .ref mso, .ref mnu, .ref mse, .ref mbe, .ref men]))] t) A) (([.ref y, .int (nI j1), .int (nI j2)] : List Value).toArray) s 0 0 A) (F0 m 62 ls []) := by
          intro n
          induction n with
          | zero =>
            intro w9 hp x3 f9 H locs ls hP hD hS hl
            refine lv_iload hx hb dX12_moveLetter_62 (lv_at hl 0 rfl) ?_
            refine lv_iload_n hx hb dX12_moveLetter_64 rfl (lv_at hl 5 rfl) ?_
            refine lv_icmp_eq (tgt := 99) hx hb dX12_moveLetter_65 (by decide) (fun _ => ?_) (fun h9 => absurd (by rw [show w9 = j2 by omega]) h9)
            refine lv_aload_n hx hb dX12_moveLetter_99 rfl (lv_at hl 3 rfl) ?_
            refine va_get (D := G.1) (ci := 13) (v := .ref mm) (C := RX12) (T := TX12) (N := 27) hx hb hts hiX12 hown hK hP 0 rfl rfl 0 (by decide) (hts (.fieldLink RX12 9 "DialectDictionaryModel" "m" "[I") (by decide +kernel)) (fun _ h9 => h9) rfl dX12_moveLetter_100 ?_
            refine lv_iconst (v := 1) hx hb dX12_moveLetter_103 (by decide) ?_
            refine lv_iload_n hx hb dX12_moveLetter_104 rfl (lv_at hl 5 rfl) ?_
            refine lv_iadd hx hb dX12_moveLetter_105 ?_
            refine n_eqi (y := (nI (1 + j2))) (nI_add 1 j2) ?_
            refine lv_iload_n hx hb dX12_moveLetter_106 rfl (lv_at hl 2 rfl) ?_
            refine va_iast hx hb hK hP hD hS 1 0 rfl rfl (vp_in_nI (n := (1 + j2)) (by omega) (by omega)) dX12_moveLetter_107 (fun H locs hP hD hS => ?_)
            have hP : va_P G.1 vwCl [(y, .inr (13, [.ref mm, .ref msv, .int vS, .ref mpa, .int 1, .int 0, .int vF, .ref mio, .ref mfo, .int vL, .ref mre, .int vK, .ref mah, .int vR, .ref mrw, .ref mrr, .ref mrs, .ref mrb, .int v0, .int vZ, .int vB, .int vN, .ref mso, .ref mnu, .ref mse, .ref mbe, .ref men])), (mm, eI G 1191 (upd f9 (((nI (1 + j2)) : Int32).toNatClampNeg) x3))] H := hP
            have hD : va_D A [(y, .inr (13, [.ref mm, .ref msv, .int vS, .ref mpa, .int 1, .int 0, .int vF, .ref mio, .ref mfo, .int vL, .ref mre, .int vK, .ref mah, .int vR, .ref mrw, .ref mrr, .ref mrs, .ref mrb, .int v0, .int vZ, .int vB, .int vN, .ref mso, .ref mnu, .ref mse, .ref mbe, .ref men])), (mm, eI G 1191 (upd f9 (((nI (1 + j2)) : Int32).toNatClampNeg) x3))] := hD
            refine lv_iload_n hx hb dX12_moveLetter_108 rfl (lv_at hl 4 rfl) ?_
            refine lv_iload_n hx hb dX12_moveLetter_109 rfl (lv_at hl 5 rfl) ?_
            refine lv_isub hx hb dX12_moveLetter_110 ?_
            refine va_mabs hx hb (hml.trans hl.1.symm) hown (hts (.methodLink RX12 96 Lib.Math.abs.name) (by decide +kernel)) (hts (.static Lib.Math.abs.name) (by decide +kernel)) (hts (.initialized "java/lang/Math") (by decide +kernel)) (hts (.code Lib.Math.abs.name Lib.Math.abs.code 1 (some .int)) (by decide +kernel)) (Nat.le_of_ble_eq_true rfl) (Nat.le_of_ble_eq_true rfl) (Nat.le_of_ble_eq_true rfl) (Nat.le_of_ble_eq_true rfl) dX12_moveLetter_111 ?_
            have hP9 := n_Psub (wc := [(y, .inr (13, [.ref mm, .ref msv, .int vS, .ref mpa, .int 1, .int 0, .int vF, .ref mio, .ref mfo, .int vL, .ref mre, .int vK, .ref mah, .int vR, .ref mrw, .ref mrr, .ref mrs, .ref mrb, .int v0, .int vZ, .int vB, .int vN, .ref mso, .ref mnu, .ref mse, .ref mbe, .ref men]))]) hP [0] rfl
            have hD9 := hD.sub (ws' := [(y, .inr (13, [.ref mm, .ref msv, .int vS, .ref mpa, .int 1, .int 0, .int vF, .ref mio, .ref mfo, .int vL, .ref mre, .int vK, .ref mah, .int vR, .ref mrw, .ref mrr, .ref mrs, .ref mrb, .int v0, .int vZ, .int vB, .int vN, .ref mso, .ref mnu, .ref mse, .ref mbe, .ref men]))]) [0] (by decide) rfl
            refine W.widen (k := 0) (n := 0) (Nat.le_of_ble_eq_true rfl) (Nat.le_of_ble_eq_true rfl) ?_
            exact W.iret (v := (if 0 ≤ ((nI j1) - (nI j2)) then ((nI j1) - (nI j2)) else 0 - ((nI j1) - (nI j2)))) hx hb hr (fun t ht hW => ⟨⟨(if 0 ≤ ((nI j1) - (nI j2)) then ((nI j1) - (nI j2)) else 0 - ((nI j1) - (nI j2))), (0, 1), rfl, ⟨by rw [nkM, if_pos (nhp_in26 hj1), if_pos (nhp_in26 hj2)], fun _ => rfl⟩, by rw [ht]; exact hP9, va_K.moved hW.alike hK, hD9⟩, hS.F ht⟩) hS.2.2 dX12_moveLetter_114
          | succ n ih =>
            intro w9 hp x3 f9 H locs ls hP hD hS hl
            refine lv_iload hx hb dX12_moveLetter_62 (lv_at hl 0 rfl) ?_
            refine lv_iload_n hx hb dX12_moveLetter_64 rfl (lv_at hl 5 rfl) ?_
            refine lv_icmp_eq (tgt := 99) hx hb dX12_moveLetter_65 (by decide) (fun h9 => absurd h9 (fun h9 => absurd ((nI_eq (by omega) (by omega)).mp h9) (by omega))) (fun _ => ?_)
            refine lv_aload_n hx hb dX12_moveLetter_68 rfl (lv_at hl 3 rfl) ?_
            refine va_get (D := G.1) (ci := 13) (v := .ref mm) (C := RX12) (T := TX12) (N := 27) hx hb hts hiX12 hown hK hP 0 rfl rfl 0 (by decide) (hts (.fieldLink RX12 9 "DialectDictionaryModel" "m" "[I") (by decide +kernel)) (fun _ h9 => h9) rfl dX12_moveLetter_69 ?_
            refine lv_iconst (v := 1) hx hb dX12_moveLetter_72 (by decide) ?_
            refine lv_iload hx hb dX12_moveLetter_73 (lv_at hl 0 rfl) ?_
            refine lv_iadd hx hb dX12_moveLetter_75 ?_
            refine n_eqi (y := (nI (1 + w9))) (nI_add 1 w9) ?_
            refine lv_aload_n hx hb dX12_moveLetter_76 rfl (lv_at hl 3 rfl) ?_
            refine va_get (D := G.1) (ci := 13) (v := .ref mm) (C := RX12) (T := TX12) (N := 27) hx hb hts hiX12 hown hK hP 0 rfl rfl 0 (by decide) (hts (.fieldLink RX12 9 "DialectDictionaryModel" "m" "[I") (by decide +kernel)) (fun _ h9 => h9) rfl dX12_moveLetter_77 ?_
            refine lv_iconst (v := 1) hx hb dX12_moveLetter_80 (by decide) ?_
            refine lv_iload hx hb dX12_moveLetter_81 (lv_at hl 0 rfl) ?_
            refine lv_iadd hx hb dX12_moveLetter_83 ?_
            refine n_eqi (y := (nI (1 + w9))) (nI_add 1 w9) ?_
            refine lv_iload hx hb dX12_moveLetter_84 (lv_at hl 1 rfl) ?_
            refine lv_iadd hx hb dX12_moveLetter_86 ?_
            refine n_eqi (y := (nI ((1 + w9) + 1))) (nI_add (1 + w9) 1) ?_
            refine va_iald hx hb hK hP 1 0 rfl rfl (vp_in_nI (n := ((1 + w9) + 1)) (by omega) (by omega)) dX12_moveLetter_87 ?_
            refine va_iast hx hb hK hP hD hS 1 0 rfl rfl (vp_in_nI (n := (1 + w9)) (by omega) (by omega)) dX12_moveLetter_88 (fun H locs hP hD hS => ?_)
            have hP : va_P G.1 vwCl [(y, .inr (13, [.ref mm, .ref msv, .int vS, .ref mpa, .int 1, .int 0, .int vF, .ref mio, .ref mfo, .int vL, .ref mre, .int vK, .ref mah, .int vR, .ref mrw, .ref mrr, .ref mrs, .ref mrb, .int v0, .int vZ, .int vB, .int vN, .ref mso, .ref mnu, .ref mse, .ref mbe, .ref men])), (mm, eI G 1191 (upd f9 (((nI (1 + w9)) : Int32).toNatClampNeg) (f9 (((nI ((1 + w9) + 1)) : Int32).toNatClampNeg))))] H := hP
            have hD : va_D A [(y, .inr (13, [.ref mm, .ref msv, .int vS, .ref mpa, .int 1, .int 0, .int vF, .ref mio, .ref mfo, .int vL, .ref mre, .int vK, .ref mah, .int vR, .ref mrw, .ref mrr, .ref mrs, .ref mrb, .int v0, .int vZ, .int vB, .int vN, .ref mso, .ref mnu, .ref mse, .ref mbe, .ref men])), (mm, eI G 1191 (upd f9 (((nI (1 + w9)) : Int32).toNatClampNeg) (f9 (((nI ((1 + w9) + 1)) : Int32).toNatClampNeg))))] := hD
            refine lv_iload hx hb dX12_moveLetter_89 (lv_at hl 0 rfl) ?_
            refine lv_iload hx hb dX12_moveLetter_91 (lv_at hl 1 rfl) ?_
            refine lv_iadd hx hb dX12_moveLetter_93 ?_
            refine n_eqi (y := (nI (w9 + 1))) (nI_add w9 1) ?_
            refine lv_istore (lv' := [(5, .int (nI (w9 + 1))), (4, .int 1), (3, .int x3), (0, .ref y), (1, .int (nI j1)), (2, .int (nI j2))]) hx hb dX12_moveLetter_94 hl (by decide) rfl (fun ls hl => ?_)
            refine lv_goto (tgt := 62) hx hb dX12_moveLetter_96 (by decide) ?_
            exact ih (w9 + 1) (by omega) x3 _ H locs ls hP hD hS (lv_sub hl [0, 1, 2, 3, 4, 5] rfl)
        exact key (j2 - j1) j1 (by omega) _ _ H locs ls hP hD hS (lv_sub hl [0, 1, 2, 3, 4, 5] rfl)

set_option maxHeartbeats 4000000 in
set_option maxRecDepth 100000 in
theorem mX12_placeOf (l : Launch) (G : nG) (y : Nat) (mm : Nat) (msv : Nat) (mpa : Nat) (mio : Nat) (mfo : Nat) (mre : Nat) (mah : Nat) (mrw : Nat) (mrr : Nat) (mrs : Nat) (mrb : Nat) (mso : Nat) (mnu : Nat) (mse : Nat) (mbe : Nat) (men : Nat) (vS : Int32) (vC : Int32) (vT : Int32) (vF : Int32) (vL : Int32) (vK : Int32) (vR : Int32) (v0 : Int32) (vZ : Int32) (vB : Int32) (vN : Int32) (fm : Nat → Int32) (q : Int32) (sz : Nat) (hm : nMod fm) (hq : nNo q) : Met l yX12_placeOf wsX12_placeOf ({ frames := 0, cells := 0, slots := 0, locals := 0 }) (va_Pc [.ref y, .int q] (n_pp G [(y, .inr (13, [.ref mm, .ref msv, .int vS, .ref mpa, .int vC, .int vT, .int vF, .ref mio, .ref mfo, .int vL, .ref mre, .int vK, .ref mah, .int vR, .ref mrw, .ref mrr, .ref mrs, .ref mrb, .int v0, .int vZ, .int vB, .int vN, .ref mso, .ref mnu, .ref mse, .ref mbe, .ref men])), (mm, eI G 1191 fm)] sz)) (va_Qi (fun (r : Int32) (_ : Unit) => r = (-1)) (fun (_ : Unit) (t : State) => n_po G (va_A [(y, .inr (13, [.ref mm, .ref msv, .int vS, .ref mpa, .int vC, .int vT, .int vF, .ref mio, .ref mfo, .int vL, .ref mre, .int vK, .ref mah, .int vR, .ref mrw, .ref mrr, .ref mrs, .ref mrb, .int v0, .int vZ, .int vB, .int vN, .ref mso, .ref mnu, .ref mse, .ref mbe, .ref men])), (mm, eI G 1191 fm)] sz) [(y, .inr (13, [.ref mm, .ref msv, .int vS, .ref mpa, .int vC, .int vT, .int vF, .ref mio, .ref mfo, .int vL, .ref mre, .int vK, .ref mah, .int vR, .ref mrw, .ref mrr, .ref mrs, .ref mrb, .int v0, .int vZ, .int vB, .int vN, .ref mso, .ref mnu, .ref mse, .ref mbe, .ref men])), (mm, eI G 1191 fm)] t) (va_A [(y, .inr (13, [.ref mm, .ref msv, .int vS, .ref mpa, .int vC, .int vT, .int vF, .ref mio, .ref mfo, .int vL, .ref mre, .int vK, .ref mah, .int vR, .ref mrw, .ref mrr, .ref mrs, .ref mrb, .int v0, .int vZ, .int vB, .int vN, .ref mso, .ref mnu, .ref mse, .ref mbe, .ref men])), (mm, eI G 1191 fm)] sz)) 0 0 (va_A [(y, .inr (13, [.ref mm, .ref msv, .int vS, .ref mpa, .int vC, .int vT, .int vF, .ref mio, .ref mfo, .int vL, .ref mre, .int vK, .ref mah, .int vR, .ref mrw, .ref mrr, .ref mrs, .ref mrb, .int v0, .int vZ, .int vB, .int vN, .ref mso, .ref mnu, .ref mse, .ref mbe, .ref men])), (mm, eI G 1191 fm)] sz) := by
  refine Met.ofW (cc := cX12_placeOf) (maxL := 3) (ret := (some .int)) (by decide) rfl ?_
  intro p e s m args below meth c s₁ B hml hv
  obtain ⟨rfl, hsz, hP, hK, hD0⟩ := hv
  have hx := B.exec
  have hb := B.bytes
  have hr := B.returns
  have hts := atoms_spec (ws := wsX12_placeOf) B.pre
  have hown : s.vm.findClass RX12 = some m.cls := findClass_of_methodNamed B.named
  have hlocks := B.notSynchronized
  subst hsz
  have hD := hD0.self (sz := s.heap.size)
  generalize hAe : va_A [(y, .inr (13, [.ref mm, .ref msv, .int vS, .ref mpa, .int vC, .int vT, .int vF, .ref mio, .ref mfo, .int vL, .ref mre, .int vK, .ref mah, .int vR, .ref mrw, .ref mrr, .ref mrs, .ref mrb, .int v0, .int vZ, .int vB, .int vN, .ref mso, .ref mnu, .ref mse, .ref mbe, .ref men])), (mm, eI G 1191 fm)] s.heap.size = A at hD ⊢
  have hA : ∀ q : Nat, s.heap.size ≤ q → A q := fun q h => by rw [← hAe]; exact Or.inr h
  have hS : va_S A s.heap s.heap [] := va_S.rf
  have hP : va_P G.1 vwCl [(y, .inr (13, [.ref mm, .ref msv, .int vS, .ref mpa, .int vC, .int vT, .int vF, .ref mio, .ref mfo, .int vL, .ref mre, .int vK, .ref mah, .int vR, .ref mrw, .ref mrr, .ref mrs, .ref mrb, .int v0, .int vZ, .int vB, .int vN, .ref mso, .ref mnu, .ref mse, .ref mbe, .ref men])), (mm, eI G 1191 fm)] s.heap := hP
  have hl := lv_entry ([.ref y, .int q]) (n := 3) (Nat.le_of_ble_eq_true rfl)
  rw [lg_entry_eq]
  generalize (lg_sl ([.ref y, .int q]) ++ List.replicate (3 - (lg_sl ([.ref y, .int q])).length) Slot.unset).toArray = ls at hl ⊢
  have hl : lv_has ls 3 [(0, .ref y), (1, .int q)] := hl
  obtain ⟨H, hH⟩ : ∃ z, z = s.heap := ⟨_, rfl⟩
  have hS : va_S A s.heap H [] := by rw [hH]; exact hS
  have hP : va_P G.1 vwCl [(y, .inr (13, [.ref mm, .ref msv, .int vS, .ref mpa, .int vC, .int vT, .int vF, .ref mio, .ref mfo, .int vL, .ref mre, .int vK, .ref mah, .int vR, .ref mrw, .ref mrr, .ref mrs, .ref mrb, .int v0, .int vZ, .int vB, .int vN, .ref mso, .ref mnu, .ref mse, .ref mbe, .ref men])), (mm, eI G 1191 fm)] H := by rw [hH]; exact hP
  refine n_heap hH ?_
  generalize ([] : List Loc) = locs at hS ⊢
  have hiX12 : ∀ w ∈ u_ws RX12 TX12 27, w ∈ wsX12_placeOf := by decide +kernel
  refine lv_iconst (v := 0) hx hb dX12_placeOf_0 (by decide) ?_
  refine lv_istore_n (lv' := [(2, .int 0), (0, .ref y), (1, .int q)]) hx hb dX12_placeOf_1 rfl hl (by decide) rfl (fun ls hl => ?_)
  have key : ∀ (n i : Nat), i + n = 26 → ∀ (ls : Array Slot), lv_has ls 3 [(2, .int (nI i)), (0, .ref y), (1, .int q)] → W p l e (headSpec wsX12_placeOf ({ frames := 0, cells := 0, slots := 0, locals := 0 })).room s m (([.ref y, .int q] : List Value).toArray) below meth c H locs 0 0 (MQ below (va_Qi (fun (r : Int32) (_ : Unit) => r = (-1)) (fun (_ : Unit) (t : State) => n_po G A [(y, .inr (13, [.ref mm, .ref msv, .int vS, .ref mpa, .int vC, .int vT, .int vF, .ref mio, .ref mfo, .int vL, .ref mre, .int vK, .ref mah, .int vR, .ref mrw, .ref mrr, .ref mrs, .ref mrb, .int v0, .int vZ, .int vB, .int vN, .ref mso, .ref mnu, .ref mse, .ref mbe, .ref men])), (mm, eI G 1191 fm)] t) A) (([.ref y, .int q] : List Value).toArray) s 0 0 A) (F0 m 2 ls []) := by
    intro n
    induction n with
    | zero =>
      intro i hi ls hl
      obtain rfl : i = 26 := by omega
      refine lv_iload_n hx hb dX12_placeOf_2 rfl (lv_at hl 0 rfl) ?_
      refine lv_aload_n hx hb dX12_placeOf_3 rfl (lv_at hl 1 rfl) ?_
      refine va_get (D := G.1) (ci := 13) (v := .ref mm) (C := RX12) (T := TX12) (N := 27) hx hb hts hiX12 hown hK hP 0 rfl rfl 0 (by decide) (hts (.fieldLink RX12 9 "DialectDictionaryModel" "m" "[I") (by decide +kernel)) (fun _ h9 => h9) rfl dX12_placeOf_4 ?_
      refine lv_iconst (v := 0) hx hb dX12_placeOf_7 (by decide) ?_
      refine va_iald hx hb hK hP 1 0 rfl rfl (n_in (by decide)) dX12_placeOf_8 ?_
      refine n_eqi (y := 26) hm.1 ?_
      refine lv_icmp_ge (tgt := 32) hx hb dX12_placeOf_9 (by decide) (fun _ => ?_) (fun h9 => absurd (by decide) h9)
      refine lv_iconst (v := -1) hx hb dX12_placeOf_32 (by decide) ?_
      have hP9 := n_Psub (wc := [(y, .inr (13, [.ref mm, .ref msv, .int vS, .ref mpa, .int vC, .int vT, .int vF, .ref mio, .ref mfo, .int vL, .ref mre, .int vK, .ref mah, .int vR, .ref mrw, .ref mrr, .ref mrs, .ref mrb, .int v0, .int vZ, .int vB, .int vN, .ref mso, .ref mnu, .ref mse, .ref mbe, .ref men])), (mm, eI G 1191 fm)]) hP [0, 1] rfl
      have hD9 := hD.sub (ws' := [(y, .inr (13, [.ref mm, .ref msv, .int vS, .ref mpa, .int vC, .int vT, .int vF, .ref mio, .ref mfo, .int vL, .ref mre, .int vK, .ref mah, .int vR, .ref mrw, .ref mrr, .ref mrs, .ref mrb, .int v0, .int vZ, .int vB, .int vN, .ref mso, .ref mnu, .ref mse, .ref mbe, .ref men])), (mm, eI G 1191 fm)]) [0, 1] (by decide) rfl
      refine W.widen (k := 0) (n := 0) (Nat.le_of_ble_eq_true rfl) (Nat.le_of_ble_eq_true rfl) ?_
      exact W.iret (v := (-1)) hx hb hr (fun t ht hW => ⟨⟨(-1), (), rfl, rfl, by rw [ht]; exact hP9, va_K.moved hW.alike hK, hD9⟩, hS.F ht⟩) hS.2.2 dX12_placeOf_33
    | succ n ih =>
      intro i hi ls hl
      refine lv_iload_n hx hb dX12_placeOf_2 rfl (lv_at hl 0 rfl) ?_
      refine lv_aload_n hx hb dX12_placeOf_3 rfl (lv_at hl 1 rfl) ?_
      refine va_get (D := G.1) (ci := 13) (v := .ref mm) (C := RX12) (T := TX12) (N := 27) hx hb hts hiX12 hown hK hP 0 rfl rfl 0 (by decide) (hts (.fieldLink RX12 9 "DialectDictionaryModel" "m" "[I") (by decide +kernel)) (fun _ h9 => h9) rfl dX12_placeOf_4 ?_
      refine lv_iconst (v := 0) hx hb dX12_placeOf_7 (by decide) ?_
      refine va_iald hx hb hK hP 1 0 rfl rfl (n_in (by decide)) dX12_placeOf_8 ?_
      refine n_eqi (y := 26) hm.1 ?_
      refine lv_icmp_ge (tgt := 32) hx hb dX12_placeOf_9 (by decide) (fun h9 => absurd h9 (nI_ge (b := 26) (by omega) (by decide))) (fun _ => ?_)
      refine lv_aload_n hx hb dX12_placeOf_12 rfl (lv_at hl 1 rfl) ?_
      refine va_get (D := G.1) (ci := 13) (v := .ref mm) (C := RX12) (T := TX12) (N := 27) hx hb hts hiX12 hown hK hP 0 rfl rfl 0 (by decide) (hts (.fieldLink RX12 9 "DialectDictionaryModel" "m" "[I") (by decide +kernel)) (fun _ h9 => h9) rfl dX12_placeOf_13 ?_
      refine lv_iconst (v := 1) hx hb dX12_placeOf_16 (by decide) ?_
      refine lv_iload_n hx hb dX12_placeOf_17 rfl (lv_at hl 0 rfl) ?_
      refine lv_iadd hx hb dX12_placeOf_18 ?_
      refine n_eqi (y := (nI (1 + i))) (nI_add 1 i) ?_
      refine va_iald hx hb hK hP 1 0 rfl rfl (vp_in_nI (n := (1 + i)) (by omega) (by omega)) dX12_placeOf_19 ?_
      refine n_eqi (y := (nI (97 + i))) (n_ml hm (show i < 26 by omega)) ?_
      refine lv_iload_n hx hb dX12_placeOf_20 rfl (lv_at hl 2 rfl) ?_
      refine lv_icmp_ne (tgt := 26) hx hb dX12_placeOf_21 (by decide) (fun _ => ?_) (fun h9 => absurd h9 (hq i (by omega)))
      refine lv_iinc (v := (nI (i + 1))) (lv' := [(2, .int (nI (i + 1))), (0, .ref y), (1, .int q)]) hx hb dX12_placeOf_26 hl (k := 0) rfl (nI_1 i) (by decide) rfl (fun ls hl => ?_)
      refine lv_goto (tgt := 2) hx hb dX12_placeOf_29 (by decide) ?_
      exact ih (i + 1) (by omega) ls (lv_sub hl [0, 1, 2] rfl)
  exact key 26 0 rfl ls (lv_sub hl [0, 1, 2] rfl)

set_option maxHeartbeats 4000000 in
set_option maxRecDepth 100000 in
theorem mX12_addLetter (l : Launch) (G : nG) (y : Nat) (mm : Nat) (msv : Nat) (mpa : Nat) (mio : Nat) (mfo : Nat) (mre : Nat) (mah : Nat) (mrw : Nat) (mrr : Nat) (mrs : Nat) (mrb : Nat) (mso : Nat) (mnu : Nat) (mse : Nat) (mbe : Nat) (men : Nat) (vS : Int32) (vT : Int32) (vF : Int32) (vL : Int32) (vK : Int32) (vR : Int32) (v0 : Int32) (vZ : Int32) (vB : Int32) (vN : Int32) (fm : Nat → Int32) (fp : Nat → Int32) (c9 : Int32) (d9 : Int32) (q : Int32) (sz : Nat) (hm : nMod fm) : Met l yX12_addLetter wsX12_addLetter ({ frames := 2, cells := 0, slots := 0, locals := 42 }) (va_Pc [.ref y, .int c9, .int d9, .int q] (n_pp G [(y, .inr (13, [.ref mm, .ref msv, .int vS, .ref mpa, .int 0, .int vT, .int vF, .ref mio, .ref mfo, .int vL, .ref mre, .int vK, .ref mah, .int vR, .ref mrw, .ref mrr, .ref mrs, .ref mrb, .int v0, .int vZ, .int vB, .int vN, .ref mso, .ref mnu, .ref mse, .ref mbe, .ref men])), (mm, eI G 1191 fm), (mpa, eI G 9528 fp)] sz)) (va_Qi (fun (r : Int32) (u9 : Int32 × Int32) => match u9 with | (k_9, k_8) => (k_9 = nkA c9 d9 q ∧ (k_9 = 0 → r = 27))) (fun (u9 : Int32 × Int32) (t : State) => match u9 with | (k_9, k_8) => n_po G (va_A [(y, .inr (13, [.ref mm, .ref msv, .int vS, .ref mpa, .int 0, .int vT, .int vF, .ref mio, .ref mfo, .int vL, .ref mre, .int vK, .ref mah, .int vR, .ref mrw, .ref mrr, .ref mrs, .ref mrb, .int v0, .int vZ, .int vB, .int vN, .ref mso, .ref mnu, .ref mse, .ref mbe, .ref men])), (mm, eI G 1191 fm), (mpa, eI G 9528 fp)] sz) [(y, .inr (13, [.ref mm, .ref msv, .int vS, .ref mpa, .int k_8, .int k_9, .int vF, .ref mio, .ref mfo, .int vL, .ref mre, .int vK, .ref mah, .int vR, .ref mrw, .ref mrr, .ref mrs, .ref mrb, .int v0, .int vZ, .int vB, .int vN, .ref mso, .ref mnu, .ref mse, .ref mbe, .ref men]))] t) (va_A [(y, .inr (13, [.ref mm, .ref msv, .int vS, .ref mpa, .int 0, .int vT, .int vF, .ref mio, .ref mfo, .int vL, .ref mre, .int vK, .ref mah, .int vR, .ref mrw, .ref mrr, .ref mrs, .ref mrb, .int v0, .int vZ, .int vB, .int vN, .ref mso, .ref mnu, .ref mse, .ref mbe, .ref men])), (mm, eI G 1191 fm), (mpa, eI G 9528 fp)] sz)) 0 0 (va_A [(y, .inr (13, [.ref mm, .ref msv, .int vS, .ref mpa, .int 0, .int vT, .int vF, .ref mio, .ref mfo, .int vL, .ref mre, .int vK, .ref mah, .int vR, .ref mrw, .ref mrr, .ref mrs, .ref mrb, .int v0, .int vZ, .int vB, .int vN, .ref mso, .ref mnu, .ref mse, .ref mbe, .ref men])), (mm, eI G 1191 fm), (mpa, eI G 9528 fp)] sz) := by
  refine Met.ofW (cc := cX12_addLetter) (maxL := 6) (ret := (some .int)) (by decide) rfl ?_
  intro p e s m args below meth c s₁ B hml hv
  obtain ⟨rfl, hsz, hP, hK, hD0⟩ := hv
  have hx := B.exec
  have hb := B.bytes
  have hr := B.returns
  have hts := atoms_spec (ws := wsX12_addLetter) B.pre
  have hown : s.vm.findClass RX12 = some m.cls := findClass_of_methodNamed B.named
  have hlocks := B.notSynchronized
  subst hsz
  have hD := hD0.self (sz := s.heap.size)
  generalize hAe : va_A [(y, .inr (13, [.ref mm, .ref msv, .int vS, .ref mpa, .int 0, .int vT, .int vF, .ref mio, .ref mfo, .int vL, .ref mre, .int vK, .ref mah, .int vR, .ref mrw, .ref mrr, .ref mrs, .ref mrb, .int v0, .int vZ, .int vB, .int vN, .ref mso, .ref mnu, .ref mse, .ref mbe, .ref men])), (mm, eI G 1191 fm), (mpa, eI G 9528 fp)] s.heap.size = A at hD ⊢
  have hA : ∀ q : Nat, s.heap.size ≤ q → A q := fun q h => by rw [← hAe]; exact Or.inr h
  have hS : va_S A s.heap s.heap [] := va_S.rf
  have hP : va_P G.1 vwCl [(y, .inr (13, [.ref mm, .ref msv, .int vS, .ref mpa, .int 0, .int vT, .int vF, .ref mio, .ref mfo, .int vL, .ref mre, .int vK, .ref mah, .int vR, .ref mrw, .ref mrr, .ref mrs, .ref mrb, .int v0, .int vZ, .int vB, .int vN, .ref mso, .ref mnu, .ref mse, .ref mbe, .ref men])), (mm, eI G 1191 fm), (mpa, eI G 9528 fp)] s.heap := hP
  have hl := lv_entry ([.ref y, .int c9, .int d9, .int q]) (n := 6) (Nat.le_of_ble_eq_true rfl)
  rw [lg_entry_eq]
  generalize (lg_sl ([.ref y, .int c9, .int d9, .int q]) ++ List.replicate (6 - (lg_sl ([.ref y, .int c9, .int d9, .int q])).length) Slot.unset).toArray = ls at hl ⊢
  have hl : lv_has ls 6 [(0, .ref y), (1, .int c9), (2, .int d9), (3, .int q)] := hl
  obtain ⟨H, hH⟩ : ∃ z, z = s.heap := ⟨_, rfl⟩
  have hS : va_S A s.heap H [] := by rw [hH]; exact hS
  have hP : va_P G.1 vwCl [(y, .inr (13, [.ref mm, .ref msv, .int vS, .ref mpa, .int 0, .int vT, .int vF, .ref mio, .ref mfo, .int vL, .ref mre, .int vK, .ref mah, .int vR, .ref mrw, .ref mrr, .ref mrs, .ref mrb, .int v0, .int vZ, .int vB, .int vN, .ref mso, .ref mnu, .ref mse, .ref mbe, .ref men])), (mm, eI G 1191 fm), (mpa, eI G 9528 fp)] H := by rw [hH]; exact hP
  refine n_heap hH ?_
  generalize ([] : List Loc) = locs at hS ⊢
  have hiX12 : ∀ w ∈ u_ws RX12 TX12 27, w ∈ wsX12_addLetter := by decide +kernel
  refine lv_aload_n hx hb dX12_addLetter_0 rfl (lv_at hl 0 rfl) ?_
  refine lv_iconst (v := 0) hx hb dX12_addLetter_1 (by decide) ?_
  refine va_put (D := G.1) (ci := 13) (v := .int 0) (ty := .int) (C := RX12) (T := TX12) (N := 27) hx hb hts hiX12 tyX12 tyX12_ok nmX12 hown hK hP hD hS 0 rfl rfl 5 (by decide) (hts (.fieldLink RX12 62 "DialectDictionaryModel" "thrown" "I") (by decide +kernel)) (fun _ h9 => h9) rfl (by decide +kernel) rfl rfl (Nat.le_of_ble_eq_true rfl) dX12_addLetter_2 (fun H locs hP hD hS => ?_)
  have hP : va_P G.1 vwCl [(y, .inr (13, [.ref mm, .ref msv, .int vS, .ref mpa, .int 0, .int 0, .int vF, .ref mio, .ref mfo, .int vL, .ref mre, .int vK, .ref mah, .int vR, .ref mrw, .ref mrr, .ref mrs, .ref mrb, .int v0, .int vZ, .int vB, .int vN, .ref mso, .ref mnu, .ref mse, .ref mbe, .ref men])), (mm, eI G 1191 fm), (mpa, eI G 9528 fp)] H := hP
  have hD : va_D A [(y, .inr (13, [.ref mm, .ref msv, .int vS, .ref mpa, .int 0, .int 0, .int vF, .ref mio, .ref mfo, .int vL, .ref mre, .int vK, .ref mah, .int vR, .ref mrw, .ref mrr, .ref mrs, .ref mrb, .int v0, .int vZ, .int vB, .int vN, .ref mso, .ref mnu, .ref mse, .ref mbe, .ref men])), (mm, eI G 1191 fm), (mpa, eI G 9528 fp)] := hD
  refine lv_sipush (v := 128) hx hb dX12_addLetter_5 (by decide) ?_
  refine lv_iload_n hx hb dX12_addLetter_8 rfl (lv_at hl 1 rfl) ?_
  refine lv_imul hx hb dX12_addLetter_9 ?_
  refine lv_iload_n hx hb dX12_addLetter_10 rfl (lv_at hl 2 rfl) ?_
  refine lv_iadd hx hb dX12_addLetter_11 ?_
  refine lv_istore (lv' := [(4, .int ((128 * c9) + d9)), (0, .ref y), (1, .int c9), (2, .int d9), (3, .int q)]) hx hb dX12_addLetter_12 hl (by decide) rfl (fun ls hl => ?_)
  refine lv_iload_n hx hb dX12_addLetter_14 rfl (lv_at hl 2 rfl) ?_
  refine n_ci (wr := [(y, .inr (13, [.ref mm, .ref msv, .int vS, .ref mpa, .int 0, .int 0, .int vF, .ref mio, .ref mfo, .int vL, .ref mre, .int vK, .ref mah, .int vR, .ref mrw, .ref mrr, .ref mrs, .ref mrb, .int v0, .int vZ, .int vB, .int vN, .ref mso, .ref mnu, .ref mse, .ref mbe, .ref men])), (mm, eI G 1191 fm), (mpa, eI G 9528 fp)]) (va_runS (As := [.int c9]) (rest := []) ⟨hx, hb, hml, hown, hts⟩ (mX12_isSmall l G c9 H.size) (va_cwS 1 hts gX12_addLetter_X12_isSmall rfl rfl rfl (by decide +kernel) ⟨(Nat.le_of_ble_eq_true rfl), (Nat.le_of_ble_eq_true rfl)⟩) (n_prS hK hP hD [] rfl (by decide)) rfl rfl hl.1 rfl (lv_room (Nat.le_of_ble_eq_true rfl)) dX12_addLetter_15 ⟨(Nat.le_of_ble_eq_true rfl), (Nat.le_of_ble_eq_true rfl)⟩) hP hD hS hA [] [0, 1, 2] rfl rfl (by decide) (by decide) (fun r_1 u_2 H locs hP hD hS hw => ?_)
  have hP : va_P G.1 vwCl [(y, .inr (13, [.ref mm, .ref msv, .int vS, .ref mpa, .int 0, .int 0, .int vF, .ref mio, .ref mfo, .int vL, .ref mre, .int vK, .ref mah, .int vR, .ref mrw, .ref mrr, .ref mrs, .ref mrb, .int v0, .int vZ, .int vB, .int vN, .ref mso, .ref mnu, .ref mse, .ref mbe, .ref men])), (mm, eI G 1191 fm), (mpa, eI G 9528 fp)] H := hP
  have hD : va_D A [(y, .inr (13, [.ref mm, .ref msv, .int vS, .ref mpa, .int 0, .int 0, .int vF, .ref mio, .ref mfo, .int vL, .ref mre, .int vK, .ref mah, .int vR, .ref mrw, .ref mrr, .ref mrs, .ref mrb, .int v0, .int vZ, .int vB, .int vN, .ref mso, .ref mnu, .ref mse, .ref mbe, .ref men])), (mm, eI G 1191 fm), (mpa, eI G 9528 fp)] := hD
  have hw : r_1 = (nsm c9) := hw
  subst hw
  try dsimp only
  refine lv_if_eq (tgt := 37) hx hb dX12_addLetter_18 (by decide) (fun c_18 => ?_) (fun c_18 => ?_)
  · skip
    refine lv_aload_n hx hb dX12_addLetter_37 rfl (lv_at hl 1 rfl) ?_
    refine lv_iconst (v := 1) hx hb dX12_addLetter_38 (by decide) ?_
    refine n_ci (wr := [(mm, eI G 1191 fm), (mpa, eI G 9528 fp)]) (va_runV (As := [.int 1]) (rest := []) ⟨hx, hb, hml, hown, hts⟩ (mX12_refuse l G y mm msv mpa mio mfo mre mah mrw mrr mrs mrb mso mnu mse mbe men vS 0 0 vF vL vK vR v0 vZ vB vN 1 H.size) (cwV 1 hts gX12_addLetter_X12_refuse rfl rfl rfl (by decide +kernel) ⟨(Nat.le_of_ble_eq_true rfl), (Nat.le_of_ble_eq_true rfl)⟩) (n_prV (ci := 13) (q0 := 0) hK hP hD [0] rfl (by decide) rfl rfl) rfl rfl hl.1 rfl (lv_room (Nat.le_of_ble_eq_true rfl)) dX12_addLetter_39 ⟨(Nat.le_of_ble_eq_true rfl), (Nat.le_of_ble_eq_true rfl)⟩) hP hD hS hA [0] [1, 2] rfl rfl (by decide) (by decide) (fun r_3 u_4 H locs hP hD hS hw => ?_)
    have hP : va_P G.1 vwCl [(mm, eI G 1191 fm), (mpa, eI G 9528 fp), (y, .inr (13, [.ref mm, .ref msv, .int vS, .ref mpa, .int 0, .int 1, .int vF, .ref mio, .ref mfo, .int vL, .ref mre, .int vK, .ref mah, .int vR, .ref mrw, .ref mrr, .ref mrs, .ref mrb, .int v0, .int vZ, .int vB, .int vN, .ref mso, .ref mnu, .ref mse, .ref mbe, .ref men]))] H := hP
    have hD : va_D A [(mm, eI G 1191 fm), (mpa, eI G 9528 fp), (y, .inr (13, [.ref mm, .ref msv, .int vS, .ref mpa, .int 0, .int 1, .int vF, .ref mio, .ref mfo, .int vL, .ref mre, .int vK, .ref mah, .int vR, .ref mrw, .ref mrr, .ref mrs, .ref mrb, .int v0, .int vZ, .int vB, .int vN, .ref mso, .ref mnu, .ref mse, .ref mbe, .ref men]))] := hD
    have hw : r_3 = 0 := hw
    subst hw
    have hP9 := n_Psub (wc := [(y, .inr (13, [.ref mm, .ref msv, .int vS, .ref mpa, .int 0, .int 1, .int vF, .ref mio, .ref mfo, .int vL, .ref mre, .int vK, .ref mah, .int vR, .ref mrw, .ref mrr, .ref mrs, .ref mrb, .int v0, .int vZ, .int vB, .int vN, .ref mso, .ref mnu, .ref mse, .ref mbe, .ref men]))]) hP [2] rfl
    have hD9 := hD.sub (ws' := [(y, .inr (13, [.ref mm, .ref msv, .int vS, .ref mpa, .int 0, .int 1, .int vF, .ref mio, .ref mfo, .int vL, .ref mre, .int vK, .ref mah, .int vR, .ref mrw, .ref mrr, .ref mrs, .ref mrb, .int v0, .int vZ, .int vB, .int vN, .ref mso, .ref mnu, .ref mse, .ref mbe, .ref men]))]) [2] (by decide) rfl
    refine W.widen (k := 0) (n := 0) (Nat.le_of_ble_eq_true rfl) (Nat.le_of_ble_eq_true rfl) ?_
    exact W.iret (v := 0) hx hb hr (fun t ht hW => ⟨⟨0, (1, 0), rfl, ⟨by rw [nkA, if_pos c_18], fun h9 => absurd h9 (by decide)⟩, by rw [ht]; exact hP9, va_K.moved hW.alike hK, hD9⟩, hS.F ht⟩) hS.2.2 dX12_addLetter_42
  · skip
    refine lv_iload_n hx hb dX12_addLetter_21 rfl (lv_at hl 3 rfl) ?_
    refine n_ci (wr := [(y, .inr (13, [.ref mm, .ref msv, .int vS, .ref mpa, .int 0, .int 0, .int vF, .ref mio, .ref mfo, .int vL, .ref mre, .int vK, .ref mah, .int vR, .ref mrw, .ref mrr, .ref mrs, .ref mrb, .int v0, .int vZ, .int vB, .int vN, .ref mso, .ref mnu, .ref mse, .ref mbe, .ref men])), (mm, eI G 1191 fm), (mpa, eI G 9528 fp)]) (va_runS (As := [.int d9]) (rest := []) ⟨hx, hb, hml, hown, hts⟩ (mX12_isSmall l G d9 H.size) (va_cwS 1 hts gX12_addLetter_X12_isSmall rfl rfl rfl (by decide +kernel) ⟨(Nat.le_of_ble_eq_true rfl), (Nat.le_of_ble_eq_true rfl)⟩) (n_prS hK hP hD [] rfl (by decide)) rfl rfl hl.1 rfl (lv_room (Nat.le_of_ble_eq_true rfl)) dX12_addLetter_22 ⟨(Nat.le_of_ble_eq_true rfl), (Nat.le_of_ble_eq_true rfl)⟩) hP hD hS hA [] [0, 1, 2] rfl rfl (by decide) (by decide) (fun r_5 u_6 H locs hP hD hS hw => ?_)
    have hP : va_P G.1 vwCl [(y, .inr (13, [.ref mm, .ref msv, .int vS, .ref mpa, .int 0, .int 0, .int vF, .ref mio, .ref mfo, .int vL, .ref mre, .int vK, .ref mah, .int vR, .ref mrw, .ref mrr, .ref mrs, .ref mrb, .int v0, .int vZ, .int vB, .int vN, .ref mso, .ref mnu, .ref mse, .ref mbe, .ref men])), (mm, eI G 1191 fm), (mpa, eI G 9528 fp)] H := hP
    have hD : va_D A [(y, .inr (13, [.ref mm, .ref msv, .int vS, .ref mpa, .int 0, .int 0, .int vF, .ref mio, .ref mfo, .int vL, .ref mre, .int vK, .ref mah, .int vR, .ref mrw, .ref mrr, .ref mrs, .ref mrb, .int v0, .int vZ, .int vB, .int vN, .ref mso, .ref mnu, .ref mse, .ref mbe, .ref men])), (mm, eI G 1191 fm), (mpa, eI G 9528 fp)] := hD
    have hw : r_5 = (nsm d9) := hw
    subst hw
    try dsimp only
    refine lv_if_eq (tgt := 37) hx hb dX12_addLetter_25 (by decide) (fun c_25 => ?_) (fun c_25 => ?_)
    · skip
      refine lv_aload_n hx hb dX12_addLetter_37 rfl (lv_at hl 1 rfl) ?_
      refine lv_iconst (v := 1) hx hb dX12_addLetter_38 (by decide) ?_
      refine n_ci (wr := [(mm, eI G 1191 fm), (mpa, eI G 9528 fp)]) (va_runV (As := [.int 1]) (rest := []) ⟨hx, hb, hml, hown, hts⟩ (mX12_refuse l G y mm msv mpa mio mfo mre mah mrw mrr mrs mrb mso mnu mse mbe men vS 0 0 vF vL vK vR v0 vZ vB vN 1 H.size) (cwV 1 hts gX12_addLetter_X12_refuse rfl rfl rfl (by decide +kernel) ⟨(Nat.le_of_ble_eq_true rfl), (Nat.le_of_ble_eq_true rfl)⟩) (n_prV (ci := 13) (q0 := 0) hK hP hD [0] rfl (by decide) rfl rfl) rfl rfl hl.1 rfl (lv_room (Nat.le_of_ble_eq_true rfl)) dX12_addLetter_39 ⟨(Nat.le_of_ble_eq_true rfl), (Nat.le_of_ble_eq_true rfl)⟩) hP hD hS hA [0] [1, 2] rfl rfl (by decide) (by decide) (fun r_7 u_8 H locs hP hD hS hw => ?_)
      have hP : va_P G.1 vwCl [(mm, eI G 1191 fm), (mpa, eI G 9528 fp), (y, .inr (13, [.ref mm, .ref msv, .int vS, .ref mpa, .int 0, .int 1, .int vF, .ref mio, .ref mfo, .int vL, .ref mre, .int vK, .ref mah, .int vR, .ref mrw, .ref mrr, .ref mrs, .ref mrb, .int v0, .int vZ, .int vB, .int vN, .ref mso, .ref mnu, .ref mse, .ref mbe, .ref men]))] H := hP
      have hD : va_D A [(mm, eI G 1191 fm), (mpa, eI G 9528 fp), (y, .inr (13, [.ref mm, .ref msv, .int vS, .ref mpa, .int 0, .int 1, .int vF, .ref mio, .ref mfo, .int vL, .ref mre, .int vK, .ref mah, .int vR, .ref mrw, .ref mrr, .ref mrs, .ref mrb, .int v0, .int vZ, .int vB, .int vN, .ref mso, .ref mnu, .ref mse, .ref mbe, .ref men]))] := hD
      have hw : r_7 = 0 := hw
      subst hw
      have hP9 := n_Psub (wc := [(y, .inr (13, [.ref mm, .ref msv, .int vS, .ref mpa, .int 0, .int 1, .int vF, .ref mio, .ref mfo, .int vL, .ref mre, .int vK, .ref mah, .int vR, .ref mrw, .ref mrr, .ref mrs, .ref mrb, .int v0, .int vZ, .int vB, .int vN, .ref mso, .ref mnu, .ref mse, .ref mbe, .ref men]))]) hP [2] rfl
      have hD9 := hD.sub (ws' := [(y, .inr (13, [.ref mm, .ref msv, .int vS, .ref mpa, .int 0, .int 1, .int vF, .ref mio, .ref mfo, .int vL, .ref mre, .int vK, .ref mah, .int vR, .ref mrw, .ref mrr, .ref mrs, .ref mrb, .int v0, .int vZ, .int vB, .int vN, .ref mso, .ref mnu, .ref mse, .ref mbe, .ref men]))]) [2] (by decide) rfl
      refine W.widen (k := 0) (n := 0) (Nat.le_of_ble_eq_true rfl) (Nat.le_of_ble_eq_true rfl) ?_
      exact W.iret (v := 0) hx hb hr (fun t ht hW => ⟨⟨0, (1, 0), rfl, ⟨by rw [nkA, if_neg c_18, if_pos c_25], fun h9 => absurd h9 (by decide)⟩, by rw [ht]; exact hP9, va_K.moved hW.alike hK, hD9⟩, hS.F ht⟩) hS.2.2 dX12_addLetter_42
    · skip
      refine lv_aload_n hx hb dX12_addLetter_28 rfl (lv_at hl 1 rfl) ?_
      refine lv_iload hx hb dX12_addLetter_29 (lv_at hl 0 rfl) ?_
      refine n_ci (wr := [(mpa, eI G 9528 fp)]) (va_runV (As := [.int ((128 * c9) + d9)]) (rest := []) ⟨hx, hb, hml, hown, hts⟩ (mX12_placeOf l G y mm msv mpa mio mfo mre mah mrw mrr mrs mrb mso mnu mse mbe men vS 0 0 vF vL vK vR v0 vZ vB vN fm ((128 * c9) + d9) H.size hm (n_pair c_18 c_25)) (cwV 1 hts gX12_addLetter_X12_placeOf rfl rfl rfl (by decide +kernel) ⟨(Nat.le_of_ble_eq_true rfl), (Nat.le_of_ble_eq_true rfl)⟩) (n_prV (ci := 13) (q0 := 0) hK hP hD [0, 1] rfl (by decide) rfl rfl) rfl rfl hl.1 rfl (lv_room (Nat.le_of_ble_eq_true rfl)) dX12_addLetter_31 ⟨(Nat.le_of_ble_eq_true rfl), (Nat.le_of_ble_eq_true rfl)⟩) hP hD hS hA [0, 1] [2] rfl rfl (by decide) (by decide) (fun r_9 u_10 H locs hP hD hS hw => ?_)
      have hP : va_P G.1 vwCl [(mpa, eI G 9528 fp), (y, .inr (13, [.ref mm, .ref msv, .int vS, .ref mpa, .int 0, .int 0, .int vF, .ref mio, .ref mfo, .int vL, .ref mre, .int vK, .ref mah, .int vR, .ref mrw, .ref mrr, .ref mrs, .ref mrb, .int v0, .int vZ, .int vB, .int vN, .ref mso, .ref mnu, .ref mse, .ref mbe, .ref men])), (mm, eI G 1191 fm)] H := hP
      have hD : va_D A [(mpa, eI G 9528 fp), (y, .inr (13, [.ref mm, .ref msv, .int vS, .ref mpa, .int 0, .int 0, .int vF, .ref mio, .ref mfo, .int vL, .ref mre, .int vK, .ref mah, .int vR, .ref mrw, .ref mrr, .ref mrs, .ref mrb, .int v0, .int vZ, .int vB, .int vN, .ref mso, .ref mnu, .ref mse, .ref mbe, .ref men])), (mm, eI G 1191 fm)] := hD
      have hw : r_9 = (-1) := hw
      subst hw
      refine lv_if_lt (tgt := 43) hx hb dX12_addLetter_34 (by decide) (fun _ => ?_) (fun h9 => absurd (by decide) h9)
      refine lv_iload_n hx hb dX12_addLetter_43 rfl (lv_at hl 4 rfl) ?_
      refine lv_iconst (v := 0) hx hb dX12_addLetter_44 (by decide) ?_
      refine lv_aload_n hx hb dX12_addLetter_45 rfl (lv_at hl 1 rfl) ?_
      refine va_get (D := G.1) (ci := 13) (v := .ref mm) (C := RX12) (T := TX12) (N := 27) hx hb hts hiX12 hown hK hP 1 rfl rfl 0 (by decide) (hts (.fieldLink RX12 9 "DialectDictionaryModel" "m" "[I") (by decide +kernel)) (fun _ h9 => h9) rfl dX12_addLetter_46 ?_
      refine lv_iconst (v := 0) hx hb dX12_addLetter_49 (by decide) ?_
      refine va_iald hx hb hK hP 2 0 rfl rfl (n_in (by decide)) dX12_addLetter_50 ?_
      refine n_eqi (y := 26) hm.1 ?_
      refine n_ci (wr := [(mpa, eI G 9528 fp), (y, .inr (13, [.ref mm, .ref msv, .int vS, .ref mpa, .int 0, .int 0, .int vF, .ref mio, .ref mfo, .int vL, .ref mre, .int vK, .ref mah, .int vR, .ref mrw, .ref mrr, .ref mrs, .ref mrb, .int v0, .int vZ, .int vB, .int vN, .ref mso, .ref mnu, .ref mse, .ref mbe, .ref men])), (mm, eI G 1191 fm)]) (va_runS (As := [.int q, .int 0, .int 26]) (rest := []) ⟨hx, hb, hml, hown, hts⟩ (mX12_in6 l G q H.size) (va_cwS 3 hts gX12_addLetter_X12_in rfl rfl rfl (by decide +kernel) ⟨(Nat.le_of_ble_eq_true rfl), (Nat.le_of_ble_eq_true rfl)⟩) (n_prS hK hP hD [] rfl (by decide)) rfl rfl hl.1 rfl (lv_room (Nat.le_of_ble_eq_true rfl)) dX12_addLetter_51 ⟨(Nat.le_of_ble_eq_true rfl), (Nat.le_of_ble_eq_true rfl)⟩) hP hD hS hA [] [0, 1, 2] rfl rfl (by decide) (by decide) (fun r_11 u_12 H locs hP hD hS hw => ?_)
      have hP : va_P G.1 vwCl [(mpa, eI G 9528 fp), (y, .inr (13, [.ref mm, .ref msv, .int vS, .ref mpa, .int 0, .int 0, .int vF, .ref mio, .ref mfo, .int vL, .ref mre, .int vK, .ref mah, .int vR, .ref mrw, .ref mrr, .ref mrs, .ref mrb, .int v0, .int vZ, .int vB, .int vN, .ref mso, .ref mnu, .ref mse, .ref mbe, .ref men])), (mm, eI G 1191 fm)] H := hP
      have hD : va_D A [(mpa, eI G 9528 fp), (y, .inr (13, [.ref mm, .ref msv, .int vS, .ref mpa, .int 0, .int 0, .int vF, .ref mio, .ref mfo, .int vL, .ref mre, .int vK, .ref mah, .int vR, .ref mrw, .ref mrr, .ref mrs, .ref mrb, .int v0, .int vZ, .int vB, .int vN, .ref mso, .ref mnu, .ref mse, .ref mbe, .ref men])), (mm, eI G 1191 fm)] := hD
      have hw : r_11 = (npl q) := hw
      subst hw
      try dsimp only
      refine lv_if_ne (tgt := 63) hx hb dX12_addLetter_54 (by decide) (fun c_54 => ?_) (fun c_54 => ?_)
      · skip
        refine lv_aload_n hx hb dX12_addLetter_63 rfl (lv_at hl 1 rfl) ?_
        refine va_get (D := G.1) (ci := 13) (v := .ref mm) (C := RX12) (T := TX12) (N := 27) hx hb hts hiX12 hown hK hP 1 rfl rfl 0 (by decide) (hts (.fieldLink RX12 9 "DialectDictionaryModel" "m" "[I") (by decide +kernel)) (fun _ h9 => h9) rfl dX12_addLetter_64 ?_
        refine lv_iconst (v := 0) hx hb dX12_addLetter_67 (by decide) ?_
        refine va_iald hx hb hK hP 2 0 rfl rfl (n_in (by decide)) dX12_addLetter_68 ?_
        refine n_eqi (y := 26) hm.1 ?_
        refine lv_bipush (v := 36) hx hb dX12_addLetter_69 (by decide) ?_
        refine lv_icmp_ne (tgt := 80) hx hb dX12_addLetter_71 (by decide) (fun _ => ?_) (fun h9 => absurd h9 (by decide))
        obtain ⟨j, hj, e_j⟩ := npl_of c_54
        subst e_j
        refine lv_aload_n hx hb dX12_addLetter_80 rfl (lv_at hl 1 rfl) ?_
        refine n_cv (wr := []) (va_runV (As := []) (rest := []) ⟨hx, hb, hml, hown, hts⟩ (mX12_keep l G y mm msv mpa mio mfo mre mah mrw mrr mrs mrb mso mnu mse mbe men vS 0 vF vL vK vR v0 vZ vB vN fm fp H.size) (cwV 0 hts gX12_addLetter_X12_keep rfl rfl rfl (by decide +kernel) ⟨(Nat.le_of_ble_eq_true rfl), (Nat.le_of_ble_eq_true rfl)⟩) (n_prV (ci := 13) (q0 := 1) hK hP hD [1, 2, 0] rfl (by decide) rfl rfl) rfl rfl hl.1 rfl (lv_room (Nat.le_of_ble_eq_true rfl)) dX12_addLetter_81 ⟨(Nat.le_of_ble_eq_true rfl), (Nat.le_of_ble_eq_true rfl)⟩) hP hD hS hA [1, 2, 0] [] rfl rfl (by decide) (by decide) (fun u_13 H locs hP hD hS hw => ?_)
        have hP : va_P G.1 vwCl [(y, .inr (13, [.ref mm, .ref msv, .int vS, .ref mpa, .int 1, .int 0, .int vF, .ref mio, .ref mfo, .int vL, .ref mre, .int vK, .ref mah, .int vR, .ref mrw, .ref mrr, .ref mrs, .ref mrb, .int v0, .int vZ, .int vB, .int vN, .ref mso, .ref mnu, .ref mse, .ref mbe, .ref men])), (mm, eI G 1191 fm)] H := hP
        have hD : va_D A [(y, .inr (13, [.ref mm, .ref msv, .int vS, .ref mpa, .int 1, .int 0, .int vF, .ref mio, .ref mfo, .int vL, .ref mre, .int vK, .ref mah, .int vR, .ref mrw, .ref mrr, .ref mrs, .ref mrb, .int v0, .int vZ, .int vB, .int vN, .ref mso, .ref mnu, .ref mse, .ref mbe, .ref men])), (mm, eI G 1191 fm)] := hD
        refine lv_aload_n hx hb dX12_addLetter_84 rfl (lv_at hl 1 rfl) ?_
        refine va_get (D := G.1) (ci := 13) (v := .ref mm) (C := RX12) (T := TX12) (N := 27) hx hb hts hiX12 hown hK hP 0 rfl rfl 0 (by decide) (hts (.fieldLink RX12 9 "DialectDictionaryModel" "m" "[I") (by decide +kernel)) (fun _ h9 => h9) rfl dX12_addLetter_85 ?_
        refine lv_iconst (v := 0) hx hb dX12_addLetter_88 (by decide) ?_
        refine va_iald hx hb hK hP 1 0 rfl rfl (n_in (by decide)) dX12_addLetter_89 ?_
        refine n_eqi (y := 26) hm.1 ?_
        refine lv_istore (lv' := [(5, .int 26), (4, .int ((128 * c9) + d9)), (0, .ref y), (1, .int c9), (2, .int d9), (3, .int (nI j))]) hx hb dX12_addLetter_90 hl (by decide) rfl (fun ls hl => ?_)
        have key : ∀ (w9 : Nat), w9 < 27 → ∀ (f9 : Nat → Int32) (H : Heap) (locs : List Loc) (ls : Array Slot), f9 0 = 26 → va_P G.1 vwCl [(y, .inr (13, [.ref mm, .ref msv, .int vS, .ref mpa, .int 1, .int 0, .int vF, .ref mio, .ref mfo, .int vL, .ref mre, .int vK, .ref mah, .int vR, .ref mrw, .ref mrr, .ref mrs, .ref mrb, .int v0, .int vZ, .int vB, .int vN, .ref mso, .ref mnu, .ref mse, .ref mbe, .ref men])), (mm, eI G 1191 f9)] H → va_D A [(y, .inr (13, [.ref mm, .ref msv, .int vS, .ref mpa, .int 1, .int 0, .int vF, .ref mio, .ref mfo, .int vL, .ref mre, .int vK, .ref mah, .int vR, .ref mrw, .ref mrr, .ref mrs, .ref mrb, .int v0, .int vZ, .int vB, .int vN, .ref mso, .ref mnu, .ref mse, .ref mbe, .ref men])), (mm, eI G 1191 f9)] → va_S A s.heap H locs → lv_has ls 6 [(5, .int (nI w9)), (4, .int ((128 * c9) + d9)), (0, .ref y), (1, .int c9), (2, .int d9), (3, .int (nI j))] → W p l e (headSpec wsX12_addLetter ({ frames := 2, cells := 0, slots := 0, locals := 42 })).room s m (([.ref y, .int c9, .int d9, .int (nI j)] : List Value).toArray) below meth c H locs 0 0 (MQ below (va_Qi (fun (r : Int32) (u9 : Int32 × Int32) => match u9 with | (k_9, k_8) => (k_9 = nkA c9 d9 (nI j) ∧ (k_9 = 0 → r = 27))) (fun (u9 : Int32 × Int32) (t : State) => match u9 with | (k_9, k_8) => n_po G A [(y, .inr (13, [.ref mm, .ref msv, .int vS, .ref mpa, .int k_8, .int k_9, .int vF, .ref mio, .ref mfo, .int vL, .ref mre, .int vK, .ref mah, .int vR, .ref mrw, .ref mrr, .ref mrs, .ref mrb, .int v0, .int vZ, .int vB, .int vN, .ref mso, .ref mnu, .ref mse, .ref mbe, .ref men]))] t) A) (([.ref y, .int c9, .int d9, .int (nI j)] : List Value).toArray) s 0 0 A) (F0 m 92 ls []) := by
          intro w9
          induction w9 with
          | zero =>
            intro hp f9 H locs ls hf hP hD hS hl
            refine lv_iload hx hb dX12_addLetter_92 (lv_at hl 0 rfl) ?_
            refine lv_iload_n hx hb dX12_addLetter_94 rfl (lv_at hl 5 rfl) ?_
            refine lv_icmp_le (tgt := 124) hx hb dX12_addLetter_95 (by decide) (fun _ => ?_) (fun h9 => absurd (nI_le (Nat.zero_le j) (by omega)) h9)
            refine lv_aload_n hx hb dX12_addLetter_124 rfl (lv_at hl 2 rfl) ?_
            refine va_get (D := G.1) (ci := 13) (v := .ref mm) (C := RX12) (T := TX12) (N := 27) hx hb hts hiX12 hown hK hP 0 rfl rfl 0 (by decide) (hts (.fieldLink RX12 9 "DialectDictionaryModel" "m" "[I") (by decide +kernel)) (fun _ h9 => h9) rfl dX12_addLetter_125 ?_
            refine lv_iconst (v := 1) hx hb dX12_addLetter_128 (by decide) ?_
            refine lv_iload_n hx hb dX12_addLetter_129 rfl (lv_at hl 5 rfl) ?_
            refine lv_iadd hx hb dX12_addLetter_130 ?_
            refine n_eqi (y := (nI (1 + j))) (nI_add 1 j) ?_
            refine lv_iload hx hb dX12_addLetter_131 (lv_at hl 1 rfl) ?_
            refine va_iast hx hb hK hP hD hS 1 0 rfl rfl (vp_in_nI (n := (1 + j)) (by omega) (by omega)) dX12_addLetter_133 (fun H locs hP hD hS => ?_)
            have hP : va_P G.1 vwCl [(y, .inr (13, [.ref mm, .ref msv, .int vS, .ref mpa, .int 1, .int 0, .int vF, .ref mio, .ref mfo, .int vL, .ref mre, .int vK, .ref mah, .int vR, .ref mrw, .ref mrr, .ref mrs, .ref mrb, .int v0, .int vZ, .int vB, .int vN, .ref mso, .ref mnu, .ref mse, .ref mbe, .ref men])), (mm, eI G 1191 (upd f9 (((nI (1 + j)) : Int32).toNatClampNeg) ((128 * c9) + d9)))] H := hP
            have hD : va_D A [(y, .inr (13, [.ref mm, .ref msv, .int vS, .ref mpa, .int 1, .int 0, .int vF, .ref mio, .ref mfo, .int vL, .ref mre, .int vK, .ref mah, .int vR, .ref mrw, .ref mrr, .ref mrs, .ref mrb, .int v0, .int vZ, .int vB, .int vN, .ref mso, .ref mnu, .ref mse, .ref mbe, .ref men])), (mm, eI G 1191 (upd f9 (((nI (1 + j)) : Int32).toNatClampNeg) ((128 * c9) + d9)))] := hD
            refine lv_aload_n hx hb dX12_addLetter_134 rfl (lv_at hl 2 rfl) ?_
            refine va_get (D := G.1) (ci := 13) (v := .ref mm) (C := RX12) (T := TX12) (N := 27) hx hb hts hiX12 hown hK hP 0 rfl rfl 0 (by decide) (hts (.fieldLink RX12 9 "DialectDictionaryModel" "m" "[I") (by decide +kernel)) (fun _ h9 => h9) rfl dX12_addLetter_135 ?_
            refine lv_iconst (v := 0) hx hb dX12_addLetter_138 (by decide) ?_
            refine lv_dup2_11 hx hb dX12_addLetter_139 rfl rfl ?_
            refine va_iald hx hb hK hP 1 0 rfl rfl (n_in (by decide)) dX12_addLetter_140 ?_
            refine n_eqi (y := 26) (n_u0 hf (by omega)) ?_
            refine lv_iconst (v := 1) hx hb dX12_addLetter_141 (by decide) ?_
            refine lv_iadd hx hb dX12_addLetter_142 ?_
            refine n_eqi (y := 27) (by decide) ?_
            refine va_iast hx hb hK hP hD hS 1 0 rfl rfl (n_in (by decide)) dX12_addLetter_143 (fun H locs hP hD hS => ?_)
            have hP : va_P G.1 vwCl [(y, .inr (13, [.ref mm, .ref msv, .int vS, .ref mpa, .int 1, .int 0, .int vF, .ref mio, .ref mfo, .int vL, .ref mre, .int vK, .ref mah, .int vR, .ref mrw, .ref mrr, .ref mrs, .ref mrb, .int v0, .int vZ, .int vB, .int vN, .ref mso, .ref mnu, .ref mse, .ref mbe, .ref men])), (mm, eI G 1191 (upd (upd f9 (((nI (1 + j)) : Int32).toNatClampNeg) ((128 * c9) + d9)) ((0 : Int32).toNatClampNeg) 27))] H := hP
            have hD : va_D A [(y, .inr (13, [.ref mm, .ref msv, .int vS, .ref mpa, .int 1, .int 0, .int vF, .ref mio, .ref mfo, .int vL, .ref mre, .int vK, .ref mah, .int vR, .ref mrw, .ref mrr, .ref mrs, .ref mrb, .int v0, .int vZ, .int vB, .int vN, .ref mso, .ref mnu, .ref mse, .ref mbe, .ref men])), (mm, eI G 1191 (upd (upd f9 (((nI (1 + j)) : Int32).toNatClampNeg) ((128 * c9) + d9)) ((0 : Int32).toNatClampNeg) 27))] := hD
            refine lv_aload_n hx hb dX12_addLetter_144 rfl (lv_at hl 2 rfl) ?_
            refine va_get (D := G.1) (ci := 13) (v := .ref mm) (C := RX12) (T := TX12) (N := 27) hx hb hts hiX12 hown hK hP 0 rfl rfl 0 (by decide) (hts (.fieldLink RX12 9 "DialectDictionaryModel" "m" "[I") (by decide +kernel)) (fun _ h9 => h9) rfl dX12_addLetter_145 ?_
            refine lv_iconst (v := 0) hx hb dX12_addLetter_148 (by decide) ?_
            refine va_iald hx hb hK hP 1 0 rfl rfl (n_in (by decide)) dX12_addLetter_149 ?_
            refine n_eqi (y := 27) pk_us ?_
            have hP9 := n_Psub (wc := [(y, .inr (13, [.ref mm, .ref msv, .int vS, .ref mpa, .int 1, .int 0, .int vF, .ref mio, .ref mfo, .int vL, .ref mre, .int vK, .ref mah, .int vR, .ref mrw, .ref mrr, .ref mrs, .ref mrb, .int v0, .int vZ, .int vB, .int vN, .ref mso, .ref mnu, .ref mse, .ref mbe, .ref men]))]) hP [0] rfl
            have hD9 := hD.sub (ws' := [(y, .inr (13, [.ref mm, .ref msv, .int vS, .ref mpa, .int 1, .int 0, .int vF, .ref mio, .ref mfo, .int vL, .ref mre, .int vK, .ref mah, .int vR, .ref mrw, .ref mrr, .ref mrs, .ref mrb, .int v0, .int vZ, .int vB, .int vN, .ref mso, .ref mnu, .ref mse, .ref mbe, .ref men]))]) [0] (by decide) rfl
            refine W.widen (k := 0) (n := 0) (Nat.le_of_ble_eq_true rfl) (Nat.le_of_ble_eq_true rfl) ?_
            exact W.iret (v := 27) hx hb hr (fun t ht hW => ⟨⟨27, (0, 1), rfl, ⟨by rw [nkA, if_neg c_18, if_neg c_25]; exact npl_0 hj, fun _ => rfl⟩, by rw [ht]; exact hP9, va_K.moved hW.alike hK, hD9⟩, hS.F ht⟩) hS.2.2 dX12_addLetter_150
          | succ w9 ih =>
            intro hp f9 H locs ls hf hP hD hS hl
            refine lv_iload hx hb dX12_addLetter_92 (lv_at hl 0 rfl) ?_
            refine lv_iload_n hx hb dX12_addLetter_94 rfl (lv_at hl 5 rfl) ?_
            refine lv_icmp_le (tgt := 124) hx hb dX12_addLetter_95 (by decide) (fun c_95 => ?_) (fun c_95 => ?_)
            · skip
              refine lv_aload_n hx hb dX12_addLetter_124 rfl (lv_at hl 2 rfl) ?_
              refine va_get (D := G.1) (ci := 13) (v := .ref mm) (C := RX12) (T := TX12) (N := 27) hx hb hts hiX12 hown hK hP 0 rfl rfl 0 (by decide) (hts (.fieldLink RX12 9 "DialectDictionaryModel" "m" "[I") (by decide +kernel)) (fun _ h9 => h9) rfl dX12_addLetter_125 ?_
              refine lv_iconst (v := 1) hx hb dX12_addLetter_128 (by decide) ?_
              refine lv_iload_n hx hb dX12_addLetter_129 rfl (lv_at hl 5 rfl) ?_
              refine lv_iadd hx hb dX12_addLetter_130 ?_
              refine n_eqi (y := (nI (1 + j))) (nI_add 1 j) ?_
              refine lv_iload hx hb dX12_addLetter_131 (lv_at hl 1 rfl) ?_
              refine va_iast hx hb hK hP hD hS 1 0 rfl rfl (vp_in_nI (n := (1 + j)) (by omega) (by omega)) dX12_addLetter_133 (fun H locs hP hD hS => ?_)
              have hP : va_P G.1 vwCl [(y, .inr (13, [.ref mm, .ref msv, .int vS, .ref mpa, .int 1, .int 0, .int vF, .ref mio, .ref mfo, .int vL, .ref mre, .int vK, .ref mah, .int vR, .ref mrw, .ref mrr, .ref mrs, .ref mrb, .int v0, .int vZ, .int vB, .int vN, .ref mso, .ref mnu, .ref mse, .ref mbe, .ref men])), (mm, eI G 1191 (upd f9 (((nI (1 + j)) : Int32).toNatClampNeg) ((128 * c9) + d9)))] H := hP
              have hD : va_D A [(y, .inr (13, [.ref mm, .ref msv, .int vS, .ref mpa, .int 1, .int 0, .int vF, .ref mio, .ref mfo, .int vL, .ref mre, .int vK, .ref mah, .int vR, .ref mrw, .ref mrr, .ref mrs, .ref mrb, .int v0, .int vZ, .int vB, .int vN, .ref mso, .ref mnu, .ref mse, .ref mbe, .ref men])), (mm, eI G 1191 (upd f9 (((nI (1 + j)) : Int32).toNatClampNeg) ((128 * c9) + d9)))] := hD
              refine lv_aload_n hx hb dX12_addLetter_134 rfl (lv_at hl 2 rfl) ?_
              refine va_get (D := G.1) (ci := 13) (v := .ref mm) (C := RX12) (T := TX12) (N := 27) hx hb hts hiX12 hown hK hP 0 rfl rfl 0 (by decide) (hts (.fieldLink RX12 9 "DialectDictionaryModel" "m" "[I") (by decide +kernel)) (fun _ h9 => h9) rfl dX12_addLetter_135 ?_
              refine lv_iconst (v := 0) hx hb dX12_addLetter_138 (by decide) ?_
              refine lv_dup2_11 hx hb dX12_addLetter_139 rfl rfl ?_
              refine va_iald hx hb hK hP 1 0 rfl rfl (n_in (by decide)) dX12_addLetter_140 ?_
              refine n_eqi (y := 26) (n_u0 hf (by omega)) ?_
              refine lv_iconst (v := 1) hx hb dX12_addLetter_141 (by decide) ?_
              refine lv_iadd hx hb dX12_addLetter_142 ?_
              refine n_eqi (y := 27) (by decide) ?_
              refine va_iast hx hb hK hP hD hS 1 0 rfl rfl (n_in (by decide)) dX12_addLetter_143 (fun H locs hP hD hS => ?_)
              have hP : va_P G.1 vwCl [(y, .inr (13, [.ref mm, .ref msv, .int vS, .ref mpa, .int 1, .int 0, .int vF, .ref mio, .ref mfo, .int vL, .ref mre, .int vK, .ref mah, .int vR, .ref mrw, .ref mrr, .ref mrs, .ref mrb, .int v0, .int vZ, .int vB, .int vN, .ref mso, .ref mnu, .ref mse, .ref mbe, .ref men])), (mm, eI G 1191 (upd (upd f9 (((nI (1 + j)) : Int32).toNatClampNeg) ((128 * c9) + d9)) ((0 : Int32).toNatClampNeg) 27))] H := hP
              have hD : va_D A [(y, .inr (13, [.ref mm, .ref msv, .int vS, .ref mpa, .int 1, .int 0, .int vF, .ref mio, .ref mfo, .int vL, .ref mre, .int vK, .ref mah, .int vR, .ref mrw, .ref mrr, .ref mrs, .ref mrb, .int v0, .int vZ, .int vB, .int vN, .ref mso, .ref mnu, .ref mse, .ref mbe, .ref men])), (mm, eI G 1191 (upd (upd f9 (((nI (1 + j)) : Int32).toNatClampNeg) ((128 * c9) + d9)) ((0 : Int32).toNatClampNeg) 27))] := hD
              refine lv_aload_n hx hb dX12_addLetter_144 rfl (lv_at hl 2 rfl) ?_
              refine va_get (D := G.1) (ci := 13) (v := .ref mm) (C := RX12) (T := TX12) (N := 27) hx hb hts hiX12 hown hK hP 0 rfl rfl 0 (by decide) (hts (.fieldLink RX12 9 "DialectDictionaryModel" "m" "[I") (by decide +kernel)) (fun _ h9 => h9) rfl dX12_addLetter_145 ?_
              refine lv_iconst (v := 0) hx hb dX12_addLetter_148 (by decide) ?_
              refine va_iald hx hb hK hP 1 0 rfl rfl (n_in (by decide)) dX12_addLetter_149 ?_
              refine n_eqi (y := 27) pk_us ?_
              have hP9 := n_Psub (wc := [(y, .inr (13, [.ref mm, .ref msv, .int vS, .ref mpa, .int 1, .int 0, .int vF, .ref mio, .ref mfo, .int vL, .ref mre, .int vK, .ref mah, .int vR, .ref mrw, .ref mrr, .ref mrs, .ref mrb, .int v0, .int vZ, .int vB, .int vN, .ref mso, .ref mnu, .ref mse, .ref mbe, .ref men]))]) hP [0] rfl
              have hD9 := hD.sub (ws' := [(y, .inr (13, [.ref mm, .ref msv, .int vS, .ref mpa, .int 1, .int 0, .int vF, .ref mio, .ref mfo, .int vL, .ref mre, .int vK, .ref mah, .int vR, .ref mrw, .ref mrr, .ref mrs, .ref mrb, .int v0, .int vZ, .int vB, .int vN, .ref mso, .ref mnu, .ref mse, .ref mbe, .ref men]))]) [0] (by decide) rfl
              refine W.widen (k := 0) (n := 0) (Nat.le_of_ble_eq_true rfl) (Nat.le_of_ble_eq_true rfl) ?_
              exact W.iret (v := 27) hx hb hr (fun t ht hW => ⟨⟨27, (0, 1), rfl, ⟨by rw [nkA, if_neg c_18, if_neg c_25]; exact npl_0 hj, fun _ => rfl⟩, by rw [ht]; exact hP9, va_K.moved hW.alike hK, hD9⟩, hS.F ht⟩) hS.2.2 dX12_addLetter_150
            · skip
              refine lv_aload_n hx hb dX12_addLetter_98 rfl (lv_at hl 2 rfl) ?_
              refine va_get (D := G.1) (ci := 13) (v := .ref mm) (C := RX12) (T := TX12) (N := 27) hx hb hts hiX12 hown hK hP 0 rfl rfl 0 (by decide) (hts (.fieldLink RX12 9 "DialectDictionaryModel" "m" "[I") (by decide +kernel)) (fun _ h9 => h9) rfl dX12_addLetter_99 ?_
              refine lv_iconst (v := 1) hx hb dX12_addLetter_102 (by decide) ?_
              refine lv_iload hx hb dX12_addLetter_103 (lv_at hl 0 rfl) ?_
              refine lv_iadd hx hb dX12_addLetter_105 ?_
              refine n_eqi (y := (nI (1 + (w9 + 1)))) (nI_add 1 (w9 + 1)) ?_
              refine lv_aload_n hx hb dX12_addLetter_106 rfl (lv_at hl 2 rfl) ?_
              refine va_get (D := G.1) (ci := 13) (v := .ref mm) (C := RX12) (T := TX12) (N := 27) hx hb hts hiX12 hown hK hP 0 rfl rfl 0 (by decide) (hts (.fieldLink RX12 9 "DialectDictionaryModel" "m" "[I") (by decide +kernel)) (fun _ h9 => h9) rfl dX12_addLetter_107 ?_
              refine lv_iconst (v := 1) hx hb dX12_addLetter_110 (by decide) ?_
              refine lv_iload hx hb dX12_addLetter_111 (lv_at hl 0 rfl) ?_
              refine lv_iadd hx hb dX12_addLetter_113 ?_
              refine n_eqi (y := (nI (1 + (w9 + 1)))) (nI_add 1 (w9 + 1)) ?_
              refine lv_iconst (v := 1) hx hb dX12_addLetter_114 (by decide) ?_
              refine lv_isub hx hb dX12_addLetter_115 ?_
              refine n_eqi (y := (nI (w9 + 1))) (by rw [show 1 + (w9 + 1) = (w9 + 1) + 1 by omega]; exact nI_pred (w9 + 1)) ?_
              refine va_iald hx hb hK hP 1 0 rfl rfl (vp_in_nI (n := (w9 + 1)) (by omega) (by omega)) dX12_addLetter_116 ?_
              refine va_iast hx hb hK hP hD hS 1 0 rfl rfl (vp_in_nI (n := (1 + (w9 + 1))) (by omega) (by omega)) dX12_addLetter_117 (fun H locs hP hD hS => ?_)
              have hP : va_P G.1 vwCl [(y, .inr (13, [.ref mm, .ref msv, .int vS, .ref mpa, .int 1, .int 0, .int vF, .ref mio, .ref mfo, .int vL, .ref mre, .int vK, .ref mah, .int vR, .ref mrw, .ref mrr, .ref mrs, .ref mrb, .int v0, .int vZ, .int vB, .int vN, .ref mso, .ref mnu, .ref mse, .ref mbe, .ref men])), (mm, eI G 1191 (upd f9 (((nI (1 + (w9 + 1))) : Int32).toNatClampNeg) (f9 (((nI (w9 + 1)) : Int32).toNatClampNeg))))] H := hP
              have hD : va_D A [(y, .inr (13, [.ref mm, .ref msv, .int vS, .ref mpa, .int 1, .int 0, .int vF, .ref mio, .ref mfo, .int vL, .ref mre, .int vK, .ref mah, .int vR, .ref mrw, .ref mrr, .ref mrs, .ref mrb, .int v0, .int vZ, .int vB, .int vN, .ref mso, .ref mnu, .ref mse, .ref mbe, .ref men])), (mm, eI G 1191 (upd f9 (((nI (1 + (w9 + 1))) : Int32).toNatClampNeg) (f9 (((nI (w9 + 1)) : Int32).toNatClampNeg))))] := hD
              refine lv_iinc (v := (nI w9)) (lv' := [(5, .int (nI w9)), (4, .int ((128 * c9) + d9)), (0, .ref y), (1, .int c9), (2, .int d9), (3, .int (nI j))]) hx hb dX12_addLetter_118 hl (k := 0) rfl (pk_m1 w9) (by decide) rfl (fun ls hl => ?_)
              refine lv_goto (tgt := 92) hx hb dX12_addLetter_121 (by decide) ?_
              exact ih (by omega) _ H locs ls (n_u0 hf (by omega)) hP hD hS (lv_sub hl [0, 1, 2, 3, 4, 5] rfl)
        exact key 26 (by decide) _ H locs ls hm.1 hP hD hS (lv_sub hl [0, 1, 2, 3, 4, 5] rfl)
      · skip
        refine lv_aload_n hx hb dX12_addLetter_57 rfl (lv_at hl 1 rfl) ?_
        refine lv_iconst (v := 2) hx hb dX12_addLetter_58 (by decide) ?_
        refine n_ci (wr := [(mpa, eI G 9528 fp), (mm, eI G 1191 fm)]) (va_runV (As := [.int 2]) (rest := []) ⟨hx, hb, hml, hown, hts⟩ (mX12_refuse l G y mm msv mpa mio mfo mre mah mrw mrr mrs mrb mso mnu mse mbe men vS 0 0 vF vL vK vR v0 vZ vB vN 2 H.size) (cwV 1 hts gX12_addLetter_X12_refuse rfl rfl rfl (by decide +kernel) ⟨(Nat.le_of_ble_eq_true rfl), (Nat.le_of_ble_eq_true rfl)⟩) (n_prV (ci := 13) (q0 := 1) hK hP hD [1] rfl (by decide) rfl rfl) rfl rfl hl.1 rfl (lv_room (Nat.le_of_ble_eq_true rfl)) dX12_addLetter_59 ⟨(Nat.le_of_ble_eq_true rfl), (Nat.le_of_ble_eq_true rfl)⟩) hP hD hS hA [1] [0, 2] rfl rfl (by decide) (by decide) (fun r_14 u_15 H locs hP hD hS hw => ?_)
        have hP : va_P G.1 vwCl [(mpa, eI G 9528 fp), (mm, eI G 1191 fm), (y, .inr (13, [.ref mm, .ref msv, .int vS, .ref mpa, .int 0, .int 2, .int vF, .ref mio, .ref mfo, .int vL, .ref mre, .int vK, .ref mah, .int vR, .ref mrw, .ref mrr, .ref mrs, .ref mrb, .int v0, .int vZ, .int vB, .int vN, .ref mso, .ref mnu, .ref mse, .ref mbe, .ref men]))] H := hP
        have hD : va_D A [(mpa, eI G 9528 fp), (mm, eI G 1191 fm), (y, .inr (13, [.ref mm, .ref msv, .int vS, .ref mpa, .int 0, .int 2, .int vF, .ref mio, .ref mfo, .int vL, .ref mre, .int vK, .ref mah, .int vR, .ref mrw, .ref mrr, .ref mrs, .ref mrb, .int v0, .int vZ, .int vB, .int vN, .ref mso, .ref mnu, .ref mse, .ref mbe, .ref men]))] := hD
        have hw : r_14 = 0 := hw
        subst hw
        have hP9 := n_Psub (wc := [(y, .inr (13, [.ref mm, .ref msv, .int vS, .ref mpa, .int 0, .int 2, .int vF, .ref mio, .ref mfo, .int vL, .ref mre, .int vK, .ref mah, .int vR, .ref mrw, .ref mrr, .ref mrs, .ref mrb, .int v0, .int vZ, .int vB, .int vN, .ref mso, .ref mnu, .ref mse, .ref mbe, .ref men]))]) hP [2] rfl
        have hD9 := hD.sub (ws' := [(y, .inr (13, [.ref mm, .ref msv, .int vS, .ref mpa, .int 0, .int 2, .int vF, .ref mio, .ref mfo, .int vL, .ref mre, .int vK, .ref mah, .int vR, .ref mrw, .ref mrr, .ref mrs, .ref mrb, .int v0, .int vZ, .int vB, .int vN, .ref mso, .ref mnu, .ref mse, .ref mbe, .ref men]))]) [2] (by decide) rfl
        refine W.widen (k := 0) (n := 0) (Nat.le_of_ble_eq_true rfl) (Nat.le_of_ble_eq_true rfl) ?_
        exact W.iret (v := 0) hx hb hr (fun t ht hW => ⟨⟨0, (2, 0), rfl, ⟨by rw [nkA, if_neg c_18, if_neg c_25]; exact npl_2 c_54, fun h9 => absurd h9 (by decide)⟩, by rw [ht]; exact hP9, va_K.moved hW.alike hK, hD9⟩, hS.F ht⟩) hS.2.2 dX12_addLetter_62

set_option maxHeartbeats 4000000 in
set_option maxRecDepth 100000 in
theorem mX12_addRule (l : Launch) (G : nG) (y : Nat) (mm : Nat) (msv : Nat) (mpa : Nat) (mio : Nat) (mfo : Nat) (mre : Nat) (mah : Nat) (mrw : Nat) (mrr : Nat) (mrs : Nat) (mrb : Nat) (mso : Nat) (mnu : Nat) (mse : Nat) (mbe : Nat) (men : Nat) (vS : Int32) (vT : Int32) (vF : Int32) (vL : Int32) (vK : Int32) (vR : Int32) (v0 : Int32) (vZ : Int32) (vB : Int32) (vN : Int32) (fm : Nat → Int32) (fp : Nat → Int32) (q : Int32) (q2 : Int32) (q3 : Int32) (q4 : Int32) (sz : Nat) (hm : nMod fm) : Met l yX12_addRule wsX12_addRule ({ frames := 2, cells := 0, slots := 0, locals := 43 }) (va_Pc [.ref y, .int q, .int q2, .int q3, .int q4] (n_pp G [(y, .inr (13, [.ref mm, .ref msv, .int vS, .ref mpa, .int 0, .int vT, .int vF, .ref mio, .ref mfo, .int vL, .ref mre, .int vK, .ref mah, .int vR, .ref mrw, .ref mrr, .ref mrs, .ref mrb, .int v0, .int vZ, .int vB, .int vN, .ref mso, .ref mnu, .ref mse, .ref mbe, .ref men])), (mm, eI G 1191 fm), (mpa, eI G 9528 fp)] sz)) (va_Qi (fun (r : Int32) (u9 : Int32 × Int32) => match u9 with | (k_9, k_8) => (k_9 = nkR q q2 q3 q4 ∧ (k_9 = 0 → r = 0))) (fun (u9 : Int32 × Int32) (t : State) => match u9 with | (k_9, k_8) => n_po G (va_A [(y, .inr (13, [.ref mm, .ref msv, .int vS, .ref mpa, .int 0, .int vT, .int vF, .ref mio, .ref mfo, .int vL, .ref mre, .int vK, .ref mah, .int vR, .ref mrw, .ref mrr, .ref mrs, .ref mrb, .int v0, .int vZ, .int vB, .int vN, .ref mso, .ref mnu, .ref mse, .ref mbe, .ref men])), (mm, eI G 1191 fm), (mpa, eI G 9528 fp)] sz) [(y, .inr (13, [.ref mm, .ref msv, .int vS, .ref mpa, .int k_8, .int k_9, .int vF, .ref mio, .ref mfo, .int vL, .ref mre, .int vK, .ref mah, .int vR, .ref mrw, .ref mrr, .ref mrs, .ref mrb, .int v0, .int vZ, .int vB, .int vN, .ref mso, .ref mnu, .ref mse, .ref mbe, .ref men]))] t) (va_A [(y, .inr (13, [.ref mm, .ref msv, .int vS, .ref mpa, .int 0, .int vT, .int vF, .ref mio, .ref mfo, .int vL, .ref mre, .int vK, .ref mah, .int vR, .ref mrw, .ref mrr, .ref mrs, .ref mrb, .int v0, .int vZ, .int vB, .int vN, .ref mso, .ref mnu, .ref mse, .ref mbe, .ref men])), (mm, eI G 1191 fm), (mpa, eI G 9528 fp)] sz)) 0 0 (va_A [(y, .inr (13, [.ref mm, .ref msv, .int vS, .ref mpa, .int 0, .int vT, .int vF, .ref mio, .ref mfo, .int vL, .ref mre, .int vK, .ref mah, .int vR, .ref mrw, .ref mrr, .ref mrs, .ref mrb, .int v0, .int vZ, .int vB, .int vN, .ref mso, .ref mnu, .ref mse, .ref mbe, .ref men])), (mm, eI G 1191 fm), (mpa, eI G 9528 fp)] sz) := by
  refine Met.ofW (cc := cX12_addRule) (maxL := 6) (ret := (some .int)) (by decide) rfl ?_
  intro p e s m args below meth c s₁ B hml hv
  obtain ⟨rfl, hsz, hP, hK, hD0⟩ := hv
  have hx := B.exec
  have hb := B.bytes
  have hr := B.returns
  have hts := atoms_spec (ws := wsX12_addRule) B.pre
  have hown : s.vm.findClass RX12 = some m.cls := findClass_of_methodNamed B.named
  have hlocks := B.notSynchronized
  subst hsz
  have hD := hD0.self (sz := s.heap.size)
  generalize hAe : va_A [(y, .inr (13, [.ref mm, .ref msv, .int vS, .ref mpa, .int 0, .int vT, .int vF, .ref mio, .ref mfo, .int vL, .ref mre, .int vK, .ref mah, .int vR, .ref mrw, .ref mrr, .ref mrs, .ref mrb, .int v0, .int vZ, .int vB, .int vN, .ref mso, .ref mnu, .ref mse, .ref mbe, .ref men])), (mm, eI G 1191 fm), (mpa, eI G 9528 fp)] s.heap.size = A at hD ⊢
  have hA : ∀ q : Nat, s.heap.size ≤ q → A q := fun q h => by rw [← hAe]; exact Or.inr h
  have hS : va_S A s.heap s.heap [] := va_S.rf
  have hP : va_P G.1 vwCl [(y, .inr (13, [.ref mm, .ref msv, .int vS, .ref mpa, .int 0, .int vT, .int vF, .ref mio, .ref mfo, .int vL, .ref mre, .int vK, .ref mah, .int vR, .ref mrw, .ref mrr, .ref mrs, .ref mrb, .int v0, .int vZ, .int vB, .int vN, .ref mso, .ref mnu, .ref mse, .ref mbe, .ref men])), (mm, eI G 1191 fm), (mpa, eI G 9528 fp)] s.heap := hP
  have hl := lv_entry ([.ref y, .int q, .int q2, .int q3, .int q4]) (n := 6) (Nat.le_of_ble_eq_true rfl)
  rw [lg_entry_eq]
  generalize (lg_sl ([.ref y, .int q, .int q2, .int q3, .int q4]) ++ List.replicate (6 - (lg_sl ([.ref y, .int q, .int q2, .int q3, .int q4])).length) Slot.unset).toArray = ls at hl ⊢
  have hl : lv_has ls 6 [(0, .ref y), (1, .int q), (2, .int q2), (3, .int q3), (4, .int q4)] := hl
  obtain ⟨H, hH⟩ : ∃ z, z = s.heap := ⟨_, rfl⟩
  have hS : va_S A s.heap H [] := by rw [hH]; exact hS
  have hP : va_P G.1 vwCl [(y, .inr (13, [.ref mm, .ref msv, .int vS, .ref mpa, .int 0, .int vT, .int vF, .ref mio, .ref mfo, .int vL, .ref mre, .int vK, .ref mah, .int vR, .ref mrw, .ref mrr, .ref mrs, .ref mrb, .int v0, .int vZ, .int vB, .int vN, .ref mso, .ref mnu, .ref mse, .ref mbe, .ref men])), (mm, eI G 1191 fm), (mpa, eI G 9528 fp)] H := by rw [hH]; exact hP
  refine n_heap hH ?_
  generalize ([] : List Loc) = locs at hS ⊢
  have hiX12 : ∀ w ∈ u_ws RX12 TX12 27, w ∈ wsX12_addRule := by decide +kernel
  refine lv_aload_n hx hb dX12_addRule_0 rfl (lv_at hl 0 rfl) ?_
  refine lv_aload_n hx hb dX12_addRule_1 rfl (lv_at hl 0 rfl) ?_
  refine lv_iload_n hx hb dX12_addRule_2 rfl (lv_at hl 1 rfl) ?_
  refine n_ci (wr := [(mpa, eI G 9528 fp)]) (va_runV (As := [.int q]) (rest := [.ref y]) ⟨hx, hb, hml, hown, hts⟩ (mX12_isLetterPlace l G y mm msv mpa mio mfo mre mah mrw mrr mrs mrb mso mnu mse mbe men vS 0 vT vF vL vK vR v0 vZ vB vN fm q H.size hm) (cwV 1 hts gX12_addRule_X12_isLetterPlace rfl rfl rfl (by decide +kernel) ⟨(Nat.le_of_ble_eq_true rfl), (Nat.le_of_ble_eq_true rfl)⟩) (n_prV (ci := 13) (q0 := 0) hK hP hD [0, 1] rfl (by decide) rfl rfl) rfl rfl hl.1 rfl (lv_room (Nat.le_of_ble_eq_true rfl)) dX12_addRule_3 ⟨(Nat.le_of_ble_eq_true rfl), (Nat.le_of_ble_eq_true rfl)⟩) hP hD hS hA [0, 1] [2] rfl rfl (by decide) (by decide) (fun r_1 u_2 H locs hP hD hS hw => ?_)
  have hP : va_P G.1 vwCl [(mpa, eI G 9528 fp), (y, .inr (13, [.ref mm, .ref msv, .int vS, .ref mpa, .int 0, .int vT, .int vF, .ref mio, .ref mfo, .int vL, .ref mre, .int vK, .ref mah, .int vR, .ref mrw, .ref mrr, .ref mrs, .ref mrb, .int v0, .int vZ, .int vB, .int vN, .ref mso, .ref mnu, .ref mse, .ref mbe, .ref men])), (mm, eI G 1191 fm)] H := hP
  have hD : va_D A [(mpa, eI G 9528 fp), (y, .inr (13, [.ref mm, .ref msv, .int vS, .ref mpa, .int 0, .int vT, .int vF, .ref mio, .ref mfo, .int vL, .ref mre, .int vK, .ref mah, .int vR, .ref mrw, .ref mrr, .ref mrs, .ref mrb, .int v0, .int vZ, .int vB, .int vN, .ref mso, .ref mnu, .ref mse, .ref mbe, .ref men])), (mm, eI G 1191 fm)] := hD
  have hw : r_1 = (nhp 26 q) := hw
  subst hw
  try dsimp only
  refine lv_if_eq (tgt := 22) hx hb dX12_addRule_6 (by decide) (fun c_6 => ?_) (fun c_6 => ?_)
  · skip
    refine lv_iconst (v := 1) hx hb dX12_addRule_22 (by decide) ?_
    refine lv_goto (tgt := 67) hx hb dX12_addRule_23 (by decide) ?_
    refine va_put (D := G.1) (ci := 13) (v := .int 1) (ty := .int) (C := RX12) (T := TX12) (N := 27) hx hb hts hiX12 tyX12 tyX12_ok nmX12 hown hK hP hD hS 1 rfl rfl 5 (by decide) (hts (.fieldLink RX12 62 "DialectDictionaryModel" "thrown" "I") (by decide +kernel)) (fun _ h9 => h9) rfl (by decide +kernel) rfl rfl (Nat.le_of_ble_eq_true rfl) dX12_addRule_67 (fun H locs hP hD hS => ?_)
    have hP : va_P G.1 vwCl [(mpa, eI G 9528 fp), (y, .inr (13, [.ref mm, .ref msv, .int vS, .ref mpa, .int 0, .int 1, .int vF, .ref mio, .ref mfo, .int vL, .ref mre, .int vK, .ref mah, .int vR, .ref mrw, .ref mrr, .ref mrs, .ref mrb, .int v0, .int vZ, .int vB, .int vN, .ref mso, .ref mnu, .ref mse, .ref mbe, .ref men])), (mm, eI G 1191 fm)] H := hP
    have hD : va_D A [(mpa, eI G 9528 fp), (y, .inr (13, [.ref mm, .ref msv, .int vS, .ref mpa, .int 0, .int 1, .int vF, .ref mio, .ref mfo, .int vL, .ref mre, .int vK, .ref mah, .int vR, .ref mrw, .ref mrr, .ref mrs, .ref mrb, .int v0, .int vZ, .int vB, .int vN, .ref mso, .ref mnu, .ref mse, .ref mbe, .ref men])), (mm, eI G 1191 fm)] := hD
    refine lv_aload_n hx hb dX12_addRule_70 rfl (lv_at hl 0 rfl) ?_
    refine va_get (D := G.1) (ci := 13) (v := .int 1) (C := RX12) (T := TX12) (N := 27) hx hb hts hiX12 hown hK hP 1 rfl rfl 5 (by decide) (hts (.fieldLink RX12 62 "DialectDictionaryModel" "thrown" "I") (by decide +kernel)) (fun _ h9 => h9) rfl dX12_addRule_71 ?_
    refine lv_if_le (tgt := 79) hx hb dX12_addRule_74 (by decide) (fun h9 => absurd h9 (by decide)) (fun _ => ?_)
    refine lv_iconst (v := 0) hx hb dX12_addRule_77 (by decide) ?_
    have hP9 := n_Psub (wc := [(y, .inr (13, [.ref mm, .ref msv, .int vS, .ref mpa, .int 0, .int 1, .int vF, .ref mio, .ref mfo, .int vL, .ref mre, .int vK, .ref mah, .int vR, .ref mrw, .ref mrr, .ref mrs, .ref mrb, .int v0, .int vZ, .int vB, .int vN, .ref mso, .ref mnu, .ref mse, .ref mbe, .ref men]))]) hP [1] rfl
    have hD9 := hD.sub (ws' := [(y, .inr (13, [.ref mm, .ref msv, .int vS, .ref mpa, .int 0, .int 1, .int vF, .ref mio, .ref mfo, .int vL, .ref mre, .int vK, .ref mah, .int vR, .ref mrw, .ref mrr, .ref mrs, .ref mrb, .int v0, .int vZ, .int vB, .int vN, .ref mso, .ref mnu, .ref mse, .ref mbe, .ref men]))]) [1] (by decide) rfl
    refine W.widen (k := 0) (n := 0) (Nat.le_of_ble_eq_true rfl) (Nat.le_of_ble_eq_true rfl) ?_
    exact W.iret (v := 0) hx hb hr (fun t ht hW => ⟨⟨0, (1, 0), rfl, ⟨by rw [nkR, if_neg (nhp_no c_6)], fun h9 => absurd h9 (by decide)⟩, by rw [ht]; exact hP9, va_K.moved hW.alike hK, hD9⟩, hS.F ht⟩) hS.2.2 dX12_addRule_78
  · skip
    refine lv_iload_n hx hb dX12_addRule_9 rfl (lv_at hl 2 rfl) ?_
    refine lv_iconst (v := -1) hx hb dX12_addRule_10 (by decide) ?_
    refine lv_icmp_eq (tgt := 26) hx hb dX12_addRule_11 (by decide) (fun c_11 => ?_) (fun c_11 => ?_)
    · skip
      refine lv_iload_n hx hb dX12_addRule_26 rfl (lv_at hl 3 rfl) ?_
      refine lv_iconst (v := 0) hx hb dX12_addRule_27 (by decide) ?_
      refine lv_iconst (v := 3) hx hb dX12_addRule_28 (by decide) ?_
      refine n_ci (wr := [(mpa, eI G 9528 fp), (y, .inr (13, [.ref mm, .ref msv, .int vS, .ref mpa, .int 0, .int vT, .int vF, .ref mio, .ref mfo, .int vL, .ref mre, .int vK, .ref mah, .int vR, .ref mrw, .ref mrr, .ref mrs, .ref mrb, .int v0, .int vZ, .int vB, .int vN, .ref mso, .ref mnu, .ref mse, .ref mbe, .ref men])), (mm, eI G 1191 fm)]) (va_runS (As := [.int q3, .int 0, .int 3]) (rest := [.ref y]) ⟨hx, hb, hml, hown, hts⟩ (mX12_in5 l G q3 H.size) (va_cwS 3 hts gX12_addRule_X12_in rfl rfl rfl (by decide +kernel) ⟨(Nat.le_of_ble_eq_true rfl), (Nat.le_of_ble_eq_true rfl)⟩) (n_prS hK hP hD [] rfl (by decide)) rfl rfl hl.1 rfl (lv_room (Nat.le_of_ble_eq_true rfl)) dX12_addRule_29 ⟨(Nat.le_of_ble_eq_true rfl), (Nat.le_of_ble_eq_true rfl)⟩) hP hD hS hA [] [0, 1, 2] rfl rfl (by decide) (by decide) (fun r_3 u_4 H locs hP hD hS hw => ?_)
      have hP : va_P G.1 vwCl [(mpa, eI G 9528 fp), (y, .inr (13, [.ref mm, .ref msv, .int vS, .ref mpa, .int 0, .int vT, .int vF, .ref mio, .ref mfo, .int vL, .ref mre, .int vK, .ref mah, .int vR, .ref mrw, .ref mrr, .ref mrs, .ref mrb, .int v0, .int vZ, .int vB, .int vN, .ref mso, .ref mnu, .ref mse, .ref mbe, .ref men])), (mm, eI G 1191 fm)] H := hP
      have hD : va_D A [(mpa, eI G 9528 fp), (y, .inr (13, [.ref mm, .ref msv, .int vS, .ref mpa, .int 0, .int vT, .int vF, .ref mio, .ref mfo, .int vL, .ref mre, .int vK, .ref mah, .int vR, .ref mrw, .ref mrr, .ref mrs, .ref mrb, .int v0, .int vZ, .int vB, .int vN, .ref mso, .ref mnu, .ref mse, .ref mbe, .ref men])), (mm, eI G 1191 fm)] := hD
      have hw : r_3 = (ncd q3) := hw
      subst hw
      try dsimp only
      refine lv_if_eq (tgt := 45) hx hb dX12_addRule_32 (by decide) (fun c_32 => ?_) (fun c_32 => ?_)
      · skip
        refine lv_iconst (v := 2) hx hb dX12_addRule_45 (by decide) ?_
        refine lv_goto (tgt := 67) hx hb dX12_addRule_46 (by decide) ?_
        refine va_put (D := G.1) (ci := 13) (v := .int 2) (ty := .int) (C := RX12) (T := TX12) (N := 27) hx hb hts hiX12 tyX12 tyX12_ok nmX12 hown hK hP hD hS 1 rfl rfl 5 (by decide) (hts (.fieldLink RX12 62 "DialectDictionaryModel" "thrown" "I") (by decide +kernel)) (fun _ h9 => h9) rfl (by decide +kernel) rfl rfl (Nat.le_of_ble_eq_true rfl) dX12_addRule_67 (fun H locs hP hD hS => ?_)
        have hP : va_P G.1 vwCl [(mpa, eI G 9528 fp), (y, .inr (13, [.ref mm, .ref msv, .int vS, .ref mpa, .int 0, .int 2, .int vF, .ref mio, .ref mfo, .int vL, .ref mre, .int vK, .ref mah, .int vR, .ref mrw, .ref mrr, .ref mrs, .ref mrb, .int v0, .int vZ, .int vB, .int vN, .ref mso, .ref mnu, .ref mse, .ref mbe, .ref men])), (mm, eI G 1191 fm)] H := hP
        have hD : va_D A [(mpa, eI G 9528 fp), (y, .inr (13, [.ref mm, .ref msv, .int vS, .ref mpa, .int 0, .int 2, .int vF, .ref mio, .ref mfo, .int vL, .ref mre, .int vK, .ref mah, .int vR, .ref mrw, .ref mrr, .ref mrs, .ref mrb, .int v0, .int vZ, .int vB, .int vN, .ref mso, .ref mnu, .ref mse, .ref mbe, .ref men])), (mm, eI G 1191 fm)] := hD
        refine lv_aload_n hx hb dX12_addRule_70 rfl (lv_at hl 0 rfl) ?_
        refine va_get (D := G.1) (ci := 13) (v := .int 2) (C := RX12) (T := TX12) (N := 27) hx hb hts hiX12 hown hK hP 1 rfl rfl 5 (by decide) (hts (.fieldLink RX12 62 "DialectDictionaryModel" "thrown" "I") (by decide +kernel)) (fun _ h9 => h9) rfl dX12_addRule_71 ?_
        refine lv_if_le (tgt := 79) hx hb dX12_addRule_74 (by decide) (fun h9 => absurd h9 (by decide)) (fun _ => ?_)
        refine lv_iconst (v := 0) hx hb dX12_addRule_77 (by decide) ?_
        have hP9 := n_Psub (wc := [(y, .inr (13, [.ref mm, .ref msv, .int vS, .ref mpa, .int 0, .int 2, .int vF, .ref mio, .ref mfo, .int vL, .ref mre, .int vK, .ref mah, .int vR, .ref mrw, .ref mrr, .ref mrs, .ref mrb, .int v0, .int vZ, .int vB, .int vN, .ref mso, .ref mnu, .ref mse, .ref mbe, .ref men]))]) hP [1] rfl
        have hD9 := hD.sub (ws' := [(y, .inr (13, [.ref mm, .ref msv, .int vS, .ref mpa, .int 0, .int 2, .int vF, .ref mio, .ref mfo, .int vL, .ref mre, .int vK, .ref mah, .int vR, .ref mrw, .ref mrr, .ref mrs, .ref mrb, .int v0, .int vZ, .int vB, .int vN, .ref mso, .ref mnu, .ref mse, .ref mbe, .ref men]))]) [1] (by decide) rfl
        refine W.widen (k := 0) (n := 0) (Nat.le_of_ble_eq_true rfl) (Nat.le_of_ble_eq_true rfl) ?_
        exact W.iret (v := 0) hx hb hr (fun t ht hW => ⟨⟨0, (2, 0), rfl, ⟨by rw [nkR, if_pos (nhp_1 c_6), if_pos c_11, if_pos c_32], fun h9 => absurd h9 (by decide)⟩, by rw [ht]; exact hP9, va_K.moved hW.alike hK, hD9⟩, hS.F ht⟩) hS.2.2 dX12_addRule_78
      · skip
        refine lv_iload hx hb dX12_addRule_35 (lv_at hl 4 rfl) ?_
        refine lv_iconst (v := 0) hx hb dX12_addRule_37 (by decide) ?_
        refine lv_iconst (v := 3) hx hb dX12_addRule_38 (by decide) ?_
        refine n_ci (wr := [(mpa, eI G 9528 fp), (y, .inr (13, [.ref mm, .ref msv, .int vS, .ref mpa, .int 0, .int vT, .int vF, .ref mio, .ref mfo, .int vL, .ref mre, .int vK, .ref mah, .int vR, .ref mrw, .ref mrr, .ref mrs, .ref mrb, .int v0, .int vZ, .int vB, .int vN, .ref mso, .ref mnu, .ref mse, .ref mbe, .ref men])), (mm, eI G 1191 fm)]) (va_runS (As := [.int q4, .int 0, .int 3]) (rest := [.ref y]) ⟨hx, hb, hml, hown, hts⟩ (mX12_in5 l G q4 H.size) (va_cwS 3 hts gX12_addRule_X12_in rfl rfl rfl (by decide +kernel) ⟨(Nat.le_of_ble_eq_true rfl), (Nat.le_of_ble_eq_true rfl)⟩) (n_prS hK hP hD [] rfl (by decide)) rfl rfl hl.1 rfl (lv_room (Nat.le_of_ble_eq_true rfl)) dX12_addRule_39 ⟨(Nat.le_of_ble_eq_true rfl), (Nat.le_of_ble_eq_true rfl)⟩) hP hD hS hA [] [0, 1, 2] rfl rfl (by decide) (by decide) (fun r_5 u_6 H locs hP hD hS hw => ?_)
        have hP : va_P G.1 vwCl [(mpa, eI G 9528 fp), (y, .inr (13, [.ref mm, .ref msv, .int vS, .ref mpa, .int 0, .int vT, .int vF, .ref mio, .ref mfo, .int vL, .ref mre, .int vK, .ref mah, .int vR, .ref mrw, .ref mrr, .ref mrs, .ref mrb, .int v0, .int vZ, .int vB, .int vN, .ref mso, .ref mnu, .ref mse, .ref mbe, .ref men])), (mm, eI G 1191 fm)] H := hP
        have hD : va_D A [(mpa, eI G 9528 fp), (y, .inr (13, [.ref mm, .ref msv, .int vS, .ref mpa, .int 0, .int vT, .int vF, .ref mio, .ref mfo, .int vL, .ref mre, .int vK, .ref mah, .int vR, .ref mrw, .ref mrr, .ref mrs, .ref mrb, .int v0, .int vZ, .int vB, .int vN, .ref mso, .ref mnu, .ref mse, .ref mbe, .ref men])), (mm, eI G 1191 fm)] := hD
        have hw : r_5 = (ncd q4) := hw
        subst hw
        try dsimp only
        refine lv_if_ne (tgt := 49) hx hb dX12_addRule_42 (by decide) (fun c_42 => ?_) (fun c_42 => ?_)
        · skip
          refine lv_aload_n hx hb dX12_addRule_49 rfl (lv_at hl 0 rfl) ?_
          refine va_get (D := G.1) (ci := 13) (v := .ref mm) (C := RX12) (T := TX12) (N := 27) hx hb hts hiX12 hown hK hP 1 rfl rfl 0 (by decide) (hts (.fieldLink RX12 9 "DialectDictionaryModel" "m" "[I") (by decide +kernel)) (fun _ h9 => h9) rfl dX12_addRule_50 ?_
          refine lv_sipush (v := 1158) hx hb dX12_addRule_53 (by decide) ?_
          refine va_iald hx hb hK hP 2 0 rfl rfl (n_in (by decide)) dX12_addRule_56 ?_
          refine n_eqi (y := 0) hm.2.2.2 ?_
          refine lv_bipush (v := 8) hx hb dX12_addRule_57 (by decide) ?_
          refine lv_icmp_ne (tgt := 66) hx hb dX12_addRule_59 (by decide) (fun _ => ?_) (fun h9 => absurd h9 (by decide))
          refine lv_iconst (v := 0) hx hb dX12_addRule_66 (by decide) ?_
          refine va_put (D := G.1) (ci := 13) (v := .int 0) (ty := .int) (C := RX12) (T := TX12) (N := 27) hx hb hts hiX12 tyX12 tyX12_ok nmX12 hown hK hP hD hS 1 rfl rfl 5 (by decide) (hts (.fieldLink RX12 62 "DialectDictionaryModel" "thrown" "I") (by decide +kernel)) (fun _ h9 => h9) rfl (by decide +kernel) rfl rfl (Nat.le_of_ble_eq_true rfl) dX12_addRule_67 (fun H locs hP hD hS => ?_)
          have hP : va_P G.1 vwCl [(mpa, eI G 9528 fp), (y, .inr (13, [.ref mm, .ref msv, .int vS, .ref mpa, .int 0, .int 0, .int vF, .ref mio, .ref mfo, .int vL, .ref mre, .int vK, .ref mah, .int vR, .ref mrw, .ref mrr, .ref mrs, .ref mrb, .int v0, .int vZ, .int vB, .int vN, .ref mso, .ref mnu, .ref mse, .ref mbe, .ref men])), (mm, eI G 1191 fm)] H := hP
          have hD : va_D A [(mpa, eI G 9528 fp), (y, .inr (13, [.ref mm, .ref msv, .int vS, .ref mpa, .int 0, .int 0, .int vF, .ref mio, .ref mfo, .int vL, .ref mre, .int vK, .ref mah, .int vR, .ref mrw, .ref mrr, .ref mrs, .ref mrb, .int v0, .int vZ, .int vB, .int vN, .ref mso, .ref mnu, .ref mse, .ref mbe, .ref men])), (mm, eI G 1191 fm)] := hD
          refine lv_aload_n hx hb dX12_addRule_70 rfl (lv_at hl 0 rfl) ?_
          refine va_get (D := G.1) (ci := 13) (v := .int 0) (C := RX12) (T := TX12) (N := 27) hx hb hts hiX12 hown hK hP 1 rfl rfl 5 (by decide) (hts (.fieldLink RX12 62 "DialectDictionaryModel" "thrown" "I") (by decide +kernel)) (fun _ h9 => h9) rfl dX12_addRule_71 ?_
          refine lv_if_le (tgt := 79) hx hb dX12_addRule_74 (by decide) (fun _ => ?_) (fun h9 => absurd (by decide) h9)
          obtain ⟨j1, hj1, e_j1⟩ := nhp_of26 (nhp_1 c_6)
          subst e_j1
          refine lv_aload_n hx hb dX12_addRule_79 rfl (lv_at hl 0 rfl) ?_
          refine n_cv (wr := []) (va_runV (As := []) (rest := []) ⟨hx, hb, hml, hown, hts⟩ (mX12_keep l G y mm msv mpa mio mfo mre mah mrw mrr mrs mrb mso mnu mse mbe men vS 0 vF vL vK vR v0 vZ vB vN fm fp H.size) (cwV 0 hts gX12_addRule_X12_keep rfl rfl rfl (by decide +kernel) ⟨(Nat.le_of_ble_eq_true rfl), (Nat.le_of_ble_eq_true rfl)⟩) (n_prV (ci := 13) (q0 := 1) hK hP hD [1, 2, 0] rfl (by decide) rfl rfl) rfl rfl hl.1 rfl (lv_room (Nat.le_of_ble_eq_true rfl)) dX12_addRule_80 ⟨(Nat.le_of_ble_eq_true rfl), (Nat.le_of_ble_eq_true rfl)⟩) hP hD hS hA [1, 2, 0] [] rfl rfl (by decide) (by decide) (fun u_7 H locs hP hD hS hw => ?_)
          have hP : va_P G.1 vwCl [(y, .inr (13, [.ref mm, .ref msv, .int vS, .ref mpa, .int 1, .int 0, .int vF, .ref mio, .ref mfo, .int vL, .ref mre, .int vK, .ref mah, .int vR, .ref mrw, .ref mrr, .ref mrs, .ref mrb, .int v0, .int vZ, .int vB, .int vN, .ref mso, .ref mnu, .ref mse, .ref mbe, .ref men])), (mm, eI G 1191 fm)] H := hP
          have hD : va_D A [(y, .inr (13, [.ref mm, .ref msv, .int vS, .ref mpa, .int 1, .int 0, .int vF, .ref mio, .ref mfo, .int vL, .ref mre, .int vK, .ref mah, .int vR, .ref mrw, .ref mrr, .ref mrs, .ref mrb, .int v0, .int vZ, .int vB, .int vN, .ref mso, .ref mnu, .ref mse, .ref mbe, .ref men])), (mm, eI G 1191 fm)] := hD
          refine lv_sipush (v := 1159) hx hb dX12_addRule_83 (by decide) ?_
          refine lv_iconst (v := 4) hx hb dX12_addRule_86 (by decide) ?_
          refine lv_aload_n hx hb dX12_addRule_87 rfl (lv_at hl 0 rfl) ?_
          refine va_get (D := G.1) (ci := 13) (v := .ref mm) (C := RX12) (T := TX12) (N := 27) hx hb hts hiX12 hown hK hP 0 rfl rfl 0 (by decide) (hts (.fieldLink RX12 9 "DialectDictionaryModel" "m" "[I") (by decide +kernel)) (fun _ h9 => h9) rfl dX12_addRule_88 ?_
          refine lv_sipush (v := 1158) hx hb dX12_addRule_91 (by decide) ?_
          refine va_iald hx hb hK hP 1 0 rfl rfl (n_in (by decide)) dX12_addRule_94 ?_
          refine n_eqi (y := 0) hm.2.2.2 ?_
          refine lv_imul hx hb dX12_addRule_95 ?_
          refine n_eqi (y := 0) (by decide) ?_
          refine lv_iadd hx hb dX12_addRule_96 ?_
          refine n_eqi (y := 1159) (by decide) ?_
          refine lv_istore (lv' := [(5, .int 1159), (0, .ref y), (1, .int (nI j1)), (2, .int q2), (3, .int q3), (4, .int q4)]) hx hb dX12_addRule_97 hl (by decide) rfl (fun ls hl => ?_)
          refine lv_aload_n hx hb dX12_addRule_99 rfl (lv_at hl 1 rfl) ?_
          refine va_get (D := G.1) (ci := 13) (v := .ref mm) (C := RX12) (T := TX12) (N := 27) hx hb hts hiX12 hown hK hP 0 rfl rfl 0 (by decide) (hts (.fieldLink RX12 9 "DialectDictionaryModel" "m" "[I") (by decide +kernel)) (fun _ h9 => h9) rfl dX12_addRule_100 ?_
          refine lv_iload hx hb dX12_addRule_103 (lv_at hl 0 rfl) ?_
          refine lv_aload_n hx hb dX12_addRule_105 rfl (lv_at hl 1 rfl) ?_
          refine va_get (D := G.1) (ci := 13) (v := .ref mm) (C := RX12) (T := TX12) (N := 27) hx hb hts hiX12 hown hK hP 0 rfl rfl 0 (by decide) (hts (.fieldLink RX12 9 "DialectDictionaryModel" "m" "[I") (by decide +kernel)) (fun _ h9 => h9) rfl dX12_addRule_106 ?_
          refine lv_iconst (v := 1) hx hb dX12_addRule_109 (by decide) ?_
          refine lv_iload_n hx hb dX12_addRule_110 rfl (lv_at hl 2 rfl) ?_
          refine lv_iadd hx hb dX12_addRule_111 ?_
          refine n_eqi (y := (nI (1 + j1))) (nI_add 1 j1) ?_
          refine va_iald hx hb hK hP 1 0 rfl rfl (vp_in_nI (n := (1 + j1)) (by omega) (by omega)) dX12_addRule_112 ?_
          refine n_eqi (y := (nI (97 + j1))) (n_ml hm hj1) ?_
          refine va_iast hx hb hK hP hD hS 1 0 rfl rfl (n_in (by decide)) dX12_addRule_113 (fun H locs hP hD hS => ?_)
          have hP : va_P G.1 vwCl [(y, .inr (13, [.ref mm, .ref msv, .int vS, .ref mpa, .int 1, .int 0, .int vF, .ref mio, .ref mfo, .int vL, .ref mre, .int vK, .ref mah, .int vR, .ref mrw, .ref mrr, .ref mrs, .ref mrb, .int v0, .int vZ, .int vB, .int vN, .ref mso, .ref mnu, .ref mse, .ref mbe, .ref men])), (mm, eI G 1191 (upd fm ((1159 : Int32).toNatClampNeg) (nI (97 + j1))))] H := hP
          have hD : va_D A [(y, .inr (13, [.ref mm, .ref msv, .int vS, .ref mpa, .int 1, .int 0, .int vF, .ref mio, .ref mfo, .int vL, .ref mre, .int vK, .ref mah, .int vR, .ref mrw, .ref mrr, .ref mrs, .ref mrb, .int v0, .int vZ, .int vB, .int vN, .ref mso, .ref mnu, .ref mse, .ref mbe, .ref men])), (mm, eI G 1191 (upd fm ((1159 : Int32).toNatClampNeg) (nI (97 + j1))))] := hD
          refine lv_aload_n hx hb dX12_addRule_114 rfl (lv_at hl 1 rfl) ?_
          refine va_get (D := G.1) (ci := 13) (v := .ref mm) (C := RX12) (T := TX12) (N := 27) hx hb hts hiX12 hown hK hP 0 rfl rfl 0 (by decide) (hts (.fieldLink RX12 9 "DialectDictionaryModel" "m" "[I") (by decide +kernel)) (fun _ h9 => h9) rfl dX12_addRule_115 ?_
          refine lv_iload hx hb dX12_addRule_118 (lv_at hl 0 rfl) ?_
          refine lv_iconst (v := 1) hx hb dX12_addRule_120 (by decide) ?_
          refine lv_iadd hx hb dX12_addRule_121 ?_
          refine n_eqi (y := 1160) (by decide) ?_
          refine lv_iload_n hx hb dX12_addRule_122 rfl (lv_at hl 3 rfl) ?_
          refine lv_iconst (v := -1) hx hb dX12_addRule_123 (by decide) ?_
          refine lv_icmp_ne (tgt := 131) hx hb dX12_addRule_124 (by decide) (fun h9 => absurd c_11 h9) (fun _ => ?_)
          refine lv_iconst (v := 0) hx hb dX12_addRule_127 (by decide) ?_
          refine lv_goto (tgt := 139) hx hb dX12_addRule_128 (by decide) ?_
          refine va_iast hx hb hK hP hD hS 1 0 rfl rfl (n_in (by decide)) dX12_addRule_139 (fun H locs hP hD hS => ?_)
          have hP : va_P G.1 vwCl [(y, .inr (13, [.ref mm, .ref msv, .int vS, .ref mpa, .int 1, .int 0, .int vF, .ref mio, .ref mfo, .int vL, .ref mre, .int vK, .ref mah, .int vR, .ref mrw, .ref mrr, .ref mrs, .ref mrb, .int v0, .int vZ, .int vB, .int vN, .ref mso, .ref mnu, .ref mse, .ref mbe, .ref men])), (mm, eI G 1191 (upd (upd fm ((1159 : Int32).toNatClampNeg) (nI (97 + j1))) ((1160 : Int32).toNatClampNeg) 0))] H := hP
          have hD : va_D A [(y, .inr (13, [.ref mm, .ref msv, .int vS, .ref mpa, .int 1, .int 0, .int vF, .ref mio, .ref mfo, .int vL, .ref mre, .int vK, .ref mah, .int vR, .ref mrw, .ref mrr, .ref mrs, .ref mrb, .int v0, .int vZ, .int vB, .int vN, .ref mso, .ref mnu, .ref mse, .ref mbe, .ref men])), (mm, eI G 1191 (upd (upd fm ((1159 : Int32).toNatClampNeg) (nI (97 + j1))) ((1160 : Int32).toNatClampNeg) 0))] := hD
          refine lv_aload_n hx hb dX12_addRule_140 rfl (lv_at hl 1 rfl) ?_
          refine va_get (D := G.1) (ci := 13) (v := .ref mm) (C := RX12) (T := TX12) (N := 27) hx hb hts hiX12 hown hK hP 0 rfl rfl 0 (by decide) (hts (.fieldLink RX12 9 "DialectDictionaryModel" "m" "[I") (by decide +kernel)) (fun _ h9 => h9) rfl dX12_addRule_141 ?_
          refine lv_iload hx hb dX12_addRule_144 (lv_at hl 0 rfl) ?_
          refine lv_iconst (v := 2) hx hb dX12_addRule_146 (by decide) ?_
          refine lv_iadd hx hb dX12_addRule_147 ?_
          refine n_eqi (y := 1161) (by decide) ?_
          refine lv_iload_n hx hb dX12_addRule_148 rfl (lv_at hl 4 rfl) ?_
          refine va_iast hx hb hK hP hD hS 1 0 rfl rfl (n_in (by decide)) dX12_addRule_149 (fun H locs hP hD hS => ?_)
          have hP : va_P G.1 vwCl [(y, .inr (13, [.ref mm, .ref msv, .int vS, .ref mpa, .int 1, .int 0, .int vF, .ref mio, .ref mfo, .int vL, .ref mre, .int vK, .ref mah, .int vR, .ref mrw, .ref mrr, .ref mrs, .ref mrb, .int v0, .int vZ, .int vB, .int vN, .ref mso, .ref mnu, .ref mse, .ref mbe, .ref men])), (mm, eI G 1191 (upd (upd (upd fm ((1159 : Int32).toNatClampNeg) (nI (97 + j1))) ((1160 : Int32).toNatClampNeg) 0) ((1161 : Int32).toNatClampNeg) q3))] H := hP
          have hD : va_D A [(y, .inr (13, [.ref mm, .ref msv, .int vS, .ref mpa, .int 1, .int 0, .int vF, .ref mio, .ref mfo, .int vL, .ref mre, .int vK, .ref mah, .int vR, .ref mrw, .ref mrr, .ref mrs, .ref mrb, .int v0, .int vZ, .int vB, .int vN, .ref mso, .ref mnu, .ref mse, .ref mbe, .ref men])), (mm, eI G 1191 (upd (upd (upd fm ((1159 : Int32).toNatClampNeg) (nI (97 + j1))) ((1160 : Int32).toNatClampNeg) 0) ((1161 : Int32).toNatClampNeg) q3))] := hD
          refine lv_aload_n hx hb dX12_addRule_150 rfl (lv_at hl 1 rfl) ?_
          refine va_get (D := G.1) (ci := 13) (v := .ref mm) (C := RX12) (T := TX12) (N := 27) hx hb hts hiX12 hown hK hP 0 rfl rfl 0 (by decide) (hts (.fieldLink RX12 9 "DialectDictionaryModel" "m" "[I") (by decide +kernel)) (fun _ h9 => h9) rfl dX12_addRule_151 ?_
          refine lv_iload hx hb dX12_addRule_154 (lv_at hl 0 rfl) ?_
          refine lv_iconst (v := 3) hx hb dX12_addRule_156 (by decide) ?_
          refine lv_iadd hx hb dX12_addRule_157 ?_
          refine n_eqi (y := 1162) (by decide) ?_
          refine lv_iload hx hb dX12_addRule_158 (lv_at hl 5 rfl) ?_
          refine va_iast hx hb hK hP hD hS 1 0 rfl rfl (n_in (by decide)) dX12_addRule_160 (fun H locs hP hD hS => ?_)
          have hP : va_P G.1 vwCl [(y, .inr (13, [.ref mm, .ref msv, .int vS, .ref mpa, .int 1, .int 0, .int vF, .ref mio, .ref mfo, .int vL, .ref mre, .int vK, .ref mah, .int vR, .ref mrw, .ref mrr, .ref mrs, .ref mrb, .int v0, .int vZ, .int vB, .int vN, .ref mso, .ref mnu, .ref mse, .ref mbe, .ref men])), (mm, eI G 1191 (upd (upd (upd (upd fm ((1159 : Int32).toNatClampNeg) (nI (97 + j1))) ((1160 : Int32).toNatClampNeg) 0) ((1161 : Int32).toNatClampNeg) q3) ((1162 : Int32).toNatClampNeg) q4))] H := hP
          have hD : va_D A [(y, .inr (13, [.ref mm, .ref msv, .int vS, .ref mpa, .int 1, .int 0, .int vF, .ref mio, .ref mfo, .int vL, .ref mre, .int vK, .ref mah, .int vR, .ref mrw, .ref mrr, .ref mrs, .ref mrb, .int v0, .int vZ, .int vB, .int vN, .ref mso, .ref mnu, .ref mse, .ref mbe, .ref men])), (mm, eI G 1191 (upd (upd (upd (upd fm ((1159 : Int32).toNatClampNeg) (nI (97 + j1))) ((1160 : Int32).toNatClampNeg) 0) ((1161 : Int32).toNatClampNeg) q3) ((1162 : Int32).toNatClampNeg) q4))] := hD
          refine lv_aload_n hx hb dX12_addRule_161 rfl (lv_at hl 1 rfl) ?_
          refine va_get (D := G.1) (ci := 13) (v := .ref mm) (C := RX12) (T := TX12) (N := 27) hx hb hts hiX12 hown hK hP 0 rfl rfl 0 (by decide) (hts (.fieldLink RX12 9 "DialectDictionaryModel" "m" "[I") (by decide +kernel)) (fun _ h9 => h9) rfl dX12_addRule_162 ?_
          refine lv_sipush (v := 1158) hx hb dX12_addRule_165 (by decide) ?_
          refine lv_dup2_11 hx hb dX12_addRule_168 rfl rfl ?_
          refine va_iald hx hb hK hP 1 0 rfl rfl (n_in (by decide)) dX12_addRule_169 ?_
          refine n_eqi (y := 0) (by rw [pk_un (by decide), pk_un (by decide), pk_un (by decide), pk_un (by decide)]; exact hm.2.2.2) ?_
          refine lv_iconst (v := 1) hx hb dX12_addRule_170 (by decide) ?_
          refine lv_iadd hx hb dX12_addRule_171 ?_
          refine n_eqi (y := 1) (by decide) ?_
          refine va_iast hx hb hK hP hD hS 1 0 rfl rfl (n_in (by decide)) dX12_addRule_172 (fun H locs hP hD hS => ?_)
          have hP : va_P G.1 vwCl [(y, .inr (13, [.ref mm, .ref msv, .int vS, .ref mpa, .int 1, .int 0, .int vF, .ref mio, .ref mfo, .int vL, .ref mre, .int vK, .ref mah, .int vR, .ref mrw, .ref mrr, .ref mrs, .ref mrb, .int v0, .int vZ, .int vB, .int vN, .ref mso, .ref mnu, .ref mse, .ref mbe, .ref men])), (mm, eI G 1191 (upd (upd (upd (upd (upd fm ((1159 : Int32).toNatClampNeg) (nI (97 + j1))) ((1160 : Int32).toNatClampNeg) 0) ((1161 : Int32).toNatClampNeg) q3) ((1162 : Int32).toNatClampNeg) q4) ((1158 : Int32).toNatClampNeg) 1))] H := hP
          have hD : va_D A [(y, .inr (13, [.ref mm, .ref msv, .int vS, .ref mpa, .int 1, .int 0, .int vF, .ref mio, .ref mfo, .int vL, .ref mre, .int vK, .ref mah, .int vR, .ref mrw, .ref mrr, .ref mrs, .ref mrb, .int v0, .int vZ, .int vB, .int vN, .ref mso, .ref mnu, .ref mse, .ref mbe, .ref men])), (mm, eI G 1191 (upd (upd (upd (upd (upd fm ((1159 : Int32).toNatClampNeg) (nI (97 + j1))) ((1160 : Int32).toNatClampNeg) 0) ((1161 : Int32).toNatClampNeg) q3) ((1162 : Int32).toNatClampNeg) q4) ((1158 : Int32).toNatClampNeg) 1))] := hD
          refine lv_aload_n hx hb dX12_addRule_173 rfl (lv_at hl 1 rfl) ?_
          refine va_get (D := G.1) (ci := 13) (v := .ref mm) (C := RX12) (T := TX12) (N := 27) hx hb hts hiX12 hown hK hP 0 rfl rfl 0 (by decide) (hts (.fieldLink RX12 9 "DialectDictionaryModel" "m" "[I") (by decide +kernel)) (fun _ h9 => h9) rfl dX12_addRule_174 ?_
          refine lv_sipush (v := 1158) hx hb dX12_addRule_177 (by decide) ?_
          refine va_iald hx hb hK hP 1 0 rfl rfl (n_in (by decide)) dX12_addRule_180 ?_
          refine n_eqi (y := 1) pk_us ?_
          refine lv_iconst (v := 1) hx hb dX12_addRule_181 (by decide) ?_
          refine lv_isub hx hb dX12_addRule_182 ?_
          refine n_eqi (y := 0) (by decide) ?_
          have hP9 := n_Psub (wc := [(y, .inr (13, [.ref mm, .ref msv, .int vS, .ref mpa, .int 1, .int 0, .int vF, .ref mio, .ref mfo, .int vL, .ref mre, .int vK, .ref mah, .int vR, .ref mrw, .ref mrr, .ref mrs, .ref mrb, .int v0, .int vZ, .int vB, .int vN, .ref mso, .ref mnu, .ref mse, .ref mbe, .ref men]))]) hP [0] rfl
          have hD9 := hD.sub (ws' := [(y, .inr (13, [.ref mm, .ref msv, .int vS, .ref mpa, .int 1, .int 0, .int vF, .ref mio, .ref mfo, .int vL, .ref mre, .int vK, .ref mah, .int vR, .ref mrw, .ref mrr, .ref mrs, .ref mrb, .int v0, .int vZ, .int vB, .int vN, .ref mso, .ref mnu, .ref mse, .ref mbe, .ref men]))]) [0] (by decide) rfl
          refine W.widen (k := 0) (n := 0) (Nat.le_of_ble_eq_true rfl) (Nat.le_of_ble_eq_true rfl) ?_
          exact W.iret (v := 0) hx hb hr (fun t ht hW => ⟨⟨0, (0, 1), rfl, ⟨by rw [nkR, if_pos (nhp_in26 hj1), if_pos c_11, if_neg c_32, if_neg c_42], fun _ => rfl⟩, by rw [ht]; exact hP9, va_K.moved hW.alike hK, hD9⟩, hS.F ht⟩) hS.2.2 dX12_addRule_183
        · skip
          refine lv_iconst (v := 2) hx hb dX12_addRule_45 (by decide) ?_
          refine lv_goto (tgt := 67) hx hb dX12_addRule_46 (by decide) ?_
          refine va_put (D := G.1) (ci := 13) (v := .int 2) (ty := .int) (C := RX12) (T := TX12) (N := 27) hx hb hts hiX12 tyX12 tyX12_ok nmX12 hown hK hP hD hS 1 rfl rfl 5 (by decide) (hts (.fieldLink RX12 62 "DialectDictionaryModel" "thrown" "I") (by decide +kernel)) (fun _ h9 => h9) rfl (by decide +kernel) rfl rfl (Nat.le_of_ble_eq_true rfl) dX12_addRule_67 (fun H locs hP hD hS => ?_)
          have hP : va_P G.1 vwCl [(mpa, eI G 9528 fp), (y, .inr (13, [.ref mm, .ref msv, .int vS, .ref mpa, .int 0, .int 2, .int vF, .ref mio, .ref mfo, .int vL, .ref mre, .int vK, .ref mah, .int vR, .ref mrw, .ref mrr, .ref mrs, .ref mrb, .int v0, .int vZ, .int vB, .int vN, .ref mso, .ref mnu, .ref mse, .ref mbe, .ref men])), (mm, eI G 1191 fm)] H := hP
          have hD : va_D A [(mpa, eI G 9528 fp), (y, .inr (13, [.ref mm, .ref msv, .int vS, .ref mpa, .int 0, .int 2, .int vF, .ref mio, .ref mfo, .int vL, .ref mre, .int vK, .ref mah, .int vR, .ref mrw, .ref mrr, .ref mrs, .ref mrb, .int v0, .int vZ, .int vB, .int vN, .ref mso, .ref mnu, .ref mse, .ref mbe, .ref men])), (mm, eI G 1191 fm)] := hD
          refine lv_aload_n hx hb dX12_addRule_70 rfl (lv_at hl 0 rfl) ?_
          refine va_get (D := G.1) (ci := 13) (v := .int 2) (C := RX12) (T := TX12) (N := 27) hx hb hts hiX12 hown hK hP 1 rfl rfl 5 (by decide) (hts (.fieldLink RX12 62 "DialectDictionaryModel" "thrown" "I") (by decide +kernel)) (fun _ h9 => h9) rfl dX12_addRule_71 ?_
          refine lv_if_le (tgt := 79) hx hb dX12_addRule_74 (by decide) (fun h9 => absurd h9 (by decide)) (fun _ => ?_)
          refine lv_iconst (v := 0) hx hb dX12_addRule_77 (by decide) ?_
          have hP9 := n_Psub (wc := [(y, .inr (13, [.ref mm, .ref msv, .int vS, .ref mpa, .int 0, .int 2, .int vF, .ref mio, .ref mfo, .int vL, .ref mre, .int vK, .ref mah, .int vR, .ref mrw, .ref mrr, .ref mrs, .ref mrb, .int v0, .int vZ, .int vB, .int vN, .ref mso, .ref mnu, .ref mse, .ref mbe, .ref men]))]) hP [1] rfl
          have hD9 := hD.sub (ws' := [(y, .inr (13, [.ref mm, .ref msv, .int vS, .ref mpa, .int 0, .int 2, .int vF, .ref mio, .ref mfo, .int vL, .ref mre, .int vK, .ref mah, .int vR, .ref mrw, .ref mrr, .ref mrs, .ref mrb, .int v0, .int vZ, .int vB, .int vN, .ref mso, .ref mnu, .ref mse, .ref mbe, .ref men]))]) [1] (by decide) rfl
          refine W.widen (k := 0) (n := 0) (Nat.le_of_ble_eq_true rfl) (Nat.le_of_ble_eq_true rfl) ?_
          exact W.iret (v := 0) hx hb hr (fun t ht hW => ⟨⟨0, (2, 0), rfl, ⟨by rw [nkR, if_pos (nhp_1 c_6), if_pos c_11, if_neg c_32, if_pos c_42], fun h9 => absurd h9 (by decide)⟩, by rw [ht]; exact hP9, va_K.moved hW.alike hK, hD9⟩, hS.F ht⟩) hS.2.2 dX12_addRule_78
    · skip
      refine lv_aload_n hx hb dX12_addRule_14 rfl (lv_at hl 0 rfl) ?_
      refine lv_iload_n hx hb dX12_addRule_15 rfl (lv_at hl 2 rfl) ?_
      refine n_ci (wr := [(mpa, eI G 9528 fp)]) (va_runV (As := [.int q2]) (rest := [.ref y]) ⟨hx, hb, hml, hown, hts⟩ (mX12_isLetterPlace l G y mm msv mpa mio mfo mre mah mrw mrr mrs mrb mso mnu mse mbe men vS 0 vT vF vL vK vR v0 vZ vB vN fm q2 H.size hm) (cwV 1 hts gX12_addRule_X12_isLetterPlace rfl rfl rfl (by decide +kernel) ⟨(Nat.le_of_ble_eq_true rfl), (Nat.le_of_ble_eq_true rfl)⟩) (n_prV (ci := 13) (q0 := 1) hK hP hD [1, 2] rfl (by decide) rfl rfl) rfl rfl hl.1 rfl (lv_room (Nat.le_of_ble_eq_true rfl)) dX12_addRule_16 ⟨(Nat.le_of_ble_eq_true rfl), (Nat.le_of_ble_eq_true rfl)⟩) hP hD hS hA [1, 2] [0] rfl rfl (by decide) (by decide) (fun r_8 u_9 H locs hP hD hS hw => ?_)
      have hP : va_P G.1 vwCl [(mpa, eI G 9528 fp), (y, .inr (13, [.ref mm, .ref msv, .int vS, .ref mpa, .int 0, .int vT, .int vF, .ref mio, .ref mfo, .int vL, .ref mre, .int vK, .ref mah, .int vR, .ref mrw, .ref mrr, .ref mrs, .ref mrb, .int v0, .int vZ, .int vB, .int vN, .ref mso, .ref mnu, .ref mse, .ref mbe, .ref men])), (mm, eI G 1191 fm)] H := hP
      have hD : va_D A [(mpa, eI G 9528 fp), (y, .inr (13, [.ref mm, .ref msv, .int vS, .ref mpa, .int 0, .int vT, .int vF, .ref mio, .ref mfo, .int vL, .ref mre, .int vK, .ref mah, .int vR, .ref mrw, .ref mrr, .ref mrs, .ref mrb, .int v0, .int vZ, .int vB, .int vN, .ref mso, .ref mnu, .ref mse, .ref mbe, .ref men])), (mm, eI G 1191 fm)] := hD
      have hw : r_8 = (nhp 26 q2) := hw
      subst hw
      try dsimp only
      refine lv_if_ne (tgt := 26) hx hb dX12_addRule_19 (by decide) (fun c_19 => ?_) (fun c_19 => ?_)
      · skip
        refine lv_iload_n hx hb dX12_addRule_26 rfl (lv_at hl 3 rfl) ?_
        refine lv_iconst (v := 0) hx hb dX12_addRule_27 (by decide) ?_
        refine lv_iconst (v := 3) hx hb dX12_addRule_28 (by decide) ?_
        refine n_ci (wr := [(mpa, eI G 9528 fp), (y, .inr (13, [.ref mm, .ref msv, .int vS, .ref mpa, .int 0, .int vT, .int vF, .ref mio, .ref mfo, .int vL, .ref mre, .int vK, .ref mah, .int vR, .ref mrw, .ref mrr, .ref mrs, .ref mrb, .int v0, .int vZ, .int vB, .int vN, .ref mso, .ref mnu, .ref mse, .ref mbe, .ref men])), (mm, eI G 1191 fm)]) (va_runS (As := [.int q3, .int 0, .int 3]) (rest := [.ref y]) ⟨hx, hb, hml, hown, hts⟩ (mX12_in5 l G q3 H.size) (va_cwS 3 hts gX12_addRule_X12_in rfl rfl rfl (by decide +kernel) ⟨(Nat.le_of_ble_eq_true rfl), (Nat.le_of_ble_eq_true rfl)⟩) (n_prS hK hP hD [] rfl (by decide)) rfl rfl hl.1 rfl (lv_room (Nat.le_of_ble_eq_true rfl)) dX12_addRule_29 ⟨(Nat.le_of_ble_eq_true rfl), (Nat.le_of_ble_eq_true rfl)⟩) hP hD hS hA [] [0, 1, 2] rfl rfl (by decide) (by decide) (fun r_10 u_11 H locs hP hD hS hw => ?_)
        have hP : va_P G.1 vwCl [(mpa, eI G 9528 fp), (y, .inr (13, [.ref mm, .ref msv, .int vS, .ref mpa, .int 0, .int vT, .int vF, .ref mio, .ref mfo, .int vL, .ref mre, .int vK, .ref mah, .int vR, .ref mrw, .ref mrr, .ref mrs, .ref mrb, .int v0, .int vZ, .int vB, .int vN, .ref mso, .ref mnu, .ref mse, .ref mbe, .ref men])), (mm, eI G 1191 fm)] H := hP
        have hD : va_D A [(mpa, eI G 9528 fp), (y, .inr (13, [.ref mm, .ref msv, .int vS, .ref mpa, .int 0, .int vT, .int vF, .ref mio, .ref mfo, .int vL, .ref mre, .int vK, .ref mah, .int vR, .ref mrw, .ref mrr, .ref mrs, .ref mrb, .int v0, .int vZ, .int vB, .int vN, .ref mso, .ref mnu, .ref mse, .ref mbe, .ref men])), (mm, eI G 1191 fm)] := hD
        have hw : r_10 = (ncd q3) := hw
        subst hw
        try dsimp only
        refine lv_if_eq (tgt := 45) hx hb dX12_addRule_32 (by decide) (fun c_32 => ?_) (fun c_32 => ?_)
        · skip
          refine lv_iconst (v := 2) hx hb dX12_addRule_45 (by decide) ?_
          refine lv_goto (tgt := 67) hx hb dX12_addRule_46 (by decide) ?_
          refine va_put (D := G.1) (ci := 13) (v := .int 2) (ty := .int) (C := RX12) (T := TX12) (N := 27) hx hb hts hiX12 tyX12 tyX12_ok nmX12 hown hK hP hD hS 1 rfl rfl 5 (by decide) (hts (.fieldLink RX12 62 "DialectDictionaryModel" "thrown" "I") (by decide +kernel)) (fun _ h9 => h9) rfl (by decide +kernel) rfl rfl (Nat.le_of_ble_eq_true rfl) dX12_addRule_67 (fun H locs hP hD hS => ?_)
          have hP : va_P G.1 vwCl [(mpa, eI G 9528 fp), (y, .inr (13, [.ref mm, .ref msv, .int vS, .ref mpa, .int 0, .int 2, .int vF, .ref mio, .ref mfo, .int vL, .ref mre, .int vK, .ref mah, .int vR, .ref mrw, .ref mrr, .ref mrs, .ref mrb, .int v0, .int vZ, .int vB, .int vN, .ref mso, .ref mnu, .ref mse, .ref mbe, .ref men])), (mm, eI G 1191 fm)] H := hP
          have hD : va_D A [(mpa, eI G 9528 fp), (y, .inr (13, [.ref mm, .ref msv, .int vS, .ref mpa, .int 0, .int 2, .int vF, .ref mio, .ref mfo, .int vL, .ref mre, .int vK, .ref mah, .int vR, .ref mrw, .ref mrr, .ref mrs, .ref mrb, .int v0, .int vZ, .int vB, .int vN, .ref mso, .ref mnu, .ref mse, .ref mbe, .ref men])), (mm, eI G 1191 fm)] := hD
          refine lv_aload_n hx hb dX12_addRule_70 rfl (lv_at hl 0 rfl) ?_
          refine va_get (D := G.1) (ci := 13) (v := .int 2) (C := RX12) (T := TX12) (N := 27) hx hb hts hiX12 hown hK hP 1 rfl rfl 5 (by decide) (hts (.fieldLink RX12 62 "DialectDictionaryModel" "thrown" "I") (by decide +kernel)) (fun _ h9 => h9) rfl dX12_addRule_71 ?_
          refine lv_if_le (tgt := 79) hx hb dX12_addRule_74 (by decide) (fun h9 => absurd h9 (by decide)) (fun _ => ?_)
          refine lv_iconst (v := 0) hx hb dX12_addRule_77 (by decide) ?_
          have hP9 := n_Psub (wc := [(y, .inr (13, [.ref mm, .ref msv, .int vS, .ref mpa, .int 0, .int 2, .int vF, .ref mio, .ref mfo, .int vL, .ref mre, .int vK, .ref mah, .int vR, .ref mrw, .ref mrr, .ref mrs, .ref mrb, .int v0, .int vZ, .int vB, .int vN, .ref mso, .ref mnu, .ref mse, .ref mbe, .ref men]))]) hP [1] rfl
          have hD9 := hD.sub (ws' := [(y, .inr (13, [.ref mm, .ref msv, .int vS, .ref mpa, .int 0, .int 2, .int vF, .ref mio, .ref mfo, .int vL, .ref mre, .int vK, .ref mah, .int vR, .ref mrw, .ref mrr, .ref mrs, .ref mrb, .int v0, .int vZ, .int vB, .int vN, .ref mso, .ref mnu, .ref mse, .ref mbe, .ref men]))]) [1] (by decide) rfl
          refine W.widen (k := 0) (n := 0) (Nat.le_of_ble_eq_true rfl) (Nat.le_of_ble_eq_true rfl) ?_
          exact W.iret (v := 0) hx hb hr (fun t ht hW => ⟨⟨0, (2, 0), rfl, ⟨by rw [nkR, if_pos (nhp_1 c_6), if_neg c_11, if_pos (nhp_1 c_19), if_pos c_32], fun h9 => absurd h9 (by decide)⟩, by rw [ht]; exact hP9, va_K.moved hW.alike hK, hD9⟩, hS.F ht⟩) hS.2.2 dX12_addRule_78
        · skip
          refine lv_iload hx hb dX12_addRule_35 (lv_at hl 4 rfl) ?_
          refine lv_iconst (v := 0) hx hb dX12_addRule_37 (by decide) ?_
          refine lv_iconst (v := 3) hx hb dX12_addRule_38 (by decide) ?_
          refine n_ci (wr := [(mpa, eI G 9528 fp), (y, .inr (13, [.ref mm, .ref msv, .int vS, .ref mpa, .int 0, .int vT, .int vF, .ref mio, .ref mfo, .int vL, .ref mre, .int vK, .ref mah, .int vR, .ref mrw, .ref mrr, .ref mrs, .ref mrb, .int v0, .int vZ, .int vB, .int vN, .ref mso, .ref mnu, .ref mse, .ref mbe, .ref men])), (mm, eI G 1191 fm)]) (va_runS (As := [.int q4, .int 0, .int 3]) (rest := [.ref y]) ⟨hx, hb, hml, hown, hts⟩ (mX12_in5 l G q4 H.size) (va_cwS 3 hts gX12_addRule_X12_in rfl rfl rfl (by decide +kernel) ⟨(Nat.le_of_ble_eq_true rfl), (Nat.le_of_ble_eq_true rfl)⟩) (n_prS hK hP hD [] rfl (by decide)) rfl rfl hl.1 rfl (lv_room (Nat.le_of_ble_eq_true rfl)) dX12_addRule_39 ⟨(Nat.le_of_ble_eq_true rfl), (Nat.le_of_ble_eq_true rfl)⟩) hP hD hS hA [] [0, 1, 2] rfl rfl (by decide) (by decide) (fun r_12 u_13 H locs hP hD hS hw => ?_)
          have hP : va_P G.1 vwCl [(mpa, eI G 9528 fp), (y, .inr (13, [.ref mm, .ref msv, .int vS, .ref mpa, .int 0, .int vT, .int vF, .ref mio, .ref mfo, .int vL, .ref mre, .int vK, .ref mah, .int vR, .ref mrw, .ref mrr, .ref mrs, .ref mrb, .int v0, .int vZ, .int vB, .int vN, .ref mso, .ref mnu, .ref mse, .ref mbe, .ref men])), (mm, eI G 1191 fm)] H := hP
          have hD : va_D A [(mpa, eI G 9528 fp), (y, .inr (13, [.ref mm, .ref msv, .int vS, .ref mpa, .int 0, .int vT, .int vF, .ref mio, .ref mfo, .int vL, .ref mre, .int vK, .ref mah, .int vR, .ref mrw, .ref mrr, .ref mrs, .ref mrb, .int v0, .int vZ, .int vB, .int vN, .ref mso, .ref mnu, .ref mse, .ref mbe, .ref men])), (mm, eI G 1191 fm)] := hD
          have hw : r_12 = (ncd q4) := hw
          subst hw
          try dsimp only
          refine lv_if_ne (tgt := 49) hx hb dX12_addRule_42 (by decide) (fun c_42 => ?_) (fun c_42 => ?_)
          · skip
            refine lv_aload_n hx hb dX12_addRule_49 rfl (lv_at hl 0 rfl) ?_
            refine va_get (D := G.1) (ci := 13) (v := .ref mm) (C := RX12) (T := TX12) (N := 27) hx hb hts hiX12 hown hK hP 1 rfl rfl 0 (by decide) (hts (.fieldLink RX12 9 "DialectDictionaryModel" "m" "[I") (by decide +kernel)) (fun _ h9 => h9) rfl dX12_addRule_50 ?_
            refine lv_sipush (v := 1158) hx hb dX12_addRule_53 (by decide) ?_
            refine va_iald hx hb hK hP 2 0 rfl rfl (n_in (by decide)) dX12_addRule_56 ?_
            refine n_eqi (y := 0) hm.2.2.2 ?_
            refine lv_bipush (v := 8) hx hb dX12_addRule_57 (by decide) ?_
            refine lv_icmp_ne (tgt := 66) hx hb dX12_addRule_59 (by decide) (fun _ => ?_) (fun h9 => absurd h9 (by decide))
            refine lv_iconst (v := 0) hx hb dX12_addRule_66 (by decide) ?_
            refine va_put (D := G.1) (ci := 13) (v := .int 0) (ty := .int) (C := RX12) (T := TX12) (N := 27) hx hb hts hiX12 tyX12 tyX12_ok nmX12 hown hK hP hD hS 1 rfl rfl 5 (by decide) (hts (.fieldLink RX12 62 "DialectDictionaryModel" "thrown" "I") (by decide +kernel)) (fun _ h9 => h9) rfl (by decide +kernel) rfl rfl (Nat.le_of_ble_eq_true rfl) dX12_addRule_67 (fun H locs hP hD hS => ?_)
            have hP : va_P G.1 vwCl [(mpa, eI G 9528 fp), (y, .inr (13, [.ref mm, .ref msv, .int vS, .ref mpa, .int 0, .int 0, .int vF, .ref mio, .ref mfo, .int vL, .ref mre, .int vK, .ref mah, .int vR, .ref mrw, .ref mrr, .ref mrs, .ref mrb, .int v0, .int vZ, .int vB, .int vN, .ref mso, .ref mnu, .ref mse, .ref mbe, .ref men])), (mm, eI G 1191 fm)] H := hP
            have hD : va_D A [(mpa, eI G 9528 fp), (y, .inr (13, [.ref mm, .ref msv, .int vS, .ref mpa, .int 0, .int 0, .int vF, .ref mio, .ref mfo, .int vL, .ref mre, .int vK, .ref mah, .int vR, .ref mrw, .ref mrr, .ref mrs, .ref mrb, .int v0, .int vZ, .int vB, .int vN, .ref mso, .ref mnu, .ref mse, .ref mbe, .ref men])), (mm, eI G 1191 fm)] := hD
            refine lv_aload_n hx hb dX12_addRule_70 rfl (lv_at hl 0 rfl) ?_
            refine va_get (D := G.1) (ci := 13) (v := .int 0) (C := RX12) (T := TX12) (N := 27) hx hb hts hiX12 hown hK hP 1 rfl rfl 5 (by decide) (hts (.fieldLink RX12 62 "DialectDictionaryModel" "thrown" "I") (by decide +kernel)) (fun _ h9 => h9) rfl dX12_addRule_71 ?_
            refine lv_if_le (tgt := 79) hx hb dX12_addRule_74 (by decide) (fun _ => ?_) (fun h9 => absurd (by decide) h9)
            obtain ⟨j1, hj1, e_j1⟩ := nhp_of26 (nhp_1 c_6)
            subst e_j1
            obtain ⟨j2, hj2, e_j2⟩ := nhp_of26 (nhp_1 c_19)
            subst e_j2
            refine lv_aload_n hx hb dX12_addRule_79 rfl (lv_at hl 0 rfl) ?_
            refine n_cv (wr := []) (va_runV (As := []) (rest := []) ⟨hx, hb, hml, hown, hts⟩ (mX12_keep l G y mm msv mpa mio mfo mre mah mrw mrr mrs mrb mso mnu mse mbe men vS 0 vF vL vK vR v0 vZ vB vN fm fp H.size) (cwV 0 hts gX12_addRule_X12_keep rfl rfl rfl (by decide +kernel) ⟨(Nat.le_of_ble_eq_true rfl), (Nat.le_of_ble_eq_true rfl)⟩) (n_prV (ci := 13) (q0 := 1) hK hP hD [1, 2, 0] rfl (by decide) rfl rfl) rfl rfl hl.1 rfl (lv_room (Nat.le_of_ble_eq_true rfl)) dX12_addRule_80 ⟨(Nat.le_of_ble_eq_true rfl), (Nat.le_of_ble_eq_true rfl)⟩) hP hD hS hA [1, 2, 0] [] rfl rfl (by decide) (by decide) (fun u_14 H locs hP hD hS hw => ?_)
            have hP : va_P G.1 vwCl [(y, .inr (13, [.ref mm, .ref msv, .int vS, .ref mpa, .int 1, .int 0, .int vF, .ref mio, .ref mfo, .int vL, .ref mre, .int vK, .ref mah, .int vR, .ref mrw, .ref mrr, .ref mrs, .ref mrb, .int v0, .int vZ, .int vB, .int vN, .ref mso, .ref mnu, .ref mse, .ref mbe, .ref men])), (mm, eI G 1191 fm)] H := hP
            have hD : va_D A [(y, .inr (13, [.ref mm, .ref msv, .int vS, .ref mpa, .int 1, .int 0, .int vF, .ref mio, .ref mfo, .int vL, .ref mre, .int vK, .ref mah, .int vR, .ref mrw, .ref mrr, .ref mrs, .ref mrb, .int v0, .int vZ, .int vB, .int vN, .ref mso, .ref mnu, .ref mse, .ref mbe, .ref men])), (mm, eI G 1191 fm)] := hD
            refine lv_sipush (v := 1159) hx hb dX12_addRule_83 (by decide) ?_
            refine lv_iconst (v := 4) hx hb dX12_addRule_86 (by decide) ?_
            refine lv_aload_n hx hb dX12_addRule_87 rfl (lv_at hl 0 rfl) ?_
            refine va_get (D := G.1) (ci := 13) (v := .ref mm) (C := RX12) (T := TX12) (N := 27) hx hb hts hiX12 hown hK hP 0 rfl rfl 0 (by decide) (hts (.fieldLink RX12 9 "DialectDictionaryModel" "m" "[I") (by decide +kernel)) (fun _ h9 => h9) rfl dX12_addRule_88 ?_
            refine lv_sipush (v := 1158) hx hb dX12_addRule_91 (by decide) ?_
            refine va_iald hx hb hK hP 1 0 rfl rfl (n_in (by decide)) dX12_addRule_94 ?_
            refine n_eqi (y := 0) hm.2.2.2 ?_
            refine lv_imul hx hb dX12_addRule_95 ?_
            refine n_eqi (y := 0) (by decide) ?_
            refine lv_iadd hx hb dX12_addRule_96 ?_
            refine n_eqi (y := 1159) (by decide) ?_
            refine lv_istore (lv' := [(5, .int 1159), (0, .ref y), (1, .int (nI j1)), (2, .int (nI j2)), (3, .int q3), (4, .int q4)]) hx hb dX12_addRule_97 hl (by decide) rfl (fun ls hl => ?_)
            refine lv_aload_n hx hb dX12_addRule_99 rfl (lv_at hl 1 rfl) ?_
            refine va_get (D := G.1) (ci := 13) (v := .ref mm) (C := RX12) (T := TX12) (N := 27) hx hb hts hiX12 hown hK hP 0 rfl rfl 0 (by decide) (hts (.fieldLink RX12 9 "DialectDictionaryModel" "m" "[I") (by decide +kernel)) (fun _ h9 => h9) rfl dX12_addRule_100 ?_
            refine lv_iload hx hb dX12_addRule_103 (lv_at hl 0 rfl) ?_
            refine lv_aload_n hx hb dX12_addRule_105 rfl (lv_at hl 1 rfl) ?_
            refine va_get (D := G.1) (ci := 13) (v := .ref mm) (C := RX12) (T := TX12) (N := 27) hx hb hts hiX12 hown hK hP 0 rfl rfl 0 (by decide) (hts (.fieldLink RX12 9 "DialectDictionaryModel" "m" "[I") (by decide +kernel)) (fun _ h9 => h9) rfl dX12_addRule_106 ?_
            refine lv_iconst (v := 1) hx hb dX12_addRule_109 (by decide) ?_
            refine lv_iload_n hx hb dX12_addRule_110 rfl (lv_at hl 2 rfl) ?_
            refine lv_iadd hx hb dX12_addRule_111 ?_
            refine n_eqi (y := (nI (1 + j1))) (nI_add 1 j1) ?_
            refine va_iald hx hb hK hP 1 0 rfl rfl (vp_in_nI (n := (1 + j1)) (by omega) (by omega)) dX12_addRule_112 ?_
            refine n_eqi (y := (nI (97 + j1))) (n_ml hm hj1) ?_
            refine va_iast hx hb hK hP hD hS 1 0 rfl rfl (n_in (by decide)) dX12_addRule_113 (fun H locs hP hD hS => ?_)
            have hP : va_P G.1 vwCl [(y, .inr (13, [.ref mm, .ref msv, .int vS, .ref mpa, .int 1, .int 0, .int vF, .ref mio, .ref mfo, .int vL, .ref mre, .int vK, .ref mah, .int vR, .ref mrw, .ref mrr, .ref mrs, .ref mrb, .int v0, .int vZ, .int vB, .int vN, .ref mso, .ref mnu, .ref mse, .ref mbe, .ref men])), (mm, eI G 1191 (upd fm ((1159 : Int32).toNatClampNeg) (nI (97 + j1))))] H := hP
            have hD : va_D A [(y, .inr (13, [.ref mm, .ref msv, .int vS, .ref mpa, .int 1, .int 0, .int vF, .ref mio, .ref mfo, .int vL, .ref mre, .int vK, .ref mah, .int vR, .ref mrw, .ref mrr, .ref mrs, .ref mrb, .int v0, .int vZ, .int vB, .int vN, .ref mso, .ref mnu, .ref mse, .ref mbe, .ref men])), (mm, eI G 1191 (upd fm ((1159 : Int32).toNatClampNeg) (nI (97 + j1))))] := hD
            refine lv_aload_n hx hb dX12_addRule_114 rfl (lv_at hl 1 rfl) ?_
            refine va_get (D := G.1) (ci := 13) (v := .ref mm) (C := RX12) (T := TX12) (N := 27) hx hb hts hiX12 hown hK hP 0 rfl rfl 0 (by decide) (hts (.fieldLink RX12 9 "DialectDictionaryModel" "m" "[I") (by decide +kernel)) (fun _ h9 => h9) rfl dX12_addRule_115 ?_
            refine lv_iload hx hb dX12_addRule_118 (lv_at hl 0 rfl) ?_
            refine lv_iconst (v := 1) hx hb dX12_addRule_120 (by decide) ?_
            refine lv_iadd hx hb dX12_addRule_121 ?_
            refine n_eqi (y := 1160) (by decide) ?_
            refine lv_iload_n hx hb dX12_addRule_122 rfl (lv_at hl 3 rfl) ?_
            refine lv_iconst (v := -1) hx hb dX12_addRule_123 (by decide) ?_
            refine lv_icmp_ne (tgt := 131) hx hb dX12_addRule_124 (by decide) (fun _ => ?_) (fun h9 => absurd h9 c_11)
            refine lv_aload_n hx hb dX12_addRule_131 rfl (lv_at hl 1 rfl) ?_
            refine va_get (D := G.1) (ci := 13) (v := .ref mm) (C := RX12) (T := TX12) (N := 27) hx hb hts hiX12 hown hK hP 0 rfl rfl 0 (by decide) (hts (.fieldLink RX12 9 "DialectDictionaryModel" "m" "[I") (by decide +kernel)) (fun _ h9 => h9) rfl dX12_addRule_132 ?_
            refine lv_iconst (v := 1) hx hb dX12_addRule_135 (by decide) ?_
            refine lv_iload_n hx hb dX12_addRule_136 rfl (lv_at hl 3 rfl) ?_
            refine lv_iadd hx hb dX12_addRule_137 ?_
            refine n_eqi (y := (nI (1 + j2))) (nI_add 1 j2) ?_
            refine va_iald hx hb hK hP 1 0 rfl rfl (vp_in_nI (n := (1 + j2)) (by omega) (by omega)) dX12_addRule_138 ?_
            refine va_iast hx hb hK hP hD hS 1 0 rfl rfl (n_in (by decide)) dX12_addRule_139 (fun H locs hP hD hS => ?_)
            have hP : va_P G.1 vwCl [(y, .inr (13, [.ref mm, .ref msv, .int vS, .ref mpa, .int 1, .int 0, .int vF, .ref mio, .ref mfo, .int vL, .ref mre, .int vK, .ref mah, .int vR, .ref mrw, .ref mrr, .ref mrs, .ref mrb, .int v0, .int vZ, .int vB, .int vN, .ref mso, .ref mnu, .ref mse, .ref mbe, .ref men])), (mm, eI G 1191 (upd (upd fm ((1159 : Int32).toNatClampNeg) (nI (97 + j1))) ((1160 : Int32).toNatClampNeg) ((upd fm ((1159 : Int32).toNatClampNeg) (nI (97 + j1))) (((nI (1 + j2)) : Int32).toNatClampNeg))))] H := hP
            have hD : va_D A [(y, .inr (13, [.ref mm, .ref msv, .int vS, .ref mpa, .int 1, .int 0, .int vF, .ref mio, .ref mfo, .int vL, .ref mre, .int vK, .ref mah, .int vR, .ref mrw, .ref mrr, .ref mrs, .ref mrb, .int v0, .int vZ, .int vB, .int vN, .ref mso, .ref mnu, .ref mse, .ref mbe, .ref men])), (mm, eI G 1191 (upd (upd fm ((1159 : Int32).toNatClampNeg) (nI (97 + j1))) ((1160 : Int32).toNatClampNeg) ((upd fm ((1159 : Int32).toNatClampNeg) (nI (97 + j1))) (((nI (1 + j2)) : Int32).toNatClampNeg))))] := hD
            refine lv_aload_n hx hb dX12_addRule_140 rfl (lv_at hl 1 rfl) ?_
            refine va_get (D := G.1) (ci := 13) (v := .ref mm) (C := RX12) (T := TX12) (N := 27) hx hb hts hiX12 hown hK hP 0 rfl rfl 0 (by decide) (hts (.fieldLink RX12 9 "DialectDictionaryModel" "m" "[I") (by decide +kernel)) (fun _ h9 => h9) rfl dX12_addRule_141 ?_
            refine lv_iload hx hb dX12_addRule_144 (lv_at hl 0 rfl) ?_
            refine lv_iconst (v := 2) hx hb dX12_addRule_146 (by decide) ?_
            refine lv_iadd hx hb dX12_addRule_147 ?_
            refine n_eqi (y := 1161) (by decide) ?_
            refine lv_iload_n hx hb dX12_addRule_148 rfl (lv_at hl 4 rfl) ?_
            refine va_iast hx hb hK hP hD hS 1 0 rfl rfl (n_in (by decide)) dX12_addRule_149 (fun H locs hP hD hS => ?_)
            have hP : va_P G.1 vwCl [(y, .inr (13, [.ref mm, .ref msv, .int vS, .ref mpa, .int 1, .int 0, .int vF, .ref mio, .ref mfo, .int vL, .ref mre, .int vK, .ref mah, .int vR, .ref mrw, .ref mrr, .ref mrs, .ref mrb, .int v0, .int vZ, .int vB, .int vN, .ref mso, .ref mnu, .ref mse, .ref mbe, .ref men])), (mm, eI G 1191 (upd (upd (upd fm ((1159 : Int32).toNatClampNeg) (nI (97 + j1))) ((1160 : Int32).toNatClampNeg) ((upd fm ((1159 : Int32).toNatClampNeg) (nI (97 + j1))) (((nI (1 + j2)) : Int32).toNatClampNeg))) ((1161 : Int32).toNatClampNeg) q3))] H := hP
            have hD : va_D A [(y, .inr (13, [.ref mm, .ref msv, .int vS, .ref mpa, .int 1, .int 0, .int vF, .ref mio, .ref mfo, .int vL, .ref mre, .int vK, .ref mah, .int vR, .ref mrw, .ref mrr, .ref mrs, .ref mrb, .int v0, .int vZ, .int vB, .int vN, .ref mso, .ref mnu, .ref mse, .ref mbe, .ref men])), (mm, eI G 1191 (upd (upd (upd fm ((1159 : Int32).toNatClampNeg) (nI (97 + j1))) ((1160 : Int32).toNatClampNeg) ((upd fm ((1159 : Int32).toNatClampNeg) (nI (97 + j1))) (((nI (1 + j2)) : Int32).toNatClampNeg))) ((1161 : Int32).toNatClampNeg) q3))] := hD
            refine lv_aload_n hx hb dX12_addRule_150 rfl (lv_at hl 1 rfl) ?_
            refine va_get (D := G.1) (ci := 13) (v := .ref mm) (C := RX12) (T := TX12) (N := 27) hx hb hts hiX12 hown hK hP 0 rfl rfl 0 (by decide) (hts (.fieldLink RX12 9 "DialectDictionaryModel" "m" "[I") (by decide +kernel)) (fun _ h9 => h9) rfl dX12_addRule_151 ?_
            refine lv_iload hx hb dX12_addRule_154 (lv_at hl 0 rfl) ?_
            refine lv_iconst (v := 3) hx hb dX12_addRule_156 (by decide) ?_
            refine lv_iadd hx hb dX12_addRule_157 ?_
            refine n_eqi (y := 1162) (by decide) ?_
            refine lv_iload hx hb dX12_addRule_158 (lv_at hl 5 rfl) ?_
            refine va_iast hx hb hK hP hD hS 1 0 rfl rfl (n_in (by decide)) dX12_addRule_160 (fun H locs hP hD hS => ?_)
            have hP : va_P G.1 vwCl [(y, .inr (13, [.ref mm, .ref msv, .int vS, .ref mpa, .int 1, .int 0, .int vF, .ref mio, .ref mfo, .int vL, .ref mre, .int vK, .ref mah, .int vR, .ref mrw, .ref mrr, .ref mrs, .ref mrb, .int v0, .int vZ, .int vB, .int vN, .ref mso, .ref mnu, .ref mse, .ref mbe, .ref men])), (mm, eI G 1191 (upd (upd (upd (upd fm ((1159 : Int32).toNatClampNeg) (nI (97 + j1))) ((1160 : Int32).toNatClampNeg) ((upd fm ((1159 : Int32).toNatClampNeg) (nI (97 + j1))) (((nI (1 + j2)) : Int32).toNatClampNeg))) ((1161 : Int32).toNatClampNeg) q3) ((1162 : Int32).toNatClampNeg) q4))] H := hP
            have hD : va_D A [(y, .inr (13, [.ref mm, .ref msv, .int vS, .ref mpa, .int 1, .int 0, .int vF, .ref mio, .ref mfo, .int vL, .ref mre, .int vK, .ref mah, .int vR, .ref mrw, .ref mrr, .ref mrs, .ref mrb, .int v0, .int vZ, .int vB, .int vN, .ref mso, .ref mnu, .ref mse, .ref mbe, .ref men])), (mm, eI G 1191 (upd (upd (upd (upd fm ((1159 : Int32).toNatClampNeg) (nI (97 + j1))) ((1160 : Int32).toNatClampNeg) ((upd fm ((1159 : Int32).toNatClampNeg) (nI (97 + j1))) (((nI (1 + j2)) : Int32).toNatClampNeg))) ((1161 : Int32).toNatClampNeg) q3) ((1162 : Int32).toNatClampNeg) q4))] := hD
            refine lv_aload_n hx hb dX12_addRule_161 rfl (lv_at hl 1 rfl) ?_
            refine va_get (D := G.1) (ci := 13) (v := .ref mm) (C := RX12) (T := TX12) (N := 27) hx hb hts hiX12 hown hK hP 0 rfl rfl 0 (by decide) (hts (.fieldLink RX12 9 "DialectDictionaryModel" "m" "[I") (by decide +kernel)) (fun _ h9 => h9) rfl dX12_addRule_162 ?_
            refine lv_sipush (v := 1158) hx hb dX12_addRule_165 (by decide) ?_
            refine lv_dup2_11 hx hb dX12_addRule_168 rfl rfl ?_
            refine va_iald hx hb hK hP 1 0 rfl rfl (n_in (by decide)) dX12_addRule_169 ?_
            refine n_eqi (y := 0) (by rw [pk_un (by decide), pk_un (by decide), pk_un (by decide), pk_un (by decide)]; exact hm.2.2.2) ?_
            refine lv_iconst (v := 1) hx hb dX12_addRule_170 (by decide) ?_
            refine lv_iadd hx hb dX12_addRule_171 ?_
            refine n_eqi (y := 1) (by decide) ?_
            refine va_iast hx hb hK hP hD hS 1 0 rfl rfl (n_in (by decide)) dX12_addRule_172 (fun H locs hP hD hS => ?_)
            have hP : va_P G.1 vwCl [(y, .inr (13, [.ref mm, .ref msv, .int vS, .ref mpa, .int 1, .int 0, .int vF, .ref mio, .ref mfo, .int vL, .ref mre, .int vK, .ref mah, .int vR, .ref mrw, .ref mrr, .ref mrs, .ref mrb, .int v0, .int vZ, .int vB, .int vN, .ref mso, .ref mnu, .ref mse, .ref mbe, .ref men])), (mm, eI G 1191 (upd (upd (upd (upd (upd fm ((1159 : Int32).toNatClampNeg) (nI (97 + j1))) ((1160 : Int32).toNatClampNeg) ((upd fm ((1159 : Int32).toNatClampNeg) (nI (97 + j1))) (((nI (1 + j2)) : Int32).toNatClampNeg))) ((1161 : Int32).toNatClampNeg) q3) ((1162 : Int32).toNatClampNeg) q4) ((1158 : Int32).toNatClampNeg) 1))] H := hP
            have hD : va_D A [(y, .inr (13, [.ref mm, .ref msv, .int vS, .ref mpa, .int 1, .int 0, .int vF, .ref mio, .ref mfo, .int vL, .ref mre, .int vK, .ref mah, .int vR, .ref mrw, .ref mrr, .ref mrs, .ref mrb, .int v0, .int vZ, .int vB, .int vN, .ref mso, .ref mnu, .ref mse, .ref mbe, .ref men])), (mm, eI G 1191 (upd (upd (upd (upd (upd fm ((1159 : Int32).toNatClampNeg) (nI (97 + j1))) ((1160 : Int32).toNatClampNeg) ((upd fm ((1159 : Int32).toNatClampNeg) (nI (97 + j1))) (((nI (1 + j2)) : Int32).toNatClampNeg))) ((1161 : Int32).toNatClampNeg) q3) ((1162 : Int32).toNatClampNeg) q4) ((1158 : Int32).toNatClampNeg) 1))] := hD
            refine lv_aload_n hx hb dX12_addRule_173 rfl (lv_at hl 1 rfl) ?_
            refine va_get (D := G.1) (ci := 13) (v := .ref mm) (C := RX12) (T := TX12) (N := 27) hx hb hts hiX12 hown hK hP 0 rfl rfl 0 (by decide) (hts (.fieldLink RX12 9 "DialectDictionaryModel" "m" "[I") (by decide +kernel)) (fun _ h9 => h9) rfl dX12_addRule_174 ?_
            refine lv_sipush (v := 1158) hx hb dX12_addRule_177 (by decide) ?_
            refine va_iald hx hb hK hP 1 0 rfl rfl (n_in (by decide)) dX12_addRule_180 ?_
            refine n_eqi (y := 1) pk_us ?_
            refine lv_iconst (v := 1) hx hb dX12_addRule_181 (by decide) ?_
            refine lv_isub hx hb dX12_addRule_182 ?_
            refine n_eqi (y := 0) (by decide) ?_
            have hP9 := n_Psub (wc := [(y, .inr (13, [.ref mm, .ref msv, .int vS, .ref mpa, .int 1, .int 0, .int vF, .ref mio, .ref mfo, .int vL, .ref mre, .int vK, .ref mah, .int vR, .ref mrw, .ref mrr, .ref mrs, .ref mrb, .int v0, .int vZ, .int vB, .int vN, .ref mso, .ref mnu, .ref mse, .ref mbe, .ref men]))]) hP [0] rfl
            have hD9 := hD.sub (ws' := [(y, .inr (13, [.ref mm, .ref msv, .int vS, .ref mpa, .int 1, .int 0, .int vF, .ref mio, .ref mfo, .int vL, .ref mre, .int vK, .ref mah, .int vR, .ref mrw, .ref mrr, .ref mrs, .ref mrb, .int v0, .int vZ, .int vB, .int vN, .ref mso, .ref mnu, .ref mse, .ref mbe, .ref men]))]) [0] (by decide) rfl
            refine W.widen (k := 0) (n := 0) (Nat.le_of_ble_eq_true rfl) (Nat.le_of_ble_eq_true rfl) ?_
            exact W.iret (v := 0) hx hb hr (fun t ht hW => ⟨⟨0, (0, 1), rfl, ⟨by rw [nkR, if_pos (nhp_in26 hj1), if_neg c_11, if_pos (nhp_in26 hj2), if_neg c_32, if_neg c_42], fun _ => rfl⟩, by rw [ht]; exact hP9, va_K.moved hW.alike hK, hD9⟩, hS.F ht⟩) hS.2.2 dX12_addRule_183
          · skip
            refine lv_iconst (v := 2) hx hb dX12_addRule_45 (by decide) ?_
            refine lv_goto (tgt := 67) hx hb dX12_addRule_46 (by decide) ?_
            refine va_put (D := G.1) (ci := 13) (v := .int 2) (ty := .int) (C := RX12) (T := TX12) (N := 27) hx hb hts hiX12 tyX12 tyX12_ok nmX12 hown hK hP hD hS 1 rfl rfl 5 (by decide) (hts (.fieldLink RX12 62 "DialectDictionaryModel" "thrown" "I") (by decide +kernel)) (fun _ h9 => h9) rfl (by decide +kernel) rfl rfl (Nat.le_of_ble_eq_true rfl) dX12_addRule_67 (fun H locs hP hD hS => ?_)
            have hP : va_P G.1 vwCl [(mpa, eI G 9528 fp), (y, .inr (13, [.ref mm, .ref msv, .int vS, .ref mpa, .int 0, .int 2, .int vF, .ref mio, .ref mfo, .int vL, .ref mre, .int vK, .ref mah, .int vR, .ref mrw, .ref mrr, .ref mrs, .ref mrb, .int v0, .int vZ, .int vB, .int vN, .ref mso, .ref mnu, .ref mse, .ref mbe, .ref men])), (mm, eI G 1191 fm)] H := hP
            have hD : va_D A [(mpa, eI G 9528 fp), (y, .inr (13, [.ref mm, .ref msv, .int vS, .ref mpa, .int 0, .int 2, .int vF, .ref mio, .ref mfo, .int vL, .ref mre, .int vK, .ref mah, .int vR, .ref mrw, .ref mrr, .ref mrs, .ref mrb, .int v0, .int vZ, .int vB, .int vN, .ref mso, .ref mnu, .ref mse, .ref mbe, .ref men])), (mm, eI G 1191 fm)] := hD
            refine lv_aload_n hx hb dX12_addRule_70 rfl (lv_at hl 0 rfl) ?_
            refine va_get (D := G.1) (ci := 13) (v := .int 2) (C := RX12) (T := TX12) (N := 27) hx hb hts hiX12 hown hK hP 1 rfl rfl 5 (by decide) (hts (.fieldLink RX12 62 "DialectDictionaryModel" "thrown" "I") (by decide +kernel)) (fun _ h9 => h9) rfl dX12_addRule_71 ?_
            refine lv_if_le (tgt := 79) hx hb dX12_addRule_74 (by decide) (fun h9 => absurd h9 (by decide)) (fun _ => ?_)
            refine lv_iconst (v := 0) hx hb dX12_addRule_77 (by decide) ?_
            have hP9 := n_Psub (wc := [(y, .inr (13, [.ref mm, .ref msv, .int vS, .ref mpa, .int 0, .int 2, .int vF, .ref mio, .ref mfo, .int vL, .ref mre, .int vK, .ref mah, .int vR, .ref mrw, .ref mrr, .ref mrs, .ref mrb, .int v0, .int vZ, .int vB, .int vN, .ref mso, .ref mnu, .ref mse, .ref mbe, .ref men]))]) hP [1] rfl
            have hD9 := hD.sub (ws' := [(y, .inr (13, [.ref mm, .ref msv, .int vS, .ref mpa, .int 0, .int 2, .int vF, .ref mio, .ref mfo, .int vL, .ref mre, .int vK, .ref mah, .int vR, .ref mrw, .ref mrr, .ref mrs, .ref mrb, .int v0, .int vZ, .int vB, .int vN, .ref mso, .ref mnu, .ref mse, .ref mbe, .ref men]))]) [1] (by decide) rfl
            refine W.widen (k := 0) (n := 0) (Nat.le_of_ble_eq_true rfl) (Nat.le_of_ble_eq_true rfl) ?_
            exact W.iret (v := 0) hx hb hr (fun t ht hW => ⟨⟨0, (2, 0), rfl, ⟨by rw [nkR, if_pos (nhp_1 c_6), if_neg c_11, if_pos (nhp_1 c_19), if_neg c_32, if_pos c_42], fun h9 => absurd h9 (by decide)⟩, by rw [ht]; exact hP9, va_K.moved hW.alike hK, hD9⟩, hS.F ht⟩) hS.2.2 dX12_addRule_78
      · skip
        refine lv_iconst (v := 1) hx hb dX12_addRule_22 (by decide) ?_
        refine lv_goto (tgt := 67) hx hb dX12_addRule_23 (by decide) ?_
        refine va_put (D := G.1) (ci := 13) (v := .int 1) (ty := .int) (C := RX12) (T := TX12) (N := 27) hx hb hts hiX12 tyX12 tyX12_ok nmX12 hown hK hP hD hS 1 rfl rfl 5 (by decide) (hts (.fieldLink RX12 62 "DialectDictionaryModel" "thrown" "I") (by decide +kernel)) (fun _ h9 => h9) rfl (by decide +kernel) rfl rfl (Nat.le_of_ble_eq_true rfl) dX12_addRule_67 (fun H locs hP hD hS => ?_)
        have hP : va_P G.1 vwCl [(mpa, eI G 9528 fp), (y, .inr (13, [.ref mm, .ref msv, .int vS, .ref mpa, .int 0, .int 1, .int vF, .ref mio, .ref mfo, .int vL, .ref mre, .int vK, .ref mah, .int vR, .ref mrw, .ref mrr, .ref mrs, .ref mrb, .int v0, .int vZ, .int vB, .int vN, .ref mso, .ref mnu, .ref mse, .ref mbe, .ref men])), (mm, eI G 1191 fm)] H := hP
        have hD : va_D A [(mpa, eI G 9528 fp), (y, .inr (13, [.ref mm, .ref msv, .int vS, .ref mpa, .int 0, .int 1, .int vF, .ref mio, .ref mfo, .int vL, .ref mre, .int vK, .ref mah, .int vR, .ref mrw, .ref mrr, .ref mrs, .ref mrb, .int v0, .int vZ, .int vB, .int vN, .ref mso, .ref mnu, .ref mse, .ref mbe, .ref men])), (mm, eI G 1191 fm)] := hD
        refine lv_aload_n hx hb dX12_addRule_70 rfl (lv_at hl 0 rfl) ?_
        refine va_get (D := G.1) (ci := 13) (v := .int 1) (C := RX12) (T := TX12) (N := 27) hx hb hts hiX12 hown hK hP 1 rfl rfl 5 (by decide) (hts (.fieldLink RX12 62 "DialectDictionaryModel" "thrown" "I") (by decide +kernel)) (fun _ h9 => h9) rfl dX12_addRule_71 ?_
        refine lv_if_le (tgt := 79) hx hb dX12_addRule_74 (by decide) (fun h9 => absurd h9 (by decide)) (fun _ => ?_)
        refine lv_iconst (v := 0) hx hb dX12_addRule_77 (by decide) ?_
        have hP9 := n_Psub (wc := [(y, .inr (13, [.ref mm, .ref msv, .int vS, .ref mpa, .int 0, .int 1, .int vF, .ref mio, .ref mfo, .int vL, .ref mre, .int vK, .ref mah, .int vR, .ref mrw, .ref mrr, .ref mrs, .ref mrb, .int v0, .int vZ, .int vB, .int vN, .ref mso, .ref mnu, .ref mse, .ref mbe, .ref men]))]) hP [1] rfl
        have hD9 := hD.sub (ws' := [(y, .inr (13, [.ref mm, .ref msv, .int vS, .ref mpa, .int 0, .int 1, .int vF, .ref mio, .ref mfo, .int vL, .ref mre, .int vK, .ref mah, .int vR, .ref mrw, .ref mrr, .ref mrs, .ref mrb, .int v0, .int vZ, .int vB, .int vN, .ref mso, .ref mnu, .ref mse, .ref mbe, .ref men]))]) [1] (by decide) rfl
        refine W.widen (k := 0) (n := 0) (Nat.le_of_ble_eq_true rfl) (Nat.le_of_ble_eq_true rfl) ?_
        exact W.iret (v := 0) hx hb hr (fun t ht hW => ⟨⟨0, (1, 0), rfl, ⟨by rw [nkR, if_pos (nhp_1 c_6), if_neg c_11, if_neg (nhp_no c_19)], fun h9 => absurd h9 (by decide)⟩, by rw [ht]; exact hP9, va_K.moved hW.alike hK, hD9⟩, hS.F ht⟩) hS.2.2 dX12_addRule_78

set_option maxHeartbeats 4000000 in
set_option maxRecDepth 100000 in
theorem mX12_account (l : Launch) (G : nG) (y : Nat) (mm : Nat) (msv : Nat) (mpa : Nat) (mio : Nat) (mfo : Nat) (mre : Nat) (mah : Nat) (mrw : Nat) (mrr : Nat) (mrs : Nat) (mrb : Nat) (mso : Nat) (mnu : Nat) (mse : Nat) (mbe : Nat) (men : Nat) (vS : Int32) (vC : Int32) (vT : Int32) (vL : Int32) (vK : Int32) (vR : Int32) (v0 : Int32) (vZ : Int32) (vB : Int32) (vN : Int32) (fm : Nat → Int32) (w : Int32) (sz : Nat) (hm : nMod fm) : Met l yX12_account wsX12_account ({ frames := 2, cells := 0, slots := 0, locals := 46 }) (va_Pc [.ref y, .int w] (n_pp G [(y, .inr (13, [.ref mm, .ref msv, .int vS, .ref mpa, .int vC, .int vT, .int 0, .ref mio, .ref mfo, .int vL, .ref mre, .int vK, .ref mah, .int vR, .ref mrw, .ref mrr, .ref mrs, .ref mrb, .int v0, .int vZ, .int vB, .int vN, .ref mso, .ref mnu, .ref mse, .ref mbe, .ref men])), (mm, eI G 1191 fm)] sz)) (va_Qi (fun (r : Int32) (k_9 : Int32) => (k_9 = nkC w ∧ (k_9 = 0 → r = nvC w))) (fun (k_9 : Int32) (t : State) => n_po G (va_A [(y, .inr (13, [.ref mm, .ref msv, .int vS, .ref mpa, .int vC, .int vT, .int 0, .ref mio, .ref mfo, .int vL, .ref mre, .int vK, .ref mah, .int vR, .ref mrw, .ref mrr, .ref mrs, .ref mrb, .int v0, .int vZ, .int vB, .int vN, .ref mso, .ref mnu, .ref mse, .ref mbe, .ref men])), (mm, eI G 1191 fm)] sz) [(y, .inr (13, [.ref mm, .ref msv, .int vS, .ref mpa, .int vC, .int k_9, .int 0, .ref mio, .ref mfo, .int vL, .ref mre, .int vK, .ref mah, .int vR, .ref mrw, .ref mrr, .ref mrs, .ref mrb, .int v0, .int vZ, .int vB, .int vN, .ref mso, .ref mnu, .ref mse, .ref mbe, .ref men]))] t) (va_A [(y, .inr (13, [.ref mm, .ref msv, .int vS, .ref mpa, .int vC, .int vT, .int 0, .ref mio, .ref mfo, .int vL, .ref mre, .int vK, .ref mah, .int vR, .ref mrw, .ref mrr, .ref mrs, .ref mrb, .int v0, .int vZ, .int vB, .int vN, .ref mso, .ref mnu, .ref mse, .ref mbe, .ref men])), (mm, eI G 1191 fm)] sz)) 0 0 (va_A [(y, .inr (13, [.ref mm, .ref msv, .int vS, .ref mpa, .int vC, .int vT, .int 0, .ref mio, .ref mfo, .int vL, .ref mre, .int vK, .ref mah, .int vR, .ref mrw, .ref mrr, .ref mrs, .ref mrb, .int v0, .int vZ, .int vB, .int vN, .ref mso, .ref mnu, .ref mse, .ref mbe, .ref men])), (mm, eI G 1191 fm)] sz) := by
  refine Met.ofW (cc := cX12_account) (maxL := 2) (ret := (some .int)) (by decide) rfl ?_
  intro p e s m args below meth c s₁ B hml hv
  obtain ⟨rfl, hsz, hP, hK, hD0⟩ := hv
  have hx := B.exec
  have hb := B.bytes
  have hr := B.returns
  have hts := atoms_spec (ws := wsX12_account) B.pre
  have hown : s.vm.findClass RX12 = some m.cls := findClass_of_methodNamed B.named
  have hlocks := B.notSynchronized
  subst hsz
  have hD := hD0.self (sz := s.heap.size)
  generalize hAe : va_A [(y, .inr (13, [.ref mm, .ref msv, .int vS, .ref mpa, .int vC, .int vT, .int 0, .ref mio, .ref mfo, .int vL, .ref mre, .int vK, .ref mah, .int vR, .ref mrw, .ref mrr, .ref mrs, .ref mrb, .int v0, .int vZ, .int vB, .int vN, .ref mso, .ref mnu, .ref mse, .ref mbe, .ref men])), (mm, eI G 1191 fm)] s.heap.size = A at hD ⊢
  have hA : ∀ q : Nat, s.heap.size ≤ q → A q := fun q h => by rw [← hAe]; exact Or.inr h
  have hS : va_S A s.heap s.heap [] := va_S.rf
  have hP : va_P G.1 vwCl [(y, .inr (13, [.ref mm, .ref msv, .int vS, .ref mpa, .int vC, .int vT, .int 0, .ref mio, .ref mfo, .int vL, .ref mre, .int vK, .ref mah, .int vR, .ref mrw, .ref mrr, .ref mrs, .ref mrb, .int v0, .int vZ, .int vB, .int vN, .ref mso, .ref mnu, .ref mse, .ref mbe, .ref men])), (mm, eI G 1191 fm)] s.heap := hP
  have hl := lv_entry ([.ref y, .int w]) (n := 2) (Nat.le_of_ble_eq_true rfl)
  rw [lg_entry_eq]
  generalize (lg_sl ([.ref y, .int w]) ++ List.replicate (2 - (lg_sl ([.ref y, .int w])).length) Slot.unset).toArray = ls at hl ⊢
  have hl : lv_has ls 2 [(0, .ref y), (1, .int w)] := hl
  obtain ⟨H, hH⟩ : ∃ z, z = s.heap := ⟨_, rfl⟩
  have hS : va_S A s.heap H [] := by rw [hH]; exact hS
  have hP : va_P G.1 vwCl [(y, .inr (13, [.ref mm, .ref msv, .int vS, .ref mpa, .int vC, .int vT, .int 0, .ref mio, .ref mfo, .int vL, .ref mre, .int vK, .ref mah, .int vR, .ref mrw, .ref mrr, .ref mrs, .ref mrb, .int v0, .int vZ, .int vB, .int vN, .ref mso, .ref mnu, .ref mse, .ref mbe, .ref men])), (mm, eI G 1191 fm)] H := by rw [hH]; exact hP
  refine n_heap hH ?_
  generalize ([] : List Loc) = locs at hS ⊢
  have hiX12 : ∀ w ∈ u_ws RX12 TX12 27, w ∈ wsX12_account := by decide +kernel
  refine lv_aload_n hx hb dX12_account_0 rfl (lv_at hl 0 rfl) ?_
  refine lv_iconst (v := 0) hx hb dX12_account_1 (by decide) ?_
  refine va_put (D := G.1) (ci := 13) (v := .int 0) (ty := .int) (C := RX12) (T := TX12) (N := 27) hx hb hts hiX12 tyX12 tyX12_ok nmX12 hown hK hP hD hS 0 rfl rfl 5 (by decide) (hts (.fieldLink RX12 62 "DialectDictionaryModel" "thrown" "I") (by decide +kernel)) (fun _ h9 => h9) rfl (by decide +kernel) rfl rfl (Nat.le_of_ble_eq_true rfl) dX12_account_2 (fun H locs hP hD hS => ?_)
  have hP : va_P G.1 vwCl [(y, .inr (13, [.ref mm, .ref msv, .int vS, .ref mpa, .int vC, .int 0, .int 0, .ref mio, .ref mfo, .int vL, .ref mre, .int vK, .ref mah, .int vR, .ref mrw, .ref mrr, .ref mrs, .ref mrb, .int v0, .int vZ, .int vB, .int vN, .ref mso, .ref mnu, .ref mse, .ref mbe, .ref men])), (mm, eI G 1191 fm)] H := hP
  have hD : va_D A [(y, .inr (13, [.ref mm, .ref msv, .int vS, .ref mpa, .int vC, .int 0, .int 0, .ref mio, .ref mfo, .int vL, .ref mre, .int vK, .ref mah, .int vR, .ref mrw, .ref mrr, .ref mrs, .ref mrb, .int v0, .int vZ, .int vB, .int vN, .ref mso, .ref mnu, .ref mse, .ref mbe, .ref men])), (mm, eI G 1191 fm)] := hD
  refine lv_iload_n hx hb dX12_account_5 rfl (lv_at hl 1 rfl) ?_
  by_cases hlo : w.toInt < 0
  · skip
    refine lv_tableOut (tgt := 110) hx hb dX12_account_6 (Or.inl hlo) (by decide) ?_
    refine lv_aload_n hx hb dX12_account_110 rfl (lv_at hl 0 rfl) ?_
    refine lv_iconst (v := 1) hx hb dX12_account_111 (by decide) ?_
    refine n_ci (wr := [(mm, eI G 1191 fm)]) (va_runV (As := [.int 1]) (rest := []) ⟨hx, hb, hml, hown, hts⟩ (mX12_refuse l G y mm msv mpa mio mfo mre mah mrw mrr mrs mrb mso mnu mse mbe men vS vC 0 0 vL vK vR v0 vZ vB vN 1 H.size) (cwV 1 hts gX12_account_X12_refuse rfl rfl rfl (by decide +kernel) ⟨(Nat.le_of_ble_eq_true rfl), (Nat.le_of_ble_eq_true rfl)⟩) (n_prV (ci := 13) (q0 := 0) hK hP hD [0] rfl (by decide) rfl rfl) rfl rfl hl.1 rfl (lv_room (Nat.le_of_ble_eq_true rfl)) dX12_account_112 ⟨(Nat.le_of_ble_eq_true rfl), (Nat.le_of_ble_eq_true rfl)⟩) hP hD hS hA [0] [1] rfl rfl (by decide) (by decide) (fun r_1 u_2 H locs hP hD hS hw => ?_)
    have hP : va_P G.1 vwCl [(mm, eI G 1191 fm), (y, .inr (13, [.ref mm, .ref msv, .int vS, .ref mpa, .int vC, .int 1, .int 0, .ref mio, .ref mfo, .int vL, .ref mre, .int vK, .ref mah, .int vR, .ref mrw, .ref mrr, .ref mrs, .ref mrb, .int v0, .int vZ, .int vB, .int vN, .ref mso, .ref mnu, .ref mse, .ref mbe, .ref men]))] H := hP
    have hD : va_D A [(mm, eI G 1191 fm), (y, .inr (13, [.ref mm, .ref msv, .int vS, .ref mpa, .int vC, .int 1, .int 0, .ref mio, .ref mfo, .int vL, .ref mre, .int vK, .ref mah, .int vR, .ref mrw, .ref mrr, .ref mrs, .ref mrb, .int v0, .int vZ, .int vB, .int vN, .ref mso, .ref mnu, .ref mse, .ref mbe, .ref men]))] := hD
    have hw : r_1 = 0 := hw
    subst hw
    have hP9 := n_Psub (wc := [(y, .inr (13, [.ref mm, .ref msv, .int vS, .ref mpa, .int vC, .int 1, .int 0, .ref mio, .ref mfo, .int vL, .ref mre, .int vK, .ref mah, .int vR, .ref mrw, .ref mrr, .ref mrs, .ref mrb, .int v0, .int vZ, .int vB, .int vN, .ref mso, .ref mnu, .ref mse, .ref mbe, .ref men]))]) hP [1] rfl
    have hD9 := hD.sub (ws' := [(y, .inr (13, [.ref mm, .ref msv, .int vS, .ref mpa, .int vC, .int 1, .int 0, .ref mio, .ref mfo, .int vL, .ref mre, .int vK, .ref mah, .int vR, .ref mrw, .ref mrr, .ref mrs, .ref mrb, .int v0, .int vZ, .int vB, .int vN, .ref mso, .ref mnu, .ref mse, .ref mbe, .ref men]))]) [1] (by decide) rfl
    refine W.widen (k := 0) (n := 0) (Nat.le_of_ble_eq_true rfl) (Nat.le_of_ble_eq_true rfl) ?_
    exact W.iret (v := 0) hx hb hr (fun t ht hW => ⟨⟨0, 1, rfl, ⟨(nkC_lo hlo).symm, fun h9 => absurd h9 (by decide)⟩, by rw [ht]; exact hP9, va_K.moved hW.alike hK, hD9⟩, hS.F ht⟩) hS.2.2 dX12_account_115
  by_cases hhi : 8 < w.toInt
  · skip
    refine lv_tableOut (tgt := 110) hx hb dX12_account_6 (Or.inr hhi) (by decide) ?_
    refine lv_aload_n hx hb dX12_account_110 rfl (lv_at hl 0 rfl) ?_
    refine lv_iconst (v := 1) hx hb dX12_account_111 (by decide) ?_
    refine n_ci (wr := [(mm, eI G 1191 fm)]) (va_runV (As := [.int 1]) (rest := []) ⟨hx, hb, hml, hown, hts⟩ (mX12_refuse l G y mm msv mpa mio mfo mre mah mrw mrr mrs mrb mso mnu mse mbe men vS vC 0 0 vL vK vR v0 vZ vB vN 1 H.size) (cwV 1 hts gX12_account_X12_refuse rfl rfl rfl (by decide +kernel) ⟨(Nat.le_of_ble_eq_true rfl), (Nat.le_of_ble_eq_true rfl)⟩) (n_prV (ci := 13) (q0 := 0) hK hP hD [0] rfl (by decide) rfl rfl) rfl rfl hl.1 rfl (lv_room (Nat.le_of_ble_eq_true rfl)) dX12_account_112 ⟨(Nat.le_of_ble_eq_true rfl), (Nat.le_of_ble_eq_true rfl)⟩) hP hD hS hA [0] [1] rfl rfl (by decide) (by decide) (fun r_3 u_4 H locs hP hD hS hw => ?_)
    have hP : va_P G.1 vwCl [(mm, eI G 1191 fm), (y, .inr (13, [.ref mm, .ref msv, .int vS, .ref mpa, .int vC, .int 1, .int 0, .ref mio, .ref mfo, .int vL, .ref mre, .int vK, .ref mah, .int vR, .ref mrw, .ref mrr, .ref mrs, .ref mrb, .int v0, .int vZ, .int vB, .int vN, .ref mso, .ref mnu, .ref mse, .ref mbe, .ref men]))] H := hP
    have hD : va_D A [(mm, eI G 1191 fm), (y, .inr (13, [.ref mm, .ref msv, .int vS, .ref mpa, .int vC, .int 1, .int 0, .ref mio, .ref mfo, .int vL, .ref mre, .int vK, .ref mah, .int vR, .ref mrw, .ref mrr, .ref mrs, .ref mrb, .int v0, .int vZ, .int vB, .int vN, .ref mso, .ref mnu, .ref mse, .ref mbe, .ref men]))] := hD
    have hw : r_3 = 0 := hw
    subst hw
    have hP9 := n_Psub (wc := [(y, .inr (13, [.ref mm, .ref msv, .int vS, .ref mpa, .int vC, .int 1, .int 0, .ref mio, .ref mfo, .int vL, .ref mre, .int vK, .ref mah, .int vR, .ref mrw, .ref mrr, .ref mrs, .ref mrb, .int v0, .int vZ, .int vB, .int vN, .ref mso, .ref mnu, .ref mse, .ref mbe, .ref men]))]) hP [1] rfl
    have hD9 := hD.sub (ws' := [(y, .inr (13, [.ref mm, .ref msv, .int vS, .ref mpa, .int vC, .int 1, .int 0, .ref mio, .ref mfo, .int vL, .ref mre, .int vK, .ref mah, .int vR, .ref mrw, .ref mrr, .ref mrs, .ref mrb, .int v0, .int vZ, .int vB, .int vN, .ref mso, .ref mnu, .ref mse, .ref mbe, .ref men]))]) [1] (by decide) rfl
    refine W.widen (k := 0) (n := 0) (Nat.le_of_ble_eq_true rfl) (Nat.le_of_ble_eq_true rfl) ?_
    exact W.iret (v := 0) hx hb hr (fun t ht hW => ⟨⟨0, 1, rfl, ⟨(nkC_hi hhi).symm, fun h9 => absurd h9 (by decide)⟩, by rw [ht]; exact hP9, va_K.moved hW.alike hK, hD9⟩, hS.F ht⟩) hS.2.2 dX12_account_115
  rcases n_sw8 w hlo hhi with rfl | rfl | rfl | rfl | rfl | rfl | rfl | rfl | rfl
  · skip
    refine lv_tableIn (off := 50) (tgt := 56) hx hb dX12_account_6 (by decide) (by decide) rfl (by decide) ?_
    refine lv_aload_n hx hb dX12_account_56 rfl (lv_at hl 0 rfl) ?_
    refine va_get (D := G.1) (ci := 13) (v := .ref mm) (C := RX12) (T := TX12) (N := 27) hx hb hts hiX12 hown hK hP 0 rfl rfl 0 (by decide) (hts (.fieldLink RX12 9 "DialectDictionaryModel" "m" "[I") (by decide +kernel)) (fun _ h9 => h9) rfl dX12_account_57 ?_
    refine lv_bipush (v := 37) hx hb dX12_account_60 (by decide) ?_
    refine va_iald hx hb hK hP 1 0 rfl rfl (n_in (by decide)) dX12_account_62 ?_
    refine n_eqi (y := 0) hm.2.2.1 ?_
    have hP9 := n_Psub (wc := [(y, .inr (13, [.ref mm, .ref msv, .int vS, .ref mpa, .int vC, .int 0, .int 0, .ref mio, .ref mfo, .int vL, .ref mre, .int vK, .ref mah, .int vR, .ref mrw, .ref mrr, .ref mrs, .ref mrb, .int v0, .int vZ, .int vB, .int vN, .ref mso, .ref mnu, .ref mse, .ref mbe, .ref men]))]) hP [0] rfl
    have hD9 := hD.sub (ws' := [(y, .inr (13, [.ref mm, .ref msv, .int vS, .ref mpa, .int vC, .int 0, .int 0, .ref mio, .ref mfo, .int vL, .ref mre, .int vK, .ref mah, .int vR, .ref mrw, .ref mrr, .ref mrs, .ref mrb, .int v0, .int vZ, .int vB, .int vN, .ref mso, .ref mnu, .ref mse, .ref mbe, .ref men]))]) [0] (by decide) rfl
    refine W.widen (k := 0) (n := 0) (Nat.le_of_ble_eq_true rfl) (Nat.le_of_ble_eq_true rfl) ?_
    exact W.iret (v := 0) hx hb hr (fun t ht hW => ⟨⟨0, 0, rfl, ⟨by decide, fun _ => by decide⟩, by rw [ht]; exact hP9, va_K.moved hW.alike hK, hD9⟩, hS.F ht⟩) hS.2.2 dX12_account_63
  · skip
    refine lv_tableIn (off := 58) (tgt := 64) hx hb dX12_account_6 (by decide) (by decide) rfl (by decide) ?_
    refine lv_aload_n hx hb dX12_account_64 rfl (lv_at hl 0 rfl) ?_
    refine n_ci (wr := []) (va_runV (As := []) (rest := []) ⟨hx, hb, hml, hown, hts⟩ (mX12_allForms l G y mm msv mpa mio mfo mre mah mrw mrr mrs mrb mso mnu mse mbe men vS vC 0 0 vL vK vR v0 vZ vB vN fm H.size hm) (cwV 0 hts gX12_account_X12_allForms rfl rfl rfl (by decide +kernel) ⟨(Nat.le_of_ble_eq_true rfl), (Nat.le_of_ble_eq_true rfl)⟩) (n_prV (ci := 13) (q0 := 0) hK hP hD [0, 1] rfl (by decide) rfl rfl) rfl rfl hl.1 rfl (lv_room (Nat.le_of_ble_eq_true rfl)) dX12_account_65 ⟨(Nat.le_of_ble_eq_true rfl), (Nat.le_of_ble_eq_true rfl)⟩) hP hD hS hA [0, 1] [] rfl rfl (by decide) (by decide) (fun r_5 u_6 H locs hP hD hS hw => ?_)
    have hP : va_P G.1 vwCl [(y, .inr (13, [.ref mm, .ref msv, .int vS, .ref mpa, .int vC, .int 0, .int 0, .ref mio, .ref mfo, .int vL, .ref mre, .int vK, .ref mah, .int vR, .ref mrw, .ref mrr, .ref mrs, .ref mrb, .int v0, .int vZ, .int vB, .int vN, .ref mso, .ref mnu, .ref mse, .ref mbe, .ref men])), (mm, eI G 1191 fm)] H := hP
    have hD : va_D A [(y, .inr (13, [.ref mm, .ref msv, .int vS, .ref mpa, .int vC, .int 0, .int 0, .ref mio, .ref mfo, .int vL, .ref mre, .int vK, .ref mah, .int vR, .ref mrw, .ref mrr, .ref mrs, .ref mrb, .int v0, .int vZ, .int vB, .int vN, .ref mso, .ref mnu, .ref mse, .ref mbe, .ref men])), (mm, eI G 1191 fm)] := hD
    have hw : r_5 = 0 := hw
    subst hw
    have hP9 := n_Psub (wc := [(y, .inr (13, [.ref mm, .ref msv, .int vS, .ref mpa, .int vC, .int 0, .int 0, .ref mio, .ref mfo, .int vL, .ref mre, .int vK, .ref mah, .int vR, .ref mrw, .ref mrr, .ref mrs, .ref mrb, .int v0, .int vZ, .int vB, .int vN, .ref mso, .ref mnu, .ref mse, .ref mbe, .ref men]))]) hP [0] rfl
    have hD9 := hD.sub (ws' := [(y, .inr (13, [.ref mm, .ref msv, .int vS, .ref mpa, .int vC, .int 0, .int 0, .ref mio, .ref mfo, .int vL, .ref mre, .int vK, .ref mah, .int vR, .ref mrw, .ref mrr, .ref mrs, .ref mrb, .int v0, .int vZ, .int vB, .int vN, .ref mso, .ref mnu, .ref mse, .ref mbe, .ref men]))]) [0] (by decide) rfl
    refine W.widen (k := 0) (n := 0) (Nat.le_of_ble_eq_true rfl) (Nat.le_of_ble_eq_true rfl) ?_
    exact W.iret (v := 0) hx hb hr (fun t ht hW => ⟨⟨0, 0, rfl, ⟨by decide, fun _ => by decide⟩, by rw [ht]; exact hP9, va_K.moved hW.alike hK, hD9⟩, hS.F ht⟩) hS.2.2 dX12_account_68
  · skip
    refine lv_tableIn (off := 63) (tgt := 69) hx hb dX12_account_6 (by decide) (by decide) rfl (by decide) ?_
    refine lv_aload_n hx hb dX12_account_69 rfl (lv_at hl 0 rfl) ?_
    refine n_ci (wr := []) (va_runV (As := []) (rest := []) ⟨hx, hb, hml, hown, hts⟩ (mX12_references l G y mm msv mpa mio mfo mre mah mrw mrr mrs mrb mso mnu mse mbe men vS vC 0 0 vL vK vR v0 vZ vB vN fm H.size hm) (cwV 0 hts gX12_account_X12_references rfl rfl rfl (by decide +kernel) ⟨(Nat.le_of_ble_eq_true rfl), (Nat.le_of_ble_eq_true rfl)⟩) (n_prV (ci := 13) (q0 := 0) hK hP hD [0, 1] rfl (by decide) rfl rfl) rfl rfl hl.1 rfl (lv_room (Nat.le_of_ble_eq_true rfl)) dX12_account_70 ⟨(Nat.le_of_ble_eq_true rfl), (Nat.le_of_ble_eq_true rfl)⟩) hP hD hS hA [0, 1] [] rfl rfl (by decide) (by decide) (fun r_7 u_8 H locs hP hD hS hw => ?_)
    have hP : va_P G.1 vwCl [(y, .inr (13, [.ref mm, .ref msv, .int vS, .ref mpa, .int vC, .int 0, .int 0, .ref mio, .ref mfo, .int vL, .ref mre, .int vK, .ref mah, .int vR, .ref mrw, .ref mrr, .ref mrs, .ref mrb, .int v0, .int vZ, .int vB, .int vN, .ref mso, .ref mnu, .ref mse, .ref mbe, .ref men])), (mm, eI G 1191 fm)] H := hP
    have hD : va_D A [(y, .inr (13, [.ref mm, .ref msv, .int vS, .ref mpa, .int vC, .int 0, .int 0, .ref mio, .ref mfo, .int vL, .ref mre, .int vK, .ref mah, .int vR, .ref mrw, .ref mrr, .ref mrs, .ref mrb, .int v0, .int vZ, .int vB, .int vN, .ref mso, .ref mnu, .ref mse, .ref mbe, .ref men])), (mm, eI G 1191 fm)] := hD
    have hw : r_7 = 0 := hw
    subst hw
    have hP9 := n_Psub (wc := [(y, .inr (13, [.ref mm, .ref msv, .int vS, .ref mpa, .int vC, .int 0, .int 0, .ref mio, .ref mfo, .int vL, .ref mre, .int vK, .ref mah, .int vR, .ref mrw, .ref mrr, .ref mrs, .ref mrb, .int v0, .int vZ, .int vB, .int vN, .ref mso, .ref mnu, .ref mse, .ref mbe, .ref men]))]) hP [0] rfl
    have hD9 := hD.sub (ws' := [(y, .inr (13, [.ref mm, .ref msv, .int vS, .ref mpa, .int vC, .int 0, .int 0, .ref mio, .ref mfo, .int vL, .ref mre, .int vK, .ref mah, .int vR, .ref mrw, .ref mrr, .ref mrs, .ref mrb, .int v0, .int vZ, .int vB, .int vN, .ref mso, .ref mnu, .ref mse, .ref mbe, .ref men]))]) [0] (by decide) rfl
    refine W.widen (k := 0) (n := 0) (Nat.le_of_ble_eq_true rfl) (Nat.le_of_ble_eq_true rfl) ?_
    exact W.iret (v := 0) hx hb hr (fun t ht hW => ⟨⟨0, 0, rfl, ⟨by decide, fun _ => by decide⟩, by rw [ht]; exact hP9, va_K.moved hW.alike hK, hD9⟩, hS.F ht⟩) hS.2.2 dX12_account_73
  · skip
    refine lv_tableIn (off := 68) (tgt := 74) hx hb dX12_account_6 (by decide) (by decide) rfl (by decide) ?_
    refine lv_aload_n hx hb dX12_account_74 rfl (lv_at hl 0 rfl) ?_
    refine va_get (D := G.1) (ci := 13) (v := .ref mm) (C := RX12) (T := TX12) (N := 27) hx hb hts hiX12 hown hK hP 0 rfl rfl 0 (by decide) (hts (.fieldLink RX12 9 "DialectDictionaryModel" "m" "[I") (by decide +kernel)) (fun _ h9 => h9) rfl dX12_account_75 ?_
    refine lv_sipush (v := 1158) hx hb dX12_account_78 (by decide) ?_
    refine va_iald hx hb hK hP 1 0 rfl rfl (n_in (by decide)) dX12_account_81 ?_
    refine n_eqi (y := 0) hm.2.2.2 ?_
    have hP9 := n_Psub (wc := [(y, .inr (13, [.ref mm, .ref msv, .int vS, .ref mpa, .int vC, .int 0, .int 0, .ref mio, .ref mfo, .int vL, .ref mre, .int vK, .ref mah, .int vR, .ref mrw, .ref mrr, .ref mrs, .ref mrb, .int v0, .int vZ, .int vB, .int vN, .ref mso, .ref mnu, .ref mse, .ref mbe, .ref men]))]) hP [0] rfl
    have hD9 := hD.sub (ws' := [(y, .inr (13, [.ref mm, .ref msv, .int vS, .ref mpa, .int vC, .int 0, .int 0, .ref mio, .ref mfo, .int vL, .ref mre, .int vK, .ref mah, .int vR, .ref mrw, .ref mrr, .ref mrs, .ref mrb, .int v0, .int vZ, .int vB, .int vN, .ref mso, .ref mnu, .ref mse, .ref mbe, .ref men]))]) [0] (by decide) rfl
    refine W.widen (k := 0) (n := 0) (Nat.le_of_ble_eq_true rfl) (Nat.le_of_ble_eq_true rfl) ?_
    exact W.iret (v := 0) hx hb hr (fun t ht hW => ⟨⟨0, 0, rfl, ⟨by decide, fun _ => by decide⟩, by rw [ht]; exact hP9, va_K.moved hW.alike hK, hD9⟩, hS.F ht⟩) hS.2.2 dX12_account_82
  · skip
    refine lv_tableIn (off := 77) (tgt := 83) hx hb dX12_account_6 (by decide) (by decide) rfl (by decide) ?_
    refine lv_aload_n hx hb dX12_account_83 rfl (lv_at hl 0 rfl) ?_
    refine va_get (D := G.1) (ci := 13) (v := .ref mm) (C := RX12) (T := TX12) (N := 27) hx hb hts hiX12 hown hK hP 0 rfl rfl 0 (by decide) (hts (.fieldLink RX12 9 "DialectDictionaryModel" "m" "[I") (by decide +kernel)) (fun _ h9 => h9) rfl dX12_account_84 ?_
    refine lv_iconst (v := 0) hx hb dX12_account_87 (by decide) ?_
    refine va_iald hx hb hK hP 1 0 rfl rfl (n_in (by decide)) dX12_account_88 ?_
    refine n_eqi (y := 26) hm.1 ?_
    have hP9 := n_Psub (wc := [(y, .inr (13, [.ref mm, .ref msv, .int vS, .ref mpa, .int vC, .int 0, .int 0, .ref mio, .ref mfo, .int vL, .ref mre, .int vK, .ref mah, .int vR, .ref mrw, .ref mrr, .ref mrs, .ref mrb, .int v0, .int vZ, .int vB, .int vN, .ref mso, .ref mnu, .ref mse, .ref mbe, .ref men]))]) hP [0] rfl
    have hD9 := hD.sub (ws' := [(y, .inr (13, [.ref mm, .ref msv, .int vS, .ref mpa, .int vC, .int 0, .int 0, .ref mio, .ref mfo, .int vL, .ref mre, .int vK, .ref mah, .int vR, .ref mrw, .ref mrr, .ref mrs, .ref mrb, .int v0, .int vZ, .int vB, .int vN, .ref mso, .ref mnu, .ref mse, .ref mbe, .ref men]))]) [0] (by decide) rfl
    refine W.widen (k := 0) (n := 0) (Nat.le_of_ble_eq_true rfl) (Nat.le_of_ble_eq_true rfl) ?_
    exact W.iret (v := 26) hx hb hr (fun t ht hW => ⟨⟨26, 0, rfl, ⟨by decide, fun _ => by decide⟩, by rw [ht]; exact hP9, va_K.moved hW.alike hK, hD9⟩, hS.F ht⟩) hS.2.2 dX12_account_89
  · skip
    refine lv_tableIn (off := 84) (tgt := 90) hx hb dX12_account_6 (by decide) (by decide) rfl (by decide) ?_
    refine lv_aload_n hx hb dX12_account_90 rfl (lv_at hl 0 rfl) ?_
    refine n_ci (wr := []) (va_runV (As := []) (rest := []) ⟨hx, hb, hml, hown, hts⟩ (mX12_allLetters l G y mm msv mpa mio mfo mre mah mrw mrr mrs mrb mso mnu mse mbe men vS vC 0 0 vL vK vR v0 vZ vB vN fm H.size hm) (cwV 0 hts gX12_account_X12_allLetters rfl rfl rfl (by decide +kernel) ⟨(Nat.le_of_ble_eq_true rfl), (Nat.le_of_ble_eq_true rfl)⟩) (n_prV (ci := 13) (q0 := 0) hK hP hD [0, 1] rfl (by decide) rfl rfl) rfl rfl hl.1 rfl (lv_room (Nat.le_of_ble_eq_true rfl)) dX12_account_91 ⟨(Nat.le_of_ble_eq_true rfl), (Nat.le_of_ble_eq_true rfl)⟩) hP hD hS hA [0, 1] [] rfl rfl (by decide) (by decide) (fun r_9 u_10 H locs hP hD hS hw => ?_)
    have hP : va_P G.1 vwCl [(y, .inr (13, [.ref mm, .ref msv, .int vS, .ref mpa, .int vC, .int 0, .int 0, .ref mio, .ref mfo, .int vL, .ref mre, .int vK, .ref mah, .int vR, .ref mrw, .ref mrr, .ref mrs, .ref mrb, .int v0, .int vZ, .int vB, .int vN, .ref mso, .ref mnu, .ref mse, .ref mbe, .ref men])), (mm, eI G 1191 fm)] H := hP
    have hD : va_D A [(y, .inr (13, [.ref mm, .ref msv, .int vS, .ref mpa, .int vC, .int 0, .int 0, .ref mio, .ref mfo, .int vL, .ref mre, .int vK, .ref mah, .int vR, .ref mrw, .ref mrr, .ref mrs, .ref mrb, .int v0, .int vZ, .int vB, .int vN, .ref mso, .ref mnu, .ref mse, .ref mbe, .ref men])), (mm, eI G 1191 fm)] := hD
    have hw : r_9 = 0 := hw
    subst hw
    have hP9 := n_Psub (wc := [(y, .inr (13, [.ref mm, .ref msv, .int vS, .ref mpa, .int vC, .int 0, .int 0, .ref mio, .ref mfo, .int vL, .ref mre, .int vK, .ref mah, .int vR, .ref mrw, .ref mrr, .ref mrs, .ref mrb, .int v0, .int vZ, .int vB, .int vN, .ref mso, .ref mnu, .ref mse, .ref mbe, .ref men]))]) hP [0] rfl
    have hD9 := hD.sub (ws' := [(y, .inr (13, [.ref mm, .ref msv, .int vS, .ref mpa, .int vC, .int 0, .int 0, .ref mio, .ref mfo, .int vL, .ref mre, .int vK, .ref mah, .int vR, .ref mrw, .ref mrr, .ref mrs, .ref mrb, .int v0, .int vZ, .int vB, .int vN, .ref mso, .ref mnu, .ref mse, .ref mbe, .ref men]))]) [0] (by decide) rfl
    refine W.widen (k := 0) (n := 0) (Nat.le_of_ble_eq_true rfl) (Nat.le_of_ble_eq_true rfl) ?_
    exact W.iret (v := 0) hx hb hr (fun t ht hW => ⟨⟨0, 0, rfl, ⟨by decide, fun _ => by decide⟩, by rw [ht]; exact hP9, va_K.moved hW.alike hK, hD9⟩, hS.F ht⟩) hS.2.2 dX12_account_94
  · skip
    refine lv_tableIn (off := 89) (tgt := 95) hx hb dX12_account_6 (by decide) (by decide) rfl (by decide) ?_
    refine lv_aload_n hx hb dX12_account_95 rfl (lv_at hl 0 rfl) ?_
    refine n_ci (wr := []) (va_runV (As := []) (rest := []) ⟨hx, hb, hml, hown, hts⟩ (mX12_alone l G y mm msv mpa mio mfo mre mah mrw mrr mrs mrb mso mnu mse mbe men vS vC 0 0 vL vK vR v0 vZ vB vN fm H.size hm) (cwV 0 hts gX12_account_X12_alone rfl rfl rfl (by decide +kernel) ⟨(Nat.le_of_ble_eq_true rfl), (Nat.le_of_ble_eq_true rfl)⟩) (n_prV (ci := 13) (q0 := 0) hK hP hD [0, 1] rfl (by decide) rfl rfl) rfl rfl hl.1 rfl (lv_room (Nat.le_of_ble_eq_true rfl)) dX12_account_96 ⟨(Nat.le_of_ble_eq_true rfl), (Nat.le_of_ble_eq_true rfl)⟩) hP hD hS hA [0, 1] [] rfl rfl (by decide) (by decide) (fun r_11 u_12 H locs hP hD hS hw => ?_)
    have hP : va_P G.1 vwCl [(y, .inr (13, [.ref mm, .ref msv, .int vS, .ref mpa, .int vC, .int 0, .int 0, .ref mio, .ref mfo, .int vL, .ref mre, .int vK, .ref mah, .int vR, .ref mrw, .ref mrr, .ref mrs, .ref mrb, .int v0, .int vZ, .int vB, .int vN, .ref mso, .ref mnu, .ref mse, .ref mbe, .ref men])), (mm, eI G 1191 fm)] H := hP
    have hD : va_D A [(y, .inr (13, [.ref mm, .ref msv, .int vS, .ref mpa, .int vC, .int 0, .int 0, .ref mio, .ref mfo, .int vL, .ref mre, .int vK, .ref mah, .int vR, .ref mrw, .ref mrr, .ref mrs, .ref mrb, .int v0, .int vZ, .int vB, .int vN, .ref mso, .ref mnu, .ref mse, .ref mbe, .ref men])), (mm, eI G 1191 fm)] := hD
    have hw : r_11 = 0 := hw
    subst hw
    have hP9 := n_Psub (wc := [(y, .inr (13, [.ref mm, .ref msv, .int vS, .ref mpa, .int vC, .int 0, .int 0, .ref mio, .ref mfo, .int vL, .ref mre, .int vK, .ref mah, .int vR, .ref mrw, .ref mrr, .ref mrs, .ref mrb, .int v0, .int vZ, .int vB, .int vN, .ref mso, .ref mnu, .ref mse, .ref mbe, .ref men]))]) hP [0] rfl
    have hD9 := hD.sub (ws' := [(y, .inr (13, [.ref mm, .ref msv, .int vS, .ref mpa, .int vC, .int 0, .int 0, .ref mio, .ref mfo, .int vL, .ref mre, .int vK, .ref mah, .int vR, .ref mrw, .ref mrr, .ref mrs, .ref mrb, .int v0, .int vZ, .int vB, .int vN, .ref mso, .ref mnu, .ref mse, .ref mbe, .ref men]))]) [0] (by decide) rfl
    refine W.widen (k := 0) (n := 0) (Nat.le_of_ble_eq_true rfl) (Nat.le_of_ble_eq_true rfl) ?_
    exact W.iret (v := 0) hx hb hr (fun t ht hW => ⟨⟨0, 0, rfl, ⟨by decide, fun _ => by decide⟩, by rw [ht]; exact hP9, va_K.moved hW.alike hK, hD9⟩, hS.F ht⟩) hS.2.2 dX12_account_99
  · skip
    refine lv_tableIn (off := 94) (tgt := 100) hx hb dX12_account_6 (by decide) (by decide) rfl (by decide) ?_
    refine lv_aload_n hx hb dX12_account_100 rfl (lv_at hl 0 rfl) ?_
    refine n_ci (wr := []) (va_runV (As := []) (rest := []) ⟨hx, hb, hml, hown, hts⟩ (mX12_results l G y mm msv mpa mio mfo mre mah mrw mrr mrs mrb mso mnu mse mbe men vS vC 0 0 vL vK vR v0 vZ vB vN fm H.size hm) (cwV 0 hts gX12_account_X12_results rfl rfl rfl (by decide +kernel) ⟨(Nat.le_of_ble_eq_true rfl), (Nat.le_of_ble_eq_true rfl)⟩) (n_prV (ci := 13) (q0 := 0) hK hP hD [0, 1] rfl (by decide) rfl rfl) rfl rfl hl.1 rfl (lv_room (Nat.le_of_ble_eq_true rfl)) dX12_account_101 ⟨(Nat.le_of_ble_eq_true rfl), (Nat.le_of_ble_eq_true rfl)⟩) hP hD hS hA [0, 1] [] rfl rfl (by decide) (by decide) (fun r_13 u_14 H locs hP hD hS hw => ?_)
    have hP : va_P G.1 vwCl [(y, .inr (13, [.ref mm, .ref msv, .int vS, .ref mpa, .int vC, .int 0, .int 0, .ref mio, .ref mfo, .int vL, .ref mre, .int vK, .ref mah, .int vR, .ref mrw, .ref mrr, .ref mrs, .ref mrb, .int v0, .int vZ, .int vB, .int vN, .ref mso, .ref mnu, .ref mse, .ref mbe, .ref men])), (mm, eI G 1191 fm)] H := hP
    have hD : va_D A [(y, .inr (13, [.ref mm, .ref msv, .int vS, .ref mpa, .int vC, .int 0, .int 0, .ref mio, .ref mfo, .int vL, .ref mre, .int vK, .ref mah, .int vR, .ref mrw, .ref mrr, .ref mrs, .ref mrb, .int v0, .int vZ, .int vB, .int vN, .ref mso, .ref mnu, .ref mse, .ref mbe, .ref men])), (mm, eI G 1191 fm)] := hD
    have hw : r_13 = 0 := hw
    subst hw
    have hP9 := n_Psub (wc := [(y, .inr (13, [.ref mm, .ref msv, .int vS, .ref mpa, .int vC, .int 0, .int 0, .ref mio, .ref mfo, .int vL, .ref mre, .int vK, .ref mah, .int vR, .ref mrw, .ref mrr, .ref mrs, .ref mrb, .int v0, .int vZ, .int vB, .int vN, .ref mso, .ref mnu, .ref mse, .ref mbe, .ref men]))]) hP [0] rfl
    have hD9 := hD.sub (ws' := [(y, .inr (13, [.ref mm, .ref msv, .int vS, .ref mpa, .int vC, .int 0, .int 0, .ref mio, .ref mfo, .int vL, .ref mre, .int vK, .ref mah, .int vR, .ref mrw, .ref mrr, .ref mrs, .ref mrb, .int v0, .int vZ, .int vB, .int vN, .ref mso, .ref mnu, .ref mse, .ref mbe, .ref men]))]) [0] (by decide) rfl
    refine W.widen (k := 0) (n := 0) (Nat.le_of_ble_eq_true rfl) (Nat.le_of_ble_eq_true rfl) ?_
    exact W.iret (v := 0) hx hb hr (fun t ht hW => ⟨⟨0, 0, rfl, ⟨by decide, fun _ => by decide⟩, by rw [ht]; exact hP9, va_K.moved hW.alike hK, hD9⟩, hS.F ht⟩) hS.2.2 dX12_account_104
  · skip
    refine lv_tableIn (off := 99) (tgt := 105) hx hb dX12_account_6 (by decide) (by decide) rfl (by decide) ?_
    refine lv_aload_n hx hb dX12_account_105 rfl (lv_at hl 0 rfl) ?_
    refine va_get (D := G.1) (ci := 13) (v := .int 0) (C := RX12) (T := TX12) (N := 27) hx hb hts hiX12 hown hK hP 0 rfl rfl 6 (by decide) (hts (.fieldLink RX12 76 "DialectDictionaryModel" "fed" "I") (by decide +kernel)) (fun _ h9 => h9) rfl dX12_account_106 ?_
    have hP9 := n_Psub (wc := [(y, .inr (13, [.ref mm, .ref msv, .int vS, .ref mpa, .int vC, .int 0, .int 0, .ref mio, .ref mfo, .int vL, .ref mre, .int vK, .ref mah, .int vR, .ref mrw, .ref mrr, .ref mrs, .ref mrb, .int v0, .int vZ, .int vB, .int vN, .ref mso, .ref mnu, .ref mse, .ref mbe, .ref men]))]) hP [0] rfl
    have hD9 := hD.sub (ws' := [(y, .inr (13, [.ref mm, .ref msv, .int vS, .ref mpa, .int vC, .int 0, .int 0, .ref mio, .ref mfo, .int vL, .ref mre, .int vK, .ref mah, .int vR, .ref mrw, .ref mrr, .ref mrs, .ref mrb, .int v0, .int vZ, .int vB, .int vN, .ref mso, .ref mnu, .ref mse, .ref mbe, .ref men]))]) [0] (by decide) rfl
    refine W.widen (k := 0) (n := 0) (Nat.le_of_ble_eq_true rfl) (Nat.le_of_ble_eq_true rfl) ?_
    exact W.iret (v := 0) hx hb hr (fun t ht hW => ⟨⟨0, 0, rfl, ⟨by decide, fun _ => by decide⟩, by rw [ht]; exact hP9, va_K.moved hW.alike hK, hD9⟩, hS.F ht⟩) hS.2.2 dX12_account_109
