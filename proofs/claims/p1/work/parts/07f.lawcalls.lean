set_option maxHeartbeats 4000000 in
set_option maxRecDepth 100000 in
theorem mL_addVariant (l : Launch) (hl9 : l.stackTraces = false) (G : nG) (x : Nat) (inp : Nat) (de : Nat) (sa : Nat) (hi : Nat) (re : Nat) (co : Nat) (dv : Nat) (rs : Nat) (ba : Nat) (bl : Nat) (br : Nat) (blr : Nat) (q : Int32) (o : Nat) (fo : Nat → Int64) (sz : Nat) : Met l yL_addVariant wsL_addVariant ({ frames := 8, cells := 1, slots := 6, locals := 132 }) (va_Pc [.ref x, .int q, .ref o] (n_px G [(x, .inr (12, [.ref inp, .ref de, .ref sa, .ref hi, .ref re, .ref co, .ref dv, .ref rs, .int 0])), (de, .inr (5, [.ref ba, .ref bl, .ref br])), (bl, .inr (9, [.ref blr, .int 0])), (o, eJ G 1 fo)] sz)) (va_Qi (fun (r : Int32) (_ : Unit) => r = 1) (fun (_ : Unit) (t : State) => n_po G (va_A [(x, .inr (12, [.ref inp, .ref de, .ref sa, .ref hi, .ref re, .ref co, .ref dv, .ref rs, .int 0])), (de, .inr (5, [.ref ba, .ref bl, .ref br])), (bl, .inr (9, [.ref blr, .int 0])), (o, eJ G 1 fo)] sz) [(o, eJ G 1 fo)] t) (va_A [(x, .inr (12, [.ref inp, .ref de, .ref sa, .ref hi, .ref re, .ref co, .ref dv, .ref rs, .int 0])), (de, .inr (5, [.ref ba, .ref bl, .ref br])), (bl, .inr (9, [.ref blr, .int 0])), (o, eJ G 1 fo)] sz)) 1 6 (va_A [(x, .inr (12, [.ref inp, .ref de, .ref sa, .ref hi, .ref re, .ref co, .ref dv, .ref rs, .int 0])), (de, .inr (5, [.ref ba, .ref bl, .ref br])), (bl, .inr (9, [.ref blr, .int 0])), (o, eJ G 1 fo)] sz) := by
  refine n_ofWH (cc := cL_addVariant) (maxL := 4) (ret := (some .int)) (hh := [(0, 9, 12, 21), (0, 9, 15, 35)]) (by decide) rfl ?_
  intro p e s m args below meth c s₁ B hml hv
  obtain ⟨rfl, ⟨hsz, hP, hK, hD0⟩, hE⟩ := hv
  have hx := B.exec
  have hb := B.bytes
  have hr := B.returns
  have hts := atoms_spec (ws := wsL_addVariant) B.pre
  have hown : s.vm.findClass RL = some m.cls := findClass_of_methodNamed B.named
  have hlocks := B.notSynchronized
  have htab := vx_table (x := yL_addVariant) B (hts (.codeWith yL_addVariant cL_addVariant 4 (some .int) [(0, 9, 12, 21), (0, 9, 15, 35)]) (by rw [wsL_addVariant]; exact List.mem_cons_self))
  subst hsz
  have hD := hD0.self (sz := s.heap.size)
  generalize hAe : va_A [(x, .inr (12, [.ref inp, .ref de, .ref sa, .ref hi, .ref re, .ref co, .ref dv, .ref rs, .int 0])), (de, .inr (5, [.ref ba, .ref bl, .ref br])), (bl, .inr (9, [.ref blr, .int 0])), (o, eJ G 1 fo)] s.heap.size = A at hD hE ⊢
  have hA : ∀ q : Nat, s.heap.size ≤ q → A q := fun q h => by rw [← hAe]; exact Or.inr h
  have hS : va_S A s.heap s.heap [] := va_S.rf
  have hP : va_P G.1 vwCl [(x, .inr (12, [.ref inp, .ref de, .ref sa, .ref hi, .ref re, .ref co, .ref dv, .ref rs, .int 0])), (de, .inr (5, [.ref ba, .ref bl, .ref br])), (bl, .inr (9, [.ref blr, .int 0])), (o, eJ G 1 fo)] s.heap := hP
  have hl := lv_entry ([.ref x, .int q, .ref o]) (n := 4) (Nat.le_of_ble_eq_true rfl)
  rw [lg_entry_eq]
  generalize (lg_sl ([.ref x, .int q, .ref o]) ++ List.replicate (4 - (lg_sl ([.ref x, .int q, .ref o])).length) Slot.unset).toArray = ls at hl ⊢
  have hl : lv_has ls 4 [(0, .ref x), (1, .int q), (2, .ref o)] := hl
  obtain ⟨H, hH⟩ : ∃ z, z = s.heap := ⟨_, rfl⟩
  have hS : va_S A s.heap H [] := by rw [hH]; exact hS
  have hP : va_P G.1 vwCl [(x, .inr (12, [.ref inp, .ref de, .ref sa, .ref hi, .ref re, .ref co, .ref dv, .ref rs, .int 0])), (de, .inr (5, [.ref ba, .ref bl, .ref br])), (bl, .inr (9, [.ref blr, .int 0])), (o, eJ G 1 fo)] H := by rw [hH]; exact hP
  refine n_heap hH ?_
  generalize ([] : List Loc) = locs at hS ⊢
  refine lv_aload_n hx hb dL_addVariant_0 rfl (lv_at hl 2 rfl) ?_
  refine lv_iconst (v := 0) hx hb dL_addVariant_1 (by decide) ?_
  refine lv_aload_n hx hb dL_addVariant_2 rfl (lv_at hl 0 rfl) ?_
  refine lv_iload_n hx hb dL_addVariant_3 rfl (lv_at hl 1 rfl) ?_
  refine n_xi (wr := [(o, eJ G 1 fo)]) (vx_runV (As := [.int q]) (rest := [.int 0, .ref o]) ⟨hx, hb, hml, hown, hts⟩ (mX11_addVariant l hl9 G x inp de sa hi re co dv rs ba bl br blr q H.size) (cwV 1 hts gL_addVariant_X11_addVariant rfl rfl rfl (by decide +kernel) ⟨(Nat.le_of_ble_eq_true rfl), (Nat.le_of_ble_eq_true rfl)⟩) (n_prVX (ci := 12) (q0 := 0) hK hP hD hS hA [0, 1, 2] rfl (by decide) rfl rfl hE) rfl rfl hl.1 rfl (lv_room (Nat.le_of_ble_eq_true rfl)) dL_addVariant_4 ⟨(Nat.le_of_ble_eq_true rfl), (Nat.le_of_ble_eq_true rfl)⟩) hP hD hS hA [0, 1, 2] [3] rfl rfl (by decide) (by decide) (fun E9 ce q9 H locs hP hD hS hpx hce hcv hcl => ?_) (fun r_1 u_2 H locs hP hD hS hw => ?_)
  · skip
    have hpx : E9 = "java/lang/IndexOutOfBoundsException" := hpx
    have hpx : E9 = "java/lang/IndexOutOfBoundsException" := hpx
    obtain rfl := hpx
    refine vx_catch (own := RL) (name := "java/lang/IndexOutOfBoundsException") (E := "java/lang/IndexOutOfBoundsException") hown [] (⟨0, 9, 12, 21⟩ : ExceptionTableEntry) [(⟨0, 9, 15, 35⟩ : ExceptionTableEntry)] (by rw [htab]; rfl) (fun z hz => absurd hz List.not_mem_nil) (by decide) (by decide) (hts (.classLink RL 21 "java/lang/IndexOutOfBoundsException") (by decide +kernel)) (va_Nw.use rfl (hE.1.2.1 "java/lang/IndexOutOfBoundsException" (by decide +kernel))) hce hcv hcl ?_
    refine W.eq (g2 := F0 m 12 ls [.ref q9]) rfl ?_
    refine lv_astore_n (lv' := [(3, .ref q9), (0, .ref x), (1, .int q), (2, .ref o)]) hx hb dL_addVariant_12 rfl hl (by decide) rfl (fun ls hl => ?_)
    refine lv_iconst (v := 1) hx hb dL_addVariant_13 (by decide) ?_
    have hP9 := n_Psub (wc := [(o, eJ G 1 fo)]) hP [0] rfl
    have hD9 := hD.sub (ws' := [(o, eJ G 1 fo)]) [0] (by decide) rfl
    refine W.widen (k := 1) (n := 6) (Nat.le_of_ble_eq_true rfl) (Nat.le_of_ble_eq_true rfl) ?_
    exact W.iret (v := 1) hx hb hr (fun t ht hW => ⟨⟨1, (), rfl, rfl, by rw [ht]; exact hP9, va_K.moved hW.alike hK, hD9⟩, hS.F ht⟩) hS.2.2 dL_addVariant_14
  · exact False.elim hw

set_option maxHeartbeats 4000000 in
set_option maxRecDepth 100000 in
theorem mL_rename (l : Launch) (hl9 : l.stackTraces = false) (G : nG) (x : Nat) (inp : Nat) (de : Nat) (sa : Nat) (hi : Nat) (re : Nat) (co : Nat) (dv : Nat) (rs : Nat) (ba : Nat) (bl : Nat) (br : Nat) (blr : Nat) (q : Int32) (o : Nat) (fo : Nat → Int64) (sz : Nat) : Met l yL_rename wsL_rename ({ frames := 8, cells := 1, slots := 6, locals := 133 }) (va_Pc [.ref x, .int q, .ref o] (n_px G [(x, .inr (12, [.ref inp, .ref de, .ref sa, .ref hi, .ref re, .ref co, .ref dv, .ref rs, .int 0])), (de, .inr (5, [.ref ba, .ref bl, .ref br])), (bl, .inr (9, [.ref blr, .int 0])), (o, eJ G 1 fo)] sz)) (va_Qi (fun (r : Int32) (_ : Unit) => r = 1) (fun (_ : Unit) (t : State) => n_po G (va_A [(x, .inr (12, [.ref inp, .ref de, .ref sa, .ref hi, .ref re, .ref co, .ref dv, .ref rs, .int 0])), (de, .inr (5, [.ref ba, .ref bl, .ref br])), (bl, .inr (9, [.ref blr, .int 0])), (o, eJ G 1 fo)] sz) [(o, eJ G 1 fo)] t) (va_A [(x, .inr (12, [.ref inp, .ref de, .ref sa, .ref hi, .ref re, .ref co, .ref dv, .ref rs, .int 0])), (de, .inr (5, [.ref ba, .ref bl, .ref br])), (bl, .inr (9, [.ref blr, .int 0])), (o, eJ G 1 fo)] sz)) 1 6 (va_A [(x, .inr (12, [.ref inp, .ref de, .ref sa, .ref hi, .ref re, .ref co, .ref dv, .ref rs, .int 0])), (de, .inr (5, [.ref ba, .ref bl, .ref br])), (bl, .inr (9, [.ref blr, .int 0])), (o, eJ G 1 fo)] sz) := by
  refine n_ofWH (cc := cL_rename) (maxL := 4) (ret := (some .int)) (hh := [(0, 9, 12, 21), (0, 9, 15, 35)]) (by decide) rfl ?_
  intro p e s m args below meth c s₁ B hml hv
  obtain ⟨rfl, ⟨hsz, hP, hK, hD0⟩, hE⟩ := hv
  have hx := B.exec
  have hb := B.bytes
  have hr := B.returns
  have hts := atoms_spec (ws := wsL_rename) B.pre
  have hown : s.vm.findClass RL = some m.cls := findClass_of_methodNamed B.named
  have hlocks := B.notSynchronized
  have htab := vx_table (x := yL_rename) B (hts (.codeWith yL_rename cL_rename 4 (some .int) [(0, 9, 12, 21), (0, 9, 15, 35)]) (by rw [wsL_rename]; exact List.mem_cons_self))
  subst hsz
  have hD := hD0.self (sz := s.heap.size)
  generalize hAe : va_A [(x, .inr (12, [.ref inp, .ref de, .ref sa, .ref hi, .ref re, .ref co, .ref dv, .ref rs, .int 0])), (de, .inr (5, [.ref ba, .ref bl, .ref br])), (bl, .inr (9, [.ref blr, .int 0])), (o, eJ G 1 fo)] s.heap.size = A at hD hE ⊢
  have hA : ∀ q : Nat, s.heap.size ≤ q → A q := fun q h => by rw [← hAe]; exact Or.inr h
  have hS : va_S A s.heap s.heap [] := va_S.rf
  have hP : va_P G.1 vwCl [(x, .inr (12, [.ref inp, .ref de, .ref sa, .ref hi, .ref re, .ref co, .ref dv, .ref rs, .int 0])), (de, .inr (5, [.ref ba, .ref bl, .ref br])), (bl, .inr (9, [.ref blr, .int 0])), (o, eJ G 1 fo)] s.heap := hP
  have hl := lv_entry ([.ref x, .int q, .ref o]) (n := 4) (Nat.le_of_ble_eq_true rfl)
  rw [lg_entry_eq]
  generalize (lg_sl ([.ref x, .int q, .ref o]) ++ List.replicate (4 - (lg_sl ([.ref x, .int q, .ref o])).length) Slot.unset).toArray = ls at hl ⊢
  have hl : lv_has ls 4 [(0, .ref x), (1, .int q), (2, .ref o)] := hl
  obtain ⟨H, hH⟩ : ∃ z, z = s.heap := ⟨_, rfl⟩
  have hS : va_S A s.heap H [] := by rw [hH]; exact hS
  have hP : va_P G.1 vwCl [(x, .inr (12, [.ref inp, .ref de, .ref sa, .ref hi, .ref re, .ref co, .ref dv, .ref rs, .int 0])), (de, .inr (5, [.ref ba, .ref bl, .ref br])), (bl, .inr (9, [.ref blr, .int 0])), (o, eJ G 1 fo)] H := by rw [hH]; exact hP
  refine n_heap hH ?_
  generalize ([] : List Loc) = locs at hS ⊢
  refine lv_aload_n hx hb dL_rename_0 rfl (lv_at hl 2 rfl) ?_
  refine lv_iconst (v := 0) hx hb dL_rename_1 (by decide) ?_
  refine lv_aload_n hx hb dL_rename_2 rfl (lv_at hl 0 rfl) ?_
  refine lv_iload_n hx hb dL_rename_3 rfl (lv_at hl 1 rfl) ?_
  refine n_xi (wr := [(o, eJ G 1 fo)]) (vx_runV (As := [.int q]) (rest := [.int 0, .ref o]) ⟨hx, hb, hml, hown, hts⟩ (mX11_rename l hl9 G x inp de sa hi re co dv rs ba bl br blr q H.size) (cwV 1 hts gL_rename_X11_rename rfl rfl rfl (by decide +kernel) ⟨(Nat.le_of_ble_eq_true rfl), (Nat.le_of_ble_eq_true rfl)⟩) (n_prVX (ci := 12) (q0 := 0) hK hP hD hS hA [0, 1, 2] rfl (by decide) rfl rfl hE) rfl rfl hl.1 rfl (lv_room (Nat.le_of_ble_eq_true rfl)) dL_rename_4 ⟨(Nat.le_of_ble_eq_true rfl), (Nat.le_of_ble_eq_true rfl)⟩) hP hD hS hA [0, 1, 2] [3] rfl rfl (by decide) (by decide) (fun E9 ce q9 H locs hP hD hS hpx hce hcv hcl => ?_) (fun r_1 u_2 H locs hP hD hS hw => ?_)
  · skip
    have hpx : E9 = "java/lang/IndexOutOfBoundsException" := hpx
    have hpx : E9 = "java/lang/IndexOutOfBoundsException" := hpx
    obtain rfl := hpx
    refine vx_catch (own := RL) (name := "java/lang/IndexOutOfBoundsException") (E := "java/lang/IndexOutOfBoundsException") hown [] (⟨0, 9, 12, 21⟩ : ExceptionTableEntry) [(⟨0, 9, 15, 35⟩ : ExceptionTableEntry)] (by rw [htab]; rfl) (fun z hz => absurd hz List.not_mem_nil) (by decide) (by decide) (hts (.classLink RL 21 "java/lang/IndexOutOfBoundsException") (by decide +kernel)) (va_Nw.use rfl (hE.1.2.1 "java/lang/IndexOutOfBoundsException" (by decide +kernel))) hce hcv hcl ?_
    refine W.eq (g2 := F0 m 12 ls [.ref q9]) rfl ?_
    refine lv_astore_n (lv' := [(3, .ref q9), (0, .ref x), (1, .int q), (2, .ref o)]) hx hb dL_rename_12 rfl hl (by decide) rfl (fun ls hl => ?_)
    refine lv_iconst (v := 1) hx hb dL_rename_13 (by decide) ?_
    have hP9 := n_Psub (wc := [(o, eJ G 1 fo)]) hP [0] rfl
    have hD9 := hD.sub (ws' := [(o, eJ G 1 fo)]) [0] (by decide) rfl
    refine W.widen (k := 1) (n := 6) (Nat.le_of_ble_eq_true rfl) (Nat.le_of_ble_eq_true rfl) ?_
    exact W.iret (v := 1) hx hb hr (fun t ht hW => ⟨⟨1, (), rfl, rfl, by rw [ht]; exact hP9, va_K.moved hW.alike hK, hD9⟩, hS.F ht⟩) hS.2.2 dL_rename_14
  · exact False.elim hw

set_option maxHeartbeats 4000000 in
set_option maxRecDepth 100000 in
theorem mL_promote (l : Launch) (hl9 : l.stackTraces = false) (G : nG) (x : Nat) (inp : Nat) (de : Nat) (sa : Nat) (hi : Nat) (re : Nat) (co : Nat) (dv : Nat) (rs : Nat) (ba : Nat) (bl : Nat) (br : Nat) (blr : Nat) (q : Int32) (q2 : Int32) (o : Nat) (fo : Nat → Int64) (sz : Nat) : Met l yL_promote wsL_promote ({ frames := 8, cells := 1, slots := 6, locals := 133 }) (va_Pc [.ref x, .int q, .int q2, .ref o] (n_px G [(x, .inr (12, [.ref inp, .ref de, .ref sa, .ref hi, .ref re, .ref co, .ref dv, .ref rs, .int 0])), (de, .inr (5, [.ref ba, .ref bl, .ref br])), (bl, .inr (9, [.ref blr, .int 0])), (o, eJ G 1 fo)] sz)) (va_Qi (fun (r : Int32) (_ : Unit) => r = 1) (fun (_ : Unit) (t : State) => n_po G (va_A [(x, .inr (12, [.ref inp, .ref de, .ref sa, .ref hi, .ref re, .ref co, .ref dv, .ref rs, .int 0])), (de, .inr (5, [.ref ba, .ref bl, .ref br])), (bl, .inr (9, [.ref blr, .int 0])), (o, eJ G 1 fo)] sz) [(o, eJ G 1 fo)] t) (va_A [(x, .inr (12, [.ref inp, .ref de, .ref sa, .ref hi, .ref re, .ref co, .ref dv, .ref rs, .int 0])), (de, .inr (5, [.ref ba, .ref bl, .ref br])), (bl, .inr (9, [.ref blr, .int 0])), (o, eJ G 1 fo)] sz)) 1 6 (va_A [(x, .inr (12, [.ref inp, .ref de, .ref sa, .ref hi, .ref re, .ref co, .ref dv, .ref rs, .int 0])), (de, .inr (5, [.ref ba, .ref bl, .ref br])), (bl, .inr (9, [.ref blr, .int 0])), (o, eJ G 1 fo)] sz) := by
  refine n_ofWH (cc := cL_promote) (maxL := 5) (ret := (some .int)) (hh := [(0, 10, 13, 21), (0, 10, 17, 47)]) (by decide) rfl ?_
  intro p e s m args below meth c s₁ B hml hv
  obtain ⟨rfl, ⟨hsz, hP, hK, hD0⟩, hE⟩ := hv
  have hx := B.exec
  have hb := B.bytes
  have hr := B.returns
  have hts := atoms_spec (ws := wsL_promote) B.pre
  have hown : s.vm.findClass RL = some m.cls := findClass_of_methodNamed B.named
  have hlocks := B.notSynchronized
  have htab := vx_table (x := yL_promote) B (hts (.codeWith yL_promote cL_promote 5 (some .int) [(0, 10, 13, 21), (0, 10, 17, 47)]) (by rw [wsL_promote]; exact List.mem_cons_self))
  subst hsz
  have hD := hD0.self (sz := s.heap.size)
  generalize hAe : va_A [(x, .inr (12, [.ref inp, .ref de, .ref sa, .ref hi, .ref re, .ref co, .ref dv, .ref rs, .int 0])), (de, .inr (5, [.ref ba, .ref bl, .ref br])), (bl, .inr (9, [.ref blr, .int 0])), (o, eJ G 1 fo)] s.heap.size = A at hD hE ⊢
  have hA : ∀ q : Nat, s.heap.size ≤ q → A q := fun q h => by rw [← hAe]; exact Or.inr h
  have hS : va_S A s.heap s.heap [] := va_S.rf
  have hP : va_P G.1 vwCl [(x, .inr (12, [.ref inp, .ref de, .ref sa, .ref hi, .ref re, .ref co, .ref dv, .ref rs, .int 0])), (de, .inr (5, [.ref ba, .ref bl, .ref br])), (bl, .inr (9, [.ref blr, .int 0])), (o, eJ G 1 fo)] s.heap := hP
  have hl := lv_entry ([.ref x, .int q, .int q2, .ref o]) (n := 5) (Nat.le_of_ble_eq_true rfl)
  rw [lg_entry_eq]
  generalize (lg_sl ([.ref x, .int q, .int q2, .ref o]) ++ List.replicate (5 - (lg_sl ([.ref x, .int q, .int q2, .ref o])).length) Slot.unset).toArray = ls at hl ⊢
  have hl : lv_has ls 5 [(0, .ref x), (1, .int q), (2, .int q2), (3, .ref o)] := hl
  obtain ⟨H, hH⟩ : ∃ z, z = s.heap := ⟨_, rfl⟩
  have hS : va_S A s.heap H [] := by rw [hH]; exact hS
  have hP : va_P G.1 vwCl [(x, .inr (12, [.ref inp, .ref de, .ref sa, .ref hi, .ref re, .ref co, .ref dv, .ref rs, .int 0])), (de, .inr (5, [.ref ba, .ref bl, .ref br])), (bl, .inr (9, [.ref blr, .int 0])), (o, eJ G 1 fo)] H := by rw [hH]; exact hP
  refine n_heap hH ?_
  generalize ([] : List Loc) = locs at hS ⊢
  refine lv_aload_n hx hb dL_promote_0 rfl (lv_at hl 3 rfl) ?_
  refine lv_iconst (v := 0) hx hb dL_promote_1 (by decide) ?_
  refine lv_aload_n hx hb dL_promote_2 rfl (lv_at hl 0 rfl) ?_
  refine lv_iload_n hx hb dL_promote_3 rfl (lv_at hl 1 rfl) ?_
  refine lv_iload_n hx hb dL_promote_4 rfl (lv_at hl 2 rfl) ?_
  refine n_xi (wr := [(o, eJ G 1 fo)]) (vx_runV (As := [.int q, .int q2]) (rest := [.int 0, .ref o]) ⟨hx, hb, hml, hown, hts⟩ (mX11_promote l hl9 G x inp de sa hi re co dv rs ba bl br blr q q2 H.size) (cwV 2 hts gL_promote_X11_promote rfl rfl rfl (by decide +kernel) ⟨(Nat.le_of_ble_eq_true rfl), (Nat.le_of_ble_eq_true rfl)⟩) (n_prVX (ci := 12) (q0 := 0) hK hP hD hS hA [0, 1, 2] rfl (by decide) rfl rfl hE) rfl rfl hl.1 rfl (lv_room (Nat.le_of_ble_eq_true rfl)) dL_promote_5 ⟨(Nat.le_of_ble_eq_true rfl), (Nat.le_of_ble_eq_true rfl)⟩) hP hD hS hA [0, 1, 2] [3] rfl rfl (by decide) (by decide) (fun E9 ce q9 H locs hP hD hS hpx hce hcv hcl => ?_) (fun r_1 u_2 H locs hP hD hS hw => ?_)
  · skip
    have hpx : E9 = "java/lang/IndexOutOfBoundsException" := hpx
    have hpx : E9 = "java/lang/IndexOutOfBoundsException" := hpx
    obtain rfl := hpx
    refine vx_catch (own := RL) (name := "java/lang/IndexOutOfBoundsException") (E := "java/lang/IndexOutOfBoundsException") hown [] (⟨0, 10, 13, 21⟩ : ExceptionTableEntry) [(⟨0, 10, 17, 47⟩ : ExceptionTableEntry)] (by rw [htab]; rfl) (fun z hz => absurd hz List.not_mem_nil) (by decide) (by decide) (hts (.classLink RL 21 "java/lang/IndexOutOfBoundsException") (by decide +kernel)) (va_Nw.use rfl (hE.1.2.1 "java/lang/IndexOutOfBoundsException" (by decide +kernel))) hce hcv hcl ?_
    refine W.eq (g2 := F0 m 13 ls [.ref q9]) rfl ?_
    refine lv_astore (lv' := [(4, .ref q9), (0, .ref x), (1, .int q), (2, .int q2), (3, .ref o)]) hx hb dL_promote_13 hl (by decide) rfl (fun ls hl => ?_)
    refine lv_iconst (v := 1) hx hb dL_promote_15 (by decide) ?_
    have hP9 := n_Psub (wc := [(o, eJ G 1 fo)]) hP [0] rfl
    have hD9 := hD.sub (ws' := [(o, eJ G 1 fo)]) [0] (by decide) rfl
    refine W.widen (k := 1) (n := 6) (Nat.le_of_ble_eq_true rfl) (Nat.le_of_ble_eq_true rfl) ?_
    exact W.iret (v := 1) hx hb hr (fun t ht hW => ⟨⟨1, (), rfl, rfl, by rw [ht]; exact hP9, va_K.moved hW.alike hK, hD9⟩, hS.F ht⟩) hS.2.2 dL_promote_16
  · exact False.elim hw

set_option maxHeartbeats 4000000 in
set_option maxRecDepth 100000 in
theorem mL_removeVariant (l : Launch) (hl9 : l.stackTraces = false) (G : nG) (x : Nat) (inp : Nat) (de : Nat) (sa : Nat) (hi : Nat) (re : Nat) (co : Nat) (dv : Nat) (rs : Nat) (ba : Nat) (bl : Nat) (br : Nat) (blr : Nat) (q : Int32) (q2 : Int32) (o : Nat) (fo : Nat → Int64) (sz : Nat) : Met l yL_removeVariant wsL_removeVariant ({ frames := 8, cells := 1, slots := 6, locals := 133 }) (va_Pc [.ref x, .int q, .int q2, .ref o] (n_px G [(x, .inr (12, [.ref inp, .ref de, .ref sa, .ref hi, .ref re, .ref co, .ref dv, .ref rs, .int 0])), (de, .inr (5, [.ref ba, .ref bl, .ref br])), (bl, .inr (9, [.ref blr, .int 0])), (o, eJ G 1 fo)] sz)) (va_Qi (fun (r : Int32) (_ : Unit) => r = 1) (fun (_ : Unit) (t : State) => n_po G (va_A [(x, .inr (12, [.ref inp, .ref de, .ref sa, .ref hi, .ref re, .ref co, .ref dv, .ref rs, .int 0])), (de, .inr (5, [.ref ba, .ref bl, .ref br])), (bl, .inr (9, [.ref blr, .int 0])), (o, eJ G 1 fo)] sz) [(o, eJ G 1 fo)] t) (va_A [(x, .inr (12, [.ref inp, .ref de, .ref sa, .ref hi, .ref re, .ref co, .ref dv, .ref rs, .int 0])), (de, .inr (5, [.ref ba, .ref bl, .ref br])), (bl, .inr (9, [.ref blr, .int 0])), (o, eJ G 1 fo)] sz)) 1 6 (va_A [(x, .inr (12, [.ref inp, .ref de, .ref sa, .ref hi, .ref re, .ref co, .ref dv, .ref rs, .int 0])), (de, .inr (5, [.ref ba, .ref bl, .ref br])), (bl, .inr (9, [.ref blr, .int 0])), (o, eJ G 1 fo)] sz) := by
  refine n_ofWH (cc := cL_removeVariant) (maxL := 5) (ret := (some .int)) (hh := [(0, 10, 13, 21), (0, 10, 17, 47)]) (by decide) rfl ?_
  intro p e s m args below meth c s₁ B hml hv
  obtain ⟨rfl, ⟨hsz, hP, hK, hD0⟩, hE⟩ := hv
  have hx := B.exec
  have hb := B.bytes
  have hr := B.returns
  have hts := atoms_spec (ws := wsL_removeVariant) B.pre
  have hown : s.vm.findClass RL = some m.cls := findClass_of_methodNamed B.named
  have hlocks := B.notSynchronized
  have htab := vx_table (x := yL_removeVariant) B (hts (.codeWith yL_removeVariant cL_removeVariant 5 (some .int) [(0, 10, 13, 21), (0, 10, 17, 47)]) (by rw [wsL_removeVariant]; exact List.mem_cons_self))
  subst hsz
  have hD := hD0.self (sz := s.heap.size)
  generalize hAe : va_A [(x, .inr (12, [.ref inp, .ref de, .ref sa, .ref hi, .ref re, .ref co, .ref dv, .ref rs, .int 0])), (de, .inr (5, [.ref ba, .ref bl, .ref br])), (bl, .inr (9, [.ref blr, .int 0])), (o, eJ G 1 fo)] s.heap.size = A at hD hE ⊢
  have hA : ∀ q : Nat, s.heap.size ≤ q → A q := fun q h => by rw [← hAe]; exact Or.inr h
  have hS : va_S A s.heap s.heap [] := va_S.rf
  have hP : va_P G.1 vwCl [(x, .inr (12, [.ref inp, .ref de, .ref sa, .ref hi, .ref re, .ref co, .ref dv, .ref rs, .int 0])), (de, .inr (5, [.ref ba, .ref bl, .ref br])), (bl, .inr (9, [.ref blr, .int 0])), (o, eJ G 1 fo)] s.heap := hP
  have hl := lv_entry ([.ref x, .int q, .int q2, .ref o]) (n := 5) (Nat.le_of_ble_eq_true rfl)
  rw [lg_entry_eq]
  generalize (lg_sl ([.ref x, .int q, .int q2, .ref o]) ++ List.replicate (5 - (lg_sl ([.ref x, .int q, .int q2, .ref o])).length) Slot.unset).toArray = ls at hl ⊢
  have hl : lv_has ls 5 [(0, .ref x), (1, .int q), (2, .int q2), (3, .ref o)] := hl
  obtain ⟨H, hH⟩ : ∃ z, z = s.heap := ⟨_, rfl⟩
  have hS : va_S A s.heap H [] := by rw [hH]; exact hS
  have hP : va_P G.1 vwCl [(x, .inr (12, [.ref inp, .ref de, .ref sa, .ref hi, .ref re, .ref co, .ref dv, .ref rs, .int 0])), (de, .inr (5, [.ref ba, .ref bl, .ref br])), (bl, .inr (9, [.ref blr, .int 0])), (o, eJ G 1 fo)] H := by rw [hH]; exact hP
  refine n_heap hH ?_
  generalize ([] : List Loc) = locs at hS ⊢
  refine lv_aload_n hx hb dL_removeVariant_0 rfl (lv_at hl 3 rfl) ?_
  refine lv_iconst (v := 0) hx hb dL_removeVariant_1 (by decide) ?_
  refine lv_aload_n hx hb dL_removeVariant_2 rfl (lv_at hl 0 rfl) ?_
  refine lv_iload_n hx hb dL_removeVariant_3 rfl (lv_at hl 1 rfl) ?_
  refine lv_iload_n hx hb dL_removeVariant_4 rfl (lv_at hl 2 rfl) ?_
  refine n_xi (wr := [(o, eJ G 1 fo)]) (vx_runV (As := [.int q, .int q2]) (rest := [.int 0, .ref o]) ⟨hx, hb, hml, hown, hts⟩ (mX11_removeVariant l hl9 G x inp de sa hi re co dv rs ba bl br blr q q2 H.size) (cwV 2 hts gL_removeVariant_X11_removeVariant rfl rfl rfl (by decide +kernel) ⟨(Nat.le_of_ble_eq_true rfl), (Nat.le_of_ble_eq_true rfl)⟩) (n_prVX (ci := 12) (q0 := 0) hK hP hD hS hA [0, 1, 2] rfl (by decide) rfl rfl hE) rfl rfl hl.1 rfl (lv_room (Nat.le_of_ble_eq_true rfl)) dL_removeVariant_5 ⟨(Nat.le_of_ble_eq_true rfl), (Nat.le_of_ble_eq_true rfl)⟩) hP hD hS hA [0, 1, 2] [3] rfl rfl (by decide) (by decide) (fun E9 ce q9 H locs hP hD hS hpx hce hcv hcl => ?_) (fun r_1 u_2 H locs hP hD hS hw => ?_)
  · skip
    have hpx : E9 = "java/lang/IndexOutOfBoundsException" := hpx
    have hpx : E9 = "java/lang/IndexOutOfBoundsException" := hpx
    obtain rfl := hpx
    refine vx_catch (own := RL) (name := "java/lang/IndexOutOfBoundsException") (E := "java/lang/IndexOutOfBoundsException") hown [] (⟨0, 10, 13, 21⟩ : ExceptionTableEntry) [(⟨0, 10, 17, 47⟩ : ExceptionTableEntry)] (by rw [htab]; rfl) (fun z hz => absurd hz List.not_mem_nil) (by decide) (by decide) (hts (.classLink RL 21 "java/lang/IndexOutOfBoundsException") (by decide +kernel)) (va_Nw.use rfl (hE.1.2.1 "java/lang/IndexOutOfBoundsException" (by decide +kernel))) hce hcv hcl ?_
    refine W.eq (g2 := F0 m 13 ls [.ref q9]) rfl ?_
    refine lv_astore (lv' := [(4, .ref q9), (0, .ref x), (1, .int q), (2, .int q2), (3, .ref o)]) hx hb dL_removeVariant_13 hl (by decide) rfl (fun ls hl => ?_)
    refine lv_iconst (v := 1) hx hb dL_removeVariant_15 (by decide) ?_
    have hP9 := n_Psub (wc := [(o, eJ G 1 fo)]) hP [0] rfl
    have hD9 := hD.sub (ws' := [(o, eJ G 1 fo)]) [0] (by decide) rfl
    refine W.widen (k := 1) (n := 6) (Nat.le_of_ble_eq_true rfl) (Nat.le_of_ble_eq_true rfl) ?_
    exact W.iret (v := 1) hx hb hr (fun t ht hW => ⟨⟨1, (), rfl, rfl, by rw [ht]; exact hP9, va_K.moved hW.alike hK, hD9⟩, hS.F ht⟩) hS.2.2 dL_removeVariant_16
  · exact False.elim hw

set_option maxHeartbeats 4000000 in
set_option maxRecDepth 100000 in
theorem mL_remove (l : Launch) (hl9 : l.stackTraces = false) (G : nG) (x : Nat) (inp : Nat) (de : Nat) (sa : Nat) (hi : Nat) (re : Nat) (co : Nat) (dv : Nat) (rs : Nat) (ba : Nat) (bl : Nat) (br : Nat) (blr : Nat) (q : Int32) (o : Nat) (fo : Nat → Int64) (sz : Nat) : Met l yL_remove wsL_remove ({ frames := 8, cells := 1, slots := 6, locals := 132 }) (va_Pc [.ref x, .int q, .ref o] (n_px G [(x, .inr (12, [.ref inp, .ref de, .ref sa, .ref hi, .ref re, .ref co, .ref dv, .ref rs, .int 0])), (de, .inr (5, [.ref ba, .ref bl, .ref br])), (bl, .inr (9, [.ref blr, .int 0])), (o, eJ G 1 fo)] sz)) (va_Qi (fun (r : Int32) (_ : Unit) => r = 1) (fun (_ : Unit) (t : State) => n_po G (va_A [(x, .inr (12, [.ref inp, .ref de, .ref sa, .ref hi, .ref re, .ref co, .ref dv, .ref rs, .int 0])), (de, .inr (5, [.ref ba, .ref bl, .ref br])), (bl, .inr (9, [.ref blr, .int 0])), (o, eJ G 1 fo)] sz) [(o, eJ G 1 fo)] t) (va_A [(x, .inr (12, [.ref inp, .ref de, .ref sa, .ref hi, .ref re, .ref co, .ref dv, .ref rs, .int 0])), (de, .inr (5, [.ref ba, .ref bl, .ref br])), (bl, .inr (9, [.ref blr, .int 0])), (o, eJ G 1 fo)] sz)) 1 6 (va_A [(x, .inr (12, [.ref inp, .ref de, .ref sa, .ref hi, .ref re, .ref co, .ref dv, .ref rs, .int 0])), (de, .inr (5, [.ref ba, .ref bl, .ref br])), (bl, .inr (9, [.ref blr, .int 0])), (o, eJ G 1 fo)] sz) := by
  refine n_ofWH (cc := cL_remove) (maxL := 4) (ret := (some .int)) (hh := [(0, 9, 12, 21)]) (by decide) rfl ?_
  intro p e s m args below meth c s₁ B hml hv
  obtain ⟨rfl, ⟨hsz, hP, hK, hD0⟩, hE⟩ := hv
  have hx := B.exec
  have hb := B.bytes
  have hr := B.returns
  have hts := atoms_spec (ws := wsL_remove) B.pre
  have hown : s.vm.findClass RL = some m.cls := findClass_of_methodNamed B.named
  have hlocks := B.notSynchronized
  have htab := vx_table (x := yL_remove) B (hts (.codeWith yL_remove cL_remove 4 (some .int) [(0, 9, 12, 21)]) (by rw [wsL_remove]; exact List.mem_cons_self))
  subst hsz
  have hD := hD0.self (sz := s.heap.size)
  generalize hAe : va_A [(x, .inr (12, [.ref inp, .ref de, .ref sa, .ref hi, .ref re, .ref co, .ref dv, .ref rs, .int 0])), (de, .inr (5, [.ref ba, .ref bl, .ref br])), (bl, .inr (9, [.ref blr, .int 0])), (o, eJ G 1 fo)] s.heap.size = A at hD hE ⊢
  have hA : ∀ q : Nat, s.heap.size ≤ q → A q := fun q h => by rw [← hAe]; exact Or.inr h
  have hS : va_S A s.heap s.heap [] := va_S.rf
  have hP : va_P G.1 vwCl [(x, .inr (12, [.ref inp, .ref de, .ref sa, .ref hi, .ref re, .ref co, .ref dv, .ref rs, .int 0])), (de, .inr (5, [.ref ba, .ref bl, .ref br])), (bl, .inr (9, [.ref blr, .int 0])), (o, eJ G 1 fo)] s.heap := hP
  have hl := lv_entry ([.ref x, .int q, .ref o]) (n := 4) (Nat.le_of_ble_eq_true rfl)
  rw [lg_entry_eq]
  generalize (lg_sl ([.ref x, .int q, .ref o]) ++ List.replicate (4 - (lg_sl ([.ref x, .int q, .ref o])).length) Slot.unset).toArray = ls at hl ⊢
  have hl : lv_has ls 4 [(0, .ref x), (1, .int q), (2, .ref o)] := hl
  obtain ⟨H, hH⟩ : ∃ z, z = s.heap := ⟨_, rfl⟩
  have hS : va_S A s.heap H [] := by rw [hH]; exact hS
  have hP : va_P G.1 vwCl [(x, .inr (12, [.ref inp, .ref de, .ref sa, .ref hi, .ref re, .ref co, .ref dv, .ref rs, .int 0])), (de, .inr (5, [.ref ba, .ref bl, .ref br])), (bl, .inr (9, [.ref blr, .int 0])), (o, eJ G 1 fo)] H := by rw [hH]; exact hP
  refine n_heap hH ?_
  generalize ([] : List Loc) = locs at hS ⊢
  refine lv_aload_n hx hb dL_remove_0 rfl (lv_at hl 2 rfl) ?_
  refine lv_iconst (v := 0) hx hb dL_remove_1 (by decide) ?_
  refine lv_aload_n hx hb dL_remove_2 rfl (lv_at hl 0 rfl) ?_
  refine lv_iload_n hx hb dL_remove_3 rfl (lv_at hl 1 rfl) ?_
  refine n_xi (wr := [(o, eJ G 1 fo)]) (vx_runV (As := [.int q]) (rest := [.int 0, .ref o]) ⟨hx, hb, hml, hown, hts⟩ (mX11_remove l hl9 G x inp de sa hi re co dv rs ba bl br blr q H.size) (cwV 1 hts gL_remove_X11_remove rfl rfl rfl (by decide +kernel) ⟨(Nat.le_of_ble_eq_true rfl), (Nat.le_of_ble_eq_true rfl)⟩) (n_prVX (ci := 12) (q0 := 0) hK hP hD hS hA [0, 1, 2] rfl (by decide) rfl rfl hE) rfl rfl hl.1 rfl (lv_room (Nat.le_of_ble_eq_true rfl)) dL_remove_4 ⟨(Nat.le_of_ble_eq_true rfl), (Nat.le_of_ble_eq_true rfl)⟩) hP hD hS hA [0, 1, 2] [3] rfl rfl (by decide) (by decide) (fun E9 ce q9 H locs hP hD hS hpx hce hcv hcl => ?_) (fun r_1 u_2 H locs hP hD hS hw => ?_)
  · skip
    have hpx : E9 = "java/lang/IndexOutOfBoundsException" := hpx
    have hpx : E9 = "java/lang/IndexOutOfBoundsException" := hpx
    obtain rfl := hpx
    refine vx_catch (own := RL) (name := "java/lang/IndexOutOfBoundsException") (E := "java/lang/IndexOutOfBoundsException") hown [] (⟨0, 9, 12, 21⟩ : ExceptionTableEntry) [] (by rw [htab]; rfl) (fun z hz => absurd hz List.not_mem_nil) (by decide) (by decide) (hts (.classLink RL 21 "java/lang/IndexOutOfBoundsException") (by decide +kernel)) (va_Nw.use rfl (hE.1.2.1 "java/lang/IndexOutOfBoundsException" (by decide +kernel))) hce hcv hcl ?_
    refine W.eq (g2 := F0 m 12 ls [.ref q9]) rfl ?_
    refine lv_astore_n (lv' := [(3, .ref q9), (0, .ref x), (1, .int q), (2, .ref o)]) hx hb dL_remove_12 rfl hl (by decide) rfl (fun ls hl => ?_)
    refine lv_iconst (v := 1) hx hb dL_remove_13 (by decide) ?_
    have hP9 := n_Psub (wc := [(o, eJ G 1 fo)]) hP [0] rfl
    have hD9 := hD.sub (ws' := [(o, eJ G 1 fo)]) [0] (by decide) rfl
    refine W.widen (k := 1) (n := 6) (Nat.le_of_ble_eq_true rfl) (Nat.le_of_ble_eq_true rfl) ?_
    exact W.iret (v := 1) hx hb hr (fun t ht hW => ⟨⟨1, (), rfl, rfl, by rw [ht]; exact hP9, va_K.moved hW.alike hK, hD9⟩, hS.F ht⟩) hS.2.2 dL_remove_14
  · exact False.elim hw

set_option maxHeartbeats 4000000 in
set_option maxRecDepth 100000 in
theorem mL_join (l : Launch) (hl9 : l.stackTraces = false) (G : nG) (x : Nat) (inp : Nat) (de : Nat) (sa : Nat) (hi : Nat) (re : Nat) (co : Nat) (dv : Nat) (rs : Nat) (ba : Nat) (bl : Nat) (br : Nat) (blr : Nat) (q : Int32) (q2 : Int32) (o : Nat) (fo : Nat → Int64) (sz : Nat) : Met l yL_join wsL_join ({ frames := 8, cells := 1, slots := 6, locals := 134 }) (va_Pc [.ref x, .int q, .int q2, .ref o] (n_px G [(x, .inr (12, [.ref inp, .ref de, .ref sa, .ref hi, .ref re, .ref co, .ref dv, .ref rs, .int 0])), (de, .inr (5, [.ref ba, .ref bl, .ref br])), (bl, .inr (9, [.ref blr, .int 0])), (o, eJ G 1 fo)] sz)) (va_Qi (fun (r : Int32) (_ : Unit) => r = 1) (fun (_ : Unit) (t : State) => n_po G (va_A [(x, .inr (12, [.ref inp, .ref de, .ref sa, .ref hi, .ref re, .ref co, .ref dv, .ref rs, .int 0])), (de, .inr (5, [.ref ba, .ref bl, .ref br])), (bl, .inr (9, [.ref blr, .int 0])), (o, eJ G 1 fo)] sz) [(o, eJ G 1 fo)] t) (va_A [(x, .inr (12, [.ref inp, .ref de, .ref sa, .ref hi, .ref re, .ref co, .ref dv, .ref rs, .int 0])), (de, .inr (5, [.ref ba, .ref bl, .ref br])), (bl, .inr (9, [.ref blr, .int 0])), (o, eJ G 1 fo)] sz)) 1 6 (va_A [(x, .inr (12, [.ref inp, .ref de, .ref sa, .ref hi, .ref re, .ref co, .ref dv, .ref rs, .int 0])), (de, .inr (5, [.ref ba, .ref bl, .ref br])), (bl, .inr (9, [.ref blr, .int 0])), (o, eJ G 1 fo)] sz) := by
  refine n_ofWH (cc := cL_join) (maxL := 5) (ret := (some .int)) (hh := [(0, 10, 13, 21), (0, 10, 17, 35)]) (by decide) rfl ?_
  intro p e s m args below meth c s₁ B hml hv
  obtain ⟨rfl, ⟨hsz, hP, hK, hD0⟩, hE⟩ := hv
  have hx := B.exec
  have hb := B.bytes
  have hr := B.returns
  have hts := atoms_spec (ws := wsL_join) B.pre
  have hown : s.vm.findClass RL = some m.cls := findClass_of_methodNamed B.named
  have hlocks := B.notSynchronized
  have htab := vx_table (x := yL_join) B (hts (.codeWith yL_join cL_join 5 (some .int) [(0, 10, 13, 21), (0, 10, 17, 35)]) (by rw [wsL_join]; exact List.mem_cons_self))
  subst hsz
  have hD := hD0.self (sz := s.heap.size)
  generalize hAe : va_A [(x, .inr (12, [.ref inp, .ref de, .ref sa, .ref hi, .ref re, .ref co, .ref dv, .ref rs, .int 0])), (de, .inr (5, [.ref ba, .ref bl, .ref br])), (bl, .inr (9, [.ref blr, .int 0])), (o, eJ G 1 fo)] s.heap.size = A at hD hE ⊢
  have hA : ∀ q : Nat, s.heap.size ≤ q → A q := fun q h => by rw [← hAe]; exact Or.inr h
  have hS : va_S A s.heap s.heap [] := va_S.rf
  have hP : va_P G.1 vwCl [(x, .inr (12, [.ref inp, .ref de, .ref sa, .ref hi, .ref re, .ref co, .ref dv, .ref rs, .int 0])), (de, .inr (5, [.ref ba, .ref bl, .ref br])), (bl, .inr (9, [.ref blr, .int 0])), (o, eJ G 1 fo)] s.heap := hP
  have hl := lv_entry ([.ref x, .int q, .int q2, .ref o]) (n := 5) (Nat.le_of_ble_eq_true rfl)
  rw [lg_entry_eq]
  generalize (lg_sl ([.ref x, .int q, .int q2, .ref o]) ++ List.replicate (5 - (lg_sl ([.ref x, .int q, .int q2, .ref o])).length) Slot.unset).toArray = ls at hl ⊢
  have hl : lv_has ls 5 [(0, .ref x), (1, .int q), (2, .int q2), (3, .ref o)] := hl
  obtain ⟨H, hH⟩ : ∃ z, z = s.heap := ⟨_, rfl⟩
  have hS : va_S A s.heap H [] := by rw [hH]; exact hS
  have hP : va_P G.1 vwCl [(x, .inr (12, [.ref inp, .ref de, .ref sa, .ref hi, .ref re, .ref co, .ref dv, .ref rs, .int 0])), (de, .inr (5, [.ref ba, .ref bl, .ref br])), (bl, .inr (9, [.ref blr, .int 0])), (o, eJ G 1 fo)] H := by rw [hH]; exact hP
  refine n_heap hH ?_
  generalize ([] : List Loc) = locs at hS ⊢
  refine lv_aload_n hx hb dL_join_0 rfl (lv_at hl 3 rfl) ?_
  refine lv_iconst (v := 0) hx hb dL_join_1 (by decide) ?_
  refine lv_aload_n hx hb dL_join_2 rfl (lv_at hl 0 rfl) ?_
  refine lv_iload_n hx hb dL_join_3 rfl (lv_at hl 1 rfl) ?_
  refine lv_iload_n hx hb dL_join_4 rfl (lv_at hl 2 rfl) ?_
  refine n_xi (wr := [(o, eJ G 1 fo)]) (vx_runV (As := [.int q, .int q2]) (rest := [.int 0, .ref o]) ⟨hx, hb, hml, hown, hts⟩ (mX11_join l hl9 G x inp de sa hi re co dv rs ba bl br blr q q2 H.size) (cwV 2 hts gL_join_X11_join rfl rfl rfl (by decide +kernel) ⟨(Nat.le_of_ble_eq_true rfl), (Nat.le_of_ble_eq_true rfl)⟩) (n_prVX (ci := 12) (q0 := 0) hK hP hD hS hA [0, 1, 2] rfl (by decide) rfl rfl hE) rfl rfl hl.1 rfl (lv_room (Nat.le_of_ble_eq_true rfl)) dL_join_5 ⟨(Nat.le_of_ble_eq_true rfl), (Nat.le_of_ble_eq_true rfl)⟩) hP hD hS hA [0, 1, 2] [3] rfl rfl (by decide) (by decide) (fun E9 ce q9 H locs hP hD hS hpx hce hcv hcl => ?_) (fun r_1 u_2 H locs hP hD hS hw => ?_)
  · skip
    have hpx : E9 = "java/lang/IndexOutOfBoundsException" := hpx
    have hpx : E9 = "java/lang/IndexOutOfBoundsException" := hpx
    obtain rfl := hpx
    refine vx_catch (own := RL) (name := "java/lang/IndexOutOfBoundsException") (E := "java/lang/IndexOutOfBoundsException") hown [] (⟨0, 10, 13, 21⟩ : ExceptionTableEntry) [(⟨0, 10, 17, 35⟩ : ExceptionTableEntry)] (by rw [htab]; rfl) (fun z hz => absurd hz List.not_mem_nil) (by decide) (by decide) (hts (.classLink RL 21 "java/lang/IndexOutOfBoundsException") (by decide +kernel)) (va_Nw.use rfl (hE.1.2.1 "java/lang/IndexOutOfBoundsException" (by decide +kernel))) hce hcv hcl ?_
    refine W.eq (g2 := F0 m 13 ls [.ref q9]) rfl ?_
    refine lv_astore (lv' := [(4, .ref q9), (0, .ref x), (1, .int q), (2, .int q2), (3, .ref o)]) hx hb dL_join_13 hl (by decide) rfl (fun ls hl => ?_)
    refine lv_iconst (v := 1) hx hb dL_join_15 (by decide) ?_
    have hP9 := n_Psub (wc := [(o, eJ G 1 fo)]) hP [0] rfl
    have hD9 := hD.sub (ws' := [(o, eJ G 1 fo)]) [0] (by decide) rfl
    refine W.widen (k := 1) (n := 6) (Nat.le_of_ble_eq_true rfl) (Nat.le_of_ble_eq_true rfl) ?_
    exact W.iret (v := 1) hx hb hr (fun t ht hW => ⟨⟨1, (), rfl, rfl, by rw [ht]; exact hP9, va_K.moved hW.alike hK, hD9⟩, hS.F ht⟩) hS.2.2 dL_join_16
  · exact False.elim hw

set_option maxHeartbeats 4000000 in
set_option maxRecDepth 100000 in
theorem mL_headword (l : Launch) (hl9 : l.stackTraces = false) (G : nG) (x : Nat) (inp : Nat) (de : Nat) (sa : Nat) (hi : Nat) (re : Nat) (co : Nat) (dv : Nat) (rs : Nat) (ba : Nat) (bl : Nat) (br : Nat) (blr : Nat) (q : Int32) (q2 : Int32) (o : Nat) (fo : Nat → Int64) (sz : Nat) : Met l yL_headword wsL_headword ({ frames := 8, cells := 1, slots := 6, locals := 134 }) (va_Pc [.ref x, .int q, .int q2, .ref o] (n_px G [(x, .inr (12, [.ref inp, .ref de, .ref sa, .ref hi, .ref re, .ref co, .ref dv, .ref rs, .int 0])), (de, .inr (5, [.ref ba, .ref bl, .ref br])), (bl, .inr (9, [.ref blr, .int 0])), (o, eJ G 1 fo)] sz)) (va_Qi (fun (r : Int32) (_ : Unit) => r = 1) (fun (_ : Unit) (t : State) => n_po G (va_A [(x, .inr (12, [.ref inp, .ref de, .ref sa, .ref hi, .ref re, .ref co, .ref dv, .ref rs, .int 0])), (de, .inr (5, [.ref ba, .ref bl, .ref br])), (bl, .inr (9, [.ref blr, .int 0])), (o, eJ G 1 fo)] sz) [(o, eJ G 1 fo)] t) (va_A [(x, .inr (12, [.ref inp, .ref de, .ref sa, .ref hi, .ref re, .ref co, .ref dv, .ref rs, .int 0])), (de, .inr (5, [.ref ba, .ref bl, .ref br])), (bl, .inr (9, [.ref blr, .int 0])), (o, eJ G 1 fo)] sz)) 1 6 (va_A [(x, .inr (12, [.ref inp, .ref de, .ref sa, .ref hi, .ref re, .ref co, .ref dv, .ref rs, .int 0])), (de, .inr (5, [.ref ba, .ref bl, .ref br])), (bl, .inr (9, [.ref blr, .int 0])), (o, eJ G 1 fo)] sz) := by
  refine n_ofWH (cc := cL_headword) (maxL := 5) (ret := (some .int)) (hh := [(0, 10, 13, 21), (0, 10, 17, 19)]) (by decide) rfl ?_
  intro p e s m args below meth c s₁ B hml hv
  obtain ⟨rfl, ⟨hsz, hP, hK, hD0⟩, hE⟩ := hv
  have hx := B.exec
  have hb := B.bytes
  have hr := B.returns
  have hts := atoms_spec (ws := wsL_headword) B.pre
  have hown : s.vm.findClass RL = some m.cls := findClass_of_methodNamed B.named
  have hlocks := B.notSynchronized
  have htab := vx_table (x := yL_headword) B (hts (.codeWith yL_headword cL_headword 5 (some .int) [(0, 10, 13, 21), (0, 10, 17, 19)]) (by rw [wsL_headword]; exact List.mem_cons_self))
  subst hsz
  have hD := hD0.self (sz := s.heap.size)
  generalize hAe : va_A [(x, .inr (12, [.ref inp, .ref de, .ref sa, .ref hi, .ref re, .ref co, .ref dv, .ref rs, .int 0])), (de, .inr (5, [.ref ba, .ref bl, .ref br])), (bl, .inr (9, [.ref blr, .int 0])), (o, eJ G 1 fo)] s.heap.size = A at hD hE ⊢
  have hA : ∀ q : Nat, s.heap.size ≤ q → A q := fun q h => by rw [← hAe]; exact Or.inr h
  have hS : va_S A s.heap s.heap [] := va_S.rf
  have hP : va_P G.1 vwCl [(x, .inr (12, [.ref inp, .ref de, .ref sa, .ref hi, .ref re, .ref co, .ref dv, .ref rs, .int 0])), (de, .inr (5, [.ref ba, .ref bl, .ref br])), (bl, .inr (9, [.ref blr, .int 0])), (o, eJ G 1 fo)] s.heap := hP
  have hl := lv_entry ([.ref x, .int q, .int q2, .ref o]) (n := 5) (Nat.le_of_ble_eq_true rfl)
  rw [lg_entry_eq]
  generalize (lg_sl ([.ref x, .int q, .int q2, .ref o]) ++ List.replicate (5 - (lg_sl ([.ref x, .int q, .int q2, .ref o])).length) Slot.unset).toArray = ls at hl ⊢
  have hl : lv_has ls 5 [(0, .ref x), (1, .int q), (2, .int q2), (3, .ref o)] := hl
  obtain ⟨H, hH⟩ : ∃ z, z = s.heap := ⟨_, rfl⟩
  have hS : va_S A s.heap H [] := by rw [hH]; exact hS
  have hP : va_P G.1 vwCl [(x, .inr (12, [.ref inp, .ref de, .ref sa, .ref hi, .ref re, .ref co, .ref dv, .ref rs, .int 0])), (de, .inr (5, [.ref ba, .ref bl, .ref br])), (bl, .inr (9, [.ref blr, .int 0])), (o, eJ G 1 fo)] H := by rw [hH]; exact hP
  refine n_heap hH ?_
  generalize ([] : List Loc) = locs at hS ⊢
  refine lv_aload_n hx hb dL_headword_0 rfl (lv_at hl 3 rfl) ?_
  refine lv_iconst (v := 0) hx hb dL_headword_1 (by decide) ?_
  refine lv_aload_n hx hb dL_headword_2 rfl (lv_at hl 0 rfl) ?_
  refine lv_iload_n hx hb dL_headword_3 rfl (lv_at hl 1 rfl) ?_
  refine lv_iload_n hx hb dL_headword_4 rfl (lv_at hl 2 rfl) ?_
  refine n_xi (wr := [(o, eJ G 1 fo)]) (vx_runV (As := [.int q, .int q2]) (rest := [.int 0, .ref o]) ⟨hx, hb, hml, hown, hts⟩ (mX11_headword l hl9 G x inp de sa hi re co dv rs ba bl br blr q q2 H.size) (cwV 2 hts gL_headword_X11_headword rfl rfl rfl (by decide +kernel) ⟨(Nat.le_of_ble_eq_true rfl), (Nat.le_of_ble_eq_true rfl)⟩) (n_prVX (ci := 12) (q0 := 0) hK hP hD hS hA [0, 1, 2] rfl (by decide) rfl rfl hE) rfl rfl hl.1 rfl (lv_room (Nat.le_of_ble_eq_true rfl)) dL_headword_5 ⟨(Nat.le_of_ble_eq_true rfl), (Nat.le_of_ble_eq_true rfl)⟩) hP hD hS hA [0, 1, 2] [3] rfl rfl (by decide) (by decide) (fun E9 ce q9 H locs hP hD hS hpx hce hcv hcl => ?_) (fun r_1 u_2 H locs hP hD hS hw => ?_)
  · skip
    have hpx : E9 = "java/lang/IndexOutOfBoundsException" := hpx
    have hpx : E9 = "java/lang/IndexOutOfBoundsException" := hpx
    obtain rfl := hpx
    refine vx_catch (own := RL) (name := "java/lang/IndexOutOfBoundsException") (E := "java/lang/IndexOutOfBoundsException") hown [] (⟨0, 10, 13, 21⟩ : ExceptionTableEntry) [(⟨0, 10, 17, 19⟩ : ExceptionTableEntry)] (by rw [htab]; rfl) (fun z hz => absurd hz List.not_mem_nil) (by decide) (by decide) (hts (.classLink RL 21 "java/lang/IndexOutOfBoundsException") (by decide +kernel)) (va_Nw.use rfl (hE.1.2.1 "java/lang/IndexOutOfBoundsException" (by decide +kernel))) hce hcv hcl ?_
    refine W.eq (g2 := F0 m 13 ls [.ref q9]) rfl ?_
    refine lv_astore (lv' := [(4, .ref q9), (0, .ref x), (1, .int q), (2, .int q2), (3, .ref o)]) hx hb dL_headword_13 hl (by decide) rfl (fun ls hl => ?_)
    refine lv_iconst (v := 1) hx hb dL_headword_15 (by decide) ?_
    have hP9 := n_Psub (wc := [(o, eJ G 1 fo)]) hP [0] rfl
    have hD9 := hD.sub (ws' := [(o, eJ G 1 fo)]) [0] (by decide) rfl
    refine W.widen (k := 1) (n := 6) (Nat.le_of_ble_eq_true rfl) (Nat.le_of_ble_eq_true rfl) ?_
    exact W.iret (v := 1) hx hb hr (fun t ht hW => ⟨⟨1, (), rfl, rfl, by rw [ht]; exact hP9, va_K.moved hW.alike hK, hD9⟩, hS.F ht⟩) hS.2.2 dL_headword_16
  · exact False.elim hw

set_option maxHeartbeats 4000000 in
set_option maxRecDepth 100000 in
theorem mL_letterOf (l : Launch) (hl9 : l.stackTraces = false) (G : nG) (x : Nat) (inp : Nat) (de : Nat) (sa : Nat) (hi : Nat) (re : Nat) (co : Nat) (dv : Nat) (rs : Nat) (ba : Nat) (bl : Nat) (br : Nat) (blr : Nat) (q : Int32) (q2 : Int32) (q3 : Int32) (o : Nat) (fo : Nat → Int64) (sz : Nat) : Met l yL_letterOf wsL_letterOf ({ frames := 8, cells := 1, slots := 6, locals := 134 }) (va_Pc [.ref x, .int q, .int q2, .int q3, .ref o] (n_px G [(x, .inr (12, [.ref inp, .ref de, .ref sa, .ref hi, .ref re, .ref co, .ref dv, .ref rs, .int 0])), (de, .inr (5, [.ref ba, .ref bl, .ref br])), (bl, .inr (9, [.ref blr, .int 0])), (o, eJ G 1 fo)] sz)) (va_Qi (fun (r : Int32) (_ : Unit) => r = 1) (fun (_ : Unit) (t : State) => n_po G (va_A [(x, .inr (12, [.ref inp, .ref de, .ref sa, .ref hi, .ref re, .ref co, .ref dv, .ref rs, .int 0])), (de, .inr (5, [.ref ba, .ref bl, .ref br])), (bl, .inr (9, [.ref blr, .int 0])), (o, eJ G 1 fo)] sz) [(o, eJ G 1 fo)] t) (va_A [(x, .inr (12, [.ref inp, .ref de, .ref sa, .ref hi, .ref re, .ref co, .ref dv, .ref rs, .int 0])), (de, .inr (5, [.ref ba, .ref bl, .ref br])), (bl, .inr (9, [.ref blr, .int 0])), (o, eJ G 1 fo)] sz)) 1 6 (va_A [(x, .inr (12, [.ref inp, .ref de, .ref sa, .ref hi, .ref re, .ref co, .ref dv, .ref rs, .int 0])), (de, .inr (5, [.ref ba, .ref bl, .ref br])), (bl, .inr (9, [.ref blr, .int 0])), (o, eJ G 1 fo)] sz) := by
  refine n_ofWH (cc := cL_letterOf) (maxL := 6) (ret := (some .int)) (hh := [(0, 12, 15, 21), (0, 12, 19, 47)]) (by decide) rfl ?_
  intro p e s m args below meth c s₁ B hml hv
  obtain ⟨rfl, ⟨hsz, hP, hK, hD0⟩, hE⟩ := hv
  have hx := B.exec
  have hb := B.bytes
  have hr := B.returns
  have hts := atoms_spec (ws := wsL_letterOf) B.pre
  have hown : s.vm.findClass RL = some m.cls := findClass_of_methodNamed B.named
  have hlocks := B.notSynchronized
  have htab := vx_table (x := yL_letterOf) B (hts (.codeWith yL_letterOf cL_letterOf 6 (some .int) [(0, 12, 15, 21), (0, 12, 19, 47)]) (by rw [wsL_letterOf]; exact List.mem_cons_self))
  subst hsz
  have hD := hD0.self (sz := s.heap.size)
  generalize hAe : va_A [(x, .inr (12, [.ref inp, .ref de, .ref sa, .ref hi, .ref re, .ref co, .ref dv, .ref rs, .int 0])), (de, .inr (5, [.ref ba, .ref bl, .ref br])), (bl, .inr (9, [.ref blr, .int 0])), (o, eJ G 1 fo)] s.heap.size = A at hD hE ⊢
  have hA : ∀ q : Nat, s.heap.size ≤ q → A q := fun q h => by rw [← hAe]; exact Or.inr h
  have hS : va_S A s.heap s.heap [] := va_S.rf
  have hP : va_P G.1 vwCl [(x, .inr (12, [.ref inp, .ref de, .ref sa, .ref hi, .ref re, .ref co, .ref dv, .ref rs, .int 0])), (de, .inr (5, [.ref ba, .ref bl, .ref br])), (bl, .inr (9, [.ref blr, .int 0])), (o, eJ G 1 fo)] s.heap := hP
  have hl := lv_entry ([.ref x, .int q, .int q2, .int q3, .ref o]) (n := 6) (Nat.le_of_ble_eq_true rfl)
  rw [lg_entry_eq]
  generalize (lg_sl ([.ref x, .int q, .int q2, .int q3, .ref o]) ++ List.replicate (6 - (lg_sl ([.ref x, .int q, .int q2, .int q3, .ref o])).length) Slot.unset).toArray = ls at hl ⊢
  have hl : lv_has ls 6 [(0, .ref x), (1, .int q), (2, .int q2), (3, .int q3), (4, .ref o)] := hl
  obtain ⟨H, hH⟩ : ∃ z, z = s.heap := ⟨_, rfl⟩
  have hS : va_S A s.heap H [] := by rw [hH]; exact hS
  have hP : va_P G.1 vwCl [(x, .inr (12, [.ref inp, .ref de, .ref sa, .ref hi, .ref re, .ref co, .ref dv, .ref rs, .int 0])), (de, .inr (5, [.ref ba, .ref bl, .ref br])), (bl, .inr (9, [.ref blr, .int 0])), (o, eJ G 1 fo)] H := by rw [hH]; exact hP
  refine n_heap hH ?_
  generalize ([] : List Loc) = locs at hS ⊢
  refine lv_aload hx hb dL_letterOf_0 (lv_at hl 4 rfl) ?_
  refine lv_iconst (v := 0) hx hb dL_letterOf_2 (by decide) ?_
  refine lv_aload_n hx hb dL_letterOf_3 rfl (lv_at hl 0 rfl) ?_
  refine lv_iload_n hx hb dL_letterOf_4 rfl (lv_at hl 1 rfl) ?_
  refine lv_iload_n hx hb dL_letterOf_5 rfl (lv_at hl 2 rfl) ?_
  refine lv_iload_n hx hb dL_letterOf_6 rfl (lv_at hl 3 rfl) ?_
  refine n_xi (wr := [(o, eJ G 1 fo)]) (vx_runV (As := [.int q, .int q2, .int q3]) (rest := [.int 0, .ref o]) ⟨hx, hb, hml, hown, hts⟩ (mX11_letterOf l hl9 G x inp de sa hi re co dv rs ba bl br blr q q2 q3 H.size) (cwV 3 hts gL_letterOf_X11_letterOf rfl rfl rfl (by decide +kernel) ⟨(Nat.le_of_ble_eq_true rfl), (Nat.le_of_ble_eq_true rfl)⟩) (n_prVX (ci := 12) (q0 := 0) hK hP hD hS hA [0, 1, 2] rfl (by decide) rfl rfl hE) rfl rfl hl.1 rfl (lv_room (Nat.le_of_ble_eq_true rfl)) dL_letterOf_7 ⟨(Nat.le_of_ble_eq_true rfl), (Nat.le_of_ble_eq_true rfl)⟩) hP hD hS hA [0, 1, 2] [3] rfl rfl (by decide) (by decide) (fun E9 ce q9 H locs hP hD hS hpx hce hcv hcl => ?_) (fun r_1 u_2 H locs hP hD hS hw => ?_)
  · skip
    have hpx : E9 = "java/lang/IndexOutOfBoundsException" := hpx
    have hpx : E9 = "java/lang/IndexOutOfBoundsException" := hpx
    obtain rfl := hpx
    refine vx_catch (own := RL) (name := "java/lang/IndexOutOfBoundsException") (E := "java/lang/IndexOutOfBoundsException") hown [] (⟨0, 12, 15, 21⟩ : ExceptionTableEntry) [(⟨0, 12, 19, 47⟩ : ExceptionTableEntry)] (by rw [htab]; rfl) (fun z hz => absurd hz List.not_mem_nil) (by decide) (by decide) (hts (.classLink RL 21 "java/lang/IndexOutOfBoundsException") (by decide +kernel)) (va_Nw.use rfl (hE.1.2.1 "java/lang/IndexOutOfBoundsException" (by decide +kernel))) hce hcv hcl ?_
    refine W.eq (g2 := F0 m 15 ls [.ref q9]) rfl ?_
    refine lv_astore (lv' := [(5, .ref q9), (0, .ref x), (1, .int q), (2, .int q2), (3, .int q3), (4, .ref o)]) hx hb dL_letterOf_15 hl (by decide) rfl (fun ls hl => ?_)
    refine lv_iconst (v := 1) hx hb dL_letterOf_17 (by decide) ?_
    have hP9 := n_Psub (wc := [(o, eJ G 1 fo)]) hP [0] rfl
    have hD9 := hD.sub (ws' := [(o, eJ G 1 fo)]) [0] (by decide) rfl
    refine W.widen (k := 1) (n := 6) (Nat.le_of_ble_eq_true rfl) (Nat.le_of_ble_eq_true rfl) ?_
    exact W.iret (v := 1) hx hb hr (fun t ht hW => ⟨⟨1, (), rfl, rfl, by rw [ht]; exact hP9, va_K.moved hW.alike hK, hD9⟩, hS.F ht⟩) hS.2.2 dL_letterOf_18
  · exact False.elim hw

set_option maxHeartbeats 4000000 in
set_option maxRecDepth 100000 in
theorem mL_compare (l : Launch) (hl9 : l.stackTraces = false) (G : nG) (x : Nat) (inp : Nat) (de : Nat) (sa : Nat) (hi : Nat) (re : Nat) (co : Nat) (dv : Nat) (rs : Nat) (ba : Nat) (bl : Nat) (br : Nat) (blr : Nat) (q : Int32) (q2 : Int32) (q3 : Int32) (q4 : Int32) (o : Nat) (fo : Nat → Int64) (sz : Nat) : Met l yL_compare wsL_compare ({ frames := 8, cells := 1, slots := 6, locals := 135 }) (va_Pc [.ref x, .int q, .int q2, .int q3, .int q4, .ref o] (n_px G [(x, .inr (12, [.ref inp, .ref de, .ref sa, .ref hi, .ref re, .ref co, .ref dv, .ref rs, .int 0])), (de, .inr (5, [.ref ba, .ref bl, .ref br])), (bl, .inr (9, [.ref blr, .int 0])), (o, eJ G 1 fo)] sz)) (va_Qi (fun (r : Int32) (_ : Unit) => r = 1) (fun (_ : Unit) (t : State) => n_po G (va_A [(x, .inr (12, [.ref inp, .ref de, .ref sa, .ref hi, .ref re, .ref co, .ref dv, .ref rs, .int 0])), (de, .inr (5, [.ref ba, .ref bl, .ref br])), (bl, .inr (9, [.ref blr, .int 0])), (o, eJ G 1 fo)] sz) [(o, eJ G 1 fo)] t) (va_A [(x, .inr (12, [.ref inp, .ref de, .ref sa, .ref hi, .ref re, .ref co, .ref dv, .ref rs, .int 0])), (de, .inr (5, [.ref ba, .ref bl, .ref br])), (bl, .inr (9, [.ref blr, .int 0])), (o, eJ G 1 fo)] sz)) 1 6 (va_A [(x, .inr (12, [.ref inp, .ref de, .ref sa, .ref hi, .ref re, .ref co, .ref dv, .ref rs, .int 0])), (de, .inr (5, [.ref ba, .ref bl, .ref br])), (bl, .inr (9, [.ref blr, .int 0])), (o, eJ G 1 fo)] sz) := by
  refine n_ofWH (cc := cL_compare) (maxL := 7) (ret := (some .int)) (hh := [(0, 14, 17, 21), (0, 14, 21, 47)]) (by decide) rfl ?_
  intro p e s m args below meth c s₁ B hml hv
  obtain ⟨rfl, ⟨hsz, hP, hK, hD0⟩, hE⟩ := hv
  have hx := B.exec
  have hb := B.bytes
  have hr := B.returns
  have hts := atoms_spec (ws := wsL_compare) B.pre
  have hown : s.vm.findClass RL = some m.cls := findClass_of_methodNamed B.named
  have hlocks := B.notSynchronized
  have htab := vx_table (x := yL_compare) B (hts (.codeWith yL_compare cL_compare 7 (some .int) [(0, 14, 17, 21), (0, 14, 21, 47)]) (by rw [wsL_compare]; exact List.mem_cons_self))
  subst hsz
  have hD := hD0.self (sz := s.heap.size)
  generalize hAe : va_A [(x, .inr (12, [.ref inp, .ref de, .ref sa, .ref hi, .ref re, .ref co, .ref dv, .ref rs, .int 0])), (de, .inr (5, [.ref ba, .ref bl, .ref br])), (bl, .inr (9, [.ref blr, .int 0])), (o, eJ G 1 fo)] s.heap.size = A at hD hE ⊢
  have hA : ∀ q : Nat, s.heap.size ≤ q → A q := fun q h => by rw [← hAe]; exact Or.inr h
  have hS : va_S A s.heap s.heap [] := va_S.rf
  have hP : va_P G.1 vwCl [(x, .inr (12, [.ref inp, .ref de, .ref sa, .ref hi, .ref re, .ref co, .ref dv, .ref rs, .int 0])), (de, .inr (5, [.ref ba, .ref bl, .ref br])), (bl, .inr (9, [.ref blr, .int 0])), (o, eJ G 1 fo)] s.heap := hP
  have hl := lv_entry ([.ref x, .int q, .int q2, .int q3, .int q4, .ref o]) (n := 7) (Nat.le_of_ble_eq_true rfl)
  rw [lg_entry_eq]
  generalize (lg_sl ([.ref x, .int q, .int q2, .int q3, .int q4, .ref o]) ++ List.replicate (7 - (lg_sl ([.ref x, .int q, .int q2, .int q3, .int q4, .ref o])).length) Slot.unset).toArray = ls at hl ⊢
  have hl : lv_has ls 7 [(0, .ref x), (1, .int q), (2, .int q2), (3, .int q3), (4, .int q4), (5, .ref o)] := hl
  obtain ⟨H, hH⟩ : ∃ z, z = s.heap := ⟨_, rfl⟩
  have hS : va_S A s.heap H [] := by rw [hH]; exact hS
  have hP : va_P G.1 vwCl [(x, .inr (12, [.ref inp, .ref de, .ref sa, .ref hi, .ref re, .ref co, .ref dv, .ref rs, .int 0])), (de, .inr (5, [.ref ba, .ref bl, .ref br])), (bl, .inr (9, [.ref blr, .int 0])), (o, eJ G 1 fo)] H := by rw [hH]; exact hP
  refine n_heap hH ?_
  generalize ([] : List Loc) = locs at hS ⊢
  refine lv_aload hx hb dL_compare_0 (lv_at hl 5 rfl) ?_
  refine lv_iconst (v := 0) hx hb dL_compare_2 (by decide) ?_
  refine lv_aload_n hx hb dL_compare_3 rfl (lv_at hl 0 rfl) ?_
  refine lv_iload_n hx hb dL_compare_4 rfl (lv_at hl 1 rfl) ?_
  refine lv_iload_n hx hb dL_compare_5 rfl (lv_at hl 2 rfl) ?_
  refine lv_iload_n hx hb dL_compare_6 rfl (lv_at hl 3 rfl) ?_
  refine lv_iload hx hb dL_compare_7 (lv_at hl 4 rfl) ?_
  refine n_xi (wr := [(o, eJ G 1 fo)]) (vx_runV (As := [.int q, .int q2, .int q3, .int q4]) (rest := [.int 0, .ref o]) ⟨hx, hb, hml, hown, hts⟩ (mX11_compare l hl9 G x inp de sa hi re co dv rs ba bl br blr q q2 q3 q4 H.size) (cwV 4 hts gL_compare_X11_compare rfl rfl rfl (by decide +kernel) ⟨(Nat.le_of_ble_eq_true rfl), (Nat.le_of_ble_eq_true rfl)⟩) (n_prVX (ci := 12) (q0 := 0) hK hP hD hS hA [0, 1, 2] rfl (by decide) rfl rfl hE) rfl rfl hl.1 rfl (lv_room (Nat.le_of_ble_eq_true rfl)) dL_compare_9 ⟨(Nat.le_of_ble_eq_true rfl), (Nat.le_of_ble_eq_true rfl)⟩) hP hD hS hA [0, 1, 2] [3] rfl rfl (by decide) (by decide) (fun E9 ce q9 H locs hP hD hS hpx hce hcv hcl => ?_) (fun r_1 u_2 H locs hP hD hS hw => ?_)
  · skip
    have hpx : E9 = "java/lang/IndexOutOfBoundsException" := hpx
    have hpx : E9 = "java/lang/IndexOutOfBoundsException" := hpx
    obtain rfl := hpx
    refine vx_catch (own := RL) (name := "java/lang/IndexOutOfBoundsException") (E := "java/lang/IndexOutOfBoundsException") hown [] (⟨0, 14, 17, 21⟩ : ExceptionTableEntry) [(⟨0, 14, 21, 47⟩ : ExceptionTableEntry)] (by rw [htab]; rfl) (fun z hz => absurd hz List.not_mem_nil) (by decide) (by decide) (hts (.classLink RL 21 "java/lang/IndexOutOfBoundsException") (by decide +kernel)) (va_Nw.use rfl (hE.1.2.1 "java/lang/IndexOutOfBoundsException" (by decide +kernel))) hce hcv hcl ?_
    refine W.eq (g2 := F0 m 17 ls [.ref q9]) rfl ?_
    refine lv_astore (lv' := [(6, .ref q9), (0, .ref x), (1, .int q), (2, .int q2), (3, .int q3), (4, .int q4), (5, .ref o)]) hx hb dL_compare_17 hl (by decide) rfl (fun ls hl => ?_)
    refine lv_iconst (v := 1) hx hb dL_compare_19 (by decide) ?_
    have hP9 := n_Psub (wc := [(o, eJ G 1 fo)]) hP [0] rfl
    have hD9 := hD.sub (ws' := [(o, eJ G 1 fo)]) [0] (by decide) rfl
    refine W.widen (k := 1) (n := 6) (Nat.le_of_ble_eq_true rfl) (Nat.le_of_ble_eq_true rfl) ?_
    exact W.iret (v := 1) hx hb hr (fun t ht hW => ⟨⟨1, (), rfl, rfl, by rw [ht]; exact hP9, va_K.moved hW.alike hK, hD9⟩, hS.F ht⟩) hS.2.2 dL_compare_20
  · exact False.elim hw

set_option maxHeartbeats 4000000 in
set_option maxRecDepth 100000 in
theorem mL_refer (l : Launch) (hl9 : l.stackTraces = false) (G : nG) (x : Nat) (inp : Nat) (de : Nat) (sa : Nat) (hi : Nat) (re : Nat) (co : Nat) (dv : Nat) (rs : Nat) (ba : Nat) (bl : Nat) (br : Nat) (blr : Nat) (q : Int32) (q2 : Int32) (o : Nat) (fo : Nat → Int64) (sz : Nat) : Met l yL_refer wsL_refer ({ frames := 8, cells := 1, slots := 6, locals := 134 }) (va_Pc [.ref x, .int q, .int q2, .ref o] (n_px G [(x, .inr (12, [.ref inp, .ref de, .ref sa, .ref hi, .ref re, .ref co, .ref dv, .ref rs, .int 0])), (de, .inr (5, [.ref ba, .ref bl, .ref br])), (bl, .inr (9, [.ref blr, .int 0])), (o, eJ G 1 fo)] sz)) (va_Qi (fun (r : Int32) (_ : Unit) => r = 1) (fun (_ : Unit) (t : State) => n_po G (va_A [(x, .inr (12, [.ref inp, .ref de, .ref sa, .ref hi, .ref re, .ref co, .ref dv, .ref rs, .int 0])), (de, .inr (5, [.ref ba, .ref bl, .ref br])), (bl, .inr (9, [.ref blr, .int 0])), (o, eJ G 1 fo)] sz) [(o, eJ G 1 fo)] t) (va_A [(x, .inr (12, [.ref inp, .ref de, .ref sa, .ref hi, .ref re, .ref co, .ref dv, .ref rs, .int 0])), (de, .inr (5, [.ref ba, .ref bl, .ref br])), (bl, .inr (9, [.ref blr, .int 0])), (o, eJ G 1 fo)] sz)) 1 6 (va_A [(x, .inr (12, [.ref inp, .ref de, .ref sa, .ref hi, .ref re, .ref co, .ref dv, .ref rs, .int 0])), (de, .inr (5, [.ref ba, .ref bl, .ref br])), (bl, .inr (9, [.ref blr, .int 0])), (o, eJ G 1 fo)] sz) := by
  refine n_ofWH (cc := cL_refer) (maxL := 5) (ret := (some .int)) (hh := [(0, 10, 13, 21), (0, 10, 17, 35)]) (by decide) rfl ?_
  intro p e s m args below meth c s₁ B hml hv
  obtain ⟨rfl, ⟨hsz, hP, hK, hD0⟩, hE⟩ := hv
  have hx := B.exec
  have hb := B.bytes
  have hr := B.returns
  have hts := atoms_spec (ws := wsL_refer) B.pre
  have hown : s.vm.findClass RL = some m.cls := findClass_of_methodNamed B.named
  have hlocks := B.notSynchronized
  have htab := vx_table (x := yL_refer) B (hts (.codeWith yL_refer cL_refer 5 (some .int) [(0, 10, 13, 21), (0, 10, 17, 35)]) (by rw [wsL_refer]; exact List.mem_cons_self))
  subst hsz
  have hD := hD0.self (sz := s.heap.size)
  generalize hAe : va_A [(x, .inr (12, [.ref inp, .ref de, .ref sa, .ref hi, .ref re, .ref co, .ref dv, .ref rs, .int 0])), (de, .inr (5, [.ref ba, .ref bl, .ref br])), (bl, .inr (9, [.ref blr, .int 0])), (o, eJ G 1 fo)] s.heap.size = A at hD hE ⊢
  have hA : ∀ q : Nat, s.heap.size ≤ q → A q := fun q h => by rw [← hAe]; exact Or.inr h
  have hS : va_S A s.heap s.heap [] := va_S.rf
  have hP : va_P G.1 vwCl [(x, .inr (12, [.ref inp, .ref de, .ref sa, .ref hi, .ref re, .ref co, .ref dv, .ref rs, .int 0])), (de, .inr (5, [.ref ba, .ref bl, .ref br])), (bl, .inr (9, [.ref blr, .int 0])), (o, eJ G 1 fo)] s.heap := hP
  have hl := lv_entry ([.ref x, .int q, .int q2, .ref o]) (n := 5) (Nat.le_of_ble_eq_true rfl)
  rw [lg_entry_eq]
  generalize (lg_sl ([.ref x, .int q, .int q2, .ref o]) ++ List.replicate (5 - (lg_sl ([.ref x, .int q, .int q2, .ref o])).length) Slot.unset).toArray = ls at hl ⊢
  have hl : lv_has ls 5 [(0, .ref x), (1, .int q), (2, .int q2), (3, .ref o)] := hl
  obtain ⟨H, hH⟩ : ∃ z, z = s.heap := ⟨_, rfl⟩
  have hS : va_S A s.heap H [] := by rw [hH]; exact hS
  have hP : va_P G.1 vwCl [(x, .inr (12, [.ref inp, .ref de, .ref sa, .ref hi, .ref re, .ref co, .ref dv, .ref rs, .int 0])), (de, .inr (5, [.ref ba, .ref bl, .ref br])), (bl, .inr (9, [.ref blr, .int 0])), (o, eJ G 1 fo)] H := by rw [hH]; exact hP
  refine n_heap hH ?_
  generalize ([] : List Loc) = locs at hS ⊢
  refine lv_aload_n hx hb dL_refer_0 rfl (lv_at hl 3 rfl) ?_
  refine lv_iconst (v := 0) hx hb dL_refer_1 (by decide) ?_
  refine lv_aload_n hx hb dL_refer_2 rfl (lv_at hl 0 rfl) ?_
  refine lv_iload_n hx hb dL_refer_3 rfl (lv_at hl 1 rfl) ?_
  refine lv_iload_n hx hb dL_refer_4 rfl (lv_at hl 2 rfl) ?_
  refine n_xi (wr := [(o, eJ G 1 fo)]) (vx_runV (As := [.int q, .int q2]) (rest := [.int 0, .ref o]) ⟨hx, hb, hml, hown, hts⟩ (mX11_refer l hl9 G x inp de sa hi re co dv rs ba bl br blr q q2 H.size) (cwV 2 hts gL_refer_X11_refer rfl rfl rfl (by decide +kernel) ⟨(Nat.le_of_ble_eq_true rfl), (Nat.le_of_ble_eq_true rfl)⟩) (n_prVX (ci := 12) (q0 := 0) hK hP hD hS hA [0, 1, 2] rfl (by decide) rfl rfl hE) rfl rfl hl.1 rfl (lv_room (Nat.le_of_ble_eq_true rfl)) dL_refer_5 ⟨(Nat.le_of_ble_eq_true rfl), (Nat.le_of_ble_eq_true rfl)⟩) hP hD hS hA [0, 1, 2] [3] rfl rfl (by decide) (by decide) (fun E9 ce q9 H locs hP hD hS hpx hce hcv hcl => ?_) (fun r_1 u_2 H locs hP hD hS hw => ?_)
  · skip
    have hpx : E9 = "java/lang/IndexOutOfBoundsException" := hpx
    have hpx : E9 = "java/lang/IndexOutOfBoundsException" := hpx
    obtain rfl := hpx
    refine vx_catch (own := RL) (name := "java/lang/IndexOutOfBoundsException") (E := "java/lang/IndexOutOfBoundsException") hown [] (⟨0, 10, 13, 21⟩ : ExceptionTableEntry) [(⟨0, 10, 17, 35⟩ : ExceptionTableEntry)] (by rw [htab]; rfl) (fun z hz => absurd hz List.not_mem_nil) (by decide) (by decide) (hts (.classLink RL 21 "java/lang/IndexOutOfBoundsException") (by decide +kernel)) (va_Nw.use rfl (hE.1.2.1 "java/lang/IndexOutOfBoundsException" (by decide +kernel))) hce hcv hcl ?_
    refine W.eq (g2 := F0 m 13 ls [.ref q9]) rfl ?_
    refine lv_astore (lv' := [(4, .ref q9), (0, .ref x), (1, .int q), (2, .int q2), (3, .ref o)]) hx hb dL_refer_13 hl (by decide) rfl (fun ls hl => ?_)
    refine lv_iconst (v := 1) hx hb dL_refer_15 (by decide) ?_
    have hP9 := n_Psub (wc := [(o, eJ G 1 fo)]) hP [0] rfl
    have hD9 := hD.sub (ws' := [(o, eJ G 1 fo)]) [0] (by decide) rfl
    refine W.widen (k := 1) (n := 6) (Nat.le_of_ble_eq_true rfl) (Nat.le_of_ble_eq_true rfl) ?_
    exact W.iret (v := 1) hx hb hr (fun t ht hW => ⟨⟨1, (), rfl, rfl, by rw [ht]; exact hP9, va_K.moved hW.alike hK, hD9⟩, hS.F ht⟩) hS.2.2 dL_refer_16
  · exact False.elim hw

set_option maxHeartbeats 4000000 in
set_option maxRecDepth 100000 in
theorem mL_steps (l : Launch) (hl9 : l.stackTraces = false) (G : nG) (x : Nat) (inp : Nat) (de : Nat) (sa : Nat) (hi : Nat) (re : Nat) (co : Nat) (dv : Nat) (rs : Nat) (ba : Nat) (bl : Nat) (br : Nat) (blr : Nat) (q : Int32) (q2 : Int32) (o : Nat) (fo : Nat → Int64) (sz : Nat) : Met l yL_steps wsL_steps ({ frames := 8, cells := 1, slots := 6, locals := 134 }) (va_Pc [.ref x, .int q, .int q2, .ref o] (n_px G [(x, .inr (12, [.ref inp, .ref de, .ref sa, .ref hi, .ref re, .ref co, .ref dv, .ref rs, .int 0])), (de, .inr (5, [.ref ba, .ref bl, .ref br])), (bl, .inr (9, [.ref blr, .int 0])), (o, eJ G 1 fo)] sz)) (va_Qi (fun (r : Int32) (_ : Unit) => r = 1) (fun (_ : Unit) (t : State) => n_po G (va_A [(x, .inr (12, [.ref inp, .ref de, .ref sa, .ref hi, .ref re, .ref co, .ref dv, .ref rs, .int 0])), (de, .inr (5, [.ref ba, .ref bl, .ref br])), (bl, .inr (9, [.ref blr, .int 0])), (o, eJ G 1 fo)] sz) [(o, eJ G 1 fo)] t) (va_A [(x, .inr (12, [.ref inp, .ref de, .ref sa, .ref hi, .ref re, .ref co, .ref dv, .ref rs, .int 0])), (de, .inr (5, [.ref ba, .ref bl, .ref br])), (bl, .inr (9, [.ref blr, .int 0])), (o, eJ G 1 fo)] sz)) 1 6 (va_A [(x, .inr (12, [.ref inp, .ref de, .ref sa, .ref hi, .ref re, .ref co, .ref dv, .ref rs, .int 0])), (de, .inr (5, [.ref ba, .ref bl, .ref br])), (bl, .inr (9, [.ref blr, .int 0])), (o, eJ G 1 fo)] sz) := by
  refine n_ofWH (cc := cL_steps) (maxL := 5) (ret := (some .int)) (hh := [(0, 10, 13, 21), (0, 10, 17, 47)]) (by decide) rfl ?_
  intro p e s m args below meth c s₁ B hml hv
  obtain ⟨rfl, ⟨hsz, hP, hK, hD0⟩, hE⟩ := hv
  have hx := B.exec
  have hb := B.bytes
  have hr := B.returns
  have hts := atoms_spec (ws := wsL_steps) B.pre
  have hown : s.vm.findClass RL = some m.cls := findClass_of_methodNamed B.named
  have hlocks := B.notSynchronized
  have htab := vx_table (x := yL_steps) B (hts (.codeWith yL_steps cL_steps 5 (some .int) [(0, 10, 13, 21), (0, 10, 17, 47)]) (by rw [wsL_steps]; exact List.mem_cons_self))
  subst hsz
  have hD := hD0.self (sz := s.heap.size)
  generalize hAe : va_A [(x, .inr (12, [.ref inp, .ref de, .ref sa, .ref hi, .ref re, .ref co, .ref dv, .ref rs, .int 0])), (de, .inr (5, [.ref ba, .ref bl, .ref br])), (bl, .inr (9, [.ref blr, .int 0])), (o, eJ G 1 fo)] s.heap.size = A at hD hE ⊢
  have hA : ∀ q : Nat, s.heap.size ≤ q → A q := fun q h => by rw [← hAe]; exact Or.inr h
  have hS : va_S A s.heap s.heap [] := va_S.rf
  have hP : va_P G.1 vwCl [(x, .inr (12, [.ref inp, .ref de, .ref sa, .ref hi, .ref re, .ref co, .ref dv, .ref rs, .int 0])), (de, .inr (5, [.ref ba, .ref bl, .ref br])), (bl, .inr (9, [.ref blr, .int 0])), (o, eJ G 1 fo)] s.heap := hP
  have hl := lv_entry ([.ref x, .int q, .int q2, .ref o]) (n := 5) (Nat.le_of_ble_eq_true rfl)
  rw [lg_entry_eq]
  generalize (lg_sl ([.ref x, .int q, .int q2, .ref o]) ++ List.replicate (5 - (lg_sl ([.ref x, .int q, .int q2, .ref o])).length) Slot.unset).toArray = ls at hl ⊢
  have hl : lv_has ls 5 [(0, .ref x), (1, .int q), (2, .int q2), (3, .ref o)] := hl
  obtain ⟨H, hH⟩ : ∃ z, z = s.heap := ⟨_, rfl⟩
  have hS : va_S A s.heap H [] := by rw [hH]; exact hS
  have hP : va_P G.1 vwCl [(x, .inr (12, [.ref inp, .ref de, .ref sa, .ref hi, .ref re, .ref co, .ref dv, .ref rs, .int 0])), (de, .inr (5, [.ref ba, .ref bl, .ref br])), (bl, .inr (9, [.ref blr, .int 0])), (o, eJ G 1 fo)] H := by rw [hH]; exact hP
  refine n_heap hH ?_
  generalize ([] : List Loc) = locs at hS ⊢
  refine lv_aload_n hx hb dL_steps_0 rfl (lv_at hl 3 rfl) ?_
  refine lv_iconst (v := 0) hx hb dL_steps_1 (by decide) ?_
  refine lv_aload_n hx hb dL_steps_2 rfl (lv_at hl 0 rfl) ?_
  refine lv_iload_n hx hb dL_steps_3 rfl (lv_at hl 1 rfl) ?_
  refine lv_iload_n hx hb dL_steps_4 rfl (lv_at hl 2 rfl) ?_
  refine n_xi (wr := [(o, eJ G 1 fo)]) (vx_runV (As := [.int q, .int q2]) (rest := [.int 0, .ref o]) ⟨hx, hb, hml, hown, hts⟩ (mX11_steps l hl9 G x inp de sa hi re co dv rs ba bl br blr q q2 H.size) (cwV 2 hts gL_steps_X11_steps rfl rfl rfl (by decide +kernel) ⟨(Nat.le_of_ble_eq_true rfl), (Nat.le_of_ble_eq_true rfl)⟩) (n_prVX (ci := 12) (q0 := 0) hK hP hD hS hA [0, 1, 2] rfl (by decide) rfl rfl hE) rfl rfl hl.1 rfl (lv_room (Nat.le_of_ble_eq_true rfl)) dL_steps_5 ⟨(Nat.le_of_ble_eq_true rfl), (Nat.le_of_ble_eq_true rfl)⟩) hP hD hS hA [0, 1, 2] [3] rfl rfl (by decide) (by decide) (fun E9 ce q9 H locs hP hD hS hpx hce hcv hcl => ?_) (fun r_1 u_2 H locs hP hD hS hw => ?_)
  · skip
    have hpx : E9 = "java/lang/IndexOutOfBoundsException" := hpx
    have hpx : E9 = "java/lang/IndexOutOfBoundsException" := hpx
    obtain rfl := hpx
    refine vx_catch (own := RL) (name := "java/lang/IndexOutOfBoundsException") (E := "java/lang/IndexOutOfBoundsException") hown [] (⟨0, 10, 13, 21⟩ : ExceptionTableEntry) [(⟨0, 10, 17, 47⟩ : ExceptionTableEntry)] (by rw [htab]; rfl) (fun z hz => absurd hz List.not_mem_nil) (by decide) (by decide) (hts (.classLink RL 21 "java/lang/IndexOutOfBoundsException") (by decide +kernel)) (va_Nw.use rfl (hE.1.2.1 "java/lang/IndexOutOfBoundsException" (by decide +kernel))) hce hcv hcl ?_
    refine W.eq (g2 := F0 m 13 ls [.ref q9]) rfl ?_
    refine lv_astore (lv' := [(4, .ref q9), (0, .ref x), (1, .int q), (2, .int q2), (3, .ref o)]) hx hb dL_steps_13 hl (by decide) rfl (fun ls hl => ?_)
    refine lv_iconst (v := 1) hx hb dL_steps_15 (by decide) ?_
    have hP9 := n_Psub (wc := [(o, eJ G 1 fo)]) hP [0] rfl
    have hD9 := hD.sub (ws' := [(o, eJ G 1 fo)]) [0] (by decide) rfl
    refine W.widen (k := 1) (n := 6) (Nat.le_of_ble_eq_true rfl) (Nat.le_of_ble_eq_true rfl) ?_
    exact W.iret (v := 1) hx hb hr (fun t ht hW => ⟨⟨1, (), rfl, rfl, by rw [ht]; exact hP9, va_K.moved hW.alike hK, hD9⟩, hS.F ht⟩) hS.2.2 dL_steps_16
  · exact False.elim hw

set_option maxHeartbeats 4000000 in
set_option maxRecDepth 100000 in
theorem mL_derived (l : Launch) (hl9 : l.stackTraces = false) (G : nG) (x : Nat) (inp : Nat) (de : Nat) (sa : Nat) (hi : Nat) (re : Nat) (co : Nat) (dv : Nat) (rs : Nat) (ba : Nat) (bl : Nat) (br : Nat) (blr : Nat) (q : Int32) (q2 : Int32) (q3 : Int32) (q4 : Int32) (o : Nat) (fo : Nat → Int64) (sz : Nat) : Met l yL_derived wsL_derived ({ frames := 8, cells := 1, slots := 6, locals := 137 }) (va_Pc [.ref x, .int q, .int q2, .int q3, .int q4, .ref o] (n_px G [(x, .inr (12, [.ref inp, .ref de, .ref sa, .ref hi, .ref re, .ref co, .ref dv, .ref rs, .int 0])), (de, .inr (5, [.ref ba, .ref bl, .ref br])), (bl, .inr (9, [.ref blr, .int 0])), (o, eJ G 1 fo)] sz)) (va_Qi (fun (r : Int32) (_ : Unit) => r = 1) (fun (_ : Unit) (t : State) => n_po G (va_A [(x, .inr (12, [.ref inp, .ref de, .ref sa, .ref hi, .ref re, .ref co, .ref dv, .ref rs, .int 0])), (de, .inr (5, [.ref ba, .ref bl, .ref br])), (bl, .inr (9, [.ref blr, .int 0])), (o, eJ G 1 fo)] sz) [(o, eJ G 1 fo)] t) (va_A [(x, .inr (12, [.ref inp, .ref de, .ref sa, .ref hi, .ref re, .ref co, .ref dv, .ref rs, .int 0])), (de, .inr (5, [.ref ba, .ref bl, .ref br])), (bl, .inr (9, [.ref blr, .int 0])), (o, eJ G 1 fo)] sz)) 1 6 (va_A [(x, .inr (12, [.ref inp, .ref de, .ref sa, .ref hi, .ref re, .ref co, .ref dv, .ref rs, .int 0])), (de, .inr (5, [.ref ba, .ref bl, .ref br])), (bl, .inr (9, [.ref blr, .int 0])), (o, eJ G 1 fo)] sz) := by
  refine n_ofWH (cc := cL_derived) (maxL := 7) (ret := (some .int)) (hh := [(0, 14, 17, 21), (0, 14, 21, 47)]) (by decide) rfl ?_
  intro p e s m args below meth c s₁ B hml hv
  obtain ⟨rfl, ⟨hsz, hP, hK, hD0⟩, hE⟩ := hv
  have hx := B.exec
  have hb := B.bytes
  have hr := B.returns
  have hts := atoms_spec (ws := wsL_derived) B.pre
  have hown : s.vm.findClass RL = some m.cls := findClass_of_methodNamed B.named
  have hlocks := B.notSynchronized
  have htab := vx_table (x := yL_derived) B (hts (.codeWith yL_derived cL_derived 7 (some .int) [(0, 14, 17, 21), (0, 14, 21, 47)]) (by rw [wsL_derived]; exact List.mem_cons_self))
  subst hsz
  have hD := hD0.self (sz := s.heap.size)
  generalize hAe : va_A [(x, .inr (12, [.ref inp, .ref de, .ref sa, .ref hi, .ref re, .ref co, .ref dv, .ref rs, .int 0])), (de, .inr (5, [.ref ba, .ref bl, .ref br])), (bl, .inr (9, [.ref blr, .int 0])), (o, eJ G 1 fo)] s.heap.size = A at hD hE ⊢
  have hA : ∀ q : Nat, s.heap.size ≤ q → A q := fun q h => by rw [← hAe]; exact Or.inr h
  have hS : va_S A s.heap s.heap [] := va_S.rf
  have hP : va_P G.1 vwCl [(x, .inr (12, [.ref inp, .ref de, .ref sa, .ref hi, .ref re, .ref co, .ref dv, .ref rs, .int 0])), (de, .inr (5, [.ref ba, .ref bl, .ref br])), (bl, .inr (9, [.ref blr, .int 0])), (o, eJ G 1 fo)] s.heap := hP
  have hl := lv_entry ([.ref x, .int q, .int q2, .int q3, .int q4, .ref o]) (n := 7) (Nat.le_of_ble_eq_true rfl)
  rw [lg_entry_eq]
  generalize (lg_sl ([.ref x, .int q, .int q2, .int q3, .int q4, .ref o]) ++ List.replicate (7 - (lg_sl ([.ref x, .int q, .int q2, .int q3, .int q4, .ref o])).length) Slot.unset).toArray = ls at hl ⊢
  have hl : lv_has ls 7 [(0, .ref x), (1, .int q), (2, .int q2), (3, .int q3), (4, .int q4), (5, .ref o)] := hl
  obtain ⟨H, hH⟩ : ∃ z, z = s.heap := ⟨_, rfl⟩
  have hS : va_S A s.heap H [] := by rw [hH]; exact hS
  have hP : va_P G.1 vwCl [(x, .inr (12, [.ref inp, .ref de, .ref sa, .ref hi, .ref re, .ref co, .ref dv, .ref rs, .int 0])), (de, .inr (5, [.ref ba, .ref bl, .ref br])), (bl, .inr (9, [.ref blr, .int 0])), (o, eJ G 1 fo)] H := by rw [hH]; exact hP
  refine n_heap hH ?_
  generalize ([] : List Loc) = locs at hS ⊢
  refine lv_aload hx hb dL_derived_0 (lv_at hl 5 rfl) ?_
  refine lv_iconst (v := 0) hx hb dL_derived_2 (by decide) ?_
  refine lv_aload_n hx hb dL_derived_3 rfl (lv_at hl 0 rfl) ?_
  refine lv_iload_n hx hb dL_derived_4 rfl (lv_at hl 1 rfl) ?_
  refine lv_iload_n hx hb dL_derived_5 rfl (lv_at hl 2 rfl) ?_
  refine lv_iload_n hx hb dL_derived_6 rfl (lv_at hl 3 rfl) ?_
  refine lv_iload hx hb dL_derived_7 (lv_at hl 4 rfl) ?_
  refine n_xi (wr := [(o, eJ G 1 fo)]) (vx_runV (As := [.int q, .int q2, .int q3, .int q4]) (rest := [.int 0, .ref o]) ⟨hx, hb, hml, hown, hts⟩ (mX11_derived l hl9 G x inp de sa hi re co dv rs ba bl br blr q q2 q3 q4 H.size) (cwV 4 hts gL_derived_X11_derived rfl rfl rfl (by decide +kernel) ⟨(Nat.le_of_ble_eq_true rfl), (Nat.le_of_ble_eq_true rfl)⟩) (n_prVX (ci := 12) (q0 := 0) hK hP hD hS hA [0, 1, 2] rfl (by decide) rfl rfl hE) rfl rfl hl.1 rfl (lv_room (Nat.le_of_ble_eq_true rfl)) dL_derived_9 ⟨(Nat.le_of_ble_eq_true rfl), (Nat.le_of_ble_eq_true rfl)⟩) hP hD hS hA [0, 1, 2] [3] rfl rfl (by decide) (by decide) (fun E9 ce q9 H locs hP hD hS hpx hce hcv hcl => ?_) (fun r_1 u_2 H locs hP hD hS hw => ?_)
  · skip
    have hpx : E9 = "java/lang/IndexOutOfBoundsException" := hpx
    have hpx : E9 = "java/lang/IndexOutOfBoundsException" := hpx
    obtain rfl := hpx
    refine vx_catch (own := RL) (name := "java/lang/IndexOutOfBoundsException") (E := "java/lang/IndexOutOfBoundsException") hown [] (⟨0, 14, 17, 21⟩ : ExceptionTableEntry) [(⟨0, 14, 21, 47⟩ : ExceptionTableEntry)] (by rw [htab]; rfl) (fun z hz => absurd hz List.not_mem_nil) (by decide) (by decide) (hts (.classLink RL 21 "java/lang/IndexOutOfBoundsException") (by decide +kernel)) (va_Nw.use rfl (hE.1.2.1 "java/lang/IndexOutOfBoundsException" (by decide +kernel))) hce hcv hcl ?_
    refine W.eq (g2 := F0 m 17 ls [.ref q9]) rfl ?_
    refine lv_astore (lv' := [(6, .ref q9), (0, .ref x), (1, .int q), (2, .int q2), (3, .int q3), (4, .int q4), (5, .ref o)]) hx hb dL_derived_17 hl (by decide) rfl (fun ls hl => ?_)
    refine lv_iconst (v := 1) hx hb dL_derived_19 (by decide) ?_
    have hP9 := n_Psub (wc := [(o, eJ G 1 fo)]) hP [0] rfl
    have hD9 := hD.sub (ws' := [(o, eJ G 1 fo)]) [0] (by decide) rfl
    refine W.widen (k := 1) (n := 6) (Nat.le_of_ble_eq_true rfl) (Nat.le_of_ble_eq_true rfl) ?_
    exact W.iret (v := 1) hx hb hr (fun t ht hW => ⟨⟨1, (), rfl, rfl, by rw [ht]; exact hP9, va_K.moved hW.alike hK, hD9⟩, hS.F ht⟩) hS.2.2 dL_derived_20
  · exact False.elim hw

set_option maxHeartbeats 4000000 in
set_option maxRecDepth 100000 in
theorem mL_by (l : Launch) (hl9 : l.stackTraces = false) (G : nG) (x : Nat) (inp : Nat) (de : Nat) (sa : Nat) (hi : Nat) (re : Nat) (co : Nat) (dv : Nat) (rs : Nat) (ba : Nat) (bl : Nat) (br : Nat) (blr : Nat) (q : Int32) (q2 : Int32) (q3 : Int32) (o : Nat) (fo : Nat → Int64) (sz : Nat) : Met l yL_by wsL_by ({ frames := 8, cells := 1, slots := 6, locals := 134 }) (va_Pc [.ref x, .int q, .int q2, .int q3, .ref o] (n_px G [(x, .inr (12, [.ref inp, .ref de, .ref sa, .ref hi, .ref re, .ref co, .ref dv, .ref rs, .int 0])), (de, .inr (5, [.ref ba, .ref bl, .ref br])), (bl, .inr (9, [.ref blr, .int 0])), (o, eJ G 1 fo)] sz)) (va_Qi (fun (r : Int32) (_ : Unit) => r = 1) (fun (_ : Unit) (t : State) => n_po G (va_A [(x, .inr (12, [.ref inp, .ref de, .ref sa, .ref hi, .ref re, .ref co, .ref dv, .ref rs, .int 0])), (de, .inr (5, [.ref ba, .ref bl, .ref br])), (bl, .inr (9, [.ref blr, .int 0])), (o, eJ G 1 fo)] sz) [(o, eJ G 1 fo)] t) (va_A [(x, .inr (12, [.ref inp, .ref de, .ref sa, .ref hi, .ref re, .ref co, .ref dv, .ref rs, .int 0])), (de, .inr (5, [.ref ba, .ref bl, .ref br])), (bl, .inr (9, [.ref blr, .int 0])), (o, eJ G 1 fo)] sz)) 1 6 (va_A [(x, .inr (12, [.ref inp, .ref de, .ref sa, .ref hi, .ref re, .ref co, .ref dv, .ref rs, .int 0])), (de, .inr (5, [.ref ba, .ref bl, .ref br])), (bl, .inr (9, [.ref blr, .int 0])), (o, eJ G 1 fo)] sz) := by
  refine n_ofWH (cc := cL_by) (maxL := 6) (ret := (some .int)) (hh := [(0, 12, 15, 21), (0, 12, 19, 47)]) (by decide) rfl ?_
  intro p e s m args below meth c s₁ B hml hv
  obtain ⟨rfl, ⟨hsz, hP, hK, hD0⟩, hE⟩ := hv
  have hx := B.exec
  have hb := B.bytes
  have hr := B.returns
  have hts := atoms_spec (ws := wsL_by) B.pre
  have hown : s.vm.findClass RL = some m.cls := findClass_of_methodNamed B.named
  have hlocks := B.notSynchronized
  have htab := vx_table (x := yL_by) B (hts (.codeWith yL_by cL_by 6 (some .int) [(0, 12, 15, 21), (0, 12, 19, 47)]) (by rw [wsL_by]; exact List.mem_cons_self))
  subst hsz
  have hD := hD0.self (sz := s.heap.size)
  generalize hAe : va_A [(x, .inr (12, [.ref inp, .ref de, .ref sa, .ref hi, .ref re, .ref co, .ref dv, .ref rs, .int 0])), (de, .inr (5, [.ref ba, .ref bl, .ref br])), (bl, .inr (9, [.ref blr, .int 0])), (o, eJ G 1 fo)] s.heap.size = A at hD hE ⊢
  have hA : ∀ q : Nat, s.heap.size ≤ q → A q := fun q h => by rw [← hAe]; exact Or.inr h
  have hS : va_S A s.heap s.heap [] := va_S.rf
  have hP : va_P G.1 vwCl [(x, .inr (12, [.ref inp, .ref de, .ref sa, .ref hi, .ref re, .ref co, .ref dv, .ref rs, .int 0])), (de, .inr (5, [.ref ba, .ref bl, .ref br])), (bl, .inr (9, [.ref blr, .int 0])), (o, eJ G 1 fo)] s.heap := hP
  have hl := lv_entry ([.ref x, .int q, .int q2, .int q3, .ref o]) (n := 6) (Nat.le_of_ble_eq_true rfl)
  rw [lg_entry_eq]
  generalize (lg_sl ([.ref x, .int q, .int q2, .int q3, .ref o]) ++ List.replicate (6 - (lg_sl ([.ref x, .int q, .int q2, .int q3, .ref o])).length) Slot.unset).toArray = ls at hl ⊢
  have hl : lv_has ls 6 [(0, .ref x), (1, .int q), (2, .int q2), (3, .int q3), (4, .ref o)] := hl
  obtain ⟨H, hH⟩ : ∃ z, z = s.heap := ⟨_, rfl⟩
  have hS : va_S A s.heap H [] := by rw [hH]; exact hS
  have hP : va_P G.1 vwCl [(x, .inr (12, [.ref inp, .ref de, .ref sa, .ref hi, .ref re, .ref co, .ref dv, .ref rs, .int 0])), (de, .inr (5, [.ref ba, .ref bl, .ref br])), (bl, .inr (9, [.ref blr, .int 0])), (o, eJ G 1 fo)] H := by rw [hH]; exact hP
  refine n_heap hH ?_
  generalize ([] : List Loc) = locs at hS ⊢
  refine lv_aload hx hb dL_by_0 (lv_at hl 4 rfl) ?_
  refine lv_iconst (v := 0) hx hb dL_by_2 (by decide) ?_
  refine lv_aload_n hx hb dL_by_3 rfl (lv_at hl 0 rfl) ?_
  refine lv_iload_n hx hb dL_by_4 rfl (lv_at hl 1 rfl) ?_
  refine lv_iload_n hx hb dL_by_5 rfl (lv_at hl 2 rfl) ?_
  refine lv_iload_n hx hb dL_by_6 rfl (lv_at hl 3 rfl) ?_
  refine n_xi (wr := [(o, eJ G 1 fo)]) (vx_runV (As := [.int q, .int q2, .int q3]) (rest := [.int 0, .ref o]) ⟨hx, hb, hml, hown, hts⟩ (mX11_by l hl9 G x inp de sa hi re co dv rs ba bl br blr q q2 q3 H.size) (cwV 3 hts gL_by_X11_by rfl rfl rfl (by decide +kernel) ⟨(Nat.le_of_ble_eq_true rfl), (Nat.le_of_ble_eq_true rfl)⟩) (n_prVX (ci := 12) (q0 := 0) hK hP hD hS hA [0, 1, 2] rfl (by decide) rfl rfl hE) rfl rfl hl.1 rfl (lv_room (Nat.le_of_ble_eq_true rfl)) dL_by_7 ⟨(Nat.le_of_ble_eq_true rfl), (Nat.le_of_ble_eq_true rfl)⟩) hP hD hS hA [0, 1, 2] [3] rfl rfl (by decide) (by decide) (fun E9 ce q9 H locs hP hD hS hpx hce hcv hcl => ?_) (fun r_1 u_2 H locs hP hD hS hw => ?_)
  · skip
    have hpx : E9 = "java/lang/IndexOutOfBoundsException" := hpx
    have hpx : E9 = "java/lang/IndexOutOfBoundsException" := hpx
    obtain rfl := hpx
    refine vx_catch (own := RL) (name := "java/lang/IndexOutOfBoundsException") (E := "java/lang/IndexOutOfBoundsException") hown [] (⟨0, 12, 15, 21⟩ : ExceptionTableEntry) [(⟨0, 12, 19, 47⟩ : ExceptionTableEntry)] (by rw [htab]; rfl) (fun z hz => absurd hz List.not_mem_nil) (by decide) (by decide) (hts (.classLink RL 21 "java/lang/IndexOutOfBoundsException") (by decide +kernel)) (va_Nw.use rfl (hE.1.2.1 "java/lang/IndexOutOfBoundsException" (by decide +kernel))) hce hcv hcl ?_
    refine W.eq (g2 := F0 m 15 ls [.ref q9]) rfl ?_
    refine lv_astore (lv' := [(5, .ref q9), (0, .ref x), (1, .int q), (2, .int q2), (3, .int q3), (4, .ref o)]) hx hb dL_by_15 hl (by decide) rfl (fun ls hl => ?_)
    refine lv_iconst (v := 1) hx hb dL_by_17 (by decide) ?_
    have hP9 := n_Psub (wc := [(o, eJ G 1 fo)]) hP [0] rfl
    have hD9 := hD.sub (ws' := [(o, eJ G 1 fo)]) [0] (by decide) rfl
    refine W.widen (k := 1) (n := 6) (Nat.le_of_ble_eq_true rfl) (Nat.le_of_ble_eq_true rfl) ?_
    exact W.iret (v := 1) hx hb hr (fun t ht hW => ⟨⟨1, (), rfl, rfl, by rw [ht]; exact hP9, va_K.moved hW.alike hK, hD9⟩, hS.F ht⟩) hS.2.2 dL_by_18
  · exact False.elim hw

set_option maxHeartbeats 4000000 in
set_option maxRecDepth 100000 in
theorem mL_proves (l : Launch) (hl9 : l.stackTraces = false) (G : nG) (x : Nat) (inp : Nat) (de : Nat) (sa : Nat) (hi : Nat) (re : Nat) (co : Nat) (dv : Nat) (rs : Nat) (ba : Nat) (bl : Nat) (br : Nat) (blr : Nat) (q : Int32) (q2 : Int32) (q3 : Int32) (q4 : Int32) (o : Nat) (fo : Nat → Int64) (sz : Nat) : Met l yL_proves wsL_proves ({ frames := 8, cells := 1, slots := 6, locals := 136 }) (va_Pc [.ref x, .int q, .int q2, .int q3, .int q4, .ref o] (n_px G [(x, .inr (12, [.ref inp, .ref de, .ref sa, .ref hi, .ref re, .ref co, .ref dv, .ref rs, .int 0])), (de, .inr (5, [.ref ba, .ref bl, .ref br])), (bl, .inr (9, [.ref blr, .int 0])), (o, eJ G 1 fo)] sz)) (va_Qi (fun (r : Int32) (_ : Unit) => r = 1) (fun (_ : Unit) (t : State) => n_po G (va_A [(x, .inr (12, [.ref inp, .ref de, .ref sa, .ref hi, .ref re, .ref co, .ref dv, .ref rs, .int 0])), (de, .inr (5, [.ref ba, .ref bl, .ref br])), (bl, .inr (9, [.ref blr, .int 0])), (o, eJ G 1 fo)] sz) [(o, eJ G 1 fo)] t) (va_A [(x, .inr (12, [.ref inp, .ref de, .ref sa, .ref hi, .ref re, .ref co, .ref dv, .ref rs, .int 0])), (de, .inr (5, [.ref ba, .ref bl, .ref br])), (bl, .inr (9, [.ref blr, .int 0])), (o, eJ G 1 fo)] sz)) 1 6 (va_A [(x, .inr (12, [.ref inp, .ref de, .ref sa, .ref hi, .ref re, .ref co, .ref dv, .ref rs, .int 0])), (de, .inr (5, [.ref ba, .ref bl, .ref br])), (bl, .inr (9, [.ref blr, .int 0])), (o, eJ G 1 fo)] sz) := by
  refine n_ofWH (cc := cL_proves) (maxL := 7) (ret := (some .int)) (hh := [(0, 14, 17, 21), (0, 14, 21, 47)]) (by decide) rfl ?_
  intro p e s m args below meth c s₁ B hml hv
  obtain ⟨rfl, ⟨hsz, hP, hK, hD0⟩, hE⟩ := hv
  have hx := B.exec
  have hb := B.bytes
  have hr := B.returns
  have hts := atoms_spec (ws := wsL_proves) B.pre
  have hown : s.vm.findClass RL = some m.cls := findClass_of_methodNamed B.named
  have hlocks := B.notSynchronized
  have htab := vx_table (x := yL_proves) B (hts (.codeWith yL_proves cL_proves 7 (some .int) [(0, 14, 17, 21), (0, 14, 21, 47)]) (by rw [wsL_proves]; exact List.mem_cons_self))
  subst hsz
  have hD := hD0.self (sz := s.heap.size)
  generalize hAe : va_A [(x, .inr (12, [.ref inp, .ref de, .ref sa, .ref hi, .ref re, .ref co, .ref dv, .ref rs, .int 0])), (de, .inr (5, [.ref ba, .ref bl, .ref br])), (bl, .inr (9, [.ref blr, .int 0])), (o, eJ G 1 fo)] s.heap.size = A at hD hE ⊢
  have hA : ∀ q : Nat, s.heap.size ≤ q → A q := fun q h => by rw [← hAe]; exact Or.inr h
  have hS : va_S A s.heap s.heap [] := va_S.rf
  have hP : va_P G.1 vwCl [(x, .inr (12, [.ref inp, .ref de, .ref sa, .ref hi, .ref re, .ref co, .ref dv, .ref rs, .int 0])), (de, .inr (5, [.ref ba, .ref bl, .ref br])), (bl, .inr (9, [.ref blr, .int 0])), (o, eJ G 1 fo)] s.heap := hP
  have hl := lv_entry ([.ref x, .int q, .int q2, .int q3, .int q4, .ref o]) (n := 7) (Nat.le_of_ble_eq_true rfl)
  rw [lg_entry_eq]
  generalize (lg_sl ([.ref x, .int q, .int q2, .int q3, .int q4, .ref o]) ++ List.replicate (7 - (lg_sl ([.ref x, .int q, .int q2, .int q3, .int q4, .ref o])).length) Slot.unset).toArray = ls at hl ⊢
  have hl : lv_has ls 7 [(0, .ref x), (1, .int q), (2, .int q2), (3, .int q3), (4, .int q4), (5, .ref o)] := hl
  obtain ⟨H, hH⟩ : ∃ z, z = s.heap := ⟨_, rfl⟩
  have hS : va_S A s.heap H [] := by rw [hH]; exact hS
  have hP : va_P G.1 vwCl [(x, .inr (12, [.ref inp, .ref de, .ref sa, .ref hi, .ref re, .ref co, .ref dv, .ref rs, .int 0])), (de, .inr (5, [.ref ba, .ref bl, .ref br])), (bl, .inr (9, [.ref blr, .int 0])), (o, eJ G 1 fo)] H := by rw [hH]; exact hP
  refine n_heap hH ?_
  generalize ([] : List Loc) = locs at hS ⊢
  refine lv_aload hx hb dL_proves_0 (lv_at hl 5 rfl) ?_
  refine lv_iconst (v := 0) hx hb dL_proves_2 (by decide) ?_
  refine lv_aload_n hx hb dL_proves_3 rfl (lv_at hl 0 rfl) ?_
  refine lv_iload_n hx hb dL_proves_4 rfl (lv_at hl 1 rfl) ?_
  refine lv_iload_n hx hb dL_proves_5 rfl (lv_at hl 2 rfl) ?_
  refine lv_iload_n hx hb dL_proves_6 rfl (lv_at hl 3 rfl) ?_
  refine lv_iload hx hb dL_proves_7 (lv_at hl 4 rfl) ?_
  refine n_xi (wr := [(o, eJ G 1 fo)]) (vx_runV (As := [.int q, .int q2, .int q3, .int q4]) (rest := [.int 0, .ref o]) ⟨hx, hb, hml, hown, hts⟩ (mX11_proves l hl9 G x inp de sa hi re co dv rs ba bl br blr q q2 q3 q4 H.size) (cwV 4 hts gL_proves_X11_proves rfl rfl rfl (by decide +kernel) ⟨(Nat.le_of_ble_eq_true rfl), (Nat.le_of_ble_eq_true rfl)⟩) (n_prVX (ci := 12) (q0 := 0) hK hP hD hS hA [0, 1, 2] rfl (by decide) rfl rfl hE) rfl rfl hl.1 rfl (lv_room (Nat.le_of_ble_eq_true rfl)) dL_proves_9 ⟨(Nat.le_of_ble_eq_true rfl), (Nat.le_of_ble_eq_true rfl)⟩) hP hD hS hA [0, 1, 2] [3] rfl rfl (by decide) (by decide) (fun E9 ce q9 H locs hP hD hS hpx hce hcv hcl => ?_) (fun r_1 u_2 H locs hP hD hS hw => ?_)
  · skip
    have hpx : E9 = "java/lang/IndexOutOfBoundsException" := hpx
    have hpx : E9 = "java/lang/IndexOutOfBoundsException" := hpx
    obtain rfl := hpx
    refine vx_catch (own := RL) (name := "java/lang/IndexOutOfBoundsException") (E := "java/lang/IndexOutOfBoundsException") hown [] (⟨0, 14, 17, 21⟩ : ExceptionTableEntry) [(⟨0, 14, 21, 47⟩ : ExceptionTableEntry)] (by rw [htab]; rfl) (fun z hz => absurd hz List.not_mem_nil) (by decide) (by decide) (hts (.classLink RL 21 "java/lang/IndexOutOfBoundsException") (by decide +kernel)) (va_Nw.use rfl (hE.1.2.1 "java/lang/IndexOutOfBoundsException" (by decide +kernel))) hce hcv hcl ?_
    refine W.eq (g2 := F0 m 17 ls [.ref q9]) rfl ?_
    refine lv_astore (lv' := [(6, .ref q9), (0, .ref x), (1, .int q), (2, .int q2), (3, .int q3), (4, .int q4), (5, .ref o)]) hx hb dL_proves_17 hl (by decide) rfl (fun ls hl => ?_)
    refine lv_iconst (v := 1) hx hb dL_proves_19 (by decide) ?_
    have hP9 := n_Psub (wc := [(o, eJ G 1 fo)]) hP [0] rfl
    have hD9 := hD.sub (ws' := [(o, eJ G 1 fo)]) [0] (by decide) rfl
    refine W.widen (k := 1) (n := 6) (Nat.le_of_ble_eq_true rfl) (Nat.le_of_ble_eq_true rfl) ?_
    exact W.iret (v := 1) hx hb hr (fun t ht hW => ⟨⟨1, (), rfl, rfl, by rw [ht]; exact hP9, va_K.moved hW.alike hK, hD9⟩, hS.F ht⟩) hS.2.2 dL_proves_20
  · exact False.elim hw

set_option maxHeartbeats 4000000 in
set_option maxRecDepth 100000 in
theorem mL_exchange (l : Launch) (hl9 : l.stackTraces = false) (G : nG) (x : Nat) (inp : Nat) (de : Nat) (sa : Nat) (hi : Nat) (re : Nat) (co : Nat) (dv : Nat) (rs : Nat) (ba : Nat) (bl : Nat) (br : Nat) (bs1 : Nat) (bs2 : Nat) (bs3 : Nat) (bs4 : Nat) (q : Int32) (q2 : Int32) (o : Nat) (fo : Nat → Int64) (sz : Nat) : Met l yL_exchange wsL_exchange ({ frames := 8, cells := 1, slots := 6, locals := 136 }) (va_Pc [.ref x, .int q, .int q2, .ref o] (n_px G [(x, .inr (12, [.ref inp, .ref de, .ref sa, .ref hi, .ref re, .ref co, .ref dv, .ref rs, .int 0])), (de, .inr (5, [.ref ba, .ref bl, .ref br])), (br, .inr (11, [.ref bs1, .ref bs2, .ref bs3, .ref bs4, .int 0])), (o, eJ G 1 fo)] sz)) (va_Qi (fun (r : Int32) (_ : Unit) => r = 1) (fun (_ : Unit) (t : State) => n_po G (va_A [(x, .inr (12, [.ref inp, .ref de, .ref sa, .ref hi, .ref re, .ref co, .ref dv, .ref rs, .int 0])), (de, .inr (5, [.ref ba, .ref bl, .ref br])), (br, .inr (11, [.ref bs1, .ref bs2, .ref bs3, .ref bs4, .int 0])), (o, eJ G 1 fo)] sz) [(o, eJ G 1 fo)] t) (va_A [(x, .inr (12, [.ref inp, .ref de, .ref sa, .ref hi, .ref re, .ref co, .ref dv, .ref rs, .int 0])), (de, .inr (5, [.ref ba, .ref bl, .ref br])), (br, .inr (11, [.ref bs1, .ref bs2, .ref bs3, .ref bs4, .int 0])), (o, eJ G 1 fo)] sz)) 1 6 (va_A [(x, .inr (12, [.ref inp, .ref de, .ref sa, .ref hi, .ref re, .ref co, .ref dv, .ref rs, .int 0])), (de, .inr (5, [.ref ba, .ref bl, .ref br])), (br, .inr (11, [.ref bs1, .ref bs2, .ref bs3, .ref bs4, .int 0])), (o, eJ G 1 fo)] sz) := by
  refine n_ofWH (cc := cL_exchange) (maxL := 5) (ret := (some .int)) (hh := [(0, 10, 13, 21)]) (by decide) rfl ?_
  intro p e s m args below meth c s₁ B hml hv
  obtain ⟨rfl, ⟨hsz, hP, hK, hD0⟩, hE⟩ := hv
  have hx := B.exec
  have hb := B.bytes
  have hr := B.returns
  have hts := atoms_spec (ws := wsL_exchange) B.pre
  have hown : s.vm.findClass RL = some m.cls := findClass_of_methodNamed B.named
  have hlocks := B.notSynchronized
  have htab := vx_table (x := yL_exchange) B (hts (.codeWith yL_exchange cL_exchange 5 (some .int) [(0, 10, 13, 21)]) (by rw [wsL_exchange]; exact List.mem_cons_self))
  subst hsz
  have hD := hD0.self (sz := s.heap.size)
  generalize hAe : va_A [(x, .inr (12, [.ref inp, .ref de, .ref sa, .ref hi, .ref re, .ref co, .ref dv, .ref rs, .int 0])), (de, .inr (5, [.ref ba, .ref bl, .ref br])), (br, .inr (11, [.ref bs1, .ref bs2, .ref bs3, .ref bs4, .int 0])), (o, eJ G 1 fo)] s.heap.size = A at hD hE ⊢
  have hA : ∀ q : Nat, s.heap.size ≤ q → A q := fun q h => by rw [← hAe]; exact Or.inr h
  have hS : va_S A s.heap s.heap [] := va_S.rf
  have hP : va_P G.1 vwCl [(x, .inr (12, [.ref inp, .ref de, .ref sa, .ref hi, .ref re, .ref co, .ref dv, .ref rs, .int 0])), (de, .inr (5, [.ref ba, .ref bl, .ref br])), (br, .inr (11, [.ref bs1, .ref bs2, .ref bs3, .ref bs4, .int 0])), (o, eJ G 1 fo)] s.heap := hP
  have hl := lv_entry ([.ref x, .int q, .int q2, .ref o]) (n := 5) (Nat.le_of_ble_eq_true rfl)
  rw [lg_entry_eq]
  generalize (lg_sl ([.ref x, .int q, .int q2, .ref o]) ++ List.replicate (5 - (lg_sl ([.ref x, .int q, .int q2, .ref o])).length) Slot.unset).toArray = ls at hl ⊢
  have hl : lv_has ls 5 [(0, .ref x), (1, .int q), (2, .int q2), (3, .ref o)] := hl
  obtain ⟨H, hH⟩ : ∃ z, z = s.heap := ⟨_, rfl⟩
  have hS : va_S A s.heap H [] := by rw [hH]; exact hS
  have hP : va_P G.1 vwCl [(x, .inr (12, [.ref inp, .ref de, .ref sa, .ref hi, .ref re, .ref co, .ref dv, .ref rs, .int 0])), (de, .inr (5, [.ref ba, .ref bl, .ref br])), (br, .inr (11, [.ref bs1, .ref bs2, .ref bs3, .ref bs4, .int 0])), (o, eJ G 1 fo)] H := by rw [hH]; exact hP
  refine n_heap hH ?_
  generalize ([] : List Loc) = locs at hS ⊢
  refine lv_aload_n hx hb dL_exchange_0 rfl (lv_at hl 3 rfl) ?_
  refine lv_iconst (v := 0) hx hb dL_exchange_1 (by decide) ?_
  refine lv_aload_n hx hb dL_exchange_2 rfl (lv_at hl 0 rfl) ?_
  refine lv_iload_n hx hb dL_exchange_3 rfl (lv_at hl 1 rfl) ?_
  refine lv_iload_n hx hb dL_exchange_4 rfl (lv_at hl 2 rfl) ?_
  refine n_xi (wr := [(o, eJ G 1 fo)]) (vx_runV (As := [.int q, .int q2]) (rest := [.int 0, .ref o]) ⟨hx, hb, hml, hown, hts⟩ (mX11_exchange l hl9 G x inp de sa hi re co dv rs ba bl br bs1 bs2 bs3 bs4 q q2 H.size) (cwV 2 hts gL_exchange_X11_exchange rfl rfl rfl (by decide +kernel) ⟨(Nat.le_of_ble_eq_true rfl), (Nat.le_of_ble_eq_true rfl)⟩) (n_prVX (ci := 12) (q0 := 0) hK hP hD hS hA [0, 1, 2] rfl (by decide) rfl rfl hE) rfl rfl hl.1 rfl (lv_room (Nat.le_of_ble_eq_true rfl)) dL_exchange_5 ⟨(Nat.le_of_ble_eq_true rfl), (Nat.le_of_ble_eq_true rfl)⟩) hP hD hS hA [0, 1, 2] [3] rfl rfl (by decide) (by decide) (fun E9 ce q9 H locs hP hD hS hpx hce hcv hcl => ?_) (fun r_1 u_2 H locs hP hD hS hw => ?_)
  · skip
    have hpx : E9 = "java/lang/IndexOutOfBoundsException" := hpx
    have hpx : E9 = "java/lang/IndexOutOfBoundsException" := hpx
    obtain rfl := hpx
    refine vx_catch (own := RL) (name := "java/lang/IndexOutOfBoundsException") (E := "java/lang/IndexOutOfBoundsException") hown [] (⟨0, 10, 13, 21⟩ : ExceptionTableEntry) [] (by rw [htab]; rfl) (fun z hz => absurd hz List.not_mem_nil) (by decide) (by decide) (hts (.classLink RL 21 "java/lang/IndexOutOfBoundsException") (by decide +kernel)) (va_Nw.use rfl (hE.1.2.1 "java/lang/IndexOutOfBoundsException" (by decide +kernel))) hce hcv hcl ?_
    refine W.eq (g2 := F0 m 13 ls [.ref q9]) rfl ?_
    refine lv_astore (lv' := [(4, .ref q9), (0, .ref x), (1, .int q), (2, .int q2), (3, .ref o)]) hx hb dL_exchange_13 hl (by decide) rfl (fun ls hl => ?_)
    refine lv_iconst (v := 1) hx hb dL_exchange_15 (by decide) ?_
    have hP9 := n_Psub (wc := [(o, eJ G 1 fo)]) hP [0] rfl
    have hD9 := hD.sub (ws' := [(o, eJ G 1 fo)]) [0] (by decide) rfl
    refine W.widen (k := 1) (n := 6) (Nat.le_of_ble_eq_true rfl) (Nat.le_of_ble_eq_true rfl) ?_
    exact W.iret (v := 1) hx hb hr (fun t ht hW => ⟨⟨1, (), rfl, rfl, by rw [ht]; exact hP9, va_K.moved hW.alike hK, hD9⟩, hS.F ht⟩) hS.2.2 dL_exchange_16
  · exact False.elim hw

set_option maxHeartbeats 4000000 in
set_option maxRecDepth 100000 in
theorem mL_removeRule (l : Launch) (hl9 : l.stackTraces = false) (G : nG) (x : Nat) (inp : Nat) (de : Nat) (sa : Nat) (hi : Nat) (re : Nat) (co : Nat) (dv : Nat) (rs : Nat) (ba : Nat) (bl : Nat) (br : Nat) (bs1 : Nat) (bs2 : Nat) (bs3 : Nat) (bs4 : Nat) (q : Int32) (o : Nat) (fo : Nat → Int64) (sz : Nat) : Met l yL_removeRule wsL_removeRule ({ frames := 8, cells := 1, slots := 6, locals := 132 }) (va_Pc [.ref x, .int q, .ref o] (n_px G [(x, .inr (12, [.ref inp, .ref de, .ref sa, .ref hi, .ref re, .ref co, .ref dv, .ref rs, .int 0])), (de, .inr (5, [.ref ba, .ref bl, .ref br])), (br, .inr (11, [.ref bs1, .ref bs2, .ref bs3, .ref bs4, .int 0])), (o, eJ G 1 fo)] sz)) (va_Qi (fun (r : Int32) (_ : Unit) => r = 1) (fun (_ : Unit) (t : State) => n_po G (va_A [(x, .inr (12, [.ref inp, .ref de, .ref sa, .ref hi, .ref re, .ref co, .ref dv, .ref rs, .int 0])), (de, .inr (5, [.ref ba, .ref bl, .ref br])), (br, .inr (11, [.ref bs1, .ref bs2, .ref bs3, .ref bs4, .int 0])), (o, eJ G 1 fo)] sz) [(o, eJ G 1 fo)] t) (va_A [(x, .inr (12, [.ref inp, .ref de, .ref sa, .ref hi, .ref re, .ref co, .ref dv, .ref rs, .int 0])), (de, .inr (5, [.ref ba, .ref bl, .ref br])), (br, .inr (11, [.ref bs1, .ref bs2, .ref bs3, .ref bs4, .int 0])), (o, eJ G 1 fo)] sz)) 1 6 (va_A [(x, .inr (12, [.ref inp, .ref de, .ref sa, .ref hi, .ref re, .ref co, .ref dv, .ref rs, .int 0])), (de, .inr (5, [.ref ba, .ref bl, .ref br])), (br, .inr (11, [.ref bs1, .ref bs2, .ref bs3, .ref bs4, .int 0])), (o, eJ G 1 fo)] sz) := by
  refine n_ofWH (cc := cL_removeRule) (maxL := 4) (ret := (some .int)) (hh := [(0, 9, 12, 21)]) (by decide) rfl ?_
  intro p e s m args below meth c s₁ B hml hv
  obtain ⟨rfl, ⟨hsz, hP, hK, hD0⟩, hE⟩ := hv
  have hx := B.exec
  have hb := B.bytes
  have hr := B.returns
  have hts := atoms_spec (ws := wsL_removeRule) B.pre
  have hown : s.vm.findClass RL = some m.cls := findClass_of_methodNamed B.named
  have hlocks := B.notSynchronized
  have htab := vx_table (x := yL_removeRule) B (hts (.codeWith yL_removeRule cL_removeRule 4 (some .int) [(0, 9, 12, 21)]) (by rw [wsL_removeRule]; exact List.mem_cons_self))
  subst hsz
  have hD := hD0.self (sz := s.heap.size)
  generalize hAe : va_A [(x, .inr (12, [.ref inp, .ref de, .ref sa, .ref hi, .ref re, .ref co, .ref dv, .ref rs, .int 0])), (de, .inr (5, [.ref ba, .ref bl, .ref br])), (br, .inr (11, [.ref bs1, .ref bs2, .ref bs3, .ref bs4, .int 0])), (o, eJ G 1 fo)] s.heap.size = A at hD hE ⊢
  have hA : ∀ q : Nat, s.heap.size ≤ q → A q := fun q h => by rw [← hAe]; exact Or.inr h
  have hS : va_S A s.heap s.heap [] := va_S.rf
  have hP : va_P G.1 vwCl [(x, .inr (12, [.ref inp, .ref de, .ref sa, .ref hi, .ref re, .ref co, .ref dv, .ref rs, .int 0])), (de, .inr (5, [.ref ba, .ref bl, .ref br])), (br, .inr (11, [.ref bs1, .ref bs2, .ref bs3, .ref bs4, .int 0])), (o, eJ G 1 fo)] s.heap := hP
  have hl := lv_entry ([.ref x, .int q, .ref o]) (n := 4) (Nat.le_of_ble_eq_true rfl)
  rw [lg_entry_eq]
  generalize (lg_sl ([.ref x, .int q, .ref o]) ++ List.replicate (4 - (lg_sl ([.ref x, .int q, .ref o])).length) Slot.unset).toArray = ls at hl ⊢
  have hl : lv_has ls 4 [(0, .ref x), (1, .int q), (2, .ref o)] := hl
  obtain ⟨H, hH⟩ : ∃ z, z = s.heap := ⟨_, rfl⟩
  have hS : va_S A s.heap H [] := by rw [hH]; exact hS
  have hP : va_P G.1 vwCl [(x, .inr (12, [.ref inp, .ref de, .ref sa, .ref hi, .ref re, .ref co, .ref dv, .ref rs, .int 0])), (de, .inr (5, [.ref ba, .ref bl, .ref br])), (br, .inr (11, [.ref bs1, .ref bs2, .ref bs3, .ref bs4, .int 0])), (o, eJ G 1 fo)] H := by rw [hH]; exact hP
  refine n_heap hH ?_
  generalize ([] : List Loc) = locs at hS ⊢
  refine lv_aload_n hx hb dL_removeRule_0 rfl (lv_at hl 2 rfl) ?_
  refine lv_iconst (v := 0) hx hb dL_removeRule_1 (by decide) ?_
  refine lv_aload_n hx hb dL_removeRule_2 rfl (lv_at hl 0 rfl) ?_
  refine lv_iload_n hx hb dL_removeRule_3 rfl (lv_at hl 1 rfl) ?_
  refine n_xi (wr := [(o, eJ G 1 fo)]) (vx_runV (As := [.int q]) (rest := [.int 0, .ref o]) ⟨hx, hb, hml, hown, hts⟩ (mX11_removeRule l hl9 G x inp de sa hi re co dv rs ba bl br bs1 bs2 bs3 bs4 q H.size) (cwV 1 hts gL_removeRule_X11_removeRule rfl rfl rfl (by decide +kernel) ⟨(Nat.le_of_ble_eq_true rfl), (Nat.le_of_ble_eq_true rfl)⟩) (n_prVX (ci := 12) (q0 := 0) hK hP hD hS hA [0, 1, 2] rfl (by decide) rfl rfl hE) rfl rfl hl.1 rfl (lv_room (Nat.le_of_ble_eq_true rfl)) dL_removeRule_4 ⟨(Nat.le_of_ble_eq_true rfl), (Nat.le_of_ble_eq_true rfl)⟩) hP hD hS hA [0, 1, 2] [3] rfl rfl (by decide) (by decide) (fun E9 ce q9 H locs hP hD hS hpx hce hcv hcl => ?_) (fun r_1 u_2 H locs hP hD hS hw => ?_)
  · skip
    have hpx : E9 = "java/lang/IndexOutOfBoundsException" := hpx
    have hpx : E9 = "java/lang/IndexOutOfBoundsException" := hpx
    obtain rfl := hpx
    refine vx_catch (own := RL) (name := "java/lang/IndexOutOfBoundsException") (E := "java/lang/IndexOutOfBoundsException") hown [] (⟨0, 9, 12, 21⟩ : ExceptionTableEntry) [] (by rw [htab]; rfl) (fun z hz => absurd hz List.not_mem_nil) (by decide) (by decide) (hts (.classLink RL 21 "java/lang/IndexOutOfBoundsException") (by decide +kernel)) (va_Nw.use rfl (hE.1.2.1 "java/lang/IndexOutOfBoundsException" (by decide +kernel))) hce hcv hcl ?_
    refine W.eq (g2 := F0 m 12 ls [.ref q9]) rfl ?_
    refine lv_astore_n (lv' := [(3, .ref q9), (0, .ref x), (1, .int q), (2, .ref o)]) hx hb dL_removeRule_12 rfl hl (by decide) rfl (fun ls hl => ?_)
    refine lv_iconst (v := 1) hx hb dL_removeRule_13 (by decide) ?_
    have hP9 := n_Psub (wc := [(o, eJ G 1 fo)]) hP [0] rfl
    have hD9 := hD.sub (ws' := [(o, eJ G 1 fo)]) [0] (by decide) rfl
    refine W.widen (k := 1) (n := 6) (Nat.le_of_ble_eq_true rfl) (Nat.le_of_ble_eq_true rfl) ?_
    exact W.iret (v := 1) hx hb hr (fun t ht hW => ⟨⟨1, (), rfl, rfl, by rw [ht]; exact hP9, va_K.moved hW.alike hK, hD9⟩, hS.F ht⟩) hS.2.2 dL_removeRule_14
  · exact False.elim hw

set_option maxHeartbeats 4000000 in
set_option maxRecDepth 100000 in
theorem mL_rule (l : Launch) (hl9 : l.stackTraces = false) (G : nG) (x : Nat) (inp : Nat) (de : Nat) (sa : Nat) (hi : Nat) (re : Nat) (co : Nat) (dv : Nat) (rs : Nat) (ba : Nat) (bl : Nat) (br : Nat) (bs1 : Nat) (bs2 : Nat) (bs3 : Nat) (bs4 : Nat) (q : Int32) (q2 : Int32) (o : Nat) (fo : Nat → Int64) (sz : Nat) : Met l yL_rule wsL_rule ({ frames := 8, cells := 1, slots := 6, locals := 134 }) (va_Pc [.ref x, .int q, .int q2, .ref o] (n_px G [(x, .inr (12, [.ref inp, .ref de, .ref sa, .ref hi, .ref re, .ref co, .ref dv, .ref rs, .int 0])), (de, .inr (5, [.ref ba, .ref bl, .ref br])), (br, .inr (11, [.ref bs1, .ref bs2, .ref bs3, .ref bs4, .int 0])), (o, eJ G 1 fo)] sz)) (va_Qi (fun (r : Int32) (_ : Unit) => r = 1) (fun (_ : Unit) (t : State) => n_po G (va_A [(x, .inr (12, [.ref inp, .ref de, .ref sa, .ref hi, .ref re, .ref co, .ref dv, .ref rs, .int 0])), (de, .inr (5, [.ref ba, .ref bl, .ref br])), (br, .inr (11, [.ref bs1, .ref bs2, .ref bs3, .ref bs4, .int 0])), (o, eJ G 1 fo)] sz) [(o, eJ G 1 fo)] t) (va_A [(x, .inr (12, [.ref inp, .ref de, .ref sa, .ref hi, .ref re, .ref co, .ref dv, .ref rs, .int 0])), (de, .inr (5, [.ref ba, .ref bl, .ref br])), (br, .inr (11, [.ref bs1, .ref bs2, .ref bs3, .ref bs4, .int 0])), (o, eJ G 1 fo)] sz)) 1 6 (va_A [(x, .inr (12, [.ref inp, .ref de, .ref sa, .ref hi, .ref re, .ref co, .ref dv, .ref rs, .int 0])), (de, .inr (5, [.ref ba, .ref bl, .ref br])), (br, .inr (11, [.ref bs1, .ref bs2, .ref bs3, .ref bs4, .int 0])), (o, eJ G 1 fo)] sz) := by
  refine n_ofWH (cc := cL_rule) (maxL := 5) (ret := (some .int)) (hh := [(0, 10, 13, 21), (0, 10, 17, 19)]) (by decide) rfl ?_
  intro p e s m args below meth c s₁ B hml hv
  obtain ⟨rfl, ⟨hsz, hP, hK, hD0⟩, hE⟩ := hv
  have hx := B.exec
  have hb := B.bytes
  have hr := B.returns
  have hts := atoms_spec (ws := wsL_rule) B.pre
  have hown : s.vm.findClass RL = some m.cls := findClass_of_methodNamed B.named
  have hlocks := B.notSynchronized
  have htab := vx_table (x := yL_rule) B (hts (.codeWith yL_rule cL_rule 5 (some .int) [(0, 10, 13, 21), (0, 10, 17, 19)]) (by rw [wsL_rule]; exact List.mem_cons_self))
  subst hsz
  have hD := hD0.self (sz := s.heap.size)
  generalize hAe : va_A [(x, .inr (12, [.ref inp, .ref de, .ref sa, .ref hi, .ref re, .ref co, .ref dv, .ref rs, .int 0])), (de, .inr (5, [.ref ba, .ref bl, .ref br])), (br, .inr (11, [.ref bs1, .ref bs2, .ref bs3, .ref bs4, .int 0])), (o, eJ G 1 fo)] s.heap.size = A at hD hE ⊢
  have hA : ∀ q : Nat, s.heap.size ≤ q → A q := fun q h => by rw [← hAe]; exact Or.inr h
  have hS : va_S A s.heap s.heap [] := va_S.rf
  have hP : va_P G.1 vwCl [(x, .inr (12, [.ref inp, .ref de, .ref sa, .ref hi, .ref re, .ref co, .ref dv, .ref rs, .int 0])), (de, .inr (5, [.ref ba, .ref bl, .ref br])), (br, .inr (11, [.ref bs1, .ref bs2, .ref bs3, .ref bs4, .int 0])), (o, eJ G 1 fo)] s.heap := hP
  have hl := lv_entry ([.ref x, .int q, .int q2, .ref o]) (n := 5) (Nat.le_of_ble_eq_true rfl)
  rw [lg_entry_eq]
  generalize (lg_sl ([.ref x, .int q, .int q2, .ref o]) ++ List.replicate (5 - (lg_sl ([.ref x, .int q, .int q2, .ref o])).length) Slot.unset).toArray = ls at hl ⊢
  have hl : lv_has ls 5 [(0, .ref x), (1, .int q), (2, .int q2), (3, .ref o)] := hl
  obtain ⟨H, hH⟩ : ∃ z, z = s.heap := ⟨_, rfl⟩
  have hS : va_S A s.heap H [] := by rw [hH]; exact hS
  have hP : va_P G.1 vwCl [(x, .inr (12, [.ref inp, .ref de, .ref sa, .ref hi, .ref re, .ref co, .ref dv, .ref rs, .int 0])), (de, .inr (5, [.ref ba, .ref bl, .ref br])), (br, .inr (11, [.ref bs1, .ref bs2, .ref bs3, .ref bs4, .int 0])), (o, eJ G 1 fo)] H := by rw [hH]; exact hP
  refine n_heap hH ?_
  generalize ([] : List Loc) = locs at hS ⊢
  refine lv_aload_n hx hb dL_rule_0 rfl (lv_at hl 3 rfl) ?_
  refine lv_iconst (v := 0) hx hb dL_rule_1 (by decide) ?_
  refine lv_aload_n hx hb dL_rule_2 rfl (lv_at hl 0 rfl) ?_
  refine lv_iload_n hx hb dL_rule_3 rfl (lv_at hl 1 rfl) ?_
  refine lv_iload_n hx hb dL_rule_4 rfl (lv_at hl 2 rfl) ?_
  refine n_xi (wr := [(o, eJ G 1 fo)]) (vx_runV (As := [.int q, .int q2]) (rest := [.int 0, .ref o]) ⟨hx, hb, hml, hown, hts⟩ (mX11_rule l hl9 G x inp de sa hi re co dv rs ba bl br bs1 bs2 bs3 bs4 q q2 H.size) (cwV 2 hts gL_rule_X11_rule rfl rfl rfl (by decide +kernel) ⟨(Nat.le_of_ble_eq_true rfl), (Nat.le_of_ble_eq_true rfl)⟩) (n_prVX (ci := 12) (q0 := 0) hK hP hD hS hA [0, 1, 2] rfl (by decide) rfl rfl hE) rfl rfl hl.1 rfl (lv_room (Nat.le_of_ble_eq_true rfl)) dL_rule_5 ⟨(Nat.le_of_ble_eq_true rfl), (Nat.le_of_ble_eq_true rfl)⟩) hP hD hS hA [0, 1, 2] [3] rfl rfl (by decide) (by decide) (fun E9 ce q9 H locs hP hD hS hpx hce hcv hcl => ?_) (fun r_1 u_2 H locs hP hD hS hw => ?_)
  · skip
    have hpx : E9 = "java/lang/IndexOutOfBoundsException" := hpx
    have hpx : E9 = "java/lang/IndexOutOfBoundsException" := hpx
    obtain rfl := hpx
    refine vx_catch (own := RL) (name := "java/lang/IndexOutOfBoundsException") (E := "java/lang/IndexOutOfBoundsException") hown [] (⟨0, 10, 13, 21⟩ : ExceptionTableEntry) [(⟨0, 10, 17, 19⟩ : ExceptionTableEntry)] (by rw [htab]; rfl) (fun z hz => absurd hz List.not_mem_nil) (by decide) (by decide) (hts (.classLink RL 21 "java/lang/IndexOutOfBoundsException") (by decide +kernel)) (va_Nw.use rfl (hE.1.2.1 "java/lang/IndexOutOfBoundsException" (by decide +kernel))) hce hcv hcl ?_
    refine W.eq (g2 := F0 m 13 ls [.ref q9]) rfl ?_
    refine lv_astore (lv' := [(4, .ref q9), (0, .ref x), (1, .int q), (2, .int q2), (3, .ref o)]) hx hb dL_rule_13 hl (by decide) rfl (fun ls hl => ?_)
    refine lv_iconst (v := 1) hx hb dL_rule_15 (by decide) ?_
    have hP9 := n_Psub (wc := [(o, eJ G 1 fo)]) hP [0] rfl
    have hD9 := hD.sub (ws' := [(o, eJ G 1 fo)]) [0] (by decide) rfl
    refine W.widen (k := 1) (n := 6) (Nat.le_of_ble_eq_true rfl) (Nat.le_of_ble_eq_true rfl) ?_
    exact W.iret (v := 1) hx hb hr (fun t ht hW => ⟨⟨1, (), rfl, rfl, by rw [ht]; exact hP9, va_K.moved hW.alike hK, hD9⟩, hS.F ht⟩) hS.2.2 dL_rule_16
  · exact False.elim hw

set_option maxHeartbeats 4000000 in
set_option maxRecDepth 100000 in
theorem mL_ordered (l : Launch) (hl9 : l.stackTraces = false) (G : nG) (x : Nat) (inp : Nat) (de : Nat) (sa : Nat) (hi : Nat) (re : Nat) (co : Nat) (dv : Nat) (rs : Nat) (ba : Nat) (bl : Nat) (br : Nat) (blr : Nat) (q : Int32) (o : Nat) (fo : Nat → Int64) (sz : Nat) : Met l yL_ordered wsL_ordered ({ frames := 7, cells := 1, slots := 6, locals := 112 }) (va_Pc [.ref x, .int q, .ref o] (n_px G [(x, .inr (12, [.ref inp, .ref de, .ref sa, .ref hi, .ref re, .ref co, .ref dv, .ref rs, .int 0])), (de, .inr (5, [.ref ba, .ref bl, .ref br])), (bl, .inr (9, [.ref blr, .int 0])), (o, eJ G 1 fo)] sz)) (va_Qi (fun (r : Int32) (_ : Unit) => r = 1) (fun (_ : Unit) (t : State) => n_po G (va_A [(x, .inr (12, [.ref inp, .ref de, .ref sa, .ref hi, .ref re, .ref co, .ref dv, .ref rs, .int 0])), (de, .inr (5, [.ref ba, .ref bl, .ref br])), (bl, .inr (9, [.ref blr, .int 0])), (o, eJ G 1 fo)] sz) [(o, eJ G 1 fo)] t) (va_A [(x, .inr (12, [.ref inp, .ref de, .ref sa, .ref hi, .ref re, .ref co, .ref dv, .ref rs, .int 0])), (de, .inr (5, [.ref ba, .ref bl, .ref br])), (bl, .inr (9, [.ref blr, .int 0])), (o, eJ G 1 fo)] sz)) 1 6 (va_A [(x, .inr (12, [.ref inp, .ref de, .ref sa, .ref hi, .ref re, .ref co, .ref dv, .ref rs, .int 0])), (de, .inr (5, [.ref ba, .ref bl, .ref br])), (bl, .inr (9, [.ref blr, .int 0])), (o, eJ G 1 fo)] sz) := by
  refine n_ofWH (cc := cL_ordered) (maxL := 4) (ret := (some .int)) (hh := [(0, 9, 12, 47)]) (by decide) rfl ?_
  intro p e s m args below meth c s₁ B hml hv
  obtain ⟨rfl, ⟨hsz, hP, hK, hD0⟩, hE⟩ := hv
  have hx := B.exec
  have hb := B.bytes
  have hr := B.returns
  have hts := atoms_spec (ws := wsL_ordered) B.pre
  have hown : s.vm.findClass RL = some m.cls := findClass_of_methodNamed B.named
  have hlocks := B.notSynchronized
  have htab := vx_table (x := yL_ordered) B (hts (.codeWith yL_ordered cL_ordered 4 (some .int) [(0, 9, 12, 47)]) (by rw [wsL_ordered]; exact List.mem_cons_self))
  subst hsz
  have hD := hD0.self (sz := s.heap.size)
  generalize hAe : va_A [(x, .inr (12, [.ref inp, .ref de, .ref sa, .ref hi, .ref re, .ref co, .ref dv, .ref rs, .int 0])), (de, .inr (5, [.ref ba, .ref bl, .ref br])), (bl, .inr (9, [.ref blr, .int 0])), (o, eJ G 1 fo)] s.heap.size = A at hD hE ⊢
  have hA : ∀ q : Nat, s.heap.size ≤ q → A q := fun q h => by rw [← hAe]; exact Or.inr h
  have hS : va_S A s.heap s.heap [] := va_S.rf
  have hP : va_P G.1 vwCl [(x, .inr (12, [.ref inp, .ref de, .ref sa, .ref hi, .ref re, .ref co, .ref dv, .ref rs, .int 0])), (de, .inr (5, [.ref ba, .ref bl, .ref br])), (bl, .inr (9, [.ref blr, .int 0])), (o, eJ G 1 fo)] s.heap := hP
  have hl := lv_entry ([.ref x, .int q, .ref o]) (n := 4) (Nat.le_of_ble_eq_true rfl)
  rw [lg_entry_eq]
  generalize (lg_sl ([.ref x, .int q, .ref o]) ++ List.replicate (4 - (lg_sl ([.ref x, .int q, .ref o])).length) Slot.unset).toArray = ls at hl ⊢
  have hl : lv_has ls 4 [(0, .ref x), (1, .int q), (2, .ref o)] := hl
  obtain ⟨H, hH⟩ : ∃ z, z = s.heap := ⟨_, rfl⟩
  have hS : va_S A s.heap H [] := by rw [hH]; exact hS
  have hP : va_P G.1 vwCl [(x, .inr (12, [.ref inp, .ref de, .ref sa, .ref hi, .ref re, .ref co, .ref dv, .ref rs, .int 0])), (de, .inr (5, [.ref ba, .ref bl, .ref br])), (bl, .inr (9, [.ref blr, .int 0])), (o, eJ G 1 fo)] H := by rw [hH]; exact hP
  refine n_heap hH ?_
  generalize ([] : List Loc) = locs at hS ⊢
  refine lv_aload_n hx hb dL_ordered_0 rfl (lv_at hl 2 rfl) ?_
  refine lv_iconst (v := 0) hx hb dL_ordered_1 (by decide) ?_
  refine lv_aload_n hx hb dL_ordered_2 rfl (lv_at hl 0 rfl) ?_
  refine lv_iload_n hx hb dL_ordered_3 rfl (lv_at hl 1 rfl) ?_
  refine n_xi (wr := [(o, eJ G 1 fo)]) (vx_runV (As := [.int q]) (rest := [.int 0, .ref o]) ⟨hx, hb, hml, hown, hts⟩ (mX11_ordered l hl9 G x inp de sa hi re co dv rs ba bl br blr q H.size) (cwV 1 hts gL_ordered_X11_ordered rfl rfl rfl (by decide +kernel) ⟨(Nat.le_of_ble_eq_true rfl), (Nat.le_of_ble_eq_true rfl)⟩) (n_prVX (ci := 12) (q0 := 0) hK hP hD hS hA [0, 1, 2] rfl (by decide) rfl rfl hE) rfl rfl hl.1 rfl (lv_room (Nat.le_of_ble_eq_true rfl)) dL_ordered_4 ⟨(Nat.le_of_ble_eq_true rfl), (Nat.le_of_ble_eq_true rfl)⟩) hP hD hS hA [0, 1, 2] [3] rfl rfl (by decide) (by decide) (fun E9 ce q9 H locs hP hD hS hpx hce hcv hcl => ?_) (fun r_1 u_2 H locs hP hD hS hw => ?_)
  · skip
    have hpx : E9 = "java/util/NoSuchElementException" := hpx
    have hpx : E9 = "java/util/NoSuchElementException" := hpx
    obtain rfl := hpx
    refine vx_catch (own := RL) (name := "java/util/NoSuchElementException") (E := "java/util/NoSuchElementException") hown [] (⟨0, 9, 12, 47⟩ : ExceptionTableEntry) [] (by rw [htab]; rfl) (fun z hz => absurd hz List.not_mem_nil) (by decide) (by decide) (hts (.classLink RL 47 "java/util/NoSuchElementException") (by decide +kernel)) (va_Nw.use rfl (hE.1.2.1 "java/util/NoSuchElementException" (by decide +kernel))) hce hcv hcl ?_
    refine W.eq (g2 := F0 m 12 ls [.ref q9]) rfl ?_
    refine lv_astore_n (lv' := [(3, .ref q9), (0, .ref x), (1, .int q), (2, .ref o)]) hx hb dL_ordered_12 rfl hl (by decide) rfl (fun ls hl => ?_)
    refine lv_iconst (v := 1) hx hb dL_ordered_13 (by decide) ?_
    have hP9 := n_Psub (wc := [(o, eJ G 1 fo)]) hP [0] rfl
    have hD9 := hD.sub (ws' := [(o, eJ G 1 fo)]) [0] (by decide) rfl
    refine W.widen (k := 1) (n := 6) (Nat.le_of_ble_eq_true rfl) (Nat.le_of_ble_eq_true rfl) ?_
    exact W.iret (v := 1) hx hb hr (fun t ht hW => ⟨⟨1, (), rfl, rfl, by rw [ht]; exact hP9, va_K.moved hW.alike hK, hD9⟩, hS.F ht⟩) hS.2.2 dL_ordered_14
  · exact False.elim hw

set_option maxHeartbeats 4000000 in
set_option maxRecDepth 100000 in
theorem mL_report (l : Launch) (hl9 : l.stackTraces = false) (G : nG) (x : Nat) (inp : Nat) (de : Nat) (sa : Nat) (hi : Nat) (re : Nat) (co : Nat) (dv : Nat) (rs : Nat) (p1 : Nat) (p2 : Nat) (q : Int32) (q2 : Int32) (o : Nat) (fo : Nat → Int64) (sz : Nat) : Met l yL_report wsL_report ({ frames := 7, cells := 1, slots := 6, locals := 112 }) (va_Pc [.ref x, .int q, .int q2, .ref o] (n_px G [(x, .inr (12, [.ref inp, .ref de, .ref sa, .ref hi, .ref re, .ref co, .ref dv, .ref rs, .int 0])), (re, .inr (10, [.ref p1, .ref p2, .int 0])), (o, eJ G 1 fo)] sz)) (va_Qi (fun (r : Int32) (_ : Unit) => r = 1) (fun (_ : Unit) (t : State) => n_po G (va_A [(x, .inr (12, [.ref inp, .ref de, .ref sa, .ref hi, .ref re, .ref co, .ref dv, .ref rs, .int 0])), (re, .inr (10, [.ref p1, .ref p2, .int 0])), (o, eJ G 1 fo)] sz) [(o, eJ G 1 fo)] t) (va_A [(x, .inr (12, [.ref inp, .ref de, .ref sa, .ref hi, .ref re, .ref co, .ref dv, .ref rs, .int 0])), (re, .inr (10, [.ref p1, .ref p2, .int 0])), (o, eJ G 1 fo)] sz)) 1 6 (va_A [(x, .inr (12, [.ref inp, .ref de, .ref sa, .ref hi, .ref re, .ref co, .ref dv, .ref rs, .int 0])), (re, .inr (10, [.ref p1, .ref p2, .int 0])), (o, eJ G 1 fo)] sz) := by
  refine n_ofWH (cc := cL_report) (maxL := 5) (ret := (some .int)) (hh := [(0, 10, 13, 47)]) (by decide) rfl ?_
  intro p e s m args below meth c s₁ B hml hv
  obtain ⟨rfl, ⟨hsz, hP, hK, hD0⟩, hE⟩ := hv
  have hx := B.exec
  have hb := B.bytes
  have hr := B.returns
  have hts := atoms_spec (ws := wsL_report) B.pre
  have hown : s.vm.findClass RL = some m.cls := findClass_of_methodNamed B.named
  have hlocks := B.notSynchronized
  have htab := vx_table (x := yL_report) B (hts (.codeWith yL_report cL_report 5 (some .int) [(0, 10, 13, 47)]) (by rw [wsL_report]; exact List.mem_cons_self))
  subst hsz
  have hD := hD0.self (sz := s.heap.size)
  generalize hAe : va_A [(x, .inr (12, [.ref inp, .ref de, .ref sa, .ref hi, .ref re, .ref co, .ref dv, .ref rs, .int 0])), (re, .inr (10, [.ref p1, .ref p2, .int 0])), (o, eJ G 1 fo)] s.heap.size = A at hD hE ⊢
  have hA : ∀ q : Nat, s.heap.size ≤ q → A q := fun q h => by rw [← hAe]; exact Or.inr h
  have hS : va_S A s.heap s.heap [] := va_S.rf
  have hP : va_P G.1 vwCl [(x, .inr (12, [.ref inp, .ref de, .ref sa, .ref hi, .ref re, .ref co, .ref dv, .ref rs, .int 0])), (re, .inr (10, [.ref p1, .ref p2, .int 0])), (o, eJ G 1 fo)] s.heap := hP
  have hl := lv_entry ([.ref x, .int q, .int q2, .ref o]) (n := 5) (Nat.le_of_ble_eq_true rfl)
  rw [lg_entry_eq]
  generalize (lg_sl ([.ref x, .int q, .int q2, .ref o]) ++ List.replicate (5 - (lg_sl ([.ref x, .int q, .int q2, .ref o])).length) Slot.unset).toArray = ls at hl ⊢
  have hl : lv_has ls 5 [(0, .ref x), (1, .int q), (2, .int q2), (3, .ref o)] := hl
  obtain ⟨H, hH⟩ : ∃ z, z = s.heap := ⟨_, rfl⟩
  have hS : va_S A s.heap H [] := by rw [hH]; exact hS
  have hP : va_P G.1 vwCl [(x, .inr (12, [.ref inp, .ref de, .ref sa, .ref hi, .ref re, .ref co, .ref dv, .ref rs, .int 0])), (re, .inr (10, [.ref p1, .ref p2, .int 0])), (o, eJ G 1 fo)] H := by rw [hH]; exact hP
  refine n_heap hH ?_
  generalize ([] : List Loc) = locs at hS ⊢
  refine lv_aload_n hx hb dL_report_0 rfl (lv_at hl 3 rfl) ?_
  refine lv_iconst (v := 0) hx hb dL_report_1 (by decide) ?_
  refine lv_aload_n hx hb dL_report_2 rfl (lv_at hl 0 rfl) ?_
  refine lv_iload_n hx hb dL_report_3 rfl (lv_at hl 1 rfl) ?_
  refine lv_iload_n hx hb dL_report_4 rfl (lv_at hl 2 rfl) ?_
  refine n_xi (wr := [(o, eJ G 1 fo)]) (vx_runV (As := [.int q, .int q2]) (rest := [.int 0, .ref o]) ⟨hx, hb, hml, hown, hts⟩ (mX11_report l hl9 G x inp de sa hi re co dv rs p1 p2 q q2 H.size) (cwV 2 hts gL_report_X11_report rfl rfl rfl (by decide +kernel) ⟨(Nat.le_of_ble_eq_true rfl), (Nat.le_of_ble_eq_true rfl)⟩) (n_prVX (ci := 12) (q0 := 0) hK hP hD hS hA [0, 1] rfl (by decide) rfl rfl hE) rfl rfl hl.1 rfl (lv_room (Nat.le_of_ble_eq_true rfl)) dL_report_5 ⟨(Nat.le_of_ble_eq_true rfl), (Nat.le_of_ble_eq_true rfl)⟩) hP hD hS hA [0, 1] [2] rfl rfl (by decide) (by decide) (fun E9 ce q9 H locs hP hD hS hpx hce hcv hcl => ?_) (fun r_1 u_2 H locs hP hD hS hw => ?_)
  · skip
    have hpx : E9 = "java/util/NoSuchElementException" := hpx
    have hpx : E9 = "java/util/NoSuchElementException" := hpx
    obtain rfl := hpx
    refine vx_catch (own := RL) (name := "java/util/NoSuchElementException") (E := "java/util/NoSuchElementException") hown [] (⟨0, 10, 13, 47⟩ : ExceptionTableEntry) [] (by rw [htab]; rfl) (fun z hz => absurd hz List.not_mem_nil) (by decide) (by decide) (hts (.classLink RL 47 "java/util/NoSuchElementException") (by decide +kernel)) (va_Nw.use rfl (hE.1.2.1 "java/util/NoSuchElementException" (by decide +kernel))) hce hcv hcl ?_
    refine W.eq (g2 := F0 m 13 ls [.ref q9]) rfl ?_
    refine lv_astore (lv' := [(4, .ref q9), (0, .ref x), (1, .int q), (2, .int q2), (3, .ref o)]) hx hb dL_report_13 hl (by decide) rfl (fun ls hl => ?_)
    refine lv_iconst (v := 1) hx hb dL_report_15 (by decide) ?_
    have hP9 := n_Psub (wc := [(o, eJ G 1 fo)]) hP [0] rfl
    have hD9 := hD.sub (ws' := [(o, eJ G 1 fo)]) [0] (by decide) rfl
    refine W.widen (k := 1) (n := 6) (Nat.le_of_ble_eq_true rfl) (Nat.le_of_ble_eq_true rfl) ?_
    exact W.iret (v := 1) hx hb hr (fun t ht hW => ⟨⟨1, (), rfl, rfl, by rw [ht]; exact hP9, va_K.moved hW.alike hK, hD9⟩, hS.F ht⟩) hS.2.2 dL_report_16
  · exact False.elim hw

set_option maxHeartbeats 4000000 in
set_option maxRecDepth 100000 in
theorem mL_find (l : Launch) (hl9 : l.stackTraces = false) (G : nG) (x : Nat) (inp : Nat) (de : Nat) (sa : Nat) (hi : Nat) (re : Nat) (co : Nat) (dv : Nat) (rs : Nat) (sg : Nat) (fm : Int64) (le : Int32) (ba : Nat) (bl : Nat) (br : Nat) (o : Nat) (fo : Nat → Int64) (sz : Nat) : Met l yL_find wsL_find ({ frames := 7, cells := 1, slots := 6, locals := 111 }) (va_Pc [.ref x, .ref o] (n_px G [(x, .inr (12, [.ref inp, .ref de, .ref sa, .ref hi, .ref re, .ref co, .ref dv, .ref rs, .int 0])), (inp, .inr (8, [.ref sg, .int 0, .long fm, .int le])), (de, .inr (5, [.ref ba, .ref bl, .ref br])), (o, eJ G 1 fo)] sz)) (va_Qi (fun (r : Int32) (_ : Unit) => r = 1) (fun (_ : Unit) (t : State) => n_po G (va_A [(x, .inr (12, [.ref inp, .ref de, .ref sa, .ref hi, .ref re, .ref co, .ref dv, .ref rs, .int 0])), (inp, .inr (8, [.ref sg, .int 0, .long fm, .int le])), (de, .inr (5, [.ref ba, .ref bl, .ref br])), (o, eJ G 1 fo)] sz) [(o, eJ G 1 fo)] t) (va_A [(x, .inr (12, [.ref inp, .ref de, .ref sa, .ref hi, .ref re, .ref co, .ref dv, .ref rs, .int 0])), (inp, .inr (8, [.ref sg, .int 0, .long fm, .int le])), (de, .inr (5, [.ref ba, .ref bl, .ref br])), (o, eJ G 1 fo)] sz)) 1 6 (va_A [(x, .inr (12, [.ref inp, .ref de, .ref sa, .ref hi, .ref re, .ref co, .ref dv, .ref rs, .int 0])), (inp, .inr (8, [.ref sg, .int 0, .long fm, .int le])), (de, .inr (5, [.ref ba, .ref bl, .ref br])), (o, eJ G 1 fo)] sz) := by
  refine n_ofWH (cc := cL_find) (maxL := 3) (ret := (some .int)) (hh := [(0, 8, 11, 47)]) (by decide) rfl ?_
  intro p e s m args below meth c s₁ B hml hv
  obtain ⟨rfl, ⟨hsz, hP, hK, hD0⟩, hE⟩ := hv
  have hx := B.exec
  have hb := B.bytes
  have hr := B.returns
  have hts := atoms_spec (ws := wsL_find) B.pre
  have hown : s.vm.findClass RL = some m.cls := findClass_of_methodNamed B.named
  have hlocks := B.notSynchronized
  have htab := vx_table (x := yL_find) B (hts (.codeWith yL_find cL_find 3 (some .int) [(0, 8, 11, 47)]) (by rw [wsL_find]; exact List.mem_cons_self))
  subst hsz
  have hD := hD0.self (sz := s.heap.size)
  generalize hAe : va_A [(x, .inr (12, [.ref inp, .ref de, .ref sa, .ref hi, .ref re, .ref co, .ref dv, .ref rs, .int 0])), (inp, .inr (8, [.ref sg, .int 0, .long fm, .int le])), (de, .inr (5, [.ref ba, .ref bl, .ref br])), (o, eJ G 1 fo)] s.heap.size = A at hD hE ⊢
  have hA : ∀ q : Nat, s.heap.size ≤ q → A q := fun q h => by rw [← hAe]; exact Or.inr h
  have hS : va_S A s.heap s.heap [] := va_S.rf
  have hP : va_P G.1 vwCl [(x, .inr (12, [.ref inp, .ref de, .ref sa, .ref hi, .ref re, .ref co, .ref dv, .ref rs, .int 0])), (inp, .inr (8, [.ref sg, .int 0, .long fm, .int le])), (de, .inr (5, [.ref ba, .ref bl, .ref br])), (o, eJ G 1 fo)] s.heap := hP
  have hl := lv_entry ([.ref x, .ref o]) (n := 3) (Nat.le_of_ble_eq_true rfl)
  rw [lg_entry_eq]
  generalize (lg_sl ([.ref x, .ref o]) ++ List.replicate (3 - (lg_sl ([.ref x, .ref o])).length) Slot.unset).toArray = ls at hl ⊢
  have hl : lv_has ls 3 [(0, .ref x), (1, .ref o)] := hl
  obtain ⟨H, hH⟩ : ∃ z, z = s.heap := ⟨_, rfl⟩
  have hS : va_S A s.heap H [] := by rw [hH]; exact hS
  have hP : va_P G.1 vwCl [(x, .inr (12, [.ref inp, .ref de, .ref sa, .ref hi, .ref re, .ref co, .ref dv, .ref rs, .int 0])), (inp, .inr (8, [.ref sg, .int 0, .long fm, .int le])), (de, .inr (5, [.ref ba, .ref bl, .ref br])), (o, eJ G 1 fo)] H := by rw [hH]; exact hP
  refine n_heap hH ?_
  generalize ([] : List Loc) = locs at hS ⊢
  refine lv_aload_n hx hb dL_find_0 rfl (lv_at hl 1 rfl) ?_
  refine lv_iconst (v := 0) hx hb dL_find_1 (by decide) ?_
  refine lv_aload_n hx hb dL_find_2 rfl (lv_at hl 0 rfl) ?_
  refine n_xi (wr := [(o, eJ G 1 fo)]) (vx_runV (As := []) (rest := [.int 0, .ref o]) ⟨hx, hb, hml, hown, hts⟩ (mX11_find l hl9 G x inp de sa hi re co dv rs sg fm le ba bl br H.size) (cwV 0 hts gL_find_X11_find rfl rfl rfl (by decide +kernel) ⟨(Nat.le_of_ble_eq_true rfl), (Nat.le_of_ble_eq_true rfl)⟩) (n_prVX (ci := 12) (q0 := 0) hK hP hD hS hA [0, 1, 2] rfl (by decide) rfl rfl hE) rfl rfl hl.1 rfl (lv_room (Nat.le_of_ble_eq_true rfl)) dL_find_3 ⟨(Nat.le_of_ble_eq_true rfl), (Nat.le_of_ble_eq_true rfl)⟩) hP hD hS hA [0, 1, 2] [3] rfl rfl (by decide) (by decide) (fun E9 ce q9 H locs hP hD hS hpx hce hcv hcl => ?_) (fun r_1 u_2 H locs hP hD hS hw => ?_)
  · skip
    have hpx : E9 = "java/util/NoSuchElementException" := hpx
    have hpx : E9 = "java/util/NoSuchElementException" := hpx
    obtain rfl := hpx
    refine vx_catch (own := RL) (name := "java/util/NoSuchElementException") (E := "java/util/NoSuchElementException") hown [] (⟨0, 8, 11, 47⟩ : ExceptionTableEntry) [] (by rw [htab]; rfl) (fun z hz => absurd hz List.not_mem_nil) (by decide) (by decide) (hts (.classLink RL 47 "java/util/NoSuchElementException") (by decide +kernel)) (va_Nw.use rfl (hE.1.2.1 "java/util/NoSuchElementException" (by decide +kernel))) hce hcv hcl ?_
    refine W.eq (g2 := F0 m 11 ls [.ref q9]) rfl ?_
    refine lv_astore_n (lv' := [(2, .ref q9), (0, .ref x), (1, .ref o)]) hx hb dL_find_11 rfl hl (by decide) rfl (fun ls hl => ?_)
    refine lv_iconst (v := 1) hx hb dL_find_12 (by decide) ?_
    have hP9 := n_Psub (wc := [(o, eJ G 1 fo)]) hP [0] rfl
    have hD9 := hD.sub (ws' := [(o, eJ G 1 fo)]) [0] (by decide) rfl
    refine W.widen (k := 1) (n := 6) (Nat.le_of_ble_eq_true rfl) (Nat.le_of_ble_eq_true rfl) ?_
    exact W.iret (v := 1) hx hb hr (fun t ht hW => ⟨⟨1, (), rfl, rfl, by rw [ht]; exact hP9, va_K.moved hW.alike hK, hD9⟩, hS.F ht⟩) hS.2.2 dL_find_13
  · exact False.elim hw

set_option maxHeartbeats 4000000 in
set_option maxRecDepth 100000 in
theorem mL_undo (l : Launch) (hl9 : l.stackTraces = false) (G : nG) (x : Nat) (inp : Nat) (de : Nat) (sa : Nat) (hi : Nat) (re : Nat) (co : Nat) (dv : Nat) (rs : Nat) (rg : Nat) (o : Nat) (fo : Nat → Int64) (sz : Nat) : Met l yL_undo wsL_undo ({ frames := 7, cells := 1, slots := 6, locals := 110 }) (va_Pc [.ref x, .ref o] (n_px G [(x, .inr (12, [.ref inp, .ref de, .ref sa, .ref hi, .ref re, .ref co, .ref dv, .ref rs, .int 0])), (hi, .inr (7, [.ref rg, .int 0, .int 0])), (o, eJ G 1 fo)] sz)) (va_Qi (fun (r : Int32) (_ : Unit) => r = 1) (fun (_ : Unit) (t : State) => n_po G (va_A [(x, .inr (12, [.ref inp, .ref de, .ref sa, .ref hi, .ref re, .ref co, .ref dv, .ref rs, .int 0])), (hi, .inr (7, [.ref rg, .int 0, .int 0])), (o, eJ G 1 fo)] sz) [(o, eJ G 1 fo)] t) (va_A [(x, .inr (12, [.ref inp, .ref de, .ref sa, .ref hi, .ref re, .ref co, .ref dv, .ref rs, .int 0])), (hi, .inr (7, [.ref rg, .int 0, .int 0])), (o, eJ G 1 fo)] sz)) 1 6 (va_A [(x, .inr (12, [.ref inp, .ref de, .ref sa, .ref hi, .ref re, .ref co, .ref dv, .ref rs, .int 0])), (hi, .inr (7, [.ref rg, .int 0, .int 0])), (o, eJ G 1 fo)] sz) := by
  refine n_ofWH (cc := cL_undo) (maxL := 3) (ret := (some .int)) (hh := [(0, 8, 11, 13)]) (by decide) rfl ?_
  intro p e s m args below meth c s₁ B hml hv
  obtain ⟨rfl, ⟨hsz, hP, hK, hD0⟩, hE⟩ := hv
  have hx := B.exec
  have hb := B.bytes
  have hr := B.returns
  have hts := atoms_spec (ws := wsL_undo) B.pre
  have hown : s.vm.findClass RL = some m.cls := findClass_of_methodNamed B.named
  have hlocks := B.notSynchronized
  have htab := vx_table (x := yL_undo) B (hts (.codeWith yL_undo cL_undo 3 (some .int) [(0, 8, 11, 13)]) (by rw [wsL_undo]; exact List.mem_cons_self))
  subst hsz
  have hD := hD0.self (sz := s.heap.size)
  generalize hAe : va_A [(x, .inr (12, [.ref inp, .ref de, .ref sa, .ref hi, .ref re, .ref co, .ref dv, .ref rs, .int 0])), (hi, .inr (7, [.ref rg, .int 0, .int 0])), (o, eJ G 1 fo)] s.heap.size = A at hD hE ⊢
  have hA : ∀ q : Nat, s.heap.size ≤ q → A q := fun q h => by rw [← hAe]; exact Or.inr h
  have hS : va_S A s.heap s.heap [] := va_S.rf
  have hP : va_P G.1 vwCl [(x, .inr (12, [.ref inp, .ref de, .ref sa, .ref hi, .ref re, .ref co, .ref dv, .ref rs, .int 0])), (hi, .inr (7, [.ref rg, .int 0, .int 0])), (o, eJ G 1 fo)] s.heap := hP
  have hl := lv_entry ([.ref x, .ref o]) (n := 3) (Nat.le_of_ble_eq_true rfl)
  rw [lg_entry_eq]
  generalize (lg_sl ([.ref x, .ref o]) ++ List.replicate (3 - (lg_sl ([.ref x, .ref o])).length) Slot.unset).toArray = ls at hl ⊢
  have hl : lv_has ls 3 [(0, .ref x), (1, .ref o)] := hl
  obtain ⟨H, hH⟩ : ∃ z, z = s.heap := ⟨_, rfl⟩
  have hS : va_S A s.heap H [] := by rw [hH]; exact hS
  have hP : va_P G.1 vwCl [(x, .inr (12, [.ref inp, .ref de, .ref sa, .ref hi, .ref re, .ref co, .ref dv, .ref rs, .int 0])), (hi, .inr (7, [.ref rg, .int 0, .int 0])), (o, eJ G 1 fo)] H := by rw [hH]; exact hP
  refine n_heap hH ?_
  generalize ([] : List Loc) = locs at hS ⊢
  refine lv_aload_n hx hb dL_undo_0 rfl (lv_at hl 1 rfl) ?_
  refine lv_iconst (v := 0) hx hb dL_undo_1 (by decide) ?_
  refine lv_aload_n hx hb dL_undo_2 rfl (lv_at hl 0 rfl) ?_
  refine n_xi (wr := [(o, eJ G 1 fo)]) (vx_runV (As := []) (rest := [.int 0, .ref o]) ⟨hx, hb, hml, hown, hts⟩ (mX11_undo l hl9 G x inp de sa hi re co dv rs rg H.size) (cwV 0 hts gL_undo_X11_undo rfl rfl rfl (by decide +kernel) ⟨(Nat.le_of_ble_eq_true rfl), (Nat.le_of_ble_eq_true rfl)⟩) (n_prVX (ci := 12) (q0 := 0) hK hP hD hS hA [0, 1] rfl (by decide) rfl rfl hE) rfl rfl hl.1 rfl (lv_room (Nat.le_of_ble_eq_true rfl)) dL_undo_3 ⟨(Nat.le_of_ble_eq_true rfl), (Nat.le_of_ble_eq_true rfl)⟩) hP hD hS hA [0, 1] [2] rfl rfl (by decide) (by decide) (fun E9 ce q9 H locs hP hD hS hpx hce hcv hcl => ?_) (fun r_1 u_2 H locs hP hD hS hw => ?_)
  · skip
    have hpx : E9 = "java/lang/IllegalStateException" := hpx
    have hpx : E9 = "java/lang/IllegalStateException" := hpx
    obtain rfl := hpx
    refine vx_catch (own := RL) (name := "java/lang/IllegalStateException") (E := "java/lang/IllegalStateException") hown [] (⟨0, 8, 11, 13⟩ : ExceptionTableEntry) [] (by rw [htab]; rfl) (fun z hz => absurd hz List.not_mem_nil) (by decide) (by decide) (hts (.classLink RL 13 "java/lang/IllegalStateException") (by decide +kernel)) (va_Nw.use rfl (hE.1.2.1 "java/lang/IllegalStateException" (by decide +kernel))) hce hcv hcl ?_
    refine W.eq (g2 := F0 m 11 ls [.ref q9]) rfl ?_
    refine lv_astore_n (lv' := [(2, .ref q9), (0, .ref x), (1, .ref o)]) hx hb dL_undo_11 rfl hl (by decide) rfl (fun ls hl => ?_)
    refine lv_iconst (v := 1) hx hb dL_undo_12 (by decide) ?_
    have hP9 := n_Psub (wc := [(o, eJ G 1 fo)]) hP [0] rfl
    have hD9 := hD.sub (ws' := [(o, eJ G 1 fo)]) [0] (by decide) rfl
    refine W.widen (k := 1) (n := 6) (Nat.le_of_ble_eq_true rfl) (Nat.le_of_ble_eq_true rfl) ?_
    exact W.iret (v := 1) hx hb hr (fun t ht hW => ⟨⟨1, (), rfl, rfl, by rw [ht]; exact hP9, va_K.moved hW.alike hK, hD9⟩, hS.F ht⟩) hS.2.2 dL_undo_13
  · exact False.elim hw

set_option maxHeartbeats 4000000 in
set_option maxRecDepth 100000 in
theorem mL_restore (l : Launch) (hl9 : l.stackTraces = false) (G : nG) (x : Nat) (inp : Nat) (de : Nat) (sa : Nat) (hi : Nat) (re : Nat) (co : Nat) (dv : Nat) (rs : Nat) (o : Nat) (fo : Nat → Int64) (sz : Nat) : Met l yL_restore wsL_restore ({ frames := 7, cells := 1, slots := 6, locals := 110 }) (va_Pc [.ref x, .ref o] (n_px G [(x, .inr (12, [.ref inp, .ref de, .ref sa, .ref hi, .ref re, .ref co, .ref dv, .ref rs, .int 0])), (o, eJ G 1 fo)] sz)) (va_Qi (fun (r : Int32) (_ : Unit) => r = 1) (fun (_ : Unit) (t : State) => n_po G (va_A [(x, .inr (12, [.ref inp, .ref de, .ref sa, .ref hi, .ref re, .ref co, .ref dv, .ref rs, .int 0])), (o, eJ G 1 fo)] sz) [(o, eJ G 1 fo)] t) (va_A [(x, .inr (12, [.ref inp, .ref de, .ref sa, .ref hi, .ref re, .ref co, .ref dv, .ref rs, .int 0])), (o, eJ G 1 fo)] sz)) 1 6 (va_A [(x, .inr (12, [.ref inp, .ref de, .ref sa, .ref hi, .ref re, .ref co, .ref dv, .ref rs, .int 0])), (o, eJ G 1 fo)] sz) := by
  refine n_ofWH (cc := cL_restore) (maxL := 3) (ret := (some .int)) (hh := [(0, 8, 11, 13)]) (by decide) rfl ?_
  intro p e s m args below meth c s₁ B hml hv
  obtain ⟨rfl, ⟨hsz, hP, hK, hD0⟩, hE⟩ := hv
  have hx := B.exec
  have hb := B.bytes
  have hr := B.returns
  have hts := atoms_spec (ws := wsL_restore) B.pre
  have hown : s.vm.findClass RL = some m.cls := findClass_of_methodNamed B.named
  have hlocks := B.notSynchronized
  have htab := vx_table (x := yL_restore) B (hts (.codeWith yL_restore cL_restore 3 (some .int) [(0, 8, 11, 13)]) (by rw [wsL_restore]; exact List.mem_cons_self))
  subst hsz
  have hD := hD0.self (sz := s.heap.size)
  generalize hAe : va_A [(x, .inr (12, [.ref inp, .ref de, .ref sa, .ref hi, .ref re, .ref co, .ref dv, .ref rs, .int 0])), (o, eJ G 1 fo)] s.heap.size = A at hD hE ⊢
  have hA : ∀ q : Nat, s.heap.size ≤ q → A q := fun q h => by rw [← hAe]; exact Or.inr h
  have hS : va_S A s.heap s.heap [] := va_S.rf
  have hP : va_P G.1 vwCl [(x, .inr (12, [.ref inp, .ref de, .ref sa, .ref hi, .ref re, .ref co, .ref dv, .ref rs, .int 0])), (o, eJ G 1 fo)] s.heap := hP
  have hl := lv_entry ([.ref x, .ref o]) (n := 3) (Nat.le_of_ble_eq_true rfl)
  rw [lg_entry_eq]
  generalize (lg_sl ([.ref x, .ref o]) ++ List.replicate (3 - (lg_sl ([.ref x, .ref o])).length) Slot.unset).toArray = ls at hl ⊢
  have hl : lv_has ls 3 [(0, .ref x), (1, .ref o)] := hl
  obtain ⟨H, hH⟩ : ∃ z, z = s.heap := ⟨_, rfl⟩
  have hS : va_S A s.heap H [] := by rw [hH]; exact hS
  have hP : va_P G.1 vwCl [(x, .inr (12, [.ref inp, .ref de, .ref sa, .ref hi, .ref re, .ref co, .ref dv, .ref rs, .int 0])), (o, eJ G 1 fo)] H := by rw [hH]; exact hP
  refine n_heap hH ?_
  generalize ([] : List Loc) = locs at hS ⊢
  refine lv_aload_n hx hb dL_restore_0 rfl (lv_at hl 1 rfl) ?_
  refine lv_iconst (v := 0) hx hb dL_restore_1 (by decide) ?_
  refine lv_aload_n hx hb dL_restore_2 rfl (lv_at hl 0 rfl) ?_
  refine n_xi (wr := [(o, eJ G 1 fo)]) (vx_runV (As := []) (rest := [.int 0, .ref o]) ⟨hx, hb, hml, hown, hts⟩ (mX11_restore l hl9 G x inp de sa hi re co dv rs H.size) (cwV 0 hts gL_restore_X11_restore rfl rfl rfl (by decide +kernel) ⟨(Nat.le_of_ble_eq_true rfl), (Nat.le_of_ble_eq_true rfl)⟩) (n_prVX (ci := 12) (q0 := 0) hK hP hD hS hA [0] rfl (by decide) rfl rfl hE) rfl rfl hl.1 rfl (lv_room (Nat.le_of_ble_eq_true rfl)) dL_restore_3 ⟨(Nat.le_of_ble_eq_true rfl), (Nat.le_of_ble_eq_true rfl)⟩) hP hD hS hA [0] [1] rfl rfl (by decide) (by decide) (fun E9 ce q9 H locs hP hD hS hpx hce hcv hcl => ?_) (fun r_1 u_2 H locs hP hD hS hw => ?_)
  · skip
    have hpx : E9 = "java/lang/IllegalStateException" := hpx
    have hpx : E9 = "java/lang/IllegalStateException" := hpx
    obtain rfl := hpx
    refine vx_catch (own := RL) (name := "java/lang/IllegalStateException") (E := "java/lang/IllegalStateException") hown [] (⟨0, 8, 11, 13⟩ : ExceptionTableEntry) [] (by rw [htab]; rfl) (fun z hz => absurd hz List.not_mem_nil) (by decide) (by decide) (hts (.classLink RL 13 "java/lang/IllegalStateException") (by decide +kernel)) (va_Nw.use rfl (hE.1.2.1 "java/lang/IllegalStateException" (by decide +kernel))) hce hcv hcl ?_
    refine W.eq (g2 := F0 m 11 ls [.ref q9]) rfl ?_
    refine lv_astore_n (lv' := [(2, .ref q9), (0, .ref x), (1, .ref o)]) hx hb dL_restore_11 rfl hl (by decide) rfl (fun ls hl => ?_)
    refine lv_iconst (v := 1) hx hb dL_restore_12 (by decide) ?_
    have hP9 := n_Psub (wc := [(o, eJ G 1 fo)]) hP [0] rfl
    have hD9 := hD.sub (ws' := [(o, eJ G 1 fo)]) [0] (by decide) rfl
    refine W.widen (k := 1) (n := 6) (Nat.le_of_ble_eq_true rfl) (Nat.le_of_ble_eq_true rfl) ?_
    exact W.iret (v := 1) hx hb hr (fun t ht hW => ⟨⟨1, (), rfl, rfl, by rw [ht]; exact hP9, va_K.moved hW.alike hK, hD9⟩, hS.F ht⟩) hS.2.2 dL_restore_13
  · exact False.elim hw

set_option maxHeartbeats 4000000 in
set_option maxRecDepth 100000 in
theorem mL_meanLength (l : Launch) (hl9 : l.stackTraces = false) (G : nG) (x : Nat) (inp : Nat) (de : Nat) (sa : Nat) (hi : Nat) (re : Nat) (co : Nat) (dv : Nat) (rs : Nat) (ba : Nat) (bl : Nat) (br : Nat) (blr : Nat) (o : Nat) (fo : Nat → UInt64) (sz : Nat) : Met l yL_meanLength wsL_meanLength ({ frames := 7, cells := 1, slots := 6, locals := 111 }) (va_Pc [.ref x, .ref o] (n_px G [(x, .inr (12, [.ref inp, .ref de, .ref sa, .ref hi, .ref re, .ref co, .ref dv, .ref rs, .int 0])), (de, .inr (5, [.ref ba, .ref bl, .ref br])), (bl, .inr (9, [.ref blr, .int 0])), (o, eW G 1 fo)] sz)) (va_Qi (fun (r : Int32) (_ : Unit) => r = 1) (fun (_ : Unit) (t : State) => n_po G (va_A [(x, .inr (12, [.ref inp, .ref de, .ref sa, .ref hi, .ref re, .ref co, .ref dv, .ref rs, .int 0])), (de, .inr (5, [.ref ba, .ref bl, .ref br])), (bl, .inr (9, [.ref blr, .int 0])), (o, eW G 1 fo)] sz) [(o, eW G 1 fo)] t) (va_A [(x, .inr (12, [.ref inp, .ref de, .ref sa, .ref hi, .ref re, .ref co, .ref dv, .ref rs, .int 0])), (de, .inr (5, [.ref ba, .ref bl, .ref br])), (bl, .inr (9, [.ref blr, .int 0])), (o, eW G 1 fo)] sz)) 1 6 (va_A [(x, .inr (12, [.ref inp, .ref de, .ref sa, .ref hi, .ref re, .ref co, .ref dv, .ref rs, .int 0])), (de, .inr (5, [.ref ba, .ref bl, .ref br])), (bl, .inr (9, [.ref blr, .int 0])), (o, eW G 1 fo)] sz) := by
  refine n_ofWH (cc := cL_meanLength) (maxL := 3) (ret := (some .int)) (hh := [(0, 7, 10, 113)]) (by decide) rfl ?_
  intro p e s m args below meth c s₁ B hml hv
  obtain ⟨rfl, ⟨hsz, hP, hK, hD0⟩, hE⟩ := hv
  have hx := B.exec
  have hb := B.bytes
  have hr := B.returns
  have hts := atoms_spec (ws := wsL_meanLength) B.pre
  have hown : s.vm.findClass RL = some m.cls := findClass_of_methodNamed B.named
  have hlocks := B.notSynchronized
  have htab := vx_table (x := yL_meanLength) B (hts (.codeWith yL_meanLength cL_meanLength 3 (some .int) [(0, 7, 10, 113)]) (by rw [wsL_meanLength]; exact List.mem_cons_self))
  subst hsz
  have hD := hD0.self (sz := s.heap.size)
  generalize hAe : va_A [(x, .inr (12, [.ref inp, .ref de, .ref sa, .ref hi, .ref re, .ref co, .ref dv, .ref rs, .int 0])), (de, .inr (5, [.ref ba, .ref bl, .ref br])), (bl, .inr (9, [.ref blr, .int 0])), (o, eW G 1 fo)] s.heap.size = A at hD hE ⊢
  have hA : ∀ q : Nat, s.heap.size ≤ q → A q := fun q h => by rw [← hAe]; exact Or.inr h
  have hS : va_S A s.heap s.heap [] := va_S.rf
  have hP : va_P G.1 vwCl [(x, .inr (12, [.ref inp, .ref de, .ref sa, .ref hi, .ref re, .ref co, .ref dv, .ref rs, .int 0])), (de, .inr (5, [.ref ba, .ref bl, .ref br])), (bl, .inr (9, [.ref blr, .int 0])), (o, eW G 1 fo)] s.heap := hP
  have hl := lv_entry ([.ref x, .ref o]) (n := 3) (Nat.le_of_ble_eq_true rfl)
  rw [lg_entry_eq]
  generalize (lg_sl ([.ref x, .ref o]) ++ List.replicate (3 - (lg_sl ([.ref x, .ref o])).length) Slot.unset).toArray = ls at hl ⊢
  have hl : lv_has ls 3 [(0, .ref x), (1, .ref o)] := hl
  obtain ⟨H, hH⟩ : ∃ z, z = s.heap := ⟨_, rfl⟩
  have hS : va_S A s.heap H [] := by rw [hH]; exact hS
  have hP : va_P G.1 vwCl [(x, .inr (12, [.ref inp, .ref de, .ref sa, .ref hi, .ref re, .ref co, .ref dv, .ref rs, .int 0])), (de, .inr (5, [.ref ba, .ref bl, .ref br])), (bl, .inr (9, [.ref blr, .int 0])), (o, eW G 1 fo)] H := by rw [hH]; exact hP
  refine n_heap hH ?_
  generalize ([] : List Loc) = locs at hS ⊢
  refine lv_aload_n hx hb dL_meanLength_0 rfl (lv_at hl 1 rfl) ?_
  refine lv_iconst (v := 0) hx hb dL_meanLength_1 (by decide) ?_
  refine lv_aload_n hx hb dL_meanLength_2 rfl (lv_at hl 0 rfl) ?_
  refine n_xd (wr := [(o, eW G 1 fo)]) (vx_runV (As := []) (rest := [.int 0, .ref o]) ⟨hx, hb, hml, hown, hts⟩ (mX11_meanLength l hl9 G x inp de sa hi re co dv rs ba bl br blr H.size) (cwV 0 hts gL_meanLength_X11_meanLength rfl rfl rfl (by decide +kernel) ⟨(Nat.le_of_ble_eq_true rfl), (Nat.le_of_ble_eq_true rfl)⟩) (n_prVX (ci := 12) (q0 := 0) hK hP hD hS hA [0, 1, 2] rfl (by decide) rfl rfl hE) rfl rfl hl.1 rfl (lv_room (Nat.le_of_ble_eq_true rfl)) dL_meanLength_3 ⟨(Nat.le_of_ble_eq_true rfl), (Nat.le_of_ble_eq_true rfl)⟩) hP hD hS hA [0, 1, 2] [3] rfl rfl (by decide) (by decide) (fun E9 ce q9 H locs hP hD hS hpx hce hcv hcl => ?_) (fun r_1 u_2 H locs hP hD hS hw => ?_)
  · skip
    have hpx : E9 = "java/lang/ArithmeticException" := hpx
    have hpx : E9 = "java/lang/ArithmeticException" := hpx
    obtain rfl := hpx
    refine vx_catch (own := RL) (name := "java/lang/ArithmeticException") (E := "java/lang/ArithmeticException") hown [] (⟨0, 7, 10, 113⟩ : ExceptionTableEntry) [] (by rw [htab]; rfl) (fun z hz => absurd hz List.not_mem_nil) (by decide) (by decide) (hts (.classLink RL 113 "java/lang/ArithmeticException") (by decide +kernel)) (va_Nw.use rfl (hE.1.2.1 "java/lang/ArithmeticException" (by decide +kernel))) hce hcv hcl ?_
    refine W.eq (g2 := F0 m 10 ls [.ref q9]) rfl ?_
    refine lv_astore_n (lv' := [(2, .ref q9), (0, .ref x), (1, .ref o)]) hx hb dL_meanLength_10 rfl hl (by decide) rfl (fun ls hl => ?_)
    refine lv_iconst (v := 1) hx hb dL_meanLength_11 (by decide) ?_
    have hP9 := n_Psub (wc := [(o, eW G 1 fo)]) hP [0] rfl
    have hD9 := hD.sub (ws' := [(o, eW G 1 fo)]) [0] (by decide) rfl
    refine W.widen (k := 1) (n := 6) (Nat.le_of_ble_eq_true rfl) (Nat.le_of_ble_eq_true rfl) ?_
    exact W.iret (v := 1) hx hb hr (fun t ht hW => ⟨⟨1, (), rfl, rfl, by rw [ht]; exact hP9, va_K.moved hW.alike hK, hD9⟩, hS.F ht⟩) hS.2.2 dL_meanLength_12
  · exact False.elim hw

set_option maxHeartbeats 4000000 in
set_option maxRecDepth 100000 in
theorem mL_changedShare (l : Launch) (hl9 : l.stackTraces = false) (G : nG) (x : Nat) (inp : Nat) (de : Nat) (sa : Nat) (hi : Nat) (re : Nat) (co : Nat) (dv : Nat) (rs : Nat) (ba : Nat) (bl : Nat) (br : Nat) (blr : Nat) (o : Nat) (fo : Nat → UInt64) (sz : Nat) : Met l yL_changedShare wsL_changedShare ({ frames := 7, cells := 1, slots := 6, locals := 113 }) (va_Pc [.ref x, .ref o] (n_px G [(x, .inr (12, [.ref inp, .ref de, .ref sa, .ref hi, .ref re, .ref co, .ref dv, .ref rs, .int 0])), (de, .inr (5, [.ref ba, .ref bl, .ref br])), (bl, .inr (9, [.ref blr, .int 0])), (o, eW G 1 fo)] sz)) (va_Qi (fun (r : Int32) (_ : Unit) => r = 1) (fun (_ : Unit) (t : State) => n_po G (va_A [(x, .inr (12, [.ref inp, .ref de, .ref sa, .ref hi, .ref re, .ref co, .ref dv, .ref rs, .int 0])), (de, .inr (5, [.ref ba, .ref bl, .ref br])), (bl, .inr (9, [.ref blr, .int 0])), (o, eW G 1 fo)] sz) [(o, eW G 1 fo)] t) (va_A [(x, .inr (12, [.ref inp, .ref de, .ref sa, .ref hi, .ref re, .ref co, .ref dv, .ref rs, .int 0])), (de, .inr (5, [.ref ba, .ref bl, .ref br])), (bl, .inr (9, [.ref blr, .int 0])), (o, eW G 1 fo)] sz)) 1 6 (va_A [(x, .inr (12, [.ref inp, .ref de, .ref sa, .ref hi, .ref re, .ref co, .ref dv, .ref rs, .int 0])), (de, .inr (5, [.ref ba, .ref bl, .ref br])), (bl, .inr (9, [.ref blr, .int 0])), (o, eW G 1 fo)] sz) := by
  refine n_ofWH (cc := cL_changedShare) (maxL := 3) (ret := (some .int)) (hh := [(0, 8, 11, 113)]) (by decide) rfl ?_
  intro p e s m args below meth c s₁ B hml hv
  obtain ⟨rfl, ⟨hsz, hP, hK, hD0⟩, hE⟩ := hv
  have hx := B.exec
  have hb := B.bytes
  have hr := B.returns
  have hts := atoms_spec (ws := wsL_changedShare) B.pre
  have hown : s.vm.findClass RL = some m.cls := findClass_of_methodNamed B.named
  have hlocks := B.notSynchronized
  have htab := vx_table (x := yL_changedShare) B (hts (.codeWith yL_changedShare cL_changedShare 3 (some .int) [(0, 8, 11, 113)]) (by rw [wsL_changedShare]; exact List.mem_cons_self))
  subst hsz
  have hD := hD0.self (sz := s.heap.size)
  generalize hAe : va_A [(x, .inr (12, [.ref inp, .ref de, .ref sa, .ref hi, .ref re, .ref co, .ref dv, .ref rs, .int 0])), (de, .inr (5, [.ref ba, .ref bl, .ref br])), (bl, .inr (9, [.ref blr, .int 0])), (o, eW G 1 fo)] s.heap.size = A at hD hE ⊢
  have hA : ∀ q : Nat, s.heap.size ≤ q → A q := fun q h => by rw [← hAe]; exact Or.inr h
  have hS : va_S A s.heap s.heap [] := va_S.rf
  have hP : va_P G.1 vwCl [(x, .inr (12, [.ref inp, .ref de, .ref sa, .ref hi, .ref re, .ref co, .ref dv, .ref rs, .int 0])), (de, .inr (5, [.ref ba, .ref bl, .ref br])), (bl, .inr (9, [.ref blr, .int 0])), (o, eW G 1 fo)] s.heap := hP
  have hl := lv_entry ([.ref x, .ref o]) (n := 3) (Nat.le_of_ble_eq_true rfl)
  rw [lg_entry_eq]
  generalize (lg_sl ([.ref x, .ref o]) ++ List.replicate (3 - (lg_sl ([.ref x, .ref o])).length) Slot.unset).toArray = ls at hl ⊢
  have hl : lv_has ls 3 [(0, .ref x), (1, .ref o)] := hl
  obtain ⟨H, hH⟩ : ∃ z, z = s.heap := ⟨_, rfl⟩
  have hS : va_S A s.heap H [] := by rw [hH]; exact hS
  have hP : va_P G.1 vwCl [(x, .inr (12, [.ref inp, .ref de, .ref sa, .ref hi, .ref re, .ref co, .ref dv, .ref rs, .int 0])), (de, .inr (5, [.ref ba, .ref bl, .ref br])), (bl, .inr (9, [.ref blr, .int 0])), (o, eW G 1 fo)] H := by rw [hH]; exact hP
  refine n_heap hH ?_
  generalize ([] : List Loc) = locs at hS ⊢
  refine lv_aload_n hx hb dL_changedShare_0 rfl (lv_at hl 1 rfl) ?_
  refine lv_iconst (v := 0) hx hb dL_changedShare_1 (by decide) ?_
  refine lv_aload_n hx hb dL_changedShare_2 rfl (lv_at hl 0 rfl) ?_
  refine n_xf (wr := [(o, eW G 1 fo)]) (vx_runV (As := []) (rest := [.int 0, .ref o]) ⟨hx, hb, hml, hown, hts⟩ (mX11_changedShare l hl9 G x inp de sa hi re co dv rs ba bl br blr H.size) (cwV 0 hts gL_changedShare_X11_changedShare rfl rfl rfl (by decide +kernel) ⟨(Nat.le_of_ble_eq_true rfl), (Nat.le_of_ble_eq_true rfl)⟩) (n_prVX (ci := 12) (q0 := 0) hK hP hD hS hA [0, 1, 2] rfl (by decide) rfl rfl hE) rfl rfl hl.1 rfl (lv_room (Nat.le_of_ble_eq_true rfl)) dL_changedShare_3 ⟨(Nat.le_of_ble_eq_true rfl), (Nat.le_of_ble_eq_true rfl)⟩) hP hD hS hA [0, 1, 2] [3] rfl rfl (by decide) (by decide) (fun E9 ce q9 H locs hP hD hS hpx hce hcv hcl => ?_) (fun r_1 u_2 H locs hP hD hS hw => ?_)
  · skip
    have hpx : E9 = "java/lang/ArithmeticException" := hpx
    have hpx : E9 = "java/lang/ArithmeticException" := hpx
    obtain rfl := hpx
    refine vx_catch (own := RL) (name := "java/lang/ArithmeticException") (E := "java/lang/ArithmeticException") hown [] (⟨0, 8, 11, 113⟩ : ExceptionTableEntry) [] (by rw [htab]; rfl) (fun z hz => absurd hz List.not_mem_nil) (by decide) (by decide) (hts (.classLink RL 113 "java/lang/ArithmeticException") (by decide +kernel)) (va_Nw.use rfl (hE.1.2.1 "java/lang/ArithmeticException" (by decide +kernel))) hce hcv hcl ?_
    refine W.eq (g2 := F0 m 11 ls [.ref q9]) rfl ?_
    refine lv_astore_n (lv' := [(2, .ref q9), (0, .ref x), (1, .ref o)]) hx hb dL_changedShare_11 rfl hl (by decide) rfl (fun ls hl => ?_)
    refine lv_iconst (v := 1) hx hb dL_changedShare_12 (by decide) ?_
    have hP9 := n_Psub (wc := [(o, eW G 1 fo)]) hP [0] rfl
    have hD9 := hD.sub (ws' := [(o, eW G 1 fo)]) [0] (by decide) rfl
    refine W.widen (k := 1) (n := 6) (Nat.le_of_ble_eq_true rfl) (Nat.le_of_ble_eq_true rfl) ?_
    exact W.iret (v := 1) hx hb hr (fun t ht hW => ⟨⟨1, (), rfl, rfl, by rw [ht]; exact hP9, va_K.moved hW.alike hK, hD9⟩, hS.F ht⟩) hS.2.2 dL_changedShare_13
  · exact False.elim hw

set_option maxHeartbeats 4000000 in
set_option maxRecDepth 100000 in
theorem mL_add (l : Launch) (hl9 : l.stackTraces = false) (G : nG) (x : Nat) (inp : Nat) (de : Nat) (sa : Nat) (hi : Nat) (re : Nat) (co : Nat) (dv : Nat) (rs : Nat) (sg : Nat) (fm : Int64) (le : Int32) (ba : Nat) (bl : Nat) (br : Nat) (br1 : Nat) (br2 : Nat) (br3 : Nat) (bf : Nat → Int32) (bg : Nat → Int32) (bh : Nat → Int32) (blr : Nat) (bs1 : Nat) (bs2 : Nat) (bs3 : Nat) (bs4 : Nat) (bc1 : Nat → Int32) (bc2 : Nat → Int32) (bc3 : Nat → Int32) (bc4 : Nat → Int32) (rg : Nat) (fr : Nat → Option Nat) (d0 : Nat) (aa : Nat) (ar1 : Nat) (ar2 : Nat) (ar3 : Nat) (af : Nat → Int32) (ag : Nat → Int32) (ah : Nat → Int32) (al : Nat) (alr : Nat) (ar : Nat) (as1 : Nat) (as2 : Nat) (as3 : Nat) (as4 : Nat) (ac1 : Nat → Int32) (ac2 : Nat → Int32) (ac3 : Nat → Int32) (ac4 : Nat → Int32) (p1 : Nat) (p2 : Nat) (pf1 : Nat → Int32) (pf2 : Nat → Int32) (o : Nat) (fo : Nat → Int64) (sz : Nat) (hbg : nFit bg) (hbh : nFit bh) (hring : fr 0 = some d0) : Met l yL_add wsL_add ({ frames := 7, cells := 1, slots := 6, locals := 143 }) (va_Pc [.ref x, .ref o] (n_px G [(x, .inr (12, [.ref inp, .ref de, .ref sa, .ref hi, .ref re, .ref co, .ref dv, .ref rs, .int 0])), (inp, .inr (8, [.ref sg, .int 0, .long fm, .int le])), (de, .inr (5, [.ref ba, .ref bl, .ref br])), (ba, .inr (2, [.ref br1, .ref br2, .ref br3, .int 26])), (br1, eI G 36 bf), (br2, eC G 36 bg), (br3, eC G 36 bh), (bl, .inr (9, [.ref blr, .int 0])), (br, .inr (11, [.ref bs1, .ref bs2, .ref bs3, .ref bs4, .int 0])), (bs1, eI G 8 bc1), (bs2, eI G 8 bc2), (bs3, eI G 8 bc3), (bs4, eI G 8 bc4), (hi, .inr (7, [.ref rg, .int 0, .int 0])), (rg, eR G 9 fr), (d0, .inr (5, [.ref aa, .ref al, .ref ar])), (aa, .inr (2, [.ref ar1, .ref ar2, .ref ar3, .int 26])), (ar1, eI G 36 af), (ar2, eC G 36 ag), (ar3, eC G 36 ah), (al, .inr (9, [.ref alr, .int 0])), (ar, .inr (11, [.ref as1, .ref as2, .ref as3, .ref as4, .int 0])), (as1, eI G 8 ac1), (as2, eI G 8 ac2), (as3, eI G 8 ac3), (as4, eI G 8 ac4), (re, .inr (10, [.ref p1, .ref p2, .int 0])), (p1, eI G 3 pf1), (p2, eI G 3 pf2), (o, eJ G 1 fo)] sz)) (va_Qi (fun (r : Int32) (_ : Unit) => r = 1) (fun (_ : Unit) (t : State) => n_po G (va_A [(x, .inr (12, [.ref inp, .ref de, .ref sa, .ref hi, .ref re, .ref co, .ref dv, .ref rs, .int 0])), (inp, .inr (8, [.ref sg, .int 0, .long fm, .int le])), (de, .inr (5, [.ref ba, .ref bl, .ref br])), (ba, .inr (2, [.ref br1, .ref br2, .ref br3, .int 26])), (br1, eI G 36 bf), (br2, eC G 36 bg), (br3, eC G 36 bh), (bl, .inr (9, [.ref blr, .int 0])), (br, .inr (11, [.ref bs1, .ref bs2, .ref bs3, .ref bs4, .int 0])), (bs1, eI G 8 bc1), (bs2, eI G 8 bc2), (bs3, eI G 8 bc3), (bs4, eI G 8 bc4), (hi, .inr (7, [.ref rg, .int 0, .int 0])), (rg, eR G 9 fr), (d0, .inr (5, [.ref aa, .ref al, .ref ar])), (aa, .inr (2, [.ref ar1, .ref ar2, .ref ar3, .int 26])), (ar1, eI G 36 af), (ar2, eC G 36 ag), (ar3, eC G 36 ah), (al, .inr (9, [.ref alr, .int 0])), (ar, .inr (11, [.ref as1, .ref as2, .ref as3, .ref as4, .int 0])), (as1, eI G 8 ac1), (as2, eI G 8 ac2), (as3, eI G 8 ac3), (as4, eI G 8 ac4), (re, .inr (10, [.ref p1, .ref p2, .int 0])), (p1, eI G 3 pf1), (p2, eI G 3 pf2), (o, eJ G 1 fo)] sz) [(o, eJ G 1 fo)] t) (va_A [(x, .inr (12, [.ref inp, .ref de, .ref sa, .ref hi, .ref re, .ref co, .ref dv, .ref rs, .int 0])), (inp, .inr (8, [.ref sg, .int 0, .long fm, .int le])), (de, .inr (5, [.ref ba, .ref bl, .ref br])), (ba, .inr (2, [.ref br1, .ref br2, .ref br3, .int 26])), (br1, eI G 36 bf), (br2, eC G 36 bg), (br3, eC G 36 bh), (bl, .inr (9, [.ref blr, .int 0])), (br, .inr (11, [.ref bs1, .ref bs2, .ref bs3, .ref bs4, .int 0])), (bs1, eI G 8 bc1), (bs2, eI G 8 bc2), (bs3, eI G 8 bc3), (bs4, eI G 8 bc4), (hi, .inr (7, [.ref rg, .int 0, .int 0])), (rg, eR G 9 fr), (d0, .inr (5, [.ref aa, .ref al, .ref ar])), (aa, .inr (2, [.ref ar1, .ref ar2, .ref ar3, .int 26])), (ar1, eI G 36 af), (ar2, eC G 36 ag), (ar3, eC G 36 ah), (al, .inr (9, [.ref alr, .int 0])), (ar, .inr (11, [.ref as1, .ref as2, .ref as3, .ref as4, .int 0])), (as1, eI G 8 ac1), (as2, eI G 8 ac2), (as3, eI G 8 ac3), (as4, eI G 8 ac4), (re, .inr (10, [.ref p1, .ref p2, .int 0])), (p1, eI G 3 pf1), (p2, eI G 3 pf2), (o, eJ G 1 fo)] sz)) 1 6 (va_A [(x, .inr (12, [.ref inp, .ref de, .ref sa, .ref hi, .ref re, .ref co, .ref dv, .ref rs, .int 0])), (inp, .inr (8, [.ref sg, .int 0, .long fm, .int le])), (de, .inr (5, [.ref ba, .ref bl, .ref br])), (ba, .inr (2, [.ref br1, .ref br2, .ref br3, .int 26])), (br1, eI G 36 bf), (br2, eC G 36 bg), (br3, eC G 36 bh), (bl, .inr (9, [.ref blr, .int 0])), (br, .inr (11, [.ref bs1, .ref bs2, .ref bs3, .ref bs4, .int 0])), (bs1, eI G 8 bc1), (bs2, eI G 8 bc2), (bs3, eI G 8 bc3), (bs4, eI G 8 bc4), (hi, .inr (7, [.ref rg, .int 0, .int 0])), (rg, eR G 9 fr), (d0, .inr (5, [.ref aa, .ref al, .ref ar])), (aa, .inr (2, [.ref ar1, .ref ar2, .ref ar3, .int 26])), (ar1, eI G 36 af), (ar2, eC G 36 ag), (ar3, eC G 36 ah), (al, .inr (9, [.ref alr, .int 0])), (ar, .inr (11, [.ref as1, .ref as2, .ref as3, .ref as4, .int 0])), (as1, eI G 8 ac1), (as2, eI G 8 ac2), (as3, eI G 8 ac3), (as4, eI G 8 ac4), (re, .inr (10, [.ref p1, .ref p2, .int 0])), (p1, eI G 3 pf1), (p2, eI G 3 pf2), (o, eJ G 1 fo)] sz) := by
  refine n_ofWH (cc := cL_add) (maxL := 3) (ret := (some .int)) (hh := [(0, 8, 11, 35)]) (by decide) rfl ?_
  intro p e s m args below meth c s₁ B hml hv
  obtain ⟨rfl, ⟨hsz, hP, hK, hD0⟩, hE⟩ := hv
  have hx := B.exec
  have hb := B.bytes
  have hr := B.returns
  have hts := atoms_spec (ws := wsL_add) B.pre
  have hown : s.vm.findClass RL = some m.cls := findClass_of_methodNamed B.named
  have hlocks := B.notSynchronized
  have htab := vx_table (x := yL_add) B (hts (.codeWith yL_add cL_add 3 (some .int) [(0, 8, 11, 35)]) (by rw [wsL_add]; exact List.mem_cons_self))
  subst hsz
  have hD := hD0.self (sz := s.heap.size)
  generalize hAe : va_A [(x, .inr (12, [.ref inp, .ref de, .ref sa, .ref hi, .ref re, .ref co, .ref dv, .ref rs, .int 0])), (inp, .inr (8, [.ref sg, .int 0, .long fm, .int le])), (de, .inr (5, [.ref ba, .ref bl, .ref br])), (ba, .inr (2, [.ref br1, .ref br2, .ref br3, .int 26])), (br1, eI G 36 bf), (br2, eC G 36 bg), (br3, eC G 36 bh), (bl, .inr (9, [.ref blr, .int 0])), (br, .inr (11, [.ref bs1, .ref bs2, .ref bs3, .ref bs4, .int 0])), (bs1, eI G 8 bc1), (bs2, eI G 8 bc2), (bs3, eI G 8 bc3), (bs4, eI G 8 bc4), (hi, .inr (7, [.ref rg, .int 0, .int 0])), (rg, eR G 9 fr), (d0, .inr (5, [.ref aa, .ref al, .ref ar])), (aa, .inr (2, [.ref ar1, .ref ar2, .ref ar3, .int 26])), (ar1, eI G 36 af), (ar2, eC G 36 ag), (ar3, eC G 36 ah), (al, .inr (9, [.ref alr, .int 0])), (ar, .inr (11, [.ref as1, .ref as2, .ref as3, .ref as4, .int 0])), (as1, eI G 8 ac1), (as2, eI G 8 ac2), (as3, eI G 8 ac3), (as4, eI G 8 ac4), (re, .inr (10, [.ref p1, .ref p2, .int 0])), (p1, eI G 3 pf1), (p2, eI G 3 pf2), (o, eJ G 1 fo)] s.heap.size = A at hD hE ⊢
  have hA : ∀ q : Nat, s.heap.size ≤ q → A q := fun q h => by rw [← hAe]; exact Or.inr h
  have hS : va_S A s.heap s.heap [] := va_S.rf
  have hP : va_P G.1 vwCl [(x, .inr (12, [.ref inp, .ref de, .ref sa, .ref hi, .ref re, .ref co, .ref dv, .ref rs, .int 0])), (inp, .inr (8, [.ref sg, .int 0, .long fm, .int le])), (de, .inr (5, [.ref ba, .ref bl, .ref br])), (ba, .inr (2, [.ref br1, .ref br2, .ref br3, .int 26])), (br1, eI G 36 bf), (br2, eC G 36 bg), (br3, eC G 36 bh), (bl, .inr (9, [.ref blr, .int 0])), (br, .inr (11, [.ref bs1, .ref bs2, .ref bs3, .ref bs4, .int 0])), (bs1, eI G 8 bc1), (bs2, eI G 8 bc2), (bs3, eI G 8 bc3), (bs4, eI G 8 bc4), (hi, .inr (7, [.ref rg, .int 0, .int 0])), (rg, eR G 9 fr), (d0, .inr (5, [.ref aa, .ref al, .ref ar])), (aa, .inr (2, [.ref ar1, .ref ar2, .ref ar3, .int 26])), (ar1, eI G 36 af), (ar2, eC G 36 ag), (ar3, eC G 36 ah), (al, .inr (9, [.ref alr, .int 0])), (ar, .inr (11, [.ref as1, .ref as2, .ref as3, .ref as4, .int 0])), (as1, eI G 8 ac1), (as2, eI G 8 ac2), (as3, eI G 8 ac3), (as4, eI G 8 ac4), (re, .inr (10, [.ref p1, .ref p2, .int 0])), (p1, eI G 3 pf1), (p2, eI G 3 pf2), (o, eJ G 1 fo)] s.heap := hP
  have hl := lv_entry ([.ref x, .ref o]) (n := 3) (Nat.le_of_ble_eq_true rfl)
  rw [lg_entry_eq]
  generalize (lg_sl ([.ref x, .ref o]) ++ List.replicate (3 - (lg_sl ([.ref x, .ref o])).length) Slot.unset).toArray = ls at hl ⊢
  have hl : lv_has ls 3 [(0, .ref x), (1, .ref o)] := hl
  obtain ⟨H, hH⟩ : ∃ z, z = s.heap := ⟨_, rfl⟩
  have hS : va_S A s.heap H [] := by rw [hH]; exact hS
  have hP : va_P G.1 vwCl [(x, .inr (12, [.ref inp, .ref de, .ref sa, .ref hi, .ref re, .ref co, .ref dv, .ref rs, .int 0])), (inp, .inr (8, [.ref sg, .int 0, .long fm, .int le])), (de, .inr (5, [.ref ba, .ref bl, .ref br])), (ba, .inr (2, [.ref br1, .ref br2, .ref br3, .int 26])), (br1, eI G 36 bf), (br2, eC G 36 bg), (br3, eC G 36 bh), (bl, .inr (9, [.ref blr, .int 0])), (br, .inr (11, [.ref bs1, .ref bs2, .ref bs3, .ref bs4, .int 0])), (bs1, eI G 8 bc1), (bs2, eI G 8 bc2), (bs3, eI G 8 bc3), (bs4, eI G 8 bc4), (hi, .inr (7, [.ref rg, .int 0, .int 0])), (rg, eR G 9 fr), (d0, .inr (5, [.ref aa, .ref al, .ref ar])), (aa, .inr (2, [.ref ar1, .ref ar2, .ref ar3, .int 26])), (ar1, eI G 36 af), (ar2, eC G 36 ag), (ar3, eC G 36 ah), (al, .inr (9, [.ref alr, .int 0])), (ar, .inr (11, [.ref as1, .ref as2, .ref as3, .ref as4, .int 0])), (as1, eI G 8 ac1), (as2, eI G 8 ac2), (as3, eI G 8 ac3), (as4, eI G 8 ac4), (re, .inr (10, [.ref p1, .ref p2, .int 0])), (p1, eI G 3 pf1), (p2, eI G 3 pf2), (o, eJ G 1 fo)] H := by rw [hH]; exact hP
  refine n_heap hH ?_
  generalize ([] : List Loc) = locs at hS ⊢
  refine lv_aload_n hx hb dL_add_0 rfl (lv_at hl 1 rfl) ?_
  refine lv_iconst (v := 0) hx hb dL_add_1 (by decide) ?_
  refine lv_aload_n hx hb dL_add_2 rfl (lv_at hl 0 rfl) ?_
  refine n_xi (wr := [(o, eJ G 1 fo)]) (vx_runV (As := []) (rest := [.int 0, .ref o]) ⟨hx, hb, hml, hown, hts⟩ (mX11_add l hl9 G x inp de sa hi re co dv rs sg fm le ba bl br br1 br2 br3 bf bg bh blr bs1 bs2 bs3 bs4 bc1 bc2 bc3 bc4 rg fr d0 aa ar1 ar2 ar3 af ag ah al alr ar as1 as2 as3 as4 ac1 ac2 ac3 ac4 p1 p2 pf1 pf2 H.size hbg hbh hring) (cwV 0 hts gL_add_X11_add rfl rfl rfl (by decide +kernel) ⟨(Nat.le_of_ble_eq_true rfl), (Nat.le_of_ble_eq_true rfl)⟩) (n_prVX (ci := 12) (q0 := 0) hK hP hD hS hA [0, 1, 2, 3, 4, 5, 6, 7, 8, 9, 10, 11, 12, 13, 14, 15, 16, 17, 18, 19, 20, 21, 22, 23, 24, 25, 26, 27, 28] rfl (by decide) rfl rfl hE) rfl rfl hl.1 rfl (lv_room (Nat.le_of_ble_eq_true rfl)) dL_add_3 ⟨(Nat.le_of_ble_eq_true rfl), (Nat.le_of_ble_eq_true rfl)⟩) hP hD hS hA [0, 1, 2, 3, 4, 5, 6, 7, 8, 9, 10, 11, 12, 13, 14, 15, 16, 17, 18, 19, 20, 21, 22, 23, 24, 25, 26, 27, 28] [29] rfl rfl (by decide) (by decide) (fun E9 ce q9 H locs hP hD hS hpx hce hcv hcl => ?_) (fun r_1 u_2 H locs hP hD hS hw => ?_)
  · skip
    have hpx : E9 = "java/lang/UnsupportedOperationException" := hpx
    have hpx : E9 = "java/lang/UnsupportedOperationException" := hpx
    obtain rfl := hpx
    refine vx_catch (own := RL) (name := "java/lang/UnsupportedOperationException") (E := "java/lang/UnsupportedOperationException") hown [] (⟨0, 8, 11, 35⟩ : ExceptionTableEntry) [] (by rw [htab]; rfl) (fun z hz => absurd hz List.not_mem_nil) (by decide) (by decide) (hts (.classLink RL 35 "java/lang/UnsupportedOperationException") (by decide +kernel)) (va_Nw.use rfl (hE.1.2.1 "java/lang/UnsupportedOperationException" (by decide +kernel))) hce hcv hcl ?_
    refine W.eq (g2 := F0 m 11 ls [.ref q9]) rfl ?_
    refine lv_astore_n (lv' := [(2, .ref q9), (0, .ref x), (1, .ref o)]) hx hb dL_add_11 rfl hl (by decide) rfl (fun ls hl => ?_)
    refine lv_iconst (v := 1) hx hb dL_add_12 (by decide) ?_
    have hP9 := n_Psub (wc := [(o, eJ G 1 fo)]) hP [0] rfl
    have hD9 := hD.sub (ws' := [(o, eJ G 1 fo)]) [0] (by decide) rfl
    refine W.widen (k := 1) (n := 6) (Nat.le_of_ble_eq_true rfl) (Nat.le_of_ble_eq_true rfl) ?_
    exact W.iret (v := 1) hx hb hr (fun t ht hW => ⟨⟨1, (), rfl, rfl, by rw [ht]; exact hP9, va_K.moved hW.alike hK, hD9⟩, hS.F ht⟩) hS.2.2 dL_add_13
  · exact False.elim hw

set_option maxHeartbeats 4000000 in
set_option maxRecDepth 100000 in
theorem mL_feed (l : Launch) (hl9 : l.stackTraces = false) (G : nG) (x : Nat) (inp : Nat) (de : Nat) (sa : Nat) (hi : Nat) (re : Nat) (co : Nat) (dv : Nat) (rs : Nat) (sg : Nat) (fm : Int64) (le : Int32) (fs : Nat → Int32) (q : Int32) (o : Nat) (fo : Nat → Int64) (sz : Nat) : Met l yL_feed wsL_feed ({ frames := 3, cells := 0, slots := 0, locals := 62 }) (va_Pc [.ref x, .int q, .ref o] (n_px G [(x, .inr (12, [.ref inp, .ref de, .ref sa, .ref hi, .ref re, .ref co, .ref dv, .ref rs, .int 0])), (inp, .inr (8, [.ref sg, .int 0, .long fm, .int le])), (sg, eC G 60 fs), (o, eJ G 1 fo)] sz)) (va_Qi (fun (r : Int32) (_ : Unit) => r = 0) (fun (_ : Unit) (t : State) => n_po G (va_A [(x, .inr (12, [.ref inp, .ref de, .ref sa, .ref hi, .ref re, .ref co, .ref dv, .ref rs, .int 0])), (inp, .inr (8, [.ref sg, .int 0, .long fm, .int le])), (sg, eC G 60 fs), (o, eJ G 1 fo)] sz) [(o, eJ G 1 (vp_updL fo ((0 : Int32).toNatClampNeg) ((1 : Int32).toInt64)))] t) (va_A [(x, .inr (12, [.ref inp, .ref de, .ref sa, .ref hi, .ref re, .ref co, .ref dv, .ref rs, .int 0])), (inp, .inr (8, [.ref sg, .int 0, .long fm, .int le])), (sg, eC G 60 fs), (o, eJ G 1 fo)] sz)) 0 0 (va_A [(x, .inr (12, [.ref inp, .ref de, .ref sa, .ref hi, .ref re, .ref co, .ref dv, .ref rs, .int 0])), (inp, .inr (8, [.ref sg, .int 0, .long fm, .int le])), (sg, eC G 60 fs), (o, eJ G 1 fo)] sz) := by
  refine n_ofWH (cc := cL_feed) (maxL := 4) (ret := (some .int)) (hh := [(0, 9, 12, 13)]) (by decide) rfl ?_
  intro p e s m args below meth c s₁ B hml hv
  obtain ⟨rfl, ⟨hsz, hP, hK, hD0⟩, hE⟩ := hv
  have hx := B.exec
  have hb := B.bytes
  have hr := B.returns
  have hts := atoms_spec (ws := wsL_feed) B.pre
  have hown : s.vm.findClass RL = some m.cls := findClass_of_methodNamed B.named
  have hlocks := B.notSynchronized
  have htab := vx_table (x := yL_feed) B (hts (.codeWith yL_feed cL_feed 4 (some .int) [(0, 9, 12, 13)]) (by rw [wsL_feed]; exact List.mem_cons_self))
  subst hsz
  have hD := hD0.self (sz := s.heap.size)
  generalize hAe : va_A [(x, .inr (12, [.ref inp, .ref de, .ref sa, .ref hi, .ref re, .ref co, .ref dv, .ref rs, .int 0])), (inp, .inr (8, [.ref sg, .int 0, .long fm, .int le])), (sg, eC G 60 fs), (o, eJ G 1 fo)] s.heap.size = A at hD hE ⊢
  have hA : ∀ q : Nat, s.heap.size ≤ q → A q := fun q h => by rw [← hAe]; exact Or.inr h
  have hS : va_S A s.heap s.heap [] := va_S.rf
  have hP : va_P G.1 vwCl [(x, .inr (12, [.ref inp, .ref de, .ref sa, .ref hi, .ref re, .ref co, .ref dv, .ref rs, .int 0])), (inp, .inr (8, [.ref sg, .int 0, .long fm, .int le])), (sg, eC G 60 fs), (o, eJ G 1 fo)] s.heap := hP
  have hl := lv_entry ([.ref x, .int q, .ref o]) (n := 4) (Nat.le_of_ble_eq_true rfl)
  rw [lg_entry_eq]
  generalize (lg_sl ([.ref x, .int q, .ref o]) ++ List.replicate (4 - (lg_sl ([.ref x, .int q, .ref o])).length) Slot.unset).toArray = ls at hl ⊢
  have hl : lv_has ls 4 [(0, .ref x), (1, .int q), (2, .ref o)] := hl
  obtain ⟨H, hH⟩ : ∃ z, z = s.heap := ⟨_, rfl⟩
  have hS : va_S A s.heap H [] := by rw [hH]; exact hS
  have hP : va_P G.1 vwCl [(x, .inr (12, [.ref inp, .ref de, .ref sa, .ref hi, .ref re, .ref co, .ref dv, .ref rs, .int 0])), (inp, .inr (8, [.ref sg, .int 0, .long fm, .int le])), (sg, eC G 60 fs), (o, eJ G 1 fo)] H := by rw [hH]; exact hP
  refine n_heap hH ?_
  generalize ([] : List Loc) = locs at hS ⊢
  refine lv_aload_n hx hb dL_feed_0 rfl (lv_at hl 2 rfl) ?_
  refine lv_iconst (v := 0) hx hb dL_feed_1 (by decide) ?_
  refine lv_aload_n hx hb dL_feed_2 rfl (lv_at hl 0 rfl) ?_
  refine lv_iload_n hx hb dL_feed_3 rfl (lv_at hl 1 rfl) ?_
  refine n_ci (wr := [(o, eJ G 1 fo)]) (va_runV (As := [.int q]) (rest := [.int 0, .ref o]) ⟨hx, hb, hml, hown, hts⟩ (mX11_feed l G x inp de sa hi re co dv rs sg fm le fs q H.size) (cwV 1 hts gL_feed_X11_feed rfl rfl rfl (by decide +kernel) ⟨(Nat.le_of_ble_eq_true rfl), (Nat.le_of_ble_eq_true rfl)⟩) (n_prV (ci := 12) (q0 := 0) hK hP hD [0, 1, 2] rfl (by decide) rfl rfl) rfl rfl hl.1 rfl (lv_room (Nat.le_of_ble_eq_true rfl)) dL_feed_4 ⟨(Nat.le_of_ble_eq_true rfl), (Nat.le_of_ble_eq_true rfl)⟩) hP hD hS hA [0, 1, 2] [3] rfl rfl (by decide) (by decide) (fun r_1 u_2 H locs hP hD hS hw => ?_)
  have hP : va_P G.1 vwCl [(o, eJ G 1 fo), (x, .inr (12, [.ref inp, .ref de, .ref sa, .ref hi, .ref re, .ref co, .ref dv, .ref rs, .int 0]))] H := hP
  have hD : va_D A [(o, eJ G 1 fo), (x, .inr (12, [.ref inp, .ref de, .ref sa, .ref hi, .ref re, .ref co, .ref dv, .ref rs, .int 0]))] := hD
  have hw : r_1 = 1 := hw
  subst hw
  refine lv_i2l (v := (1 : Int32).toInt64) hx hb dL_feed_7 rfl ?_
  refine va_last hx hb hK hP hD hS 0 2 rfl rfl (n_in (by decide)) dL_feed_8 (fun H locs hP hD hS => ?_)
  have hP : va_P G.1 vwCl [(o, eJ G 1 (vp_updL fo ((0 : Int32).toNatClampNeg) ((1 : Int32).toInt64))), (x, .inr (12, [.ref inp, .ref de, .ref sa, .ref hi, .ref re, .ref co, .ref dv, .ref rs, .int 0]))] H := hP
  have hD : va_D A [(o, eJ G 1 (vp_updL fo ((0 : Int32).toNatClampNeg) ((1 : Int32).toInt64))), (x, .inr (12, [.ref inp, .ref de, .ref sa, .ref hi, .ref re, .ref co, .ref dv, .ref rs, .int 0]))] := hD
  refine lv_goto (tgt := 15) hx hb dL_feed_9 (by decide) ?_
  refine lv_iconst (v := 0) hx hb dL_feed_15 (by decide) ?_
  have hP9 := n_Psub (wc := [(o, eJ G 1 (vp_updL fo ((0 : Int32).toNatClampNeg) ((1 : Int32).toInt64)))]) hP [0] rfl
  have hD9 := hD.sub (ws' := [(o, eJ G 1 (vp_updL fo ((0 : Int32).toNatClampNeg) ((1 : Int32).toInt64)))]) [0] (by decide) rfl
  refine W.widen (k := 0) (n := 0) (Nat.le_of_ble_eq_true rfl) (Nat.le_of_ble_eq_true rfl) ?_
  exact W.iret (v := 0) hx hb hr (fun t ht hW => ⟨⟨0, (), rfl, rfl, by rw [ht]; exact hP9, va_K.moved hW.alike hK, hD9⟩, hS.F ht⟩) hS.2.2 dL_feed_16

set_option maxHeartbeats 4000000 in
set_option maxRecDepth 100000 in
theorem mL_perform (l : Launch) (hl9 : l.stackTraces = false) (G : nG) (x : Nat) (inp : Nat) (de : Nat) (sa : Nat) (hi : Nat) (re : Nat) (co : Nat) (dv : Nat) (rs : Nat) (k1 : Nat) (k2 : Nat) (k3 : Nat) (k4 : Nat) (k5 : Nat) (kf2 : Nat → Int32) (kf3 : Nat → Int32) (sg : Nat) (fm : Int64) (le : Int32) (o : Nat) (fo : Nat → Int64) (sz : Nat) : Met l yL_perform wsL_perform ({ frames := 5, cells := 0, slots := 0, locals := 107 }) (va_Pc [.ref x, .ref o] (n_px G [(x, .inr (12, [.ref inp, .ref de, .ref sa, .ref hi, .ref re, .ref co, .ref dv, .ref rs, .int 0])), (co, .inr (3, [.ref k1, .ref k2, .ref k3, .ref k4, .ref k5, .int 0, .int 0])), (k2, eI G 30 kf2), (k3, eI G 30 kf3), (inp, .inr (8, [.ref sg, .int 0, .long fm, .int le])), (o, eJ G 1 fo)] sz)) (va_Qi (fun (r : Int32) (_ : Unit) => r = 0) (fun (_ : Unit) (t : State) => n_po G (va_A [(x, .inr (12, [.ref inp, .ref de, .ref sa, .ref hi, .ref re, .ref co, .ref dv, .ref rs, .int 0])), (co, .inr (3, [.ref k1, .ref k2, .ref k3, .ref k4, .ref k5, .int 0, .int 0])), (k2, eI G 30 kf2), (k3, eI G 30 kf3), (inp, .inr (8, [.ref sg, .int 0, .long fm, .int le])), (o, eJ G 1 fo)] sz) [(o, eJ G 1 (vp_updL fo ((0 : Int32).toNatClampNeg) (((-100) : Int32).toInt64)))] t) (va_A [(x, .inr (12, [.ref inp, .ref de, .ref sa, .ref hi, .ref re, .ref co, .ref dv, .ref rs, .int 0])), (co, .inr (3, [.ref k1, .ref k2, .ref k3, .ref k4, .ref k5, .int 0, .int 0])), (k2, eI G 30 kf2), (k3, eI G 30 kf3), (inp, .inr (8, [.ref sg, .int 0, .long fm, .int le])), (o, eJ G 1 fo)] sz)) 0 0 (va_A [(x, .inr (12, [.ref inp, .ref de, .ref sa, .ref hi, .ref re, .ref co, .ref dv, .ref rs, .int 0])), (co, .inr (3, [.ref k1, .ref k2, .ref k3, .ref k4, .ref k5, .int 0, .int 0])), (k2, eI G 30 kf2), (k3, eI G 30 kf3), (inp, .inr (8, [.ref sg, .int 0, .long fm, .int le])), (o, eJ G 1 fo)] sz) := by
  refine n_ofWH (cc := cL_perform) (maxL := 3) (ret := (some .int)) (hh := [(0, 8, 11, 35)]) (by decide) rfl ?_
  intro p e s m args below meth c s₁ B hml hv
  obtain ⟨rfl, ⟨hsz, hP, hK, hD0⟩, hE⟩ := hv
  have hx := B.exec
  have hb := B.bytes
  have hr := B.returns
  have hts := atoms_spec (ws := wsL_perform) B.pre
  have hown : s.vm.findClass RL = some m.cls := findClass_of_methodNamed B.named
  have hlocks := B.notSynchronized
  have htab := vx_table (x := yL_perform) B (hts (.codeWith yL_perform cL_perform 3 (some .int) [(0, 8, 11, 35)]) (by rw [wsL_perform]; exact List.mem_cons_self))
  subst hsz
  have hD := hD0.self (sz := s.heap.size)
  generalize hAe : va_A [(x, .inr (12, [.ref inp, .ref de, .ref sa, .ref hi, .ref re, .ref co, .ref dv, .ref rs, .int 0])), (co, .inr (3, [.ref k1, .ref k2, .ref k3, .ref k4, .ref k5, .int 0, .int 0])), (k2, eI G 30 kf2), (k3, eI G 30 kf3), (inp, .inr (8, [.ref sg, .int 0, .long fm, .int le])), (o, eJ G 1 fo)] s.heap.size = A at hD hE ⊢
  have hA : ∀ q : Nat, s.heap.size ≤ q → A q := fun q h => by rw [← hAe]; exact Or.inr h
  have hS : va_S A s.heap s.heap [] := va_S.rf
  have hP : va_P G.1 vwCl [(x, .inr (12, [.ref inp, .ref de, .ref sa, .ref hi, .ref re, .ref co, .ref dv, .ref rs, .int 0])), (co, .inr (3, [.ref k1, .ref k2, .ref k3, .ref k4, .ref k5, .int 0, .int 0])), (k2, eI G 30 kf2), (k3, eI G 30 kf3), (inp, .inr (8, [.ref sg, .int 0, .long fm, .int le])), (o, eJ G 1 fo)] s.heap := hP
  have hl := lv_entry ([.ref x, .ref o]) (n := 3) (Nat.le_of_ble_eq_true rfl)
  rw [lg_entry_eq]
  generalize (lg_sl ([.ref x, .ref o]) ++ List.replicate (3 - (lg_sl ([.ref x, .ref o])).length) Slot.unset).toArray = ls at hl ⊢
  have hl : lv_has ls 3 [(0, .ref x), (1, .ref o)] := hl
  obtain ⟨H, hH⟩ : ∃ z, z = s.heap := ⟨_, rfl⟩
  have hS : va_S A s.heap H [] := by rw [hH]; exact hS
  have hP : va_P G.1 vwCl [(x, .inr (12, [.ref inp, .ref de, .ref sa, .ref hi, .ref re, .ref co, .ref dv, .ref rs, .int 0])), (co, .inr (3, [.ref k1, .ref k2, .ref k3, .ref k4, .ref k5, .int 0, .int 0])), (k2, eI G 30 kf2), (k3, eI G 30 kf3), (inp, .inr (8, [.ref sg, .int 0, .long fm, .int le])), (o, eJ G 1 fo)] H := by rw [hH]; exact hP
  refine n_heap hH ?_
  generalize ([] : List Loc) = locs at hS ⊢
  refine lv_aload_n hx hb dL_perform_0 rfl (lv_at hl 1 rfl) ?_
  refine lv_iconst (v := 0) hx hb dL_perform_1 (by decide) ?_
  refine lv_aload_n hx hb dL_perform_2 rfl (lv_at hl 0 rfl) ?_
  refine n_ci (wr := [(o, eJ G 1 fo)]) (va_runV (As := []) (rest := [.int 0, .ref o]) ⟨hx, hb, hml, hown, hts⟩ (mX11_perform l G x inp de sa hi re co dv rs k1 k2 k3 k4 k5 kf2 kf3 sg fm le H.size) (cwV 0 hts gL_perform_X11_perform rfl rfl rfl (by decide +kernel) ⟨(Nat.le_of_ble_eq_true rfl), (Nat.le_of_ble_eq_true rfl)⟩) (n_prV (ci := 12) (q0 := 0) hK hP hD [0, 1, 2, 3, 4] rfl (by decide) rfl rfl) rfl rfl hl.1 rfl (lv_room (Nat.le_of_ble_eq_true rfl)) dL_perform_3 ⟨(Nat.le_of_ble_eq_true rfl), (Nat.le_of_ble_eq_true rfl)⟩) hP hD hS hA [0, 1, 2, 3, 4] [5] rfl rfl (by decide) (by decide) (fun r_1 u_2 H locs hP hD hS hw => ?_)
  have hP : va_P G.1 vwCl [(o, eJ G 1 fo), (x, .inr (12, [.ref inp, .ref de, .ref sa, .ref hi, .ref re, .ref co, .ref dv, .ref rs, .int 0]))] H := hP
  have hD : va_D A [(o, eJ G 1 fo), (x, .inr (12, [.ref inp, .ref de, .ref sa, .ref hi, .ref re, .ref co, .ref dv, .ref rs, .int 0]))] := hD
  have hw : r_1 = (-100) := hw
  subst hw
  refine lv_i2l (v := ((-100) : Int32).toInt64) hx hb dL_perform_6 rfl ?_
  refine va_last hx hb hK hP hD hS 0 2 rfl rfl (n_in (by decide)) dL_perform_7 (fun H locs hP hD hS => ?_)
  have hP : va_P G.1 vwCl [(o, eJ G 1 (vp_updL fo ((0 : Int32).toNatClampNeg) (((-100) : Int32).toInt64))), (x, .inr (12, [.ref inp, .ref de, .ref sa, .ref hi, .ref re, .ref co, .ref dv, .ref rs, .int 0]))] H := hP
  have hD : va_D A [(o, eJ G 1 (vp_updL fo ((0 : Int32).toNatClampNeg) (((-100) : Int32).toInt64))), (x, .inr (12, [.ref inp, .ref de, .ref sa, .ref hi, .ref re, .ref co, .ref dv, .ref rs, .int 0]))] := hD
  refine lv_goto (tgt := 14) hx hb dL_perform_8 (by decide) ?_
  refine lv_iconst (v := 0) hx hb dL_perform_14 (by decide) ?_
  have hP9 := n_Psub (wc := [(o, eJ G 1 (vp_updL fo ((0 : Int32).toNatClampNeg) (((-100) : Int32).toInt64)))]) hP [0] rfl
  have hD9 := hD.sub (ws' := [(o, eJ G 1 (vp_updL fo ((0 : Int32).toNatClampNeg) (((-100) : Int32).toInt64)))]) [0] (by decide) rfl
  refine W.widen (k := 0) (n := 0) (Nat.le_of_ble_eq_true rfl) (Nat.le_of_ble_eq_true rfl) ?_
  exact W.iret (v := 0) hx hb hr (fun t ht hW => ⟨⟨0, (), rfl, rfl, by rw [ht]; exact hP9, va_K.moved hW.alike hK, hD9⟩, hS.F ht⟩) hS.2.2 dL_perform_15

set_option maxHeartbeats 4000000 in
set_option maxRecDepth 100000 in
theorem mL_letter (l : Launch) (hl9 : l.stackTraces = false) (G : nG) (x : Nat) (inp : Nat) (de : Nat) (sa : Nat) (hi : Nat) (re : Nat) (co : Nat) (dv : Nat) (rs : Nat) (ba : Nat) (bl : Nat) (br : Nat) (br1 : Nat) (br2 : Nat) (br3 : Nat) (bf : Nat → Int32) (bg : Nat → Int32) (bh : Nat → Int32) (q : Int32) (s2 : Int32) (o : Nat) (fo : Nat → Int64) (sz : Nat) (hbf : nRow bf) (hbg1 : nFst bg) (hbh1 : nSnd bh) : Met l yL_letter wsL_letter ({ frames := 8, cells := 1, slots := 6, locals := 135 }) (va_Pc [.ref x, .int q, .int s2, .ref o] (n_px G [(x, .inr (12, [.ref inp, .ref de, .ref sa, .ref hi, .ref re, .ref co, .ref dv, .ref rs, .int 0])), (de, .inr (5, [.ref ba, .ref bl, .ref br])), (ba, .inr (2, [.ref br1, .ref br2, .ref br3, .int 26])), (br1, eI G 36 bf), (br2, eC G 36 bg), (br3, eC G 36 bh), (o, eJ G 1 fo)] sz)) (va_Qi (fun (r : Int32) (f_9 : Nat → Int64) => r = (nkP q) ∧ (nkP q = 0 → f_9 0 = (nvL q s2 : Int32).toInt64)) (fun (f_9 : Nat → Int64) (t : State) => n_po G (va_A [(x, .inr (12, [.ref inp, .ref de, .ref sa, .ref hi, .ref re, .ref co, .ref dv, .ref rs, .int 0])), (de, .inr (5, [.ref ba, .ref bl, .ref br])), (ba, .inr (2, [.ref br1, .ref br2, .ref br3, .int 26])), (br1, eI G 36 bf), (br2, eC G 36 bg), (br3, eC G 36 bh), (o, eJ G 1 fo)] sz) [(o, eJ G 1 f_9)] t) (va_A [(x, .inr (12, [.ref inp, .ref de, .ref sa, .ref hi, .ref re, .ref co, .ref dv, .ref rs, .int 0])), (de, .inr (5, [.ref ba, .ref bl, .ref br])), (ba, .inr (2, [.ref br1, .ref br2, .ref br3, .int 26])), (br1, eI G 36 bf), (br2, eC G 36 bg), (br3, eC G 36 bh), (o, eJ G 1 fo)] sz)) 1 6 (va_A [(x, .inr (12, [.ref inp, .ref de, .ref sa, .ref hi, .ref re, .ref co, .ref dv, .ref rs, .int 0])), (de, .inr (5, [.ref ba, .ref bl, .ref br])), (ba, .inr (2, [.ref br1, .ref br2, .ref br3, .int 26])), (br1, eI G 36 bf), (br2, eC G 36 bg), (br3, eC G 36 bh), (o, eJ G 1 fo)] sz) := by
  refine n_ofWH (cc := cL_letter) (maxL := 5) (ret := (some .int)) (hh := [(0, 10, 13, 21)]) (by decide) rfl ?_
  intro p e s m args below meth c s₁ B hml hv
  obtain ⟨rfl, ⟨hsz, hP, hK, hD0⟩, hE⟩ := hv
  have hx := B.exec
  have hb := B.bytes
  have hr := B.returns
  have hts := atoms_spec (ws := wsL_letter) B.pre
  have hown : s.vm.findClass RL = some m.cls := findClass_of_methodNamed B.named
  have hlocks := B.notSynchronized
  have htab := vx_table (x := yL_letter) B (hts (.codeWith yL_letter cL_letter 5 (some .int) [(0, 10, 13, 21)]) (by rw [wsL_letter]; exact List.mem_cons_self))
  subst hsz
  have hD := hD0.self (sz := s.heap.size)
  generalize hAe : va_A [(x, .inr (12, [.ref inp, .ref de, .ref sa, .ref hi, .ref re, .ref co, .ref dv, .ref rs, .int 0])), (de, .inr (5, [.ref ba, .ref bl, .ref br])), (ba, .inr (2, [.ref br1, .ref br2, .ref br3, .int 26])), (br1, eI G 36 bf), (br2, eC G 36 bg), (br3, eC G 36 bh), (o, eJ G 1 fo)] s.heap.size = A at hD hE ⊢
  have hA : ∀ q : Nat, s.heap.size ≤ q → A q := fun q h => by rw [← hAe]; exact Or.inr h
  have hS : va_S A s.heap s.heap [] := va_S.rf
  have hP : va_P G.1 vwCl [(x, .inr (12, [.ref inp, .ref de, .ref sa, .ref hi, .ref re, .ref co, .ref dv, .ref rs, .int 0])), (de, .inr (5, [.ref ba, .ref bl, .ref br])), (ba, .inr (2, [.ref br1, .ref br2, .ref br3, .int 26])), (br1, eI G 36 bf), (br2, eC G 36 bg), (br3, eC G 36 bh), (o, eJ G 1 fo)] s.heap := hP
  have hl := lv_entry ([.ref x, .int q, .int s2, .ref o]) (n := 5) (Nat.le_of_ble_eq_true rfl)
  rw [lg_entry_eq]
  generalize (lg_sl ([.ref x, .int q, .int s2, .ref o]) ++ List.replicate (5 - (lg_sl ([.ref x, .int q, .int s2, .ref o])).length) Slot.unset).toArray = ls at hl ⊢
  have hl : lv_has ls 5 [(0, .ref x), (1, .int q), (2, .int s2), (3, .ref o)] := hl
  obtain ⟨H, hH⟩ : ∃ z, z = s.heap := ⟨_, rfl⟩
  have hS : va_S A s.heap H [] := by rw [hH]; exact hS
  have hP : va_P G.1 vwCl [(x, .inr (12, [.ref inp, .ref de, .ref sa, .ref hi, .ref re, .ref co, .ref dv, .ref rs, .int 0])), (de, .inr (5, [.ref ba, .ref bl, .ref br])), (ba, .inr (2, [.ref br1, .ref br2, .ref br3, .int 26])), (br1, eI G 36 bf), (br2, eC G 36 bg), (br3, eC G 36 bh), (o, eJ G 1 fo)] H := by rw [hH]; exact hP
  refine n_heap hH ?_
  generalize ([] : List Loc) = locs at hS ⊢
  refine lv_aload_n hx hb dL_letter_0 rfl (lv_at hl 3 rfl) ?_
  refine lv_iconst (v := 0) hx hb dL_letter_1 (by decide) ?_
  refine lv_aload_n hx hb dL_letter_2 rfl (lv_at hl 0 rfl) ?_
  refine lv_iload_n hx hb dL_letter_3 rfl (lv_at hl 1 rfl) ?_
  refine lv_iload_n hx hb dL_letter_4 rfl (lv_at hl 2 rfl) ?_
  refine n_xi (wr := [(o, eJ G 1 fo)]) (vx_runV (As := [.int q, .int s2]) (rest := [.int 0, .ref o]) ⟨hx, hb, hml, hown, hts⟩ (mX11_letter l hl9 G x inp de sa hi re co dv rs ba bl br br1 br2 br3 bf bg bh q s2 H.size hbf hbg1 hbh1) (cwV 2 hts gL_letter_X11_letter rfl rfl rfl (by decide +kernel) ⟨(Nat.le_of_ble_eq_true rfl), (Nat.le_of_ble_eq_true rfl)⟩) (n_prVX (ci := 12) (q0 := 0) hK hP hD hS hA [0, 1, 2, 3, 4, 5] rfl (by decide) rfl rfl hE) rfl rfl hl.1 rfl (lv_room (Nat.le_of_ble_eq_true rfl)) dL_letter_5 ⟨(Nat.le_of_ble_eq_true rfl), (Nat.le_of_ble_eq_true rfl)⟩) hP hD hS hA [0, 1, 2, 3, 4, 5] [6] rfl rfl (by decide) (by decide) (fun E9 ce q9 H locs hP hD hS hpx hce hcv hcl => ?_) (fun r_1 u_2 H locs hP hD hS hw => ?_)
  · skip
    have hpx : E9 = "java/lang/IndexOutOfBoundsException" ∧ nkP q = 1 := hpx
    have hpx : E9 = "java/lang/IndexOutOfBoundsException" ∧ nkP q = 1 := hpx
    obtain ⟨rfl, hc⟩ := hpx
    refine vx_catch (own := RL) (name := "java/lang/IndexOutOfBoundsException") (E := "java/lang/IndexOutOfBoundsException") hown [] (⟨0, 10, 13, 21⟩ : ExceptionTableEntry) [] (by rw [htab]; rfl) (fun z hz => absurd hz List.not_mem_nil) (by decide) (by decide) (hts (.classLink RL 21 "java/lang/IndexOutOfBoundsException") (by decide +kernel)) (va_Nw.use rfl (hE.1.2.1 "java/lang/IndexOutOfBoundsException" (by decide +kernel))) hce hcv hcl ?_
    refine W.eq (g2 := F0 m 13 ls [.ref q9]) rfl ?_
    refine lv_astore (lv' := [(4, .ref q9), (0, .ref x), (1, .int q), (2, .int s2), (3, .ref o)]) hx hb dL_letter_13 hl (by decide) rfl (fun ls hl => ?_)
    refine lv_iconst (v := 1) hx hb dL_letter_15 (by decide) ?_
    have hP9 := n_Psub (wc := [(o, eJ G 1 fo)]) hP [0] rfl
    have hD9 := hD.sub (ws' := [(o, eJ G 1 fo)]) [0] (by decide) rfl
    refine W.widen (k := 1) (n := 6) (Nat.le_of_ble_eq_true rfl) (Nat.le_of_ble_eq_true rfl) ?_
    exact W.iret (v := 1) hx hb hr (fun t ht hW => ⟨⟨1, fo, rfl, ⟨hc.symm, (fun h9 => absurd (hc.symm.trans h9) (by decide))⟩, by rw [ht]; exact hP9, va_K.moved hW.alike hK, hD9⟩, hS.F ht⟩) hS.2.2 dL_letter_16
  have hP : va_P G.1 vwCl [(o, eJ G 1 fo), (x, .inr (12, [.ref inp, .ref de, .ref sa, .ref hi, .ref re, .ref co, .ref dv, .ref rs, .int 0]))] H := hP
  have hD : va_D A [(o, eJ G 1 fo), (x, .inr (12, [.ref inp, .ref de, .ref sa, .ref hi, .ref re, .ref co, .ref dv, .ref rs, .int 0]))] := hD
  have hr_3 : (r_1 = nvL q s2 ∧ nkP q = 0) := hw
  refine lv_i2l (v := (r_1 : Int32).toInt64) hx hb dL_letter_8 rfl ?_
  refine va_last hx hb hK hP hD hS 0 2 rfl rfl (n_in (by decide)) dL_letter_9 (fun H locs hP hD hS => ?_)
  have hP : va_P G.1 vwCl [(o, eJ G 1 (vp_updL fo ((0 : Int32).toNatClampNeg) ((r_1 : Int32).toInt64))), (x, .inr (12, [.ref inp, .ref de, .ref sa, .ref hi, .ref re, .ref co, .ref dv, .ref rs, .int 0]))] H := hP
  have hD : va_D A [(o, eJ G 1 (vp_updL fo ((0 : Int32).toNatClampNeg) ((r_1 : Int32).toInt64))), (x, .inr (12, [.ref inp, .ref de, .ref sa, .ref hi, .ref re, .ref co, .ref dv, .ref rs, .int 0]))] := hD
  refine lv_goto (tgt := 17) hx hb dL_letter_10 (by decide) ?_
  refine lv_iconst (v := 0) hx hb dL_letter_17 (by decide) ?_
  have hP9 := n_Psub (wc := [(o, eJ G 1 (vp_updL fo ((0 : Int32).toNatClampNeg) ((r_1 : Int32).toInt64)))]) hP [0] rfl
  have hD9 := hD.sub (ws' := [(o, eJ G 1 (vp_updL fo ((0 : Int32).toNatClampNeg) ((r_1 : Int32).toInt64)))]) [0] (by decide) rfl
  refine W.widen (k := 1) (n := 6) (Nat.le_of_ble_eq_true rfl) (Nat.le_of_ble_eq_true rfl) ?_
  exact W.iret (v := 0) hx hb hr (fun t ht hW => ⟨⟨0, (vp_updL fo ((0 : Int32).toNatClampNeg) ((r_1 : Int32).toInt64)), rfl, ⟨hr_3.2.symm, (fun _ => by rw [hr_3.1]; exact pk_uLs)⟩, by rw [ht]; exact hP9, va_K.moved hW.alike hK, hD9⟩, hS.F ht⟩) hS.2.2 dL_letter_18

set_option maxHeartbeats 4000000 in
set_option maxRecDepth 100000 in
theorem mL_moveLetter (l : Launch) (hl9 : l.stackTraces = false) (G : nG) (x : Nat) (inp : Nat) (de : Nat) (sa : Nat) (hi : Nat) (re : Nat) (co : Nat) (dv : Nat) (rs : Nat) (rg : Nat) (fr : Nat → Option Nat) (d0 : Nat) (aa : Nat) (ar1 : Nat) (ar2 : Nat) (ar3 : Nat) (af : Nat → Int32) (ag : Nat → Int32) (ah : Nat → Int32) (al : Nat) (alr : Nat) (ar : Nat) (as1 : Nat) (as2 : Nat) (as3 : Nat) (as4 : Nat) (ac1 : Nat → Int32) (ac2 : Nat → Int32) (ac3 : Nat → Int32) (ac4 : Nat → Int32) (ba : Nat) (bl : Nat) (br : Nat) (br1 : Nat) (br2 : Nat) (br3 : Nat) (bf : Nat → Int32) (bg : Nat → Int32) (bh : Nat → Int32) (blr : Nat) (bs1 : Nat) (bs2 : Nat) (bs3 : Nat) (bs4 : Nat) (bc1 : Nat → Int32) (bc2 : Nat → Int32) (bc3 : Nat → Int32) (bc4 : Nat → Int32) (q : Int32) (q2 : Int32) (o : Nat) (fo : Nat → Int64) (sz : Nat) (hbg : nFit bg) (hbh : nFit bh) (hring : fr 0 = some d0) : Met l yL_moveLetter wsL_moveLetter ({ frames := 8, cells := 2, slots := 12, locals := 165 }) (va_Pc [.ref x, .int q, .int q2, .ref o] (n_px G [(x, .inr (12, [.ref inp, .ref de, .ref sa, .ref hi, .ref re, .ref co, .ref dv, .ref rs, .int 0])), (hi, .inr (7, [.ref rg, .int 0, .int 0])), (rg, eR G 9 fr), (d0, .inr (5, [.ref aa, .ref al, .ref ar])), (aa, .inr (2, [.ref ar1, .ref ar2, .ref ar3, .int 26])), (ar1, eI G 36 af), (ar2, eC G 36 ag), (ar3, eC G 36 ah), (al, .inr (9, [.ref alr, .int 0])), (ar, .inr (11, [.ref as1, .ref as2, .ref as3, .ref as4, .int 0])), (as1, eI G 8 ac1), (as2, eI G 8 ac2), (as3, eI G 8 ac3), (as4, eI G 8 ac4), (de, .inr (5, [.ref ba, .ref bl, .ref br])), (ba, .inr (2, [.ref br1, .ref br2, .ref br3, .int 26])), (br1, eI G 36 bf), (br2, eC G 36 bg), (br3, eC G 36 bh), (bl, .inr (9, [.ref blr, .int 0])), (br, .inr (11, [.ref bs1, .ref bs2, .ref bs3, .ref bs4, .int 0])), (bs1, eI G 8 bc1), (bs2, eI G 8 bc2), (bs3, eI G 8 bc3), (bs4, eI G 8 bc4), (o, eJ G 1 fo)] sz)) (va_Qi (fun (r : Int32) (f_9 : Nat → Int64) => r = (nkM q q2) ∧ (nkM q q2 = 0 → f_9 0 = (nvM q q2 : Int32).toInt64)) (fun (f_9 : Nat → Int64) (t : State) => n_po G (va_A [(x, .inr (12, [.ref inp, .ref de, .ref sa, .ref hi, .ref re, .ref co, .ref dv, .ref rs, .int 0])), (hi, .inr (7, [.ref rg, .int 0, .int 0])), (rg, eR G 9 fr), (d0, .inr (5, [.ref aa, .ref al, .ref ar])), (aa, .inr (2, [.ref ar1, .ref ar2, .ref ar3, .int 26])), (ar1, eI G 36 af), (ar2, eC G 36 ag), (ar3, eC G 36 ah), (al, .inr (9, [.ref alr, .int 0])), (ar, .inr (11, [.ref as1, .ref as2, .ref as3, .ref as4, .int 0])), (as1, eI G 8 ac1), (as2, eI G 8 ac2), (as3, eI G 8 ac3), (as4, eI G 8 ac4), (de, .inr (5, [.ref ba, .ref bl, .ref br])), (ba, .inr (2, [.ref br1, .ref br2, .ref br3, .int 26])), (br1, eI G 36 bf), (br2, eC G 36 bg), (br3, eC G 36 bh), (bl, .inr (9, [.ref blr, .int 0])), (br, .inr (11, [.ref bs1, .ref bs2, .ref bs3, .ref bs4, .int 0])), (bs1, eI G 8 bc1), (bs2, eI G 8 bc2), (bs3, eI G 8 bc3), (bs4, eI G 8 bc4), (o, eJ G 1 fo)] sz) [(o, eJ G 1 f_9)] t) (va_A [(x, .inr (12, [.ref inp, .ref de, .ref sa, .ref hi, .ref re, .ref co, .ref dv, .ref rs, .int 0])), (hi, .inr (7, [.ref rg, .int 0, .int 0])), (rg, eR G 9 fr), (d0, .inr (5, [.ref aa, .ref al, .ref ar])), (aa, .inr (2, [.ref ar1, .ref ar2, .ref ar3, .int 26])), (ar1, eI G 36 af), (ar2, eC G 36 ag), (ar3, eC G 36 ah), (al, .inr (9, [.ref alr, .int 0])), (ar, .inr (11, [.ref as1, .ref as2, .ref as3, .ref as4, .int 0])), (as1, eI G 8 ac1), (as2, eI G 8 ac2), (as3, eI G 8 ac3), (as4, eI G 8 ac4), (de, .inr (5, [.ref ba, .ref bl, .ref br])), (ba, .inr (2, [.ref br1, .ref br2, .ref br3, .int 26])), (br1, eI G 36 bf), (br2, eC G 36 bg), (br3, eC G 36 bh), (bl, .inr (9, [.ref blr, .int 0])), (br, .inr (11, [.ref bs1, .ref bs2, .ref bs3, .ref bs4, .int 0])), (bs1, eI G 8 bc1), (bs2, eI G 8 bc2), (bs3, eI G 8 bc3), (bs4, eI G 8 bc4), (o, eJ G 1 fo)] sz)) 2 12 (va_A [(x, .inr (12, [.ref inp, .ref de, .ref sa, .ref hi, .ref re, .ref co, .ref dv, .ref rs, .int 0])), (hi, .inr (7, [.ref rg, .int 0, .int 0])), (rg, eR G 9 fr), (d0, .inr (5, [.ref aa, .ref al, .ref ar])), (aa, .inr (2, [.ref ar1, .ref ar2, .ref ar3, .int 26])), (ar1, eI G 36 af), (ar2, eC G 36 ag), (ar3, eC G 36 ah), (al, .inr (9, [.ref alr, .int 0])), (ar, .inr (11, [.ref as1, .ref as2, .ref as3, .ref as4, .int 0])), (as1, eI G 8 ac1), (as2, eI G 8 ac2), (as3, eI G 8 ac3), (as4, eI G 8 ac4), (de, .inr (5, [.ref ba, .ref bl, .ref br])), (ba, .inr (2, [.ref br1, .ref br2, .ref br3, .int 26])), (br1, eI G 36 bf), (br2, eC G 36 bg), (br3, eC G 36 bh), (bl, .inr (9, [.ref blr, .int 0])), (br, .inr (11, [.ref bs1, .ref bs2, .ref bs3, .ref bs4, .int 0])), (bs1, eI G 8 bc1), (bs2, eI G 8 bc2), (bs3, eI G 8 bc3), (bs4, eI G 8 bc4), (o, eJ G 1 fo)] sz) := by
  refine n_ofWH (cc := cL_moveLetter) (maxL := 5) (ret := (some .int)) (hh := [(0, 10, 13, 21)]) (by decide) rfl ?_
  intro p e s m args below meth c s₁ B hml hv
  obtain ⟨rfl, ⟨hsz, hP, hK, hD0⟩, hE⟩ := hv
  have hx := B.exec
  have hb := B.bytes
  have hr := B.returns
  have hts := atoms_spec (ws := wsL_moveLetter) B.pre
  have hown : s.vm.findClass RL = some m.cls := findClass_of_methodNamed B.named
  have hlocks := B.notSynchronized
  have htab := vx_table (x := yL_moveLetter) B (hts (.codeWith yL_moveLetter cL_moveLetter 5 (some .int) [(0, 10, 13, 21)]) (by rw [wsL_moveLetter]; exact List.mem_cons_self))
  subst hsz
  have hD := hD0.self (sz := s.heap.size)
  generalize hAe : va_A [(x, .inr (12, [.ref inp, .ref de, .ref sa, .ref hi, .ref re, .ref co, .ref dv, .ref rs, .int 0])), (hi, .inr (7, [.ref rg, .int 0, .int 0])), (rg, eR G 9 fr), (d0, .inr (5, [.ref aa, .ref al, .ref ar])), (aa, .inr (2, [.ref ar1, .ref ar2, .ref ar3, .int 26])), (ar1, eI G 36 af), (ar2, eC G 36 ag), (ar3, eC G 36 ah), (al, .inr (9, [.ref alr, .int 0])), (ar, .inr (11, [.ref as1, .ref as2, .ref as3, .ref as4, .int 0])), (as1, eI G 8 ac1), (as2, eI G 8 ac2), (as3, eI G 8 ac3), (as4, eI G 8 ac4), (de, .inr (5, [.ref ba, .ref bl, .ref br])), (ba, .inr (2, [.ref br1, .ref br2, .ref br3, .int 26])), (br1, eI G 36 bf), (br2, eC G 36 bg), (br3, eC G 36 bh), (bl, .inr (9, [.ref blr, .int 0])), (br, .inr (11, [.ref bs1, .ref bs2, .ref bs3, .ref bs4, .int 0])), (bs1, eI G 8 bc1), (bs2, eI G 8 bc2), (bs3, eI G 8 bc3), (bs4, eI G 8 bc4), (o, eJ G 1 fo)] s.heap.size = A at hD hE ⊢
  have hA : ∀ q : Nat, s.heap.size ≤ q → A q := fun q h => by rw [← hAe]; exact Or.inr h
  have hS : va_S A s.heap s.heap [] := va_S.rf
  have hP : va_P G.1 vwCl [(x, .inr (12, [.ref inp, .ref de, .ref sa, .ref hi, .ref re, .ref co, .ref dv, .ref rs, .int 0])), (hi, .inr (7, [.ref rg, .int 0, .int 0])), (rg, eR G 9 fr), (d0, .inr (5, [.ref aa, .ref al, .ref ar])), (aa, .inr (2, [.ref ar1, .ref ar2, .ref ar3, .int 26])), (ar1, eI G 36 af), (ar2, eC G 36 ag), (ar3, eC G 36 ah), (al, .inr (9, [.ref alr, .int 0])), (ar, .inr (11, [.ref as1, .ref as2, .ref as3, .ref as4, .int 0])), (as1, eI G 8 ac1), (as2, eI G 8 ac2), (as3, eI G 8 ac3), (as4, eI G 8 ac4), (de, .inr (5, [.ref ba, .ref bl, .ref br])), (ba, .inr (2, [.ref br1, .ref br2, .ref br3, .int 26])), (br1, eI G 36 bf), (br2, eC G 36 bg), (br3, eC G 36 bh), (bl, .inr (9, [.ref blr, .int 0])), (br, .inr (11, [.ref bs1, .ref bs2, .ref bs3, .ref bs4, .int 0])), (bs1, eI G 8 bc1), (bs2, eI G 8 bc2), (bs3, eI G 8 bc3), (bs4, eI G 8 bc4), (o, eJ G 1 fo)] s.heap := hP
  have hl := lv_entry ([.ref x, .int q, .int q2, .ref o]) (n := 5) (Nat.le_of_ble_eq_true rfl)
  rw [lg_entry_eq]
  generalize (lg_sl ([.ref x, .int q, .int q2, .ref o]) ++ List.replicate (5 - (lg_sl ([.ref x, .int q, .int q2, .ref o])).length) Slot.unset).toArray = ls at hl ⊢
  have hl : lv_has ls 5 [(0, .ref x), (1, .int q), (2, .int q2), (3, .ref o)] := hl
  obtain ⟨H, hH⟩ : ∃ z, z = s.heap := ⟨_, rfl⟩
  have hS : va_S A s.heap H [] := by rw [hH]; exact hS
  have hP : va_P G.1 vwCl [(x, .inr (12, [.ref inp, .ref de, .ref sa, .ref hi, .ref re, .ref co, .ref dv, .ref rs, .int 0])), (hi, .inr (7, [.ref rg, .int 0, .int 0])), (rg, eR G 9 fr), (d0, .inr (5, [.ref aa, .ref al, .ref ar])), (aa, .inr (2, [.ref ar1, .ref ar2, .ref ar3, .int 26])), (ar1, eI G 36 af), (ar2, eC G 36 ag), (ar3, eC G 36 ah), (al, .inr (9, [.ref alr, .int 0])), (ar, .inr (11, [.ref as1, .ref as2, .ref as3, .ref as4, .int 0])), (as1, eI G 8 ac1), (as2, eI G 8 ac2), (as3, eI G 8 ac3), (as4, eI G 8 ac4), (de, .inr (5, [.ref ba, .ref bl, .ref br])), (ba, .inr (2, [.ref br1, .ref br2, .ref br3, .int 26])), (br1, eI G 36 bf), (br2, eC G 36 bg), (br3, eC G 36 bh), (bl, .inr (9, [.ref blr, .int 0])), (br, .inr (11, [.ref bs1, .ref bs2, .ref bs3, .ref bs4, .int 0])), (bs1, eI G 8 bc1), (bs2, eI G 8 bc2), (bs3, eI G 8 bc3), (bs4, eI G 8 bc4), (o, eJ G 1 fo)] H := by rw [hH]; exact hP
  refine n_heap hH ?_
  generalize ([] : List Loc) = locs at hS ⊢
  refine lv_aload_n hx hb dL_moveLetter_0 rfl (lv_at hl 3 rfl) ?_
  refine lv_iconst (v := 0) hx hb dL_moveLetter_1 (by decide) ?_
  refine lv_aload_n hx hb dL_moveLetter_2 rfl (lv_at hl 0 rfl) ?_
  refine lv_iload_n hx hb dL_moveLetter_3 rfl (lv_at hl 1 rfl) ?_
  refine lv_iload_n hx hb dL_moveLetter_4 rfl (lv_at hl 2 rfl) ?_
  refine n_xi (wr := [(o, eJ G 1 fo)]) (vx_runV (As := [.int q, .int q2]) (rest := [.int 0, .ref o]) ⟨hx, hb, hml, hown, hts⟩ (mX11_moveLetter l hl9 G x inp de sa hi re co dv rs rg fr d0 aa ar1 ar2 ar3 af ag ah al alr ar as1 as2 as3 as4 ac1 ac2 ac3 ac4 ba bl br br1 br2 br3 bf bg bh blr bs1 bs2 bs3 bs4 bc1 bc2 bc3 bc4 q q2 H.size hbg hbh hring) (cwV 2 hts gL_moveLetter_X11_moveLetter rfl rfl rfl (by decide +kernel) ⟨(Nat.le_of_ble_eq_true rfl), (Nat.le_of_ble_eq_true rfl)⟩) (n_prVX (ci := 12) (q0 := 0) hK hP hD hS hA [0, 1, 2, 3, 4, 5, 6, 7, 8, 9, 10, 11, 12, 13, 14, 15, 16, 17, 18, 19, 20, 21, 22, 23, 24] rfl (by decide) rfl rfl hE) rfl rfl hl.1 rfl (lv_room (Nat.le_of_ble_eq_true rfl)) dL_moveLetter_5 ⟨(Nat.le_of_ble_eq_true rfl), (Nat.le_of_ble_eq_true rfl)⟩) hP hD hS hA [0, 1, 2, 3, 4, 5, 6, 7, 8, 9, 10, 11, 12, 13, 14, 15, 16, 17, 18, 19, 20, 21, 22, 23, 24] [25] rfl rfl (by decide) (by decide) (fun E9 ce q9 H locs hP hD hS hpx hce hcv hcl => ?_) (fun r_1 u_2 H locs hP hD hS hw => ?_)
  · skip
    have hpx : E9 = "java/lang/IndexOutOfBoundsException" ∧ nkM q q2 = 1 := hpx
    have hpx : E9 = "java/lang/IndexOutOfBoundsException" ∧ nkM q q2 = 1 := hpx
    obtain ⟨rfl, hc⟩ := hpx
    refine vx_catch (own := RL) (name := "java/lang/IndexOutOfBoundsException") (E := "java/lang/IndexOutOfBoundsException") hown [] (⟨0, 10, 13, 21⟩ : ExceptionTableEntry) [] (by rw [htab]; rfl) (fun z hz => absurd hz List.not_mem_nil) (by decide) (by decide) (hts (.classLink RL 21 "java/lang/IndexOutOfBoundsException") (by decide +kernel)) (va_Nw.use rfl (hE.1.2.1 "java/lang/IndexOutOfBoundsException" (by decide +kernel))) hce hcv hcl ?_
    refine W.eq (g2 := F0 m 13 ls [.ref q9]) rfl ?_
    refine lv_astore (lv' := [(4, .ref q9), (0, .ref x), (1, .int q), (2, .int q2), (3, .ref o)]) hx hb dL_moveLetter_13 hl (by decide) rfl (fun ls hl => ?_)
    refine lv_iconst (v := 1) hx hb dL_moveLetter_15 (by decide) ?_
    have hP9 := n_Psub (wc := [(o, eJ G 1 fo)]) hP [0] rfl
    have hD9 := hD.sub (ws' := [(o, eJ G 1 fo)]) [0] (by decide) rfl
    refine W.widen (k := 2) (n := 12) (Nat.le_of_ble_eq_true rfl) (Nat.le_of_ble_eq_true rfl) ?_
    exact W.iret (v := 1) hx hb hr (fun t ht hW => ⟨⟨1, fo, rfl, ⟨hc.symm, (fun h9 => absurd (hc.symm.trans h9) (by decide))⟩, by rw [ht]; exact hP9, va_K.moved hW.alike hK, hD9⟩, hS.F ht⟩) hS.2.2 dL_moveLetter_16
  have hP : va_P G.1 vwCl [(o, eJ G 1 fo), (x, .inr (12, [.ref inp, .ref de, .ref sa, .ref hi, .ref re, .ref co, .ref dv, .ref rs, .int 0]))] H := hP
  have hD : va_D A [(o, eJ G 1 fo), (x, .inr (12, [.ref inp, .ref de, .ref sa, .ref hi, .ref re, .ref co, .ref dv, .ref rs, .int 0]))] := hD
  have hr_3 : (r_1 = nvM q q2 ∧ nkM q q2 = 0) := hw
  refine lv_i2l (v := (r_1 : Int32).toInt64) hx hb dL_moveLetter_8 rfl ?_
  refine va_last hx hb hK hP hD hS 0 2 rfl rfl (n_in (by decide)) dL_moveLetter_9 (fun H locs hP hD hS => ?_)
  have hP : va_P G.1 vwCl [(o, eJ G 1 (vp_updL fo ((0 : Int32).toNatClampNeg) ((r_1 : Int32).toInt64))), (x, .inr (12, [.ref inp, .ref de, .ref sa, .ref hi, .ref re, .ref co, .ref dv, .ref rs, .int 0]))] H := hP
  have hD : va_D A [(o, eJ G 1 (vp_updL fo ((0 : Int32).toNatClampNeg) ((r_1 : Int32).toInt64))), (x, .inr (12, [.ref inp, .ref de, .ref sa, .ref hi, .ref re, .ref co, .ref dv, .ref rs, .int 0]))] := hD
  refine lv_goto (tgt := 17) hx hb dL_moveLetter_10 (by decide) ?_
  refine lv_iconst (v := 0) hx hb dL_moveLetter_17 (by decide) ?_
  have hP9 := n_Psub (wc := [(o, eJ G 1 (vp_updL fo ((0 : Int32).toNatClampNeg) ((r_1 : Int32).toInt64)))]) hP [0] rfl
  have hD9 := hD.sub (ws' := [(o, eJ G 1 (vp_updL fo ((0 : Int32).toNatClampNeg) ((r_1 : Int32).toInt64)))]) [0] (by decide) rfl
  refine W.widen (k := 2) (n := 12) (Nat.le_of_ble_eq_true rfl) (Nat.le_of_ble_eq_true rfl) ?_
  exact W.iret (v := 0) hx hb hr (fun t ht hW => ⟨⟨0, (vp_updL fo ((0 : Int32).toNatClampNeg) ((r_1 : Int32).toInt64)), rfl, ⟨hr_3.2.symm, (fun _ => by rw [hr_3.1]; exact pk_uLs)⟩, by rw [ht]; exact hP9, va_K.moved hW.alike hK, hD9⟩, hS.F ht⟩) hS.2.2 dL_moveLetter_18

set_option maxHeartbeats 4000000 in
set_option maxRecDepth 100000 in
theorem mL_addLetter (l : Launch) (hl9 : l.stackTraces = false) (G : nG) (x : Nat) (inp : Nat) (de : Nat) (sa : Nat) (hi : Nat) (re : Nat) (co : Nat) (dv : Nat) (rs : Nat) (rg : Nat) (fr : Nat → Option Nat) (d0 : Nat) (aa : Nat) (ar1 : Nat) (ar2 : Nat) (ar3 : Nat) (af : Nat → Int32) (ag : Nat → Int32) (ah : Nat → Int32) (al : Nat) (alr : Nat) (ar : Nat) (as1 : Nat) (as2 : Nat) (as3 : Nat) (as4 : Nat) (ac1 : Nat → Int32) (ac2 : Nat → Int32) (ac3 : Nat → Int32) (ac4 : Nat → Int32) (ba : Nat) (bl : Nat) (br : Nat) (br1 : Nat) (br2 : Nat) (br3 : Nat) (bf : Nat → Int32) (bg : Nat → Int32) (bh : Nat → Int32) (blr : Nat) (bs1 : Nat) (bs2 : Nat) (bs3 : Nat) (bs4 : Nat) (bc1 : Nat → Int32) (bc2 : Nat → Int32) (bc3 : Nat → Int32) (bc4 : Nat → Int32) (c9 : Int32) (d9 : Int32) (q : Int32) (o : Nat) (fo : Nat → Int64) (sz : Nat) (hbg : nFit bg) (hbh : nFit bh) (hring : fr 0 = some d0) (hbh1 : nSnd bh) : Met l yL_addLetter wsL_addLetter2 ({ frames := 7, cells := 1, slots := 6, locals := 167 }) (va_Pc [.ref x, .int c9, .int d9, .int q, .ref o] (n_px G [(x, .inr (12, [.ref inp, .ref de, .ref sa, .ref hi, .ref re, .ref co, .ref dv, .ref rs, .int 0])), (hi, .inr (7, [.ref rg, .int 0, .int 0])), (rg, eR G 9 fr), (d0, .inr (5, [.ref aa, .ref al, .ref ar])), (aa, .inr (2, [.ref ar1, .ref ar2, .ref ar3, .int 26])), (ar1, eI G 36 af), (ar2, eC G 36 ag), (ar3, eC G 36 ah), (al, .inr (9, [.ref alr, .int 0])), (ar, .inr (11, [.ref as1, .ref as2, .ref as3, .ref as4, .int 0])), (as1, eI G 8 ac1), (as2, eI G 8 ac2), (as3, eI G 8 ac3), (as4, eI G 8 ac4), (de, .inr (5, [.ref ba, .ref bl, .ref br])), (ba, .inr (2, [.ref br1, .ref br2, .ref br3, .int 26])), (br1, eI G 36 bf), (br2, eC G 36 bg), (br3, eC G 36 bh), (bl, .inr (9, [.ref blr, .int 0])), (br, .inr (11, [.ref bs1, .ref bs2, .ref bs3, .ref bs4, .int 0])), (bs1, eI G 8 bc1), (bs2, eI G 8 bc2), (bs3, eI G 8 bc3), (bs4, eI G 8 bc4), (o, eJ G 1 fo)] sz)) (va_Qi (fun (r : Int32) (f_9 : Nat → Int64) => r = (nkA c9 d9 q) ∧ (nkA c9 d9 q = 0 → f_9 0 = (27 : Int32).toInt64)) (fun (f_9 : Nat → Int64) (t : State) => n_po G (va_A [(x, .inr (12, [.ref inp, .ref de, .ref sa, .ref hi, .ref re, .ref co, .ref dv, .ref rs, .int 0])), (hi, .inr (7, [.ref rg, .int 0, .int 0])), (rg, eR G 9 fr), (d0, .inr (5, [.ref aa, .ref al, .ref ar])), (aa, .inr (2, [.ref ar1, .ref ar2, .ref ar3, .int 26])), (ar1, eI G 36 af), (ar2, eC G 36 ag), (ar3, eC G 36 ah), (al, .inr (9, [.ref alr, .int 0])), (ar, .inr (11, [.ref as1, .ref as2, .ref as3, .ref as4, .int 0])), (as1, eI G 8 ac1), (as2, eI G 8 ac2), (as3, eI G 8 ac3), (as4, eI G 8 ac4), (de, .inr (5, [.ref ba, .ref bl, .ref br])), (ba, .inr (2, [.ref br1, .ref br2, .ref br3, .int 26])), (br1, eI G 36 bf), (br2, eC G 36 bg), (br3, eC G 36 bh), (bl, .inr (9, [.ref blr, .int 0])), (br, .inr (11, [.ref bs1, .ref bs2, .ref bs3, .ref bs4, .int 0])), (bs1, eI G 8 bc1), (bs2, eI G 8 bc2), (bs3, eI G 8 bc3), (bs4, eI G 8 bc4), (o, eJ G 1 fo)] sz) [(o, eJ G 1 f_9)] t) (va_A [(x, .inr (12, [.ref inp, .ref de, .ref sa, .ref hi, .ref re, .ref co, .ref dv, .ref rs, .int 0])), (hi, .inr (7, [.ref rg, .int 0, .int 0])), (rg, eR G 9 fr), (d0, .inr (5, [.ref aa, .ref al, .ref ar])), (aa, .inr (2, [.ref ar1, .ref ar2, .ref ar3, .int 26])), (ar1, eI G 36 af), (ar2, eC G 36 ag), (ar3, eC G 36 ah), (al, .inr (9, [.ref alr, .int 0])), (ar, .inr (11, [.ref as1, .ref as2, .ref as3, .ref as4, .int 0])), (as1, eI G 8 ac1), (as2, eI G 8 ac2), (as3, eI G 8 ac3), (as4, eI G 8 ac4), (de, .inr (5, [.ref ba, .ref bl, .ref br])), (ba, .inr (2, [.ref br1, .ref br2, .ref br3, .int 26])), (br1, eI G 36 bf), (br2, eC G 36 bg), (br3, eC G 36 bh), (bl, .inr (9, [.ref blr, .int 0])), (br, .inr (11, [.ref bs1, .ref bs2, .ref bs3, .ref bs4, .int 0])), (bs1, eI G 8 bc1), (bs2, eI G 8 bc2), (bs3, eI G 8 bc3), (bs4, eI G 8 bc4), (o, eJ G 1 fo)] sz)) 1 6 (va_A [(x, .inr (12, [.ref inp, .ref de, .ref sa, .ref hi, .ref re, .ref co, .ref dv, .ref rs, .int 0])), (hi, .inr (7, [.ref rg, .int 0, .int 0])), (rg, eR G 9 fr), (d0, .inr (5, [.ref aa, .ref al, .ref ar])), (aa, .inr (2, [.ref ar1, .ref ar2, .ref ar3, .int 26])), (ar1, eI G 36 af), (ar2, eC G 36 ag), (ar3, eC G 36 ah), (al, .inr (9, [.ref alr, .int 0])), (ar, .inr (11, [.ref as1, .ref as2, .ref as3, .ref as4, .int 0])), (as1, eI G 8 ac1), (as2, eI G 8 ac2), (as3, eI G 8 ac3), (as4, eI G 8 ac4), (de, .inr (5, [.ref ba, .ref bl, .ref br])), (ba, .inr (2, [.ref br1, .ref br2, .ref br3, .int 26])), (br1, eI G 36 bf), (br2, eC G 36 bg), (br3, eC G 36 bh), (bl, .inr (9, [.ref blr, .int 0])), (br, .inr (11, [.ref bs1, .ref bs2, .ref bs3, .ref bs4, .int 0])), (bs1, eI G 8 bc1), (bs2, eI G 8 bc2), (bs3, eI G 8 bc3), (bs4, eI G 8 bc4), (o, eJ G 1 fo)] sz) := by
  refine n_ofWH (cc := cL_addLetter) (maxL := 6) (ret := (some .int)) (hh := [(0, 12, 15, 19), (0, 12, 19, 21), (0, 12, 23, 13)]) (by decide) rfl ?_
  intro p e s m args below meth c s₁ B hml hv
  obtain ⟨rfl, ⟨hsz, hP, hK, hD0⟩, hE⟩ := hv
  have hx := B.exec
  have hb := B.bytes
  have hr := B.returns
  have hts := atoms_spec (ws := wsL_addLetter2) B.pre
  have hown : s.vm.findClass RL = some m.cls := findClass_of_methodNamed B.named
  have hlocks := B.notSynchronized
  have htab := vx_table (x := yL_addLetter) B (hts (.codeWith yL_addLetter cL_addLetter 6 (some .int) [(0, 12, 15, 19), (0, 12, 19, 21), (0, 12, 23, 13)]) (by rw [wsL_addLetter2]; exact List.mem_cons_self))
  subst hsz
  have hD := hD0.self (sz := s.heap.size)
  generalize hAe : va_A [(x, .inr (12, [.ref inp, .ref de, .ref sa, .ref hi, .ref re, .ref co, .ref dv, .ref rs, .int 0])), (hi, .inr (7, [.ref rg, .int 0, .int 0])), (rg, eR G 9 fr), (d0, .inr (5, [.ref aa, .ref al, .ref ar])), (aa, .inr (2, [.ref ar1, .ref ar2, .ref ar3, .int 26])), (ar1, eI G 36 af), (ar2, eC G 36 ag), (ar3, eC G 36 ah), (al, .inr (9, [.ref alr, .int 0])), (ar, .inr (11, [.ref as1, .ref as2, .ref as3, .ref as4, .int 0])), (as1, eI G 8 ac1), (as2, eI G 8 ac2), (as3, eI G 8 ac3), (as4, eI G 8 ac4), (de, .inr (5, [.ref ba, .ref bl, .ref br])), (ba, .inr (2, [.ref br1, .ref br2, .ref br3, .int 26])), (br1, eI G 36 bf), (br2, eC G 36 bg), (br3, eC G 36 bh), (bl, .inr (9, [.ref blr, .int 0])), (br, .inr (11, [.ref bs1, .ref bs2, .ref bs3, .ref bs4, .int 0])), (bs1, eI G 8 bc1), (bs2, eI G 8 bc2), (bs3, eI G 8 bc3), (bs4, eI G 8 bc4), (o, eJ G 1 fo)] s.heap.size = A at hD hE ⊢
  have hA : ∀ q : Nat, s.heap.size ≤ q → A q := fun q h => by rw [← hAe]; exact Or.inr h
  have hS : va_S A s.heap s.heap [] := va_S.rf
  have hP : va_P G.1 vwCl [(x, .inr (12, [.ref inp, .ref de, .ref sa, .ref hi, .ref re, .ref co, .ref dv, .ref rs, .int 0])), (hi, .inr (7, [.ref rg, .int 0, .int 0])), (rg, eR G 9 fr), (d0, .inr (5, [.ref aa, .ref al, .ref ar])), (aa, .inr (2, [.ref ar1, .ref ar2, .ref ar3, .int 26])), (ar1, eI G 36 af), (ar2, eC G 36 ag), (ar3, eC G 36 ah), (al, .inr (9, [.ref alr, .int 0])), (ar, .inr (11, [.ref as1, .ref as2, .ref as3, .ref as4, .int 0])), (as1, eI G 8 ac1), (as2, eI G 8 ac2), (as3, eI G 8 ac3), (as4, eI G 8 ac4), (de, .inr (5, [.ref ba, .ref bl, .ref br])), (ba, .inr (2, [.ref br1, .ref br2, .ref br3, .int 26])), (br1, eI G 36 bf), (br2, eC G 36 bg), (br3, eC G 36 bh), (bl, .inr (9, [.ref blr, .int 0])), (br, .inr (11, [.ref bs1, .ref bs2, .ref bs3, .ref bs4, .int 0])), (bs1, eI G 8 bc1), (bs2, eI G 8 bc2), (bs3, eI G 8 bc3), (bs4, eI G 8 bc4), (o, eJ G 1 fo)] s.heap := hP
  have hl := lv_entry ([.ref x, .int c9, .int d9, .int q, .ref o]) (n := 6) (Nat.le_of_ble_eq_true rfl)
  rw [lg_entry_eq]
  generalize (lg_sl ([.ref x, .int c9, .int d9, .int q, .ref o]) ++ List.replicate (6 - (lg_sl ([.ref x, .int c9, .int d9, .int q, .ref o])).length) Slot.unset).toArray = ls at hl ⊢
  have hl : lv_has ls 6 [(0, .ref x), (1, .int c9), (2, .int d9), (3, .int q), (4, .ref o)] := hl
  obtain ⟨H, hH⟩ : ∃ z, z = s.heap := ⟨_, rfl⟩
  have hS : va_S A s.heap H [] := by rw [hH]; exact hS
  have hP : va_P G.1 vwCl [(x, .inr (12, [.ref inp, .ref de, .ref sa, .ref hi, .ref re, .ref co, .ref dv, .ref rs, .int 0])), (hi, .inr (7, [.ref rg, .int 0, .int 0])), (rg, eR G 9 fr), (d0, .inr (5, [.ref aa, .ref al, .ref ar])), (aa, .inr (2, [.ref ar1, .ref ar2, .ref ar3, .int 26])), (ar1, eI G 36 af), (ar2, eC G 36 ag), (ar3, eC G 36 ah), (al, .inr (9, [.ref alr, .int 0])), (ar, .inr (11, [.ref as1, .ref as2, .ref as3, .ref as4, .int 0])), (as1, eI G 8 ac1), (as2, eI G 8 ac2), (as3, eI G 8 ac3), (as4, eI G 8 ac4), (de, .inr (5, [.ref ba, .ref bl, .ref br])), (ba, .inr (2, [.ref br1, .ref br2, .ref br3, .int 26])), (br1, eI G 36 bf), (br2, eC G 36 bg), (br3, eC G 36 bh), (bl, .inr (9, [.ref blr, .int 0])), (br, .inr (11, [.ref bs1, .ref bs2, .ref bs3, .ref bs4, .int 0])), (bs1, eI G 8 bc1), (bs2, eI G 8 bc2), (bs3, eI G 8 bc3), (bs4, eI G 8 bc4), (o, eJ G 1 fo)] H := by rw [hH]; exact hP
  refine n_heap hH ?_
  generalize ([] : List Loc) = locs at hS ⊢
  refine lv_aload hx hb dL_addLetter_0 (lv_at hl 4 rfl) ?_
  refine lv_iconst (v := 0) hx hb dL_addLetter_2 (by decide) ?_
  refine lv_aload_n hx hb dL_addLetter_3 rfl (lv_at hl 0 rfl) ?_
  refine lv_iload_n hx hb dL_addLetter_4 rfl (lv_at hl 1 rfl) ?_
  refine lv_iload_n hx hb dL_addLetter_5 rfl (lv_at hl 2 rfl) ?_
  refine lv_iload_n hx hb dL_addLetter_6 rfl (lv_at hl 3 rfl) ?_
  refine n_xi (wr := [(o, eJ G 1 fo)]) (vx_runV (As := [.int c9, .int d9, .int q]) (rest := [.int 0, .ref o]) ⟨hx, hb, hml, hown, hts⟩ (mX11_addLetter l hl9 G x inp de sa hi re co dv rs rg fr d0 aa ar1 ar2 ar3 af ag ah al alr ar as1 as2 as3 as4 ac1 ac2 ac3 ac4 ba bl br br1 br2 br3 bf bg bh blr bs1 bs2 bs3 bs4 bc1 bc2 bc3 bc4 c9 d9 q H.size hbg hbh hring hbh1) (cwV 3 hts gL_addLetter2_X11_addLetter rfl rfl rfl (by decide +kernel) ⟨(Nat.le_of_ble_eq_true rfl), (Nat.le_of_ble_eq_true rfl)⟩) (n_prVX (ci := 12) (q0 := 0) hK hP hD hS hA [0, 1, 2, 3, 4, 5, 6, 7, 8, 9, 10, 11, 12, 13, 14, 15, 16, 17, 18, 19, 20, 21, 22, 23, 24] rfl (by decide) rfl rfl hE) rfl rfl hl.1 rfl (lv_room (Nat.le_of_ble_eq_true rfl)) dL_addLetter_7 ⟨(Nat.le_of_ble_eq_true rfl), (Nat.le_of_ble_eq_true rfl)⟩) hP hD hS hA [0, 1, 2, 3, 4, 5, 6, 7, 8, 9, 10, 11, 12, 13, 14, 15, 16, 17, 18, 19, 20, 21, 22, 23, 24] [25] rfl rfl (by decide) (by decide) (fun E9 ce q9 H locs hP hD hS hpx hce hcv hcl => ?_) (fun r_1 u_2 H locs hP hD hS hw => ?_)
  · skip
    skip
    have hpx : (E9 = "java/lang/IllegalArgumentException" ∧ nkA c9 d9 q = 1) ∨ (E9 = "java/lang/IndexOutOfBoundsException" ∧ nkA c9 d9 q = 2) := hpx
    rcases hpx with ⟨rfl, hc⟩ | ⟨rfl, hc⟩
    · skip
      refine vx_catch (own := RL) (name := "java/lang/IllegalArgumentException") (E := "java/lang/IllegalArgumentException") hown [] (⟨0, 12, 15, 19⟩ : ExceptionTableEntry) [(⟨0, 12, 19, 21⟩ : ExceptionTableEntry), (⟨0, 12, 23, 13⟩ : ExceptionTableEntry)] (by rw [htab]; rfl) (fun z hz => absurd hz List.not_mem_nil) (by decide) (by decide) (hts (.classLink RL 19 "java/lang/IllegalArgumentException") (by decide +kernel)) (va_Nw.use rfl (hE.1.2.1 "java/lang/IllegalArgumentException" (by decide +kernel))) hce hcv hcl ?_
      refine W.eq (g2 := F0 m 15 ls [.ref q9]) rfl ?_
      refine lv_astore (lv' := [(5, .ref q9), (0, .ref x), (1, .int c9), (2, .int d9), (3, .int q), (4, .ref o)]) hx hb dL_addLetter_15 hl (by decide) rfl (fun ls hl => ?_)
      refine lv_iconst (v := 1) hx hb dL_addLetter_17 (by decide) ?_
      have hP9 := n_Psub (wc := [(o, eJ G 1 fo)]) hP [0] rfl
      have hD9 := hD.sub (ws' := [(o, eJ G 1 fo)]) [0] (by decide) rfl
      refine W.widen (k := 1) (n := 6) (Nat.le_of_ble_eq_true rfl) (Nat.le_of_ble_eq_true rfl) ?_
      exact W.iret (v := 1) hx hb hr (fun t ht hW => ⟨⟨1, fo, rfl, ⟨hc.symm, (fun h9 => absurd (hc.symm.trans h9) (by decide))⟩, by rw [ht]; exact hP9, va_K.moved hW.alike hK, hD9⟩, hS.F ht⟩) hS.2.2 dL_addLetter_18
    · skip
      refine vx_catch (own := RL) (name := "java/lang/IndexOutOfBoundsException") (E := "java/lang/IndexOutOfBoundsException") hown [(⟨0, 12, 15, 19⟩ : ExceptionTableEntry)] (⟨0, 12, 19, 21⟩ : ExceptionTableEntry) [(⟨0, 12, 23, 13⟩ : ExceptionTableEntry)] (by rw [htab]; rfl) (fun z hz => by obtain rfl := List.mem_singleton.mp hz; exact Or.inr ⟨by decide, "java/lang/IllegalArgumentException", (hts (.classLink RL 19 "java/lang/IllegalArgumentException") (by decide +kernel)), hE.1.2.2.1 ("java/lang/IndexOutOfBoundsException", "java/lang/IllegalArgumentException") (by decide +kernel)⟩) (by decide) (by decide) (hts (.classLink RL 21 "java/lang/IndexOutOfBoundsException") n_cl_addLetter) (va_Nw.use rfl (hE.1.2.1 "java/lang/IndexOutOfBoundsException" (by decide +kernel))) hce hcv hcl ?_
      refine W.eq (g2 := F0 m 19 ls [.ref q9]) rfl ?_
      refine lv_astore (lv' := [(5, .ref q9), (0, .ref x), (1, .int c9), (2, .int d9), (3, .int q), (4, .ref o)]) hx hb dL_addLetter_19 hl (by decide) rfl (fun ls hl => ?_)
      refine lv_iconst (v := 2) hx hb dL_addLetter_21 (by decide) ?_
      have hP9 := n_Psub (wc := [(o, eJ G 1 fo)]) hP [0] rfl
      have hD9 := hD.sub (ws' := [(o, eJ G 1 fo)]) [0] (by decide) rfl
      refine W.widen (k := 1) (n := 6) (Nat.le_of_ble_eq_true rfl) (Nat.le_of_ble_eq_true rfl) ?_
      exact W.iret (v := 2) hx hb hr (fun t ht hW => ⟨⟨2, fo, rfl, ⟨hc.symm, (fun h9 => absurd (hc.symm.trans h9) (by decide))⟩, by rw [ht]; exact hP9, va_K.moved hW.alike hK, hD9⟩, hS.F ht⟩) hS.2.2 dL_addLetter_22
  have hP : va_P G.1 vwCl [(o, eJ G 1 fo), (x, .inr (12, [.ref inp, .ref de, .ref sa, .ref hi, .ref re, .ref co, .ref dv, .ref rs, .int 0]))] H := hP
  have hD : va_D A [(o, eJ G 1 fo), (x, .inr (12, [.ref inp, .ref de, .ref sa, .ref hi, .ref re, .ref co, .ref dv, .ref rs, .int 0]))] := hD
  have hr_3 : (r_1 = 27 ∧ nkA c9 d9 q = 0) := hw
  refine lv_i2l (v := (r_1 : Int32).toInt64) hx hb dL_addLetter_10 rfl ?_
  refine va_last hx hb hK hP hD hS 0 2 rfl rfl (n_in (by decide)) dL_addLetter_11 (fun H locs hP hD hS => ?_)
  have hP : va_P G.1 vwCl [(o, eJ G 1 (vp_updL fo ((0 : Int32).toNatClampNeg) ((r_1 : Int32).toInt64))), (x, .inr (12, [.ref inp, .ref de, .ref sa, .ref hi, .ref re, .ref co, .ref dv, .ref rs, .int 0]))] H := hP
  have hD : va_D A [(o, eJ G 1 (vp_updL fo ((0 : Int32).toNatClampNeg) ((r_1 : Int32).toInt64))), (x, .inr (12, [.ref inp, .ref de, .ref sa, .ref hi, .ref re, .ref co, .ref dv, .ref rs, .int 0]))] := hD
  refine lv_goto (tgt := 27) hx hb dL_addLetter_12 (by decide) ?_
  refine lv_iconst (v := 0) hx hb dL_addLetter_27 (by decide) ?_
  have hP9 := n_Psub (wc := [(o, eJ G 1 (vp_updL fo ((0 : Int32).toNatClampNeg) ((r_1 : Int32).toInt64)))]) hP [0] rfl
  have hD9 := hD.sub (ws' := [(o, eJ G 1 (vp_updL fo ((0 : Int32).toNatClampNeg) ((r_1 : Int32).toInt64)))]) [0] (by decide) rfl
  refine W.widen (k := 1) (n := 6) (Nat.le_of_ble_eq_true rfl) (Nat.le_of_ble_eq_true rfl) ?_
  exact W.iret (v := 0) hx hb hr (fun t ht hW => ⟨⟨0, (vp_updL fo ((0 : Int32).toNatClampNeg) ((r_1 : Int32).toInt64)), rfl, ⟨hr_3.2.symm, (fun _ => by rw [hr_3.1]; exact pk_uLs)⟩, by rw [ht]; exact hP9, va_K.moved hW.alike hK, hD9⟩, hS.F ht⟩) hS.2.2 dL_addLetter_28

set_option maxHeartbeats 4000000 in
set_option maxRecDepth 100000 in
theorem mL_addRule (l : Launch) (hl9 : l.stackTraces = false) (G : nG) (x : Nat) (inp : Nat) (de : Nat) (sa : Nat) (hi : Nat) (re : Nat) (co : Nat) (dv : Nat) (rs : Nat) (rg : Nat) (fr : Nat → Option Nat) (d0 : Nat) (aa : Nat) (ar1 : Nat) (ar2 : Nat) (ar3 : Nat) (af : Nat → Int32) (ag : Nat → Int32) (ah : Nat → Int32) (al : Nat) (alr : Nat) (ar : Nat) (as1 : Nat) (as2 : Nat) (as3 : Nat) (as4 : Nat) (ac1 : Nat → Int32) (ac2 : Nat → Int32) (ac3 : Nat → Int32) (ac4 : Nat → Int32) (ba : Nat) (bl : Nat) (br : Nat) (br1 : Nat) (br2 : Nat) (br3 : Nat) (bf : Nat → Int32) (bg : Nat → Int32) (bh : Nat → Int32) (blr : Nat) (bs1 : Nat) (bs2 : Nat) (bs3 : Nat) (bs4 : Nat) (bc1 : Nat → Int32) (bc2 : Nat → Int32) (bc3 : Nat → Int32) (bc4 : Nat → Int32) (q : Int32) (q2 : Int32) (q3 : Int32) (q4 : Int32) (o : Nat) (fo : Nat → Int64) (sz : Nat) (hbg : nFit bg) (hbh : nFit bh) (hring : fr 0 = some d0) (hbf : nRow bf) : Met l yL_addRule wsL_addRule2 ({ frames := 8, cells := 3, slots := 18, locals := 169 }) (va_Pc [.ref x, .int q, .int q2, .int q3, .int q4, .ref o] (n_px G [(x, .inr (12, [.ref inp, .ref de, .ref sa, .ref hi, .ref re, .ref co, .ref dv, .ref rs, .int 0])), (hi, .inr (7, [.ref rg, .int 0, .int 0])), (rg, eR G 9 fr), (d0, .inr (5, [.ref aa, .ref al, .ref ar])), (aa, .inr (2, [.ref ar1, .ref ar2, .ref ar3, .int 26])), (ar1, eI G 36 af), (ar2, eC G 36 ag), (ar3, eC G 36 ah), (al, .inr (9, [.ref alr, .int 0])), (ar, .inr (11, [.ref as1, .ref as2, .ref as3, .ref as4, .int 0])), (as1, eI G 8 ac1), (as2, eI G 8 ac2), (as3, eI G 8 ac3), (as4, eI G 8 ac4), (de, .inr (5, [.ref ba, .ref bl, .ref br])), (ba, .inr (2, [.ref br1, .ref br2, .ref br3, .int 26])), (br1, eI G 36 bf), (br2, eC G 36 bg), (br3, eC G 36 bh), (bl, .inr (9, [.ref blr, .int 0])), (br, .inr (11, [.ref bs1, .ref bs2, .ref bs3, .ref bs4, .int 0])), (bs1, eI G 8 bc1), (bs2, eI G 8 bc2), (bs3, eI G 8 bc3), (bs4, eI G 8 bc4), (o, eJ G 1 fo)] sz)) (va_Qi (fun (r : Int32) (f_9 : Nat → Int64) => r = (nkR q q2 q3 q4) ∧ (nkR q q2 q3 q4 = 0 → f_9 0 = (0 : Int32).toInt64)) (fun (f_9 : Nat → Int64) (t : State) => n_po G (va_A [(x, .inr (12, [.ref inp, .ref de, .ref sa, .ref hi, .ref re, .ref co, .ref dv, .ref rs, .int 0])), (hi, .inr (7, [.ref rg, .int 0, .int 0])), (rg, eR G 9 fr), (d0, .inr (5, [.ref aa, .ref al, .ref ar])), (aa, .inr (2, [.ref ar1, .ref ar2, .ref ar3, .int 26])), (ar1, eI G 36 af), (ar2, eC G 36 ag), (ar3, eC G 36 ah), (al, .inr (9, [.ref alr, .int 0])), (ar, .inr (11, [.ref as1, .ref as2, .ref as3, .ref as4, .int 0])), (as1, eI G 8 ac1), (as2, eI G 8 ac2), (as3, eI G 8 ac3), (as4, eI G 8 ac4), (de, .inr (5, [.ref ba, .ref bl, .ref br])), (ba, .inr (2, [.ref br1, .ref br2, .ref br3, .int 26])), (br1, eI G 36 bf), (br2, eC G 36 bg), (br3, eC G 36 bh), (bl, .inr (9, [.ref blr, .int 0])), (br, .inr (11, [.ref bs1, .ref bs2, .ref bs3, .ref bs4, .int 0])), (bs1, eI G 8 bc1), (bs2, eI G 8 bc2), (bs3, eI G 8 bc3), (bs4, eI G 8 bc4), (o, eJ G 1 fo)] sz) [(o, eJ G 1 f_9)] t) (va_A [(x, .inr (12, [.ref inp, .ref de, .ref sa, .ref hi, .ref re, .ref co, .ref dv, .ref rs, .int 0])), (hi, .inr (7, [.ref rg, .int 0, .int 0])), (rg, eR G 9 fr), (d0, .inr (5, [.ref aa, .ref al, .ref ar])), (aa, .inr (2, [.ref ar1, .ref ar2, .ref ar3, .int 26])), (ar1, eI G 36 af), (ar2, eC G 36 ag), (ar3, eC G 36 ah), (al, .inr (9, [.ref alr, .int 0])), (ar, .inr (11, [.ref as1, .ref as2, .ref as3, .ref as4, .int 0])), (as1, eI G 8 ac1), (as2, eI G 8 ac2), (as3, eI G 8 ac3), (as4, eI G 8 ac4), (de, .inr (5, [.ref ba, .ref bl, .ref br])), (ba, .inr (2, [.ref br1, .ref br2, .ref br3, .int 26])), (br1, eI G 36 bf), (br2, eC G 36 bg), (br3, eC G 36 bh), (bl, .inr (9, [.ref blr, .int 0])), (br, .inr (11, [.ref bs1, .ref bs2, .ref bs3, .ref bs4, .int 0])), (bs1, eI G 8 bc1), (bs2, eI G 8 bc2), (bs3, eI G 8 bc3), (bs4, eI G 8 bc4), (o, eJ G 1 fo)] sz)) 3 18 (va_A [(x, .inr (12, [.ref inp, .ref de, .ref sa, .ref hi, .ref re, .ref co, .ref dv, .ref rs, .int 0])), (hi, .inr (7, [.ref rg, .int 0, .int 0])), (rg, eR G 9 fr), (d0, .inr (5, [.ref aa, .ref al, .ref ar])), (aa, .inr (2, [.ref ar1, .ref ar2, .ref ar3, .int 26])), (ar1, eI G 36 af), (ar2, eC G 36 ag), (ar3, eC G 36 ah), (al, .inr (9, [.ref alr, .int 0])), (ar, .inr (11, [.ref as1, .ref as2, .ref as3, .ref as4, .int 0])), (as1, eI G 8 ac1), (as2, eI G 8 ac2), (as3, eI G 8 ac3), (as4, eI G 8 ac4), (de, .inr (5, [.ref ba, .ref bl, .ref br])), (ba, .inr (2, [.ref br1, .ref br2, .ref br3, .int 26])), (br1, eI G 36 bf), (br2, eC G 36 bg), (br3, eC G 36 bh), (bl, .inr (9, [.ref blr, .int 0])), (br, .inr (11, [.ref bs1, .ref bs2, .ref bs3, .ref bs4, .int 0])), (bs1, eI G 8 bc1), (bs2, eI G 8 bc2), (bs3, eI G 8 bc3), (bs4, eI G 8 bc4), (o, eJ G 1 fo)] sz) := by
  refine n_ofWH (cc := cL_addRule) (maxL := 7) (ret := (some .int)) (hh := [(0, 14, 17, 21), (0, 14, 21, 19), (0, 14, 25, 13)]) (by decide) rfl ?_
  intro p e s m args below meth c s₁ B hml hv
  obtain ⟨rfl, ⟨hsz, hP, hK, hD0⟩, hE⟩ := hv
  have hx := B.exec
  have hb := B.bytes
  have hr := B.returns
  have hts := atoms_spec (ws := wsL_addRule2) B.pre
  have hown : s.vm.findClass RL = some m.cls := findClass_of_methodNamed B.named
  have hlocks := B.notSynchronized
  have htab := vx_table (x := yL_addRule) B (hts (.codeWith yL_addRule cL_addRule 7 (some .int) [(0, 14, 17, 21), (0, 14, 21, 19), (0, 14, 25, 13)]) (by rw [wsL_addRule2]; exact List.mem_cons_self))
  subst hsz
  have hD := hD0.self (sz := s.heap.size)
  generalize hAe : va_A [(x, .inr (12, [.ref inp, .ref de, .ref sa, .ref hi, .ref re, .ref co, .ref dv, .ref rs, .int 0])), (hi, .inr (7, [.ref rg, .int 0, .int 0])), (rg, eR G 9 fr), (d0, .inr (5, [.ref aa, .ref al, .ref ar])), (aa, .inr (2, [.ref ar1, .ref ar2, .ref ar3, .int 26])), (ar1, eI G 36 af), (ar2, eC G 36 ag), (ar3, eC G 36 ah), (al, .inr (9, [.ref alr, .int 0])), (ar, .inr (11, [.ref as1, .ref as2, .ref as3, .ref as4, .int 0])), (as1, eI G 8 ac1), (as2, eI G 8 ac2), (as3, eI G 8 ac3), (as4, eI G 8 ac4), (de, .inr (5, [.ref ba, .ref bl, .ref br])), (ba, .inr (2, [.ref br1, .ref br2, .ref br3, .int 26])), (br1, eI G 36 bf), (br2, eC G 36 bg), (br3, eC G 36 bh), (bl, .inr (9, [.ref blr, .int 0])), (br, .inr (11, [.ref bs1, .ref bs2, .ref bs3, .ref bs4, .int 0])), (bs1, eI G 8 bc1), (bs2, eI G 8 bc2), (bs3, eI G 8 bc3), (bs4, eI G 8 bc4), (o, eJ G 1 fo)] s.heap.size = A at hD hE ⊢
  have hA : ∀ q : Nat, s.heap.size ≤ q → A q := fun q h => by rw [← hAe]; exact Or.inr h
  have hS : va_S A s.heap s.heap [] := va_S.rf
  have hP : va_P G.1 vwCl [(x, .inr (12, [.ref inp, .ref de, .ref sa, .ref hi, .ref re, .ref co, .ref dv, .ref rs, .int 0])), (hi, .inr (7, [.ref rg, .int 0, .int 0])), (rg, eR G 9 fr), (d0, .inr (5, [.ref aa, .ref al, .ref ar])), (aa, .inr (2, [.ref ar1, .ref ar2, .ref ar3, .int 26])), (ar1, eI G 36 af), (ar2, eC G 36 ag), (ar3, eC G 36 ah), (al, .inr (9, [.ref alr, .int 0])), (ar, .inr (11, [.ref as1, .ref as2, .ref as3, .ref as4, .int 0])), (as1, eI G 8 ac1), (as2, eI G 8 ac2), (as3, eI G 8 ac3), (as4, eI G 8 ac4), (de, .inr (5, [.ref ba, .ref bl, .ref br])), (ba, .inr (2, [.ref br1, .ref br2, .ref br3, .int 26])), (br1, eI G 36 bf), (br2, eC G 36 bg), (br3, eC G 36 bh), (bl, .inr (9, [.ref blr, .int 0])), (br, .inr (11, [.ref bs1, .ref bs2, .ref bs3, .ref bs4, .int 0])), (bs1, eI G 8 bc1), (bs2, eI G 8 bc2), (bs3, eI G 8 bc3), (bs4, eI G 8 bc4), (o, eJ G 1 fo)] s.heap := hP
  have hl := lv_entry ([.ref x, .int q, .int q2, .int q3, .int q4, .ref o]) (n := 7) (Nat.le_of_ble_eq_true rfl)
  rw [lg_entry_eq]
  generalize (lg_sl ([.ref x, .int q, .int q2, .int q3, .int q4, .ref o]) ++ List.replicate (7 - (lg_sl ([.ref x, .int q, .int q2, .int q3, .int q4, .ref o])).length) Slot.unset).toArray = ls at hl ⊢
  have hl : lv_has ls 7 [(0, .ref x), (1, .int q), (2, .int q2), (3, .int q3), (4, .int q4), (5, .ref o)] := hl
  obtain ⟨H, hH⟩ : ∃ z, z = s.heap := ⟨_, rfl⟩
  have hS : va_S A s.heap H [] := by rw [hH]; exact hS
  have hP : va_P G.1 vwCl [(x, .inr (12, [.ref inp, .ref de, .ref sa, .ref hi, .ref re, .ref co, .ref dv, .ref rs, .int 0])), (hi, .inr (7, [.ref rg, .int 0, .int 0])), (rg, eR G 9 fr), (d0, .inr (5, [.ref aa, .ref al, .ref ar])), (aa, .inr (2, [.ref ar1, .ref ar2, .ref ar3, .int 26])), (ar1, eI G 36 af), (ar2, eC G 36 ag), (ar3, eC G 36 ah), (al, .inr (9, [.ref alr, .int 0])), (ar, .inr (11, [.ref as1, .ref as2, .ref as3, .ref as4, .int 0])), (as1, eI G 8 ac1), (as2, eI G 8 ac2), (as3, eI G 8 ac3), (as4, eI G 8 ac4), (de, .inr (5, [.ref ba, .ref bl, .ref br])), (ba, .inr (2, [.ref br1, .ref br2, .ref br3, .int 26])), (br1, eI G 36 bf), (br2, eC G 36 bg), (br3, eC G 36 bh), (bl, .inr (9, [.ref blr, .int 0])), (br, .inr (11, [.ref bs1, .ref bs2, .ref bs3, .ref bs4, .int 0])), (bs1, eI G 8 bc1), (bs2, eI G 8 bc2), (bs3, eI G 8 bc3), (bs4, eI G 8 bc4), (o, eJ G 1 fo)] H := by rw [hH]; exact hP
  refine n_heap hH ?_
  generalize ([] : List Loc) = locs at hS ⊢
  refine lv_aload hx hb dL_addRule_0 (lv_at hl 5 rfl) ?_
  refine lv_iconst (v := 0) hx hb dL_addRule_2 (by decide) ?_
  refine lv_aload_n hx hb dL_addRule_3 rfl (lv_at hl 0 rfl) ?_
  refine lv_iload_n hx hb dL_addRule_4 rfl (lv_at hl 1 rfl) ?_
  refine lv_iload_n hx hb dL_addRule_5 rfl (lv_at hl 2 rfl) ?_
  refine lv_iload_n hx hb dL_addRule_6 rfl (lv_at hl 3 rfl) ?_
  refine lv_iload hx hb dL_addRule_7 (lv_at hl 4 rfl) ?_
  refine n_xi (wr := [(o, eJ G 1 fo)]) (vx_runV (As := [.int q, .int q2, .int q3, .int q4]) (rest := [.int 0, .ref o]) ⟨hx, hb, hml, hown, hts⟩ (mX11_addRule l hl9 G x inp de sa hi re co dv rs rg fr d0 aa ar1 ar2 ar3 af ag ah al alr ar as1 as2 as3 as4 ac1 ac2 ac3 ac4 ba bl br br1 br2 br3 bf bg bh blr bs1 bs2 bs3 bs4 bc1 bc2 bc3 bc4 q q2 q3 q4 H.size hbg hbh hring hbf) (cwV 4 hts gL_addRule2_X11_addRule rfl rfl rfl (by decide +kernel) ⟨(Nat.le_of_ble_eq_true rfl), (Nat.le_of_ble_eq_true rfl)⟩) (n_prVX (ci := 12) (q0 := 0) hK hP hD hS hA [0, 1, 2, 3, 4, 5, 6, 7, 8, 9, 10, 11, 12, 13, 14, 15, 16, 17, 18, 19, 20, 21, 22, 23, 24] rfl (by decide) rfl rfl hE) rfl rfl hl.1 rfl (lv_room (Nat.le_of_ble_eq_true rfl)) dL_addRule_9 ⟨(Nat.le_of_ble_eq_true rfl), (Nat.le_of_ble_eq_true rfl)⟩) hP hD hS hA [0, 1, 2, 3, 4, 5, 6, 7, 8, 9, 10, 11, 12, 13, 14, 15, 16, 17, 18, 19, 20, 21, 22, 23, 24] [25] rfl rfl (by decide) (by decide) (fun E9 ce q9 H locs hP hD hS hpx hce hcv hcl => ?_) (fun r_1 u_2 H locs hP hD hS hw => ?_)
  · skip
    skip
    have hpx : (E9 = "java/lang/IndexOutOfBoundsException" ∧ nkR q q2 q3 q4 = 1) ∨ (E9 = "java/lang/IllegalArgumentException" ∧ nkR q q2 q3 q4 = 2) := hpx
    rcases hpx with ⟨rfl, hc⟩ | ⟨rfl, hc⟩
    · skip
      refine vx_catch (own := RL) (name := "java/lang/IndexOutOfBoundsException") (E := "java/lang/IndexOutOfBoundsException") hown [] (⟨0, 14, 17, 21⟩ : ExceptionTableEntry) [(⟨0, 14, 21, 19⟩ : ExceptionTableEntry), (⟨0, 14, 25, 13⟩ : ExceptionTableEntry)] (by rw [htab]; rfl) (fun z hz => absurd hz List.not_mem_nil) (by decide) (by decide) (hts (.classLink RL 21 "java/lang/IndexOutOfBoundsException") (by decide +kernel)) (va_Nw.use rfl (hE.1.2.1 "java/lang/IndexOutOfBoundsException" (by decide +kernel))) hce hcv hcl ?_
      refine W.eq (g2 := F0 m 17 ls [.ref q9]) rfl ?_
      refine lv_astore (lv' := [(6, .ref q9), (0, .ref x), (1, .int q), (2, .int q2), (3, .int q3), (4, .int q4), (5, .ref o)]) hx hb dL_addRule_17 hl (by decide) rfl (fun ls hl => ?_)
      refine lv_iconst (v := 1) hx hb dL_addRule_19 (by decide) ?_
      have hP9 := n_Psub (wc := [(o, eJ G 1 fo)]) hP [0] rfl
      have hD9 := hD.sub (ws' := [(o, eJ G 1 fo)]) [0] (by decide) rfl
      refine W.widen (k := 3) (n := 18) (Nat.le_of_ble_eq_true rfl) (Nat.le_of_ble_eq_true rfl) ?_
      exact W.iret (v := 1) hx hb hr (fun t ht hW => ⟨⟨1, fo, rfl, ⟨hc.symm, (fun h9 => absurd (hc.symm.trans h9) (by decide))⟩, by rw [ht]; exact hP9, va_K.moved hW.alike hK, hD9⟩, hS.F ht⟩) hS.2.2 dL_addRule_20
    · skip
      refine vx_catch (own := RL) (name := "java/lang/IllegalArgumentException") (E := "java/lang/IllegalArgumentException") hown [(⟨0, 14, 17, 21⟩ : ExceptionTableEntry)] (⟨0, 14, 21, 19⟩ : ExceptionTableEntry) [(⟨0, 14, 25, 13⟩ : ExceptionTableEntry)] (by rw [htab]; rfl) (fun z hz => by obtain rfl := List.mem_singleton.mp hz; exact Or.inr ⟨by decide, "java/lang/IndexOutOfBoundsException", (hts (.classLink RL 21 "java/lang/IndexOutOfBoundsException") (by decide +kernel)), hE.1.2.2.1 ("java/lang/IllegalArgumentException", "java/lang/IndexOutOfBoundsException") (by decide +kernel)⟩) (by decide) (by decide) (hts (.classLink RL 19 "java/lang/IllegalArgumentException") n_cl_addRule) (va_Nw.use rfl (hE.1.2.1 "java/lang/IllegalArgumentException" (by decide +kernel))) hce hcv hcl ?_
      refine W.eq (g2 := F0 m 21 ls [.ref q9]) rfl ?_
      refine lv_astore (lv' := [(6, .ref q9), (0, .ref x), (1, .int q), (2, .int q2), (3, .int q3), (4, .int q4), (5, .ref o)]) hx hb dL_addRule_21 hl (by decide) rfl (fun ls hl => ?_)
      refine lv_iconst (v := 2) hx hb dL_addRule_23 (by decide) ?_
      have hP9 := n_Psub (wc := [(o, eJ G 1 fo)]) hP [0] rfl
      have hD9 := hD.sub (ws' := [(o, eJ G 1 fo)]) [0] (by decide) rfl
      refine W.widen (k := 3) (n := 18) (Nat.le_of_ble_eq_true rfl) (Nat.le_of_ble_eq_true rfl) ?_
      exact W.iret (v := 2) hx hb hr (fun t ht hW => ⟨⟨2, fo, rfl, ⟨hc.symm, (fun h9 => absurd (hc.symm.trans h9) (by decide))⟩, by rw [ht]; exact hP9, va_K.moved hW.alike hK, hD9⟩, hS.F ht⟩) hS.2.2 dL_addRule_24
  have hP : va_P G.1 vwCl [(o, eJ G 1 fo), (x, .inr (12, [.ref inp, .ref de, .ref sa, .ref hi, .ref re, .ref co, .ref dv, .ref rs, .int 0]))] H := hP
  have hD : va_D A [(o, eJ G 1 fo), (x, .inr (12, [.ref inp, .ref de, .ref sa, .ref hi, .ref re, .ref co, .ref dv, .ref rs, .int 0]))] := hD
  have hr_3 : (r_1 = 0 ∧ nkR q q2 q3 q4 = 0) := hw
  refine lv_i2l (v := (r_1 : Int32).toInt64) hx hb dL_addRule_12 rfl ?_
  refine va_last hx hb hK hP hD hS 0 2 rfl rfl (n_in (by decide)) dL_addRule_13 (fun H locs hP hD hS => ?_)
  have hP : va_P G.1 vwCl [(o, eJ G 1 (vp_updL fo ((0 : Int32).toNatClampNeg) ((r_1 : Int32).toInt64))), (x, .inr (12, [.ref inp, .ref de, .ref sa, .ref hi, .ref re, .ref co, .ref dv, .ref rs, .int 0]))] H := hP
  have hD : va_D A [(o, eJ G 1 (vp_updL fo ((0 : Int32).toNatClampNeg) ((r_1 : Int32).toInt64))), (x, .inr (12, [.ref inp, .ref de, .ref sa, .ref hi, .ref re, .ref co, .ref dv, .ref rs, .int 0]))] := hD
  refine lv_goto (tgt := 29) hx hb dL_addRule_14 (by decide) ?_
  refine lv_iconst (v := 0) hx hb dL_addRule_29 (by decide) ?_
  have hP9 := n_Psub (wc := [(o, eJ G 1 (vp_updL fo ((0 : Int32).toNatClampNeg) ((r_1 : Int32).toInt64)))]) hP [0] rfl
  have hD9 := hD.sub (ws' := [(o, eJ G 1 (vp_updL fo ((0 : Int32).toNatClampNeg) ((r_1 : Int32).toInt64)))]) [0] (by decide) rfl
  refine W.widen (k := 3) (n := 18) (Nat.le_of_ble_eq_true rfl) (Nat.le_of_ble_eq_true rfl) ?_
  exact W.iret (v := 0) hx hb hr (fun t ht hW => ⟨⟨0, (vp_updL fo ((0 : Int32).toNatClampNeg) ((r_1 : Int32).toInt64)), rfl, ⟨hr_3.2.symm, (fun _ => by rw [hr_3.1]; exact pk_uLs)⟩, by rw [ht]; exact hP9, va_K.moved hW.alike hK, hD9⟩, hS.F ht⟩) hS.2.2 dL_addRule_30

set_option maxHeartbeats 4000000 in
set_option maxRecDepth 100000 in
theorem mL_account (l : Launch) (hl9 : l.stackTraces = false) (G : nG) (x : Nat) (inp : Nat) (de : Nat) (sa : Nat) (hi : Nat) (re : Nat) (co : Nat) (dv : Nat) (rs : Nat) (sg : Nat) (fm : Int64) (le : Int32) (ba : Nat) (bl : Nat) (br : Nat) (br1 : Nat) (br2 : Nat) (br3 : Nat) (bf : Nat → Int32) (bg : Nat → Int32) (bh : Nat → Int32) (blr : Nat) (bs1 : Nat) (bs2 : Nat) (bs3 : Nat) (bs4 : Nat) (bc1 : Nat → Int32) (bc2 : Nat → Int32) (bc3 : Nat → Int32) (bc4 : Nat → Int32) (w : Int32) (o : Nat) (fo : Nat → Int64) (sz : Nat) : Met l yL_account wsL_account ({ frames := 7, cells := 1, slots := 6, locals := 111 }) (va_Pc [.ref x, .int w, .ref o] (n_px G [(x, .inr (12, [.ref inp, .ref de, .ref sa, .ref hi, .ref re, .ref co, .ref dv, .ref rs, .int 0])), (inp, .inr (8, [.ref sg, .int 0, .long fm, .int le])), (de, .inr (5, [.ref ba, .ref bl, .ref br])), (ba, .inr (2, [.ref br1, .ref br2, .ref br3, .int 26])), (br1, eI G 36 bf), (br2, eC G 36 bg), (br3, eC G 36 bh), (bl, .inr (9, [.ref blr, .int 0])), (br, .inr (11, [.ref bs1, .ref bs2, .ref bs3, .ref bs4, .int 0])), (bs1, eI G 8 bc1), (bs2, eI G 8 bc2), (bs3, eI G 8 bc3), (bs4, eI G 8 bc4), (o, eJ G 1 fo)] sz)) (va_Qi (fun (r : Int32) (f_9 : Nat → Int64) => r = (nkC w) ∧ (nkC w = 0 → f_9 0 = (nvC w : Int32).toInt64)) (fun (f_9 : Nat → Int64) (t : State) => n_po G (va_A [(x, .inr (12, [.ref inp, .ref de, .ref sa, .ref hi, .ref re, .ref co, .ref dv, .ref rs, .int 0])), (inp, .inr (8, [.ref sg, .int 0, .long fm, .int le])), (de, .inr (5, [.ref ba, .ref bl, .ref br])), (ba, .inr (2, [.ref br1, .ref br2, .ref br3, .int 26])), (br1, eI G 36 bf), (br2, eC G 36 bg), (br3, eC G 36 bh), (bl, .inr (9, [.ref blr, .int 0])), (br, .inr (11, [.ref bs1, .ref bs2, .ref bs3, .ref bs4, .int 0])), (bs1, eI G 8 bc1), (bs2, eI G 8 bc2), (bs3, eI G 8 bc3), (bs4, eI G 8 bc4), (o, eJ G 1 fo)] sz) [(o, eJ G 1 f_9)] t) (va_A [(x, .inr (12, [.ref inp, .ref de, .ref sa, .ref hi, .ref re, .ref co, .ref dv, .ref rs, .int 0])), (inp, .inr (8, [.ref sg, .int 0, .long fm, .int le])), (de, .inr (5, [.ref ba, .ref bl, .ref br])), (ba, .inr (2, [.ref br1, .ref br2, .ref br3, .int 26])), (br1, eI G 36 bf), (br2, eC G 36 bg), (br3, eC G 36 bh), (bl, .inr (9, [.ref blr, .int 0])), (br, .inr (11, [.ref bs1, .ref bs2, .ref bs3, .ref bs4, .int 0])), (bs1, eI G 8 bc1), (bs2, eI G 8 bc2), (bs3, eI G 8 bc3), (bs4, eI G 8 bc4), (o, eJ G 1 fo)] sz)) 1 6 (va_A [(x, .inr (12, [.ref inp, .ref de, .ref sa, .ref hi, .ref re, .ref co, .ref dv, .ref rs, .int 0])), (inp, .inr (8, [.ref sg, .int 0, .long fm, .int le])), (de, .inr (5, [.ref ba, .ref bl, .ref br])), (ba, .inr (2, [.ref br1, .ref br2, .ref br3, .int 26])), (br1, eI G 36 bf), (br2, eC G 36 bg), (br3, eC G 36 bh), (bl, .inr (9, [.ref blr, .int 0])), (br, .inr (11, [.ref bs1, .ref bs2, .ref bs3, .ref bs4, .int 0])), (bs1, eI G 8 bc1), (bs2, eI G 8 bc2), (bs3, eI G 8 bc3), (bs4, eI G 8 bc4), (o, eJ G 1 fo)] sz) := by
  refine n_ofWH (cc := cL_account) (maxL := 4) (ret := (some .int)) (hh := [(0, 9, 12, 19)]) (by decide) rfl ?_
  intro p e s m args below meth c s₁ B hml hv
  obtain ⟨rfl, ⟨hsz, hP, hK, hD0⟩, hE⟩ := hv
  have hx := B.exec
  have hb := B.bytes
  have hr := B.returns
  have hts := atoms_spec (ws := wsL_account) B.pre
  have hown : s.vm.findClass RL = some m.cls := findClass_of_methodNamed B.named
  have hlocks := B.notSynchronized
  have htab := vx_table (x := yL_account) B (hts (.codeWith yL_account cL_account 4 (some .int) [(0, 9, 12, 19)]) (by rw [wsL_account]; exact List.mem_cons_self))
  subst hsz
  have hD := hD0.self (sz := s.heap.size)
  generalize hAe : va_A [(x, .inr (12, [.ref inp, .ref de, .ref sa, .ref hi, .ref re, .ref co, .ref dv, .ref rs, .int 0])), (inp, .inr (8, [.ref sg, .int 0, .long fm, .int le])), (de, .inr (5, [.ref ba, .ref bl, .ref br])), (ba, .inr (2, [.ref br1, .ref br2, .ref br3, .int 26])), (br1, eI G 36 bf), (br2, eC G 36 bg), (br3, eC G 36 bh), (bl, .inr (9, [.ref blr, .int 0])), (br, .inr (11, [.ref bs1, .ref bs2, .ref bs3, .ref bs4, .int 0])), (bs1, eI G 8 bc1), (bs2, eI G 8 bc2), (bs3, eI G 8 bc3), (bs4, eI G 8 bc4), (o, eJ G 1 fo)] s.heap.size = A at hD hE ⊢
  have hA : ∀ q : Nat, s.heap.size ≤ q → A q := fun q h => by rw [← hAe]; exact Or.inr h
  have hS : va_S A s.heap s.heap [] := va_S.rf
  have hP : va_P G.1 vwCl [(x, .inr (12, [.ref inp, .ref de, .ref sa, .ref hi, .ref re, .ref co, .ref dv, .ref rs, .int 0])), (inp, .inr (8, [.ref sg, .int 0, .long fm, .int le])), (de, .inr (5, [.ref ba, .ref bl, .ref br])), (ba, .inr (2, [.ref br1, .ref br2, .ref br3, .int 26])), (br1, eI G 36 bf), (br2, eC G 36 bg), (br3, eC G 36 bh), (bl, .inr (9, [.ref blr, .int 0])), (br, .inr (11, [.ref bs1, .ref bs2, .ref bs3, .ref bs4, .int 0])), (bs1, eI G 8 bc1), (bs2, eI G 8 bc2), (bs3, eI G 8 bc3), (bs4, eI G 8 bc4), (o, eJ G 1 fo)] s.heap := hP
  have hl := lv_entry ([.ref x, .int w, .ref o]) (n := 4) (Nat.le_of_ble_eq_true rfl)
  rw [lg_entry_eq]
  generalize (lg_sl ([.ref x, .int w, .ref o]) ++ List.replicate (4 - (lg_sl ([.ref x, .int w, .ref o])).length) Slot.unset).toArray = ls at hl ⊢
  have hl : lv_has ls 4 [(0, .ref x), (1, .int w), (2, .ref o)] := hl
  obtain ⟨H, hH⟩ : ∃ z, z = s.heap := ⟨_, rfl⟩
  have hS : va_S A s.heap H [] := by rw [hH]; exact hS
  have hP : va_P G.1 vwCl [(x, .inr (12, [.ref inp, .ref de, .ref sa, .ref hi, .ref re, .ref co, .ref dv, .ref rs, .int 0])), (inp, .inr (8, [.ref sg, .int 0, .long fm, .int le])), (de, .inr (5, [.ref ba, .ref bl, .ref br])), (ba, .inr (2, [.ref br1, .ref br2, .ref br3, .int 26])), (br1, eI G 36 bf), (br2, eC G 36 bg), (br3, eC G 36 bh), (bl, .inr (9, [.ref blr, .int 0])), (br, .inr (11, [.ref bs1, .ref bs2, .ref bs3, .ref bs4, .int 0])), (bs1, eI G 8 bc1), (bs2, eI G 8 bc2), (bs3, eI G 8 bc3), (bs4, eI G 8 bc4), (o, eJ G 1 fo)] H := by rw [hH]; exact hP
  refine n_heap hH ?_
  generalize ([] : List Loc) = locs at hS ⊢
  refine lv_aload_n hx hb dL_account_0 rfl (lv_at hl 2 rfl) ?_
  refine lv_iconst (v := 0) hx hb dL_account_1 (by decide) ?_
  refine lv_aload_n hx hb dL_account_2 rfl (lv_at hl 0 rfl) ?_
  refine lv_iload_n hx hb dL_account_3 rfl (lv_at hl 1 rfl) ?_
  refine n_xi (wr := [(o, eJ G 1 fo)]) (vx_runV (As := [.int w]) (rest := [.int 0, .ref o]) ⟨hx, hb, hml, hown, hts⟩ (mX11_account l hl9 G x inp de sa hi re co dv rs sg fm le ba bl br br1 br2 br3 bf bg bh blr bs1 bs2 bs3 bs4 bc1 bc2 bc3 bc4 w H.size) (cwV 1 hts gL_account_X11_account rfl rfl rfl (by decide +kernel) ⟨(Nat.le_of_ble_eq_true rfl), (Nat.le_of_ble_eq_true rfl)⟩) (n_prVX (ci := 12) (q0 := 0) hK hP hD hS hA [0, 1, 2, 3, 4, 5, 6, 7, 8, 9, 10, 11, 12] rfl (by decide) rfl rfl hE) rfl rfl hl.1 rfl (lv_room (Nat.le_of_ble_eq_true rfl)) dL_account_4 ⟨(Nat.le_of_ble_eq_true rfl), (Nat.le_of_ble_eq_true rfl)⟩) hP hD hS hA [0, 1, 2, 3, 4, 5, 6, 7, 8, 9, 10, 11, 12] [13] rfl rfl (by decide) (by decide) (fun E9 ce q9 H locs hP hD hS hpx hce hcv hcl => ?_) (fun r_1 u_2 H locs hP hD hS hw => ?_)
  · skip
    have hpx : E9 = "java/lang/IllegalArgumentException" ∧ nkC w = 1 := hpx
    have hpx : E9 = "java/lang/IllegalArgumentException" ∧ nkC w = 1 := hpx
    obtain ⟨rfl, hc⟩ := hpx
    refine vx_catch (own := RL) (name := "java/lang/IllegalArgumentException") (E := "java/lang/IllegalArgumentException") hown [] (⟨0, 9, 12, 19⟩ : ExceptionTableEntry) [] (by rw [htab]; rfl) (fun z hz => absurd hz List.not_mem_nil) (by decide) (by decide) (hts (.classLink RL 19 "java/lang/IllegalArgumentException") (by decide +kernel)) (va_Nw.use rfl (hE.1.2.1 "java/lang/IllegalArgumentException" (by decide +kernel))) hce hcv hcl ?_
    refine W.eq (g2 := F0 m 12 ls [.ref q9]) rfl ?_
    refine lv_astore_n (lv' := [(3, .ref q9), (0, .ref x), (1, .int w), (2, .ref o)]) hx hb dL_account_12 rfl hl (by decide) rfl (fun ls hl => ?_)
    refine lv_iconst (v := 1) hx hb dL_account_13 (by decide) ?_
    have hP9 := n_Psub (wc := [(o, eJ G 1 fo)]) hP [0] rfl
    have hD9 := hD.sub (ws' := [(o, eJ G 1 fo)]) [0] (by decide) rfl
    refine W.widen (k := 1) (n := 6) (Nat.le_of_ble_eq_true rfl) (Nat.le_of_ble_eq_true rfl) ?_
    exact W.iret (v := 1) hx hb hr (fun t ht hW => ⟨⟨1, fo, rfl, ⟨hc.symm, (fun h9 => absurd (hc.symm.trans h9) (by decide))⟩, by rw [ht]; exact hP9, va_K.moved hW.alike hK, hD9⟩, hS.F ht⟩) hS.2.2 dL_account_14
  have hP : va_P G.1 vwCl [(o, eJ G 1 fo), (x, .inr (12, [.ref inp, .ref de, .ref sa, .ref hi, .ref re, .ref co, .ref dv, .ref rs, .int 0]))] H := hP
  have hD : va_D A [(o, eJ G 1 fo), (x, .inr (12, [.ref inp, .ref de, .ref sa, .ref hi, .ref re, .ref co, .ref dv, .ref rs, .int 0]))] := hD
  have hr_3 : (r_1 = nvC w ∧ nkC w = 0) := hw
  refine lv_i2l (v := (r_1 : Int32).toInt64) hx hb dL_account_7 rfl ?_
  refine va_last hx hb hK hP hD hS 0 2 rfl rfl (n_in (by decide)) dL_account_8 (fun H locs hP hD hS => ?_)
  have hP : va_P G.1 vwCl [(o, eJ G 1 (vp_updL fo ((0 : Int32).toNatClampNeg) ((r_1 : Int32).toInt64))), (x, .inr (12, [.ref inp, .ref de, .ref sa, .ref hi, .ref re, .ref co, .ref dv, .ref rs, .int 0]))] H := hP
  have hD : va_D A [(o, eJ G 1 (vp_updL fo ((0 : Int32).toNatClampNeg) ((r_1 : Int32).toInt64))), (x, .inr (12, [.ref inp, .ref de, .ref sa, .ref hi, .ref re, .ref co, .ref dv, .ref rs, .int 0]))] := hD
  refine lv_goto (tgt := 15) hx hb dL_account_9 (by decide) ?_
  refine lv_iconst (v := 0) hx hb dL_account_15 (by decide) ?_
  have hP9 := n_Psub (wc := [(o, eJ G 1 (vp_updL fo ((0 : Int32).toNatClampNeg) ((r_1 : Int32).toInt64)))]) hP [0] rfl
  have hD9 := hD.sub (ws' := [(o, eJ G 1 (vp_updL fo ((0 : Int32).toNatClampNeg) ((r_1 : Int32).toInt64)))]) [0] (by decide) rfl
  refine W.widen (k := 1) (n := 6) (Nat.le_of_ble_eq_true rfl) (Nat.le_of_ble_eq_true rfl) ?_
  exact W.iret (v := 0) hx hb hr (fun t ht hW => ⟨⟨0, (vp_updL fo ((0 : Int32).toNatClampNeg) ((r_1 : Int32).toInt64)), rfl, ⟨hr_3.2.symm, (fun _ => by rw [hr_3.1]; exact pk_uLs)⟩, by rw [ht]; exact hP9, va_K.moved hW.alike hK, hD9⟩, hS.F ht⟩) hS.2.2 dL_account_16
