set_option maxHeartbeats 4000000 in
set_option maxRecDepth 100000 in
theorem mX0_size (l : Launch) (G : nG) (h0 : Nat) (r1 : Nat) (r2 : Nat) (r3 : Nat) (z : Int32) (sz : Nat) : Met l yX0_size wsX0_size ({ frames := 0, cells := 0, slots := 0, locals := 0 }) (va_Pc [.ref h0] (n_pp G [(h0, .inr (2, [.ref r1, .ref r2, .ref r3, .int z]))] sz)) (va_Qi (fun (r : Int32) (_ : Unit) => r = z) (fun (_ : Unit) (t : State) => n_po G (va_A [(h0, .inr (2, [.ref r1, .ref r2, .ref r3, .int z]))] sz) [(h0, .inr (2, [.ref r1, .ref r2, .ref r3, .int z]))] t) (va_A [(h0, .inr (2, [.ref r1, .ref r2, .ref r3, .int z]))] sz)) 0 0 (va_A [(h0, .inr (2, [.ref r1, .ref r2, .ref r3, .int z]))] sz) := by
  refine Met.ofW (cc := cX0_size) (maxL := 1) (ret := (some .int)) (by decide) rfl ?_
  intro p e s m args below meth c s₁ B hml hv
  obtain ⟨rfl, hsz, hP, hK, hD0⟩ := hv
  have hx := B.exec
  have hb := B.bytes
  have hr := B.returns
  have hts := atoms_spec (ws := wsX0_size) B.pre
  have hown : s.vm.findClass RX0 = some m.cls := findClass_of_methodNamed B.named
  have hlocks := B.notSynchronized
  subst hsz
  have hD := hD0.self (sz := s.heap.size)
  generalize hAe : va_A [(h0, .inr (2, [.ref r1, .ref r2, .ref r3, .int z]))] s.heap.size = A at hD ⊢
  have hA : ∀ q : Nat, s.heap.size ≤ q → A q := fun q h => by rw [← hAe]; exact Or.inr h
  have hS : va_S A s.heap s.heap [] := va_S.rf
  have hP : va_P G.1 vwCl [(h0, .inr (2, [.ref r1, .ref r2, .ref r3, .int z]))] s.heap := hP
  have hl := lv_entry ([.ref h0]) (n := 1) (Nat.le_of_ble_eq_true rfl)
  rw [lg_entry_eq]
  generalize (lg_sl ([.ref h0]) ++ List.replicate (1 - (lg_sl ([.ref h0])).length) Slot.unset).toArray = ls at hl ⊢
  have hl : lv_has ls 1 [(0, .ref h0)] := hl
  obtain ⟨H, hH⟩ : ∃ z, z = s.heap := ⟨_, rfl⟩
  have hS : va_S A s.heap H [] := by rw [hH]; exact hS
  have hP : va_P G.1 vwCl [(h0, .inr (2, [.ref r1, .ref r2, .ref r3, .int z]))] H := by rw [hH]; exact hP
  refine n_heap hH ?_
  generalize ([] : List Loc) = locs at hS ⊢
  have hiX0 : ∀ w ∈ u_ws RX0 TX0 4, w ∈ wsX0_size := by decide +kernel
  refine lv_aload_n hx hb dX0_size_0 rfl (lv_at hl 0 rfl) ?_
  refine va_get (D := G.1) (ci := 2) (v := .int z) (C := RX0) (T := TX0) (N := 4) hx hb hts hiX0 hown hK hP 0 rfl rfl 3 (by decide) (hts (.fieldLink RX0 22 "DialectDictionary$Alphabet" "size" "I") (by decide +kernel)) (fun _ h9 => h9) rfl dX0_size_1 ?_
  have hP9 := n_Psub (wc := [(h0, .inr (2, [.ref r1, .ref r2, .ref r3, .int z]))]) hP [0] rfl
  have hD9 := hD.sub (ws' := [(h0, .inr (2, [.ref r1, .ref r2, .ref r3, .int z]))]) [0] (by decide) rfl
  refine W.widen (k := 0) (n := 0) (Nat.le_of_ble_eq_true rfl) (Nat.le_of_ble_eq_true rfl) ?_
  exact W.iret (v := z) hx hb hr (fun t ht hW => ⟨⟨z, (), rfl, rfl, by rw [ht]; exact hP9, va_K.moved hW.alike hK, hD9⟩, hS.F ht⟩) hS.2.2 dX0_size_4

set_option maxHeartbeats 4000000 in
set_option maxRecDepth 100000 in
theorem mX0_isFull26 (l : Launch) (G : nG) (h0 : Nat) (r1 : Nat) (r2 : Nat) (r3 : Nat) (sz : Nat) : Met l yX0_isFull wsX0_isFull ({ frames := 0, cells := 0, slots := 0, locals := 0 }) (va_Pc [.ref h0] (n_pp G [(h0, .inr (2, [.ref r1, .ref r2, .ref r3, .int 26]))] sz)) (va_Qi (fun (r : Int32) (_ : Unit) => r = 0) (fun (_ : Unit) (t : State) => n_po G (va_A [(h0, .inr (2, [.ref r1, .ref r2, .ref r3, .int 26]))] sz) [(h0, .inr (2, [.ref r1, .ref r2, .ref r3, .int 26]))] t) (va_A [(h0, .inr (2, [.ref r1, .ref r2, .ref r3, .int 26]))] sz)) 0 0 (va_A [(h0, .inr (2, [.ref r1, .ref r2, .ref r3, .int 26]))] sz) := by
  refine Met.ofW (cc := cX0_isFull) (maxL := 1) (ret := (some .boolean)) (by decide) rfl ?_
  intro p e s m args below meth c s₁ B hml hv
  obtain ⟨rfl, hsz, hP, hK, hD0⟩ := hv
  have hx := B.exec
  have hb := B.bytes
  have hr := B.returns
  have hts := atoms_spec (ws := wsX0_isFull) B.pre
  have hown : s.vm.findClass RX0 = some m.cls := findClass_of_methodNamed B.named
  have hlocks := B.notSynchronized
  subst hsz
  have hD := hD0.self (sz := s.heap.size)
  generalize hAe : va_A [(h0, .inr (2, [.ref r1, .ref r2, .ref r3, .int 26]))] s.heap.size = A at hD ⊢
  have hA : ∀ q : Nat, s.heap.size ≤ q → A q := fun q h => by rw [← hAe]; exact Or.inr h
  have hS : va_S A s.heap s.heap [] := va_S.rf
  have hP : va_P G.1 vwCl [(h0, .inr (2, [.ref r1, .ref r2, .ref r3, .int 26]))] s.heap := hP
  have hl := lv_entry ([.ref h0]) (n := 1) (Nat.le_of_ble_eq_true rfl)
  rw [lg_entry_eq]
  generalize (lg_sl ([.ref h0]) ++ List.replicate (1 - (lg_sl ([.ref h0])).length) Slot.unset).toArray = ls at hl ⊢
  have hl : lv_has ls 1 [(0, .ref h0)] := hl
  obtain ⟨H, hH⟩ : ∃ z, z = s.heap := ⟨_, rfl⟩
  have hS : va_S A s.heap H [] := by rw [hH]; exact hS
  have hP : va_P G.1 vwCl [(h0, .inr (2, [.ref r1, .ref r2, .ref r3, .int 26]))] H := by rw [hH]; exact hP
  refine n_heap hH ?_
  generalize ([] : List Loc) = locs at hS ⊢
  have hiX0 : ∀ w ∈ u_ws RX0 TX0 4, w ∈ wsX0_isFull := by decide +kernel
  refine lv_aload_n hx hb dX0_isFull_0 rfl (lv_at hl 0 rfl) ?_
  refine va_get (D := G.1) (ci := 2) (v := .int 26) (C := RX0) (T := TX0) (N := 4) hx hb hts hiX0 hown hK hP 0 rfl rfl 3 (by decide) (hts (.fieldLink RX0 22 "DialectDictionary$Alphabet" "size" "I") (by decide +kernel)) (fun _ h9 => h9) rfl dX0_isFull_1 ?_
  refine lv_bipush (v := 36) hx hb dX0_isFull_4 (by decide) ?_
  refine lv_icmp_lt (tgt := 13) hx hb dX0_isFull_6 (by decide) (fun _ => ?_) (fun h9 => absurd (by decide) h9)
  refine lv_iconst (v := 0) hx hb dX0_isFull_13 (by decide) ?_
  have hP9 := n_Psub (wc := [(h0, .inr (2, [.ref r1, .ref r2, .ref r3, .int 26]))]) hP [0] rfl
  have hD9 := hD.sub (ws' := [(h0, .inr (2, [.ref r1, .ref r2, .ref r3, .int 26]))]) [0] (by decide) rfl
  refine W.widen (k := 0) (n := 0) (Nat.le_of_ble_eq_true rfl) (Nat.le_of_ble_eq_true rfl) ?_
  exact W.zret (v := 0) (ty := .boolean) hx hb hr rfl (fun t ht hW => ⟨⟨0, (), rfl, rfl, by rw [ht]; exact hP9, va_K.moved hW.alike hK, hD9⟩, hS.F ht⟩) hS.2.2 dX0_isFull_14

set_option maxHeartbeats 4000000 in
set_option maxRecDepth 100000 in
theorem mX0_hasPlace (l : Launch) (G : nG) (h0 : Nat) (r1 : Nat) (r2 : Nat) (r3 : Nat) (z : Int32) (q : Int32) (sz : Nat) : Met l yX0_hasPlace wsX0_hasPlace ({ frames := 0, cells := 0, slots := 0, locals := 0 }) (va_Pc [.ref h0, .int q] (n_pp G [(h0, .inr (2, [.ref r1, .ref r2, .ref r3, .int z]))] sz)) (va_Qi (fun (r : Int32) (_ : Unit) => r = (nhp z q)) (fun (_ : Unit) (t : State) => n_po G (va_A [(h0, .inr (2, [.ref r1, .ref r2, .ref r3, .int z]))] sz) [(h0, .inr (2, [.ref r1, .ref r2, .ref r3, .int z]))] t) (va_A [(h0, .inr (2, [.ref r1, .ref r2, .ref r3, .int z]))] sz)) 0 0 (va_A [(h0, .inr (2, [.ref r1, .ref r2, .ref r3, .int z]))] sz) := by
  refine Met.ofW (cc := cX0_hasPlace) (maxL := 2) (ret := (some .boolean)) (by decide) rfl ?_
  intro p e s m args below meth c s₁ B hml hv
  obtain ⟨rfl, hsz, hP, hK, hD0⟩ := hv
  have hx := B.exec
  have hb := B.bytes
  have hr := B.returns
  have hts := atoms_spec (ws := wsX0_hasPlace) B.pre
  have hown : s.vm.findClass RX0 = some m.cls := findClass_of_methodNamed B.named
  have hlocks := B.notSynchronized
  subst hsz
  have hD := hD0.self (sz := s.heap.size)
  generalize hAe : va_A [(h0, .inr (2, [.ref r1, .ref r2, .ref r3, .int z]))] s.heap.size = A at hD ⊢
  have hA : ∀ q : Nat, s.heap.size ≤ q → A q := fun q h => by rw [← hAe]; exact Or.inr h
  have hS : va_S A s.heap s.heap [] := va_S.rf
  have hP : va_P G.1 vwCl [(h0, .inr (2, [.ref r1, .ref r2, .ref r3, .int z]))] s.heap := hP
  have hl := lv_entry ([.ref h0, .int q]) (n := 2) (Nat.le_of_ble_eq_true rfl)
  rw [lg_entry_eq]
  generalize (lg_sl ([.ref h0, .int q]) ++ List.replicate (2 - (lg_sl ([.ref h0, .int q])).length) Slot.unset).toArray = ls at hl ⊢
  have hl : lv_has ls 2 [(0, .ref h0), (1, .int q)] := hl
  obtain ⟨H, hH⟩ : ∃ z, z = s.heap := ⟨_, rfl⟩
  have hS : va_S A s.heap H [] := by rw [hH]; exact hS
  have hP : va_P G.1 vwCl [(h0, .inr (2, [.ref r1, .ref r2, .ref r3, .int z]))] H := by rw [hH]; exact hP
  refine n_heap hH ?_
  generalize ([] : List Loc) = locs at hS ⊢
  have hiX0 : ∀ w ∈ u_ws RX0 TX0 4, w ∈ wsX0_hasPlace := by decide +kernel
  refine lv_iload_n hx hb dX0_hasPlace_0 rfl (lv_at hl 1 rfl) ?_
  refine lv_if_lt (tgt := 16) hx hb dX0_hasPlace_1 (by decide) (fun c_1 => ?_) (fun c_1 => ?_)
  · skip
    refine lv_iconst (v := 0) hx hb dX0_hasPlace_16 (by decide) ?_
    have hP9 := n_Psub (wc := [(h0, .inr (2, [.ref r1, .ref r2, .ref r3, .int z]))]) hP [0] rfl
    have hD9 := hD.sub (ws' := [(h0, .inr (2, [.ref r1, .ref r2, .ref r3, .int z]))]) [0] (by decide) rfl
    refine W.widen (k := 0) (n := 0) (Nat.le_of_ble_eq_true rfl) (Nat.le_of_ble_eq_true rfl) ?_
    exact W.zret (v := 0) (ty := .boolean) hx hb hr rfl (fun t ht hW => ⟨⟨0, (), rfl, (by rw [nhp, if_pos c_1]), by rw [ht]; exact hP9, va_K.moved hW.alike hK, hD9⟩, hS.F ht⟩) hS.2.2 dX0_hasPlace_17
  · skip
    refine lv_iload_n hx hb dX0_hasPlace_4 rfl (lv_at hl 1 rfl) ?_
    refine lv_aload_n hx hb dX0_hasPlace_5 rfl (lv_at hl 0 rfl) ?_
    refine va_get (D := G.1) (ci := 2) (v := .int z) (C := RX0) (T := TX0) (N := 4) hx hb hts hiX0 hown hK hP 0 rfl rfl 3 (by decide) (hts (.fieldLink RX0 22 "DialectDictionary$Alphabet" "size" "I") (by decide +kernel)) (fun _ h9 => h9) rfl dX0_hasPlace_6 ?_
    refine lv_icmp_ge (tgt := 16) hx hb dX0_hasPlace_9 (by decide) (fun c_9 => ?_) (fun c_9 => ?_)
    · skip
      refine lv_iconst (v := 0) hx hb dX0_hasPlace_16 (by decide) ?_
      have hP9 := n_Psub (wc := [(h0, .inr (2, [.ref r1, .ref r2, .ref r3, .int z]))]) hP [0] rfl
      have hD9 := hD.sub (ws' := [(h0, .inr (2, [.ref r1, .ref r2, .ref r3, .int z]))]) [0] (by decide) rfl
      refine W.widen (k := 0) (n := 0) (Nat.le_of_ble_eq_true rfl) (Nat.le_of_ble_eq_true rfl) ?_
      exact W.zret (v := 0) (ty := .boolean) hx hb hr rfl (fun t ht hW => ⟨⟨0, (), rfl, (by rw [nhp, if_neg c_1, if_pos c_9]), by rw [ht]; exact hP9, va_K.moved hW.alike hK, hD9⟩, hS.F ht⟩) hS.2.2 dX0_hasPlace_17
    · skip
      refine lv_iconst (v := 1) hx hb dX0_hasPlace_12 (by decide) ?_
      refine lv_goto (tgt := 17) hx hb dX0_hasPlace_13 (by decide) ?_
      have hP9 := n_Psub (wc := [(h0, .inr (2, [.ref r1, .ref r2, .ref r3, .int z]))]) hP [0] rfl
      have hD9 := hD.sub (ws' := [(h0, .inr (2, [.ref r1, .ref r2, .ref r3, .int z]))]) [0] (by decide) rfl
      refine W.widen (k := 0) (n := 0) (Nat.le_of_ble_eq_true rfl) (Nat.le_of_ble_eq_true rfl) ?_
      exact W.zret (v := 1) (ty := .boolean) hx hb hr rfl (fun t ht hW => ⟨⟨1, (), rfl, (by rw [nhp, if_neg c_1, if_neg c_9]), by rw [ht]; exact hP9, va_K.moved hW.alike hK, hD9⟩, hS.F ht⟩) hS.2.2 dX0_hasPlace_17

set_option maxHeartbeats 4000000 in
set_option maxRecDepth 100000 in
theorem mX0_letterAt (l : Launch) (G : nG) (h0 : Nat) (r1 : Nat) (r2 : Nat) (r3 : Nat) (f : Nat → Int32) (j : Nat) (sz : Nat) (hj : j < 26) (hf : nRow f) : Met l yX0_letterAt wsX0_letterAt ({ frames := 1, cells := 0, slots := 0, locals := 21 }) (va_Pc [.ref h0, .int (nI j)] (n_pp G [(h0, .inr (2, [.ref r1, .ref r2, .ref r3, .int 26])), (r1, eI G 36 f)] sz)) (va_Qi (fun (r : Int32) (_ : Unit) => r = (nI j)) (fun (_ : Unit) (t : State) => n_po G (va_A [(h0, .inr (2, [.ref r1, .ref r2, .ref r3, .int 26])), (r1, eI G 36 f)] sz) [(r1, eI G 36 f), (h0, .inr (2, [.ref r1, .ref r2, .ref r3, .int 26]))] t) (va_A [(h0, .inr (2, [.ref r1, .ref r2, .ref r3, .int 26])), (r1, eI G 36 f)] sz)) 0 0 (va_A [(h0, .inr (2, [.ref r1, .ref r2, .ref r3, .int 26])), (r1, eI G 36 f)] sz) := by
  refine Met.ofW (cc := cX0_letterAt) (maxL := 2) (ret := (some .int)) (by decide) rfl ?_
  intro p e s m args below meth c s₁ B hml hv
  obtain ⟨rfl, hsz, hP, hK, hD0⟩ := hv
  have hx := B.exec
  have hb := B.bytes
  have hr := B.returns
  have hts := atoms_spec (ws := wsX0_letterAt) B.pre
  have hown : s.vm.findClass RX0 = some m.cls := findClass_of_methodNamed B.named
  have hlocks := B.notSynchronized
  subst hsz
  have hD := hD0.self (sz := s.heap.size)
  generalize hAe : va_A [(h0, .inr (2, [.ref r1, .ref r2, .ref r3, .int 26])), (r1, eI G 36 f)] s.heap.size = A at hD ⊢
  have hA : ∀ q : Nat, s.heap.size ≤ q → A q := fun q h => by rw [← hAe]; exact Or.inr h
  have hS : va_S A s.heap s.heap [] := va_S.rf
  have hP : va_P G.1 vwCl [(h0, .inr (2, [.ref r1, .ref r2, .ref r3, .int 26])), (r1, eI G 36 f)] s.heap := hP
  have hl := lv_entry ([.ref h0, .int (nI j)]) (n := 2) (Nat.le_of_ble_eq_true rfl)
  rw [lg_entry_eq]
  generalize (lg_sl ([.ref h0, .int (nI j)]) ++ List.replicate (2 - (lg_sl ([.ref h0, .int (nI j)])).length) Slot.unset).toArray = ls at hl ⊢
  have hl : lv_has ls 2 [(0, .ref h0), (1, .int (nI j))] := hl
  obtain ⟨H, hH⟩ : ∃ z, z = s.heap := ⟨_, rfl⟩
  have hS : va_S A s.heap H [] := by rw [hH]; exact hS
  have hP : va_P G.1 vwCl [(h0, .inr (2, [.ref r1, .ref r2, .ref r3, .int 26])), (r1, eI G 36 f)] H := by rw [hH]; exact hP
  refine n_heap hH ?_
  generalize ([] : List Loc) = locs at hS ⊢
  have hiX0 : ∀ w ∈ u_ws RX0 TX0 4, w ∈ wsX0_letterAt := by decide +kernel
  refine lv_aload_n hx hb dX0_letterAt_0 rfl (lv_at hl 0 rfl) ?_
  refine lv_iload_n hx hb dX0_letterAt_1 rfl (lv_at hl 1 rfl) ?_
  refine n_ci (wr := [(r1, eI G 36 f)]) (va_runV (As := [.int (nI j)]) (rest := []) ⟨hx, hb, hml, hown, hts⟩ (mX0_hasPlace l G h0 r1 r2 r3 26 (nI j) H.size) (cwV 1 hts gX0_letterAt_X0_hasPlace rfl rfl rfl (by decide +kernel) ⟨(Nat.le_of_ble_eq_true rfl), (Nat.le_of_ble_eq_true rfl)⟩) (n_prV (ci := 2) (q0 := 0) hK hP hD [0] rfl (by decide) rfl rfl) rfl rfl hl.1 rfl (lv_room (Nat.le_of_ble_eq_true rfl)) dX0_letterAt_2 ⟨(Nat.le_of_ble_eq_true rfl), (Nat.le_of_ble_eq_true rfl)⟩) hP hD hS hA [0] [1] rfl rfl (by decide) (by decide) (fun r_1 u_2 H locs hP hD hS hw => ?_)
  have hP : va_P G.1 vwCl [(r1, eI G 36 f), (h0, .inr (2, [.ref r1, .ref r2, .ref r3, .int 26]))] H := hP
  have hD : va_D A [(r1, eI G 36 f), (h0, .inr (2, [.ref r1, .ref r2, .ref r3, .int 26]))] := hD
  have hw : r_1 = (nhp 26 (nI j)) := hw
  subst hw
  try dsimp only
  refine lv_if_eq (tgt := 17) hx hb dX0_letterAt_5 (by decide) (fun h9 => absurd h9 (nhp_nz26 hj)) (fun _ => ?_)
  refine lv_aload_n hx hb dX0_letterAt_8 rfl (lv_at hl 0 rfl) ?_
  refine va_get (D := G.1) (ci := 2) (v := .ref r1) (C := RX0) (T := TX0) (N := 4) hx hb hts hiX0 hown hK hP 1 rfl rfl 0 (by decide) (hts (.fieldLink RX0 9 "DialectDictionary$Alphabet" "row" "[I") (by decide +kernel)) (fun _ h9 => h9) rfl dX0_letterAt_9 ?_
  refine lv_iload_n hx hb dX0_letterAt_12 rfl (lv_at hl 1 rfl) ?_
  refine va_iald hx hb hK hP 0 0 rfl rfl (vp_in_nI (n := j) (by omega) (by omega)) dX0_letterAt_13 ?_
  refine n_eqi (y := (nI j)) (n_ld (v := fun j => nI j) hf hj (by decide)) ?_
  refine lv_goto (tgt := 18) hx hb dX0_letterAt_14 (by decide) ?_
  have hP9 := n_Psub (wc := [(r1, eI G 36 f), (h0, .inr (2, [.ref r1, .ref r2, .ref r3, .int 26]))]) hP [0, 1] rfl
  have hD9 := hD.sub (ws' := [(r1, eI G 36 f), (h0, .inr (2, [.ref r1, .ref r2, .ref r3, .int 26]))]) [0, 1] (by decide) rfl
  refine W.widen (k := 0) (n := 0) (Nat.le_of_ble_eq_true rfl) (Nat.le_of_ble_eq_true rfl) ?_
  exact W.iret (v := (nI j)) hx hb hr (fun t ht hW => ⟨⟨(nI j), (), rfl, rfl, by rw [ht]; exact hP9, va_K.moved hW.alike hK, hD9⟩, hS.F ht⟩) hS.2.2 dX0_letterAt_18

set_option maxHeartbeats 4000000 in
set_option maxRecDepth 100000 in
theorem mX0_firstOf (l : Launch) (G : nG) (h0 : Nat) (r1 : Nat) (r2 : Nat) (r3 : Nat) (f : Nat → Int32) (j : Nat) (sz : Nat) (hj : j < 26) (hf : nFst f) : Met l yX0_firstOf wsX0_firstOf ({ frames := 0, cells := 0, slots := 0, locals := 0 }) (va_Pc [.ref h0, .int (nI j)] (n_pp G [(h0, .inr (2, [.ref r1, .ref r2, .ref r3, .int 26])), (r2, eC G 36 f)] sz)) (va_Qi (fun (r : Int32) (_ : Unit) => r = (nI (97 + j))) (fun (_ : Unit) (t : State) => n_po G (va_A [(h0, .inr (2, [.ref r1, .ref r2, .ref r3, .int 26])), (r2, eC G 36 f)] sz) [(h0, .inr (2, [.ref r1, .ref r2, .ref r3, .int 26])), (r2, eC G 36 f)] t) (va_A [(h0, .inr (2, [.ref r1, .ref r2, .ref r3, .int 26])), (r2, eC G 36 f)] sz)) 0 0 (va_A [(h0, .inr (2, [.ref r1, .ref r2, .ref r3, .int 26])), (r2, eC G 36 f)] sz) := by
  refine Met.ofW (cc := cX0_firstOf) (maxL := 2) (ret := (some .char)) (by decide) rfl ?_
  intro p e s m args below meth c s₁ B hml hv
  obtain ⟨rfl, hsz, hP, hK, hD0⟩ := hv
  have hx := B.exec
  have hb := B.bytes
  have hr := B.returns
  have hts := atoms_spec (ws := wsX0_firstOf) B.pre
  have hown : s.vm.findClass RX0 = some m.cls := findClass_of_methodNamed B.named
  have hlocks := B.notSynchronized
  subst hsz
  have hD := hD0.self (sz := s.heap.size)
  generalize hAe : va_A [(h0, .inr (2, [.ref r1, .ref r2, .ref r3, .int 26])), (r2, eC G 36 f)] s.heap.size = A at hD ⊢
  have hA : ∀ q : Nat, s.heap.size ≤ q → A q := fun q h => by rw [← hAe]; exact Or.inr h
  have hS : va_S A s.heap s.heap [] := va_S.rf
  have hP : va_P G.1 vwCl [(h0, .inr (2, [.ref r1, .ref r2, .ref r3, .int 26])), (r2, eC G 36 f)] s.heap := hP
  have hl := lv_entry ([.ref h0, .int (nI j)]) (n := 2) (Nat.le_of_ble_eq_true rfl)
  rw [lg_entry_eq]
  generalize (lg_sl ([.ref h0, .int (nI j)]) ++ List.replicate (2 - (lg_sl ([.ref h0, .int (nI j)])).length) Slot.unset).toArray = ls at hl ⊢
  have hl : lv_has ls 2 [(0, .ref h0), (1, .int (nI j))] := hl
  obtain ⟨H, hH⟩ : ∃ z, z = s.heap := ⟨_, rfl⟩
  have hS : va_S A s.heap H [] := by rw [hH]; exact hS
  have hP : va_P G.1 vwCl [(h0, .inr (2, [.ref r1, .ref r2, .ref r3, .int 26])), (r2, eC G 36 f)] H := by rw [hH]; exact hP
  refine n_heap hH ?_
  generalize ([] : List Loc) = locs at hS ⊢
  have hiX0 : ∀ w ∈ u_ws RX0 TX0 4, w ∈ wsX0_firstOf := by decide +kernel
  refine lv_iload_n hx hb dX0_firstOf_0 rfl (lv_at hl 1 rfl) ?_
  refine lv_if_lt (tgt := 21) hx hb dX0_firstOf_1 (by decide) (fun h9 => absurd h9 (nI_pos (by omega))) (fun _ => ?_)
  refine lv_iload_n hx hb dX0_firstOf_4 rfl (lv_at hl 1 rfl) ?_
  refine lv_aload_n hx hb dX0_firstOf_5 rfl (lv_at hl 0 rfl) ?_
  refine va_get (D := G.1) (ci := 2) (v := .int 26) (C := RX0) (T := TX0) (N := 4) hx hb hts hiX0 hown hK hP 0 rfl rfl 3 (by decide) (hts (.fieldLink RX0 22 "DialectDictionary$Alphabet" "size" "I") (by decide +kernel)) (fun _ h9 => h9) rfl dX0_firstOf_6 ?_
  refine lv_icmp_ge (tgt := 21) hx hb dX0_firstOf_9 (by decide) (fun h9 => absurd h9 (nI_ge (b := 26) hj (by decide))) (fun _ => ?_)
  refine lv_aload_n hx hb dX0_firstOf_12 rfl (lv_at hl 0 rfl) ?_
  refine va_get (D := G.1) (ci := 2) (v := .ref r2) (C := RX0) (T := TX0) (N := 4) hx hb hts hiX0 hown hK hP 0 rfl rfl 1 (by decide) (hts (.fieldLink RX0 15 "DialectDictionary$Alphabet" "firsts" "[C") (by decide +kernel)) (fun _ h9 => h9) rfl dX0_firstOf_13 ?_
  refine lv_iload_n hx hb dX0_firstOf_16 rfl (lv_at hl 1 rfl) ?_
  refine va_cald hx hb hK hP 1 1 rfl rfl (vp_in_nI (n := j) (by omega) (by omega)) dX0_firstOf_17 ?_
  refine n_eqi (y := (nI (97 + j))) (n_ld (v := fun j => nI (97 + j)) hf hj (by decide)) ?_
  refine lv_goto (tgt := 23) hx hb dX0_firstOf_18 (by decide) ?_
  have hP9 := n_Psub (wc := [(h0, .inr (2, [.ref r1, .ref r2, .ref r3, .int 26])), (r2, eC G 36 f)]) hP [0, 1] rfl
  have hD9 := hD.sub (ws' := [(h0, .inr (2, [.ref r1, .ref r2, .ref r3, .int 26])), (r2, eC G 36 f)]) [0, 1] (by decide) rfl
  refine W.widen (k := 0) (n := 0) (Nat.le_of_ble_eq_true rfl) (Nat.le_of_ble_eq_true rfl) ?_
  exact W.zret (v := (nI (97 + j))) (ty := .char) hx hb hr (pk_charN (q := 97 + j) (by omega)).1 (fun t ht hW => ⟨⟨(nI (97 + j)), (), rfl, rfl, by rw [ht]; exact hP9, va_K.moved hW.alike hK, hD9⟩, hS.F ht⟩) hS.2.2 dX0_firstOf_23

set_option maxHeartbeats 4000000 in
set_option maxRecDepth 100000 in
theorem mX0_secondOf (l : Launch) (G : nG) (h0 : Nat) (r1 : Nat) (r2 : Nat) (r3 : Nat) (f : Nat → Int32) (j : Nat) (sz : Nat) (hj : j < 26) (hf : nSnd f) : Met l yX0_secondOf wsX0_secondOf ({ frames := 0, cells := 0, slots := 0, locals := 0 }) (va_Pc [.ref h0, .int (nI j)] (n_pp G [(h0, .inr (2, [.ref r1, .ref r2, .ref r3, .int 26])), (r3, eC G 36 f)] sz)) (va_Qi (fun (r : Int32) (_ : Unit) => r = 32) (fun (_ : Unit) (t : State) => n_po G (va_A [(h0, .inr (2, [.ref r1, .ref r2, .ref r3, .int 26])), (r3, eC G 36 f)] sz) [(h0, .inr (2, [.ref r1, .ref r2, .ref r3, .int 26])), (r3, eC G 36 f)] t) (va_A [(h0, .inr (2, [.ref r1, .ref r2, .ref r3, .int 26])), (r3, eC G 36 f)] sz)) 0 0 (va_A [(h0, .inr (2, [.ref r1, .ref r2, .ref r3, .int 26])), (r3, eC G 36 f)] sz) := by
  refine Met.ofW (cc := cX0_secondOf) (maxL := 2) (ret := (some .char)) (by decide) rfl ?_
  intro p e s m args below meth c s₁ B hml hv
  obtain ⟨rfl, hsz, hP, hK, hD0⟩ := hv
  have hx := B.exec
  have hb := B.bytes
  have hr := B.returns
  have hts := atoms_spec (ws := wsX0_secondOf) B.pre
  have hown : s.vm.findClass RX0 = some m.cls := findClass_of_methodNamed B.named
  have hlocks := B.notSynchronized
  subst hsz
  have hD := hD0.self (sz := s.heap.size)
  generalize hAe : va_A [(h0, .inr (2, [.ref r1, .ref r2, .ref r3, .int 26])), (r3, eC G 36 f)] s.heap.size = A at hD ⊢
  have hA : ∀ q : Nat, s.heap.size ≤ q → A q := fun q h => by rw [← hAe]; exact Or.inr h
  have hS : va_S A s.heap s.heap [] := va_S.rf
  have hP : va_P G.1 vwCl [(h0, .inr (2, [.ref r1, .ref r2, .ref r3, .int 26])), (r3, eC G 36 f)] s.heap := hP
  have hl := lv_entry ([.ref h0, .int (nI j)]) (n := 2) (Nat.le_of_ble_eq_true rfl)
  rw [lg_entry_eq]
  generalize (lg_sl ([.ref h0, .int (nI j)]) ++ List.replicate (2 - (lg_sl ([.ref h0, .int (nI j)])).length) Slot.unset).toArray = ls at hl ⊢
  have hl : lv_has ls 2 [(0, .ref h0), (1, .int (nI j))] := hl
  obtain ⟨H, hH⟩ : ∃ z, z = s.heap := ⟨_, rfl⟩
  have hS : va_S A s.heap H [] := by rw [hH]; exact hS
  have hP : va_P G.1 vwCl [(h0, .inr (2, [.ref r1, .ref r2, .ref r3, .int 26])), (r3, eC G 36 f)] H := by rw [hH]; exact hP
  refine n_heap hH ?_
  generalize ([] : List Loc) = locs at hS ⊢
  have hiX0 : ∀ w ∈ u_ws RX0 TX0 4, w ∈ wsX0_secondOf := by decide +kernel
  refine lv_iload_n hx hb dX0_secondOf_0 rfl (lv_at hl 1 rfl) ?_
  refine lv_if_lt (tgt := 21) hx hb dX0_secondOf_1 (by decide) (fun h9 => absurd h9 (nI_pos (by omega))) (fun _ => ?_)
  refine lv_iload_n hx hb dX0_secondOf_4 rfl (lv_at hl 1 rfl) ?_
  refine lv_aload_n hx hb dX0_secondOf_5 rfl (lv_at hl 0 rfl) ?_
  refine va_get (D := G.1) (ci := 2) (v := .int 26) (C := RX0) (T := TX0) (N := 4) hx hb hts hiX0 hown hK hP 0 rfl rfl 3 (by decide) (hts (.fieldLink RX0 22 "DialectDictionary$Alphabet" "size" "I") (by decide +kernel)) (fun _ h9 => h9) rfl dX0_secondOf_6 ?_
  refine lv_icmp_ge (tgt := 21) hx hb dX0_secondOf_9 (by decide) (fun h9 => absurd h9 (nI_ge (b := 26) hj (by decide))) (fun _ => ?_)
  refine lv_aload_n hx hb dX0_secondOf_12 rfl (lv_at hl 0 rfl) ?_
  refine va_get (D := G.1) (ci := 2) (v := .ref r3) (C := RX0) (T := TX0) (N := 4) hx hb hts hiX0 hown hK hP 0 rfl rfl 2 (by decide) (hts (.fieldLink RX0 19 "DialectDictionary$Alphabet" "seconds" "[C") (by decide +kernel)) (fun _ h9 => h9) rfl dX0_secondOf_13 ?_
  refine lv_iload_n hx hb dX0_secondOf_16 rfl (lv_at hl 1 rfl) ?_
  refine va_cald hx hb hK hP 1 1 rfl rfl (vp_in_nI (n := j) (by omega) (by omega)) dX0_secondOf_17 ?_
  refine n_eqi (y := 32) (n_ld (v := fun _ => 32) hf hj (by decide)) ?_
  refine lv_goto (tgt := 23) hx hb dX0_secondOf_18 (by decide) ?_
  have hP9 := n_Psub (wc := [(h0, .inr (2, [.ref r1, .ref r2, .ref r3, .int 26])), (r3, eC G 36 f)]) hP [0, 1] rfl
  have hD9 := hD.sub (ws' := [(h0, .inr (2, [.ref r1, .ref r2, .ref r3, .int 26])), (r3, eC G 36 f)]) [0, 1] (by decide) rfl
  refine W.widen (k := 0) (n := 0) (Nat.le_of_ble_eq_true rfl) (Nat.le_of_ble_eq_true rfl) ?_
  exact W.zret (v := 32) (ty := .char) hx hb hr rfl (fun t ht hW => ⟨⟨32, (), rfl, rfl, by rw [ht]; exact hP9, va_K.moved hW.alike hK, hD9⟩, hS.F ht⟩) hS.2.2 dX0_secondOf_23

set_option maxHeartbeats 4000000 in
set_option maxRecDepth 100000 in
theorem mX0_copyFrom (l : Launch) (G : nG) (h0 : Nat) (ar1 : Nat) (ar2 : Nat) (ar3 : Nat) (af : Nat → Int32) (ag : Nat → Int32) (ah : Nat → Int32) (z : Int32) (h1 : Nat) (br1 : Nat) (br2 : Nat) (br3 : Nat) (bf : Nat → Int32) (bg : Nat → Int32) (bh : Nat → Int32) (sz : Nat) (hbg : nFit bg) (hbh : nFit bh) : Met l yX0_copyFrom wsX0_copyFrom ({ frames := 1, cells := 0, slots := 0, locals := 60 }) (va_Pc [.ref h0, .ref h1] (n_pp G [(h0, .inr (2, [.ref ar1, .ref ar2, .ref ar3, .int z])), (ar1, eI G 36 af), (ar2, eC G 36 ag), (ar3, eC G 36 ah), (h1, .inr (2, [.ref br1, .ref br2, .ref br3, .int 26])), (br1, eI G 36 bf), (br2, eC G 36 bg), (br3, eC G 36 bh)] sz)) (va_Qv (fun (_ : Unit) => True) (fun (_ : Unit) (t : State) => n_po G (va_A [(h0, .inr (2, [.ref ar1, .ref ar2, .ref ar3, .int z])), (ar1, eI G 36 af), (ar2, eC G 36 ag), (ar3, eC G 36 ah), (h1, .inr (2, [.ref br1, .ref br2, .ref br3, .int 26])), (br1, eI G 36 bf), (br2, eC G 36 bg), (br3, eC G 36 bh)] sz) [(h1, .inr (2, [.ref br1, .ref br2, .ref br3, .int 26])), (br1, eI G 36 bf), (br2, eC G 36 bg), (br3, eC G 36 bh)] t) (va_A [(h0, .inr (2, [.ref ar1, .ref ar2, .ref ar3, .int z])), (ar1, eI G 36 af), (ar2, eC G 36 ag), (ar3, eC G 36 ah), (h1, .inr (2, [.ref br1, .ref br2, .ref br3, .int 26])), (br1, eI G 36 bf), (br2, eC G 36 bg), (br3, eC G 36 bh)] sz)) 0 0 (va_A [(h0, .inr (2, [.ref ar1, .ref ar2, .ref ar3, .int z])), (ar1, eI G 36 af), (ar2, eC G 36 ag), (ar3, eC G 36 ah), (h1, .inr (2, [.ref br1, .ref br2, .ref br3, .int 26])), (br1, eI G 36 bf), (br2, eC G 36 bg), (br3, eC G 36 bh)] sz) := by
  refine Met.ofW (cc := cX0_copyFrom) (maxL := 2) (ret := none) (by decide) rfl ?_
  intro p e s m args below meth c s₁ B hml hv
  obtain ⟨rfl, hsz, hP, hK, hD0⟩ := hv
  have hx := B.exec
  have hb := B.bytes
  have hr := B.returns
  have hts := atoms_spec (ws := wsX0_copyFrom) B.pre
  have hown : s.vm.findClass RX0 = some m.cls := findClass_of_methodNamed B.named
  have hlocks := B.notSynchronized
  subst hsz
  have hD := hD0.self (sz := s.heap.size)
  generalize hAe : va_A [(h0, .inr (2, [.ref ar1, .ref ar2, .ref ar3, .int z])), (ar1, eI G 36 af), (ar2, eC G 36 ag), (ar3, eC G 36 ah), (h1, .inr (2, [.ref br1, .ref br2, .ref br3, .int 26])), (br1, eI G 36 bf), (br2, eC G 36 bg), (br3, eC G 36 bh)] s.heap.size = A at hD ⊢
  have hA : ∀ q : Nat, s.heap.size ≤ q → A q := fun q h => by rw [← hAe]; exact Or.inr h
  have hS : va_S A s.heap s.heap [] := va_S.rf
  have hP : va_P G.1 vwCl [(h0, .inr (2, [.ref ar1, .ref ar2, .ref ar3, .int z])), (ar1, eI G 36 af), (ar2, eC G 36 ag), (ar3, eC G 36 ah), (h1, .inr (2, [.ref br1, .ref br2, .ref br3, .int 26])), (br1, eI G 36 bf), (br2, eC G 36 bg), (br3, eC G 36 bh)] s.heap := hP
  have hl := lv_entry ([.ref h0, .ref h1]) (n := 2) (Nat.le_of_ble_eq_true rfl)
  rw [lg_entry_eq]
  generalize (lg_sl ([.ref h0, .ref h1]) ++ List.replicate (2 - (lg_sl ([.ref h0, .ref h1])).length) Slot.unset).toArray = ls at hl ⊢
  have hl : lv_has ls 2 [(0, .ref h0), (1, .ref h1)] := hl
  obtain ⟨H, hH⟩ : ∃ z, z = s.heap := ⟨_, rfl⟩
  have hS : va_S A s.heap H [] := by rw [hH]; exact hS
  have hP : va_P G.1 vwCl [(h0, .inr (2, [.ref ar1, .ref ar2, .ref ar3, .int z])), (ar1, eI G 36 af), (ar2, eC G 36 ag), (ar3, eC G 36 ah), (h1, .inr (2, [.ref br1, .ref br2, .ref br3, .int 26])), (br1, eI G 36 bf), (br2, eC G 36 bg), (br3, eC G 36 bh)] H := by rw [hH]; exact hP
  refine n_heap hH ?_
  generalize ([] : List Loc) = locs at hS ⊢
  have hiX0 : ∀ w ∈ u_ws RX0 TX0 4, w ∈ wsX0_copyFrom := by decide +kernel
  refine lv_aload_n hx hb dX0_copyFrom_0 rfl (lv_at hl 1 rfl) ?_
  refine va_get (D := G.1) (ci := 2) (v := .ref br1) (C := RX0) (T := TX0) (N := 4) hx hb hts hiX0 hown hK hP 4 rfl rfl 0 (by decide) (hts (.fieldLink RX0 9 "DialectDictionary$Alphabet" "row" "[I") (by decide +kernel)) (fun _ h9 => h9) rfl dX0_copyFrom_1 ?_
  refine lv_iconst (v := 0) hx hb dX0_copyFrom_4 (by decide) ?_
  refine lv_aload_n hx hb dX0_copyFrom_5 rfl (lv_at hl 0 rfl) ?_
  refine va_get (D := G.1) (ci := 2) (v := .ref ar1) (C := RX0) (T := TX0) (N := 4) hx hb hts hiX0 hown hK hP 0 rfl rfl 0 (by decide) (hts (.fieldLink RX0 9 "DialectDictionary$Alphabet" "row" "[I") (by decide +kernel)) (fun _ h9 => h9) rfl dX0_copyFrom_6 ?_
  refine lv_iconst (v := 0) hx hb dX0_copyFrom_9 (by decide) ?_
  refine lv_bipush (v := 36) hx hb dX0_copyFrom_10 (by decide) ?_
  refine va_copyi hx hb (hml.trans hl.1.symm) hown (hts (.methodLink RX0 26 arraycopyName) (by decide +kernel)) (hts (.native arraycopyName) (by decide +kernel)) (hts (.static arraycopyName) (by decide +kernel)) (hts (.initialized "java/lang/System") (by decide +kernel)) hK hP hD hS 5 1 0 0 rfl rfl rfl rfl rfl (by decide) (by decide) (by decide) (by decide) (by decide) (fun i _ => rfl) (Nat.le_of_ble_eq_true rfl) (Nat.le_of_ble_eq_true rfl) dX0_copyFrom_12 (fun H locs hP hD hS => ?_)
  have hP : va_P G.1 vwCl [(h0, .inr (2, [.ref ar1, .ref ar2, .ref ar3, .int z])), (ar1, eI G 36 (va_cpy bf af ((0 : Int32).toNatClampNeg) ((0 : Int32).toNatClampNeg) ((36 : Int32).toNatClampNeg))), (ar2, eC G 36 ag), (ar3, eC G 36 ah), (h1, .inr (2, [.ref br1, .ref br2, .ref br3, .int 26])), (br1, eI G 36 bf), (br2, eC G 36 bg), (br3, eC G 36 bh)] H := hP
  have hD : va_D A [(h0, .inr (2, [.ref ar1, .ref ar2, .ref ar3, .int z])), (ar1, eI G 36 (va_cpy bf af ((0 : Int32).toNatClampNeg) ((0 : Int32).toNatClampNeg) ((36 : Int32).toNatClampNeg))), (ar2, eC G 36 ag), (ar3, eC G 36 ah), (h1, .inr (2, [.ref br1, .ref br2, .ref br3, .int 26])), (br1, eI G 36 bf), (br2, eC G 36 bg), (br3, eC G 36 bh)] := hD
  refine lv_aload_n hx hb dX0_copyFrom_15 rfl (lv_at hl 1 rfl) ?_
  refine va_get (D := G.1) (ci := 2) (v := .ref br2) (C := RX0) (T := TX0) (N := 4) hx hb hts hiX0 hown hK hP 4 rfl rfl 1 (by decide) (hts (.fieldLink RX0 15 "DialectDictionary$Alphabet" "firsts" "[C") (by decide +kernel)) (fun _ h9 => h9) rfl dX0_copyFrom_16 ?_
  refine lv_iconst (v := 0) hx hb dX0_copyFrom_19 (by decide) ?_
  refine lv_aload_n hx hb dX0_copyFrom_20 rfl (lv_at hl 0 rfl) ?_
  refine va_get (D := G.1) (ci := 2) (v := .ref ar2) (C := RX0) (T := TX0) (N := 4) hx hb hts hiX0 hown hK hP 0 rfl rfl 1 (by decide) (hts (.fieldLink RX0 15 "DialectDictionary$Alphabet" "firsts" "[C") (by decide +kernel)) (fun _ h9 => h9) rfl dX0_copyFrom_21 ?_
  refine lv_iconst (v := 0) hx hb dX0_copyFrom_24 (by decide) ?_
  refine lv_bipush (v := 36) hx hb dX0_copyFrom_25 (by decide) ?_
  refine va_copyi hx hb (hml.trans hl.1.symm) hown (hts (.methodLink RX0 26 arraycopyName) (by decide +kernel)) (hts (.native arraycopyName) (by decide +kernel)) (hts (.static arraycopyName) (by decide +kernel)) (hts (.initialized "java/lang/System") (by decide +kernel)) hK hP hD hS 6 2 1 1 rfl rfl rfl rfl rfl (by decide) (by decide) (by decide) (by decide) (by decide) (fun i _ => hbg _) (Nat.le_of_ble_eq_true rfl) (Nat.le_of_ble_eq_true rfl) dX0_copyFrom_27 (fun H locs hP hD hS => ?_)
  have hP : va_P G.1 vwCl [(h0, .inr (2, [.ref ar1, .ref ar2, .ref ar3, .int z])), (ar1, eI G 36 (va_cpy bf af ((0 : Int32).toNatClampNeg) ((0 : Int32).toNatClampNeg) ((36 : Int32).toNatClampNeg))), (ar2, eC G 36 (va_cpy bg ag ((0 : Int32).toNatClampNeg) ((0 : Int32).toNatClampNeg) ((36 : Int32).toNatClampNeg))), (ar3, eC G 36 ah), (h1, .inr (2, [.ref br1, .ref br2, .ref br3, .int 26])), (br1, eI G 36 bf), (br2, eC G 36 bg), (br3, eC G 36 bh)] H := hP
  have hD : va_D A [(h0, .inr (2, [.ref ar1, .ref ar2, .ref ar3, .int z])), (ar1, eI G 36 (va_cpy bf af ((0 : Int32).toNatClampNeg) ((0 : Int32).toNatClampNeg) ((36 : Int32).toNatClampNeg))), (ar2, eC G 36 (va_cpy bg ag ((0 : Int32).toNatClampNeg) ((0 : Int32).toNatClampNeg) ((36 : Int32).toNatClampNeg))), (ar3, eC G 36 ah), (h1, .inr (2, [.ref br1, .ref br2, .ref br3, .int 26])), (br1, eI G 36 bf), (br2, eC G 36 bg), (br3, eC G 36 bh)] := hD
  refine lv_aload_n hx hb dX0_copyFrom_30 rfl (lv_at hl 1 rfl) ?_
  refine va_get (D := G.1) (ci := 2) (v := .ref br3) (C := RX0) (T := TX0) (N := 4) hx hb hts hiX0 hown hK hP 4 rfl rfl 2 (by decide) (hts (.fieldLink RX0 19 "DialectDictionary$Alphabet" "seconds" "[C") (by decide +kernel)) (fun _ h9 => h9) rfl dX0_copyFrom_31 ?_
  refine lv_iconst (v := 0) hx hb dX0_copyFrom_34 (by decide) ?_
  refine lv_aload_n hx hb dX0_copyFrom_35 rfl (lv_at hl 0 rfl) ?_
  refine va_get (D := G.1) (ci := 2) (v := .ref ar3) (C := RX0) (T := TX0) (N := 4) hx hb hts hiX0 hown hK hP 0 rfl rfl 2 (by decide) (hts (.fieldLink RX0 19 "DialectDictionary$Alphabet" "seconds" "[C") (by decide +kernel)) (fun _ h9 => h9) rfl dX0_copyFrom_36 ?_
  refine lv_iconst (v := 0) hx hb dX0_copyFrom_39 (by decide) ?_
  refine lv_bipush (v := 36) hx hb dX0_copyFrom_40 (by decide) ?_
  refine va_copyi hx hb (hml.trans hl.1.symm) hown (hts (.methodLink RX0 26 arraycopyName) (by decide +kernel)) (hts (.native arraycopyName) (by decide +kernel)) (hts (.static arraycopyName) (by decide +kernel)) (hts (.initialized "java/lang/System") (by decide +kernel)) hK hP hD hS 7 3 1 1 rfl rfl rfl rfl rfl (by decide) (by decide) (by decide) (by decide) (by decide) (fun i _ => hbh _) (Nat.le_of_ble_eq_true rfl) (Nat.le_of_ble_eq_true rfl) dX0_copyFrom_42 (fun H locs hP hD hS => ?_)
  have hP : va_P G.1 vwCl [(h0, .inr (2, [.ref ar1, .ref ar2, .ref ar3, .int z])), (ar1, eI G 36 (va_cpy bf af ((0 : Int32).toNatClampNeg) ((0 : Int32).toNatClampNeg) ((36 : Int32).toNatClampNeg))), (ar2, eC G 36 (va_cpy bg ag ((0 : Int32).toNatClampNeg) ((0 : Int32).toNatClampNeg) ((36 : Int32).toNatClampNeg))), (ar3, eC G 36 (va_cpy bh ah ((0 : Int32).toNatClampNeg) ((0 : Int32).toNatClampNeg) ((36 : Int32).toNatClampNeg))), (h1, .inr (2, [.ref br1, .ref br2, .ref br3, .int 26])), (br1, eI G 36 bf), (br2, eC G 36 bg), (br3, eC G 36 bh)] H := hP
  have hD : va_D A [(h0, .inr (2, [.ref ar1, .ref ar2, .ref ar3, .int z])), (ar1, eI G 36 (va_cpy bf af ((0 : Int32).toNatClampNeg) ((0 : Int32).toNatClampNeg) ((36 : Int32).toNatClampNeg))), (ar2, eC G 36 (va_cpy bg ag ((0 : Int32).toNatClampNeg) ((0 : Int32).toNatClampNeg) ((36 : Int32).toNatClampNeg))), (ar3, eC G 36 (va_cpy bh ah ((0 : Int32).toNatClampNeg) ((0 : Int32).toNatClampNeg) ((36 : Int32).toNatClampNeg))), (h1, .inr (2, [.ref br1, .ref br2, .ref br3, .int 26])), (br1, eI G 36 bf), (br2, eC G 36 bg), (br3, eC G 36 bh)] := hD
  refine lv_aload_n hx hb dX0_copyFrom_45 rfl (lv_at hl 0 rfl) ?_
  refine lv_aload_n hx hb dX0_copyFrom_46 rfl (lv_at hl 1 rfl) ?_
  refine va_get (D := G.1) (ci := 2) (v := .int 26) (C := RX0) (T := TX0) (N := 4) hx hb hts hiX0 hown hK hP 4 rfl rfl 3 (by decide) (hts (.fieldLink RX0 22 "DialectDictionary$Alphabet" "size" "I") (by decide +kernel)) (fun _ h9 => h9) rfl dX0_copyFrom_47 ?_
  refine va_put (D := G.1) (ci := 2) (v := .int 26) (ty := .int) (C := RX0) (T := TX0) (N := 4) hx hb hts hiX0 tyX0 tyX0_ok nmX0 hown hK hP hD hS 0 rfl rfl 3 (by decide) (hts (.fieldLink RX0 22 "DialectDictionary$Alphabet" "size" "I") (by decide +kernel)) (fun _ h9 => h9) rfl (by decide +kernel) rfl rfl (Nat.le_of_ble_eq_true rfl) dX0_copyFrom_50 (fun H locs hP hD hS => ?_)
  have hP : va_P G.1 vwCl [(h0, .inr (2, [.ref ar1, .ref ar2, .ref ar3, .int 26])), (ar1, eI G 36 (va_cpy bf af ((0 : Int32).toNatClampNeg) ((0 : Int32).toNatClampNeg) ((36 : Int32).toNatClampNeg))), (ar2, eC G 36 (va_cpy bg ag ((0 : Int32).toNatClampNeg) ((0 : Int32).toNatClampNeg) ((36 : Int32).toNatClampNeg))), (ar3, eC G 36 (va_cpy bh ah ((0 : Int32).toNatClampNeg) ((0 : Int32).toNatClampNeg) ((36 : Int32).toNatClampNeg))), (h1, .inr (2, [.ref br1, .ref br2, .ref br3, .int 26])), (br1, eI G 36 bf), (br2, eC G 36 bg), (br3, eC G 36 bh)] H := hP
  have hD : va_D A [(h0, .inr (2, [.ref ar1, .ref ar2, .ref ar3, .int 26])), (ar1, eI G 36 (va_cpy bf af ((0 : Int32).toNatClampNeg) ((0 : Int32).toNatClampNeg) ((36 : Int32).toNatClampNeg))), (ar2, eC G 36 (va_cpy bg ag ((0 : Int32).toNatClampNeg) ((0 : Int32).toNatClampNeg) ((36 : Int32).toNatClampNeg))), (ar3, eC G 36 (va_cpy bh ah ((0 : Int32).toNatClampNeg) ((0 : Int32).toNatClampNeg) ((36 : Int32).toNatClampNeg))), (h1, .inr (2, [.ref br1, .ref br2, .ref br3, .int 26])), (br1, eI G 36 bf), (br2, eC G 36 bg), (br3, eC G 36 bh)] := hD
  have hP9 := n_Psub (wc := [(h1, .inr (2, [.ref br1, .ref br2, .ref br3, .int 26])), (br1, eI G 36 bf), (br2, eC G 36 bg), (br3, eC G 36 bh)]) hP [4, 5, 6, 7] rfl
  have hD9 := hD.sub (ws' := [(h1, .inr (2, [.ref br1, .ref br2, .ref br3, .int 26])), (br1, eI G 36 bf), (br2, eC G 36 bg), (br3, eC G 36 bh)]) [4, 5, 6, 7] (by decide) rfl
  refine W.widen (k := 0) (n := 0) (Nat.le_of_ble_eq_true rfl) (Nat.le_of_ble_eq_true rfl) ?_
  exact W.vret hx hb hr (fun t ht hW => ⟨⟨(), rfl, trivial, by rw [ht]; exact hP9, va_K.moved hW.alike hK, hD9⟩, hS.F ht⟩) hS.2.2 dX0_copyFrom_53

set_option maxHeartbeats 4000000 in
set_option maxRecDepth 100000 in
theorem mX0_letterOfSigns (l : Launch) (G : nG) (h0 : Nat) (r1 : Nat) (r2 : Nat) (r3 : Nat) (f : Nat → Int32) (g : Nat → Int32) (h : Nat → Int32) (c1 : Int32) (c2 : Int32) (sz : Nat) (hf : nSnd h) (hc : ¬ 32 = c2) : Met l yX0_letterOfSigns wsX0_letterOfSigns ({ frames := 0, cells := 0, slots := 0, locals := 0 }) (va_Pc [.ref h0, .int c1, .int c2] (n_pp G [(h0, .inr (2, [.ref r1, .ref r2, .ref r3, .int 26])), (r1, eI G 36 f), (r2, eC G 36 g), (r3, eC G 36 h)] sz)) (va_Qi (fun (r : Int32) (_ : Unit) => r = (-1)) (fun (_ : Unit) (t : State) => n_po G (va_A [(h0, .inr (2, [.ref r1, .ref r2, .ref r3, .int 26])), (r1, eI G 36 f), (r2, eC G 36 g), (r3, eC G 36 h)] sz) [(h0, .inr (2, [.ref r1, .ref r2, .ref r3, .int 26])), (r1, eI G 36 f), (r2, eC G 36 g), (r3, eC G 36 h)] t) (va_A [(h0, .inr (2, [.ref r1, .ref r2, .ref r3, .int 26])), (r1, eI G 36 f), (r2, eC G 36 g), (r3, eC G 36 h)] sz)) 0 0 (va_A [(h0, .inr (2, [.ref r1, .ref r2, .ref r3, .int 26])), (r1, eI G 36 f), (r2, eC G 36 g), (r3, eC G 36 h)] sz) := by
  refine Met.ofW (cc := cX0_letterOfSigns) (maxL := 4) (ret := (some .int)) (by decide) rfl ?_
  intro p e s m args below meth c s₁ B hml hv
  obtain ⟨rfl, hsz, hP, hK, hD0⟩ := hv
  have hx := B.exec
  have hb := B.bytes
  have hr := B.returns
  have hts := atoms_spec (ws := wsX0_letterOfSigns) B.pre
  have hown : s.vm.findClass RX0 = some m.cls := findClass_of_methodNamed B.named
  have hlocks := B.notSynchronized
  subst hsz
  have hD := hD0.self (sz := s.heap.size)
  generalize hAe : va_A [(h0, .inr (2, [.ref r1, .ref r2, .ref r3, .int 26])), (r1, eI G 36 f), (r2, eC G 36 g), (r3, eC G 36 h)] s.heap.size = A at hD ⊢
  have hA : ∀ q : Nat, s.heap.size ≤ q → A q := fun q h => by rw [← hAe]; exact Or.inr h
  have hS : va_S A s.heap s.heap [] := va_S.rf
  have hP : va_P G.1 vwCl [(h0, .inr (2, [.ref r1, .ref r2, .ref r3, .int 26])), (r1, eI G 36 f), (r2, eC G 36 g), (r3, eC G 36 h)] s.heap := hP
  have hl := lv_entry ([.ref h0, .int c1, .int c2]) (n := 4) (Nat.le_of_ble_eq_true rfl)
  rw [lg_entry_eq]
  generalize (lg_sl ([.ref h0, .int c1, .int c2]) ++ List.replicate (4 - (lg_sl ([.ref h0, .int c1, .int c2])).length) Slot.unset).toArray = ls at hl ⊢
  have hl : lv_has ls 4 [(0, .ref h0), (1, .int c1), (2, .int c2)] := hl
  obtain ⟨H, hH⟩ : ∃ z, z = s.heap := ⟨_, rfl⟩
  have hS : va_S A s.heap H [] := by rw [hH]; exact hS
  have hP : va_P G.1 vwCl [(h0, .inr (2, [.ref r1, .ref r2, .ref r3, .int 26])), (r1, eI G 36 f), (r2, eC G 36 g), (r3, eC G 36 h)] H := by rw [hH]; exact hP
  refine n_heap hH ?_
  generalize ([] : List Loc) = locs at hS ⊢
  have hiX0 : ∀ w ∈ u_ws RX0 TX0 4, w ∈ wsX0_letterOfSigns := by decide +kernel
  refine lv_iconst (v := 0) hx hb dX0_letterOfSigns_0 (by decide) ?_
  refine lv_istore_n (lv' := [(3, .int 0), (0, .ref h0), (1, .int c1), (2, .int c2)]) hx hb dX0_letterOfSigns_1 rfl hl (by decide) rfl (fun ls hl => ?_)
  have key : ∀ (n i : Nat), i + n = 26 → ∀ (ls : Array Slot), lv_has ls 4 [(3, .int (nI i)), (0, .ref h0), (1, .int c1), (2, .int c2)] → W p l e (headSpec wsX0_letterOfSigns ({ frames := 0, cells := 0, slots := 0, locals := 0 })).room s m (([.ref h0, .int c1, .int c2] : List Value).toArray) below meth c H locs 0 0 (MQ below (va_Qi (fun (r : Int32) (_ : Unit) => r = (-1)) (fun (_ : Unit) (t : State) => n_po G A [(h0, .inr (2, [.ref r1, .ref r2, .ref r3, .int 26])), (r1, eI G 36 f), (r2, eC G 36 g), (r3, eC G 36 h)] t) A) (([.ref h0, .int c1, .int c2] : List Value).toArray) s 0 0 A) (F0 m 2 ls []) := by
    intro n
    induction n with
    | zero =>
      intro i hi ls hl
      obtain rfl : i = 26 := by omega
      refine lv_iload_n hx hb dX0_letterOfSigns_2 rfl (lv_at hl 0 rfl) ?_
      refine lv_aload_n hx hb dX0_letterOfSigns_3 rfl (lv_at hl 1 rfl) ?_
      refine va_get (D := G.1) (ci := 2) (v := .int 26) (C := RX0) (T := TX0) (N := 4) hx hb hts hiX0 hown hK hP 0 rfl rfl 3 (by decide) (hts (.fieldLink RX0 22 "DialectDictionary$Alphabet" "size" "I") (by decide +kernel)) (fun _ h9 => h9) rfl dX0_letterOfSigns_4 ?_
      refine lv_icmp_ge (tgt := 38) hx hb dX0_letterOfSigns_7 (by decide) (fun _ => ?_) (fun h9 => absurd (by decide) h9)
      refine lv_iconst (v := -1) hx hb dX0_letterOfSigns_38 (by decide) ?_
      have hP9 := n_Psub (wc := [(h0, .inr (2, [.ref r1, .ref r2, .ref r3, .int 26])), (r1, eI G 36 f), (r2, eC G 36 g), (r3, eC G 36 h)]) hP [0, 1, 2, 3] rfl
      have hD9 := hD.sub (ws' := [(h0, .inr (2, [.ref r1, .ref r2, .ref r3, .int 26])), (r1, eI G 36 f), (r2, eC G 36 g), (r3, eC G 36 h)]) [0, 1, 2, 3] (by decide) rfl
      refine W.widen (k := 0) (n := 0) (Nat.le_of_ble_eq_true rfl) (Nat.le_of_ble_eq_true rfl) ?_
      exact W.iret (v := (-1)) hx hb hr (fun t ht hW => ⟨⟨(-1), (), rfl, rfl, by rw [ht]; exact hP9, va_K.moved hW.alike hK, hD9⟩, hS.F ht⟩) hS.2.2 dX0_letterOfSigns_39
    | succ n ih =>
      intro i hi ls hl
      refine lv_iload_n hx hb dX0_letterOfSigns_2 rfl (lv_at hl 0 rfl) ?_
      refine lv_aload_n hx hb dX0_letterOfSigns_3 rfl (lv_at hl 1 rfl) ?_
      refine va_get (D := G.1) (ci := 2) (v := .int 26) (C := RX0) (T := TX0) (N := 4) hx hb hts hiX0 hown hK hP 0 rfl rfl 3 (by decide) (hts (.fieldLink RX0 22 "DialectDictionary$Alphabet" "size" "I") (by decide +kernel)) (fun _ h9 => h9) rfl dX0_letterOfSigns_4 ?_
      refine lv_icmp_ge (tgt := 38) hx hb dX0_letterOfSigns_7 (by decide) (fun h9 => absurd h9 (nI_ge (b := 26) (by omega) (by decide))) (fun _ => ?_)
      refine lv_aload_n hx hb dX0_letterOfSigns_10 rfl (lv_at hl 1 rfl) ?_
      refine va_get (D := G.1) (ci := 2) (v := .ref r2) (C := RX0) (T := TX0) (N := 4) hx hb hts hiX0 hown hK hP 0 rfl rfl 1 (by decide) (hts (.fieldLink RX0 15 "DialectDictionary$Alphabet" "firsts" "[C") (by decide +kernel)) (fun _ h9 => h9) rfl dX0_letterOfSigns_11 ?_
      refine lv_iload_n hx hb dX0_letterOfSigns_14 rfl (lv_at hl 0 rfl) ?_
      refine va_cald hx hb hK hP 2 1 rfl rfl (vp_in_nI (n := i) (by omega) (by omega)) dX0_letterOfSigns_15 ?_
      refine lv_iload_n hx hb dX0_letterOfSigns_16 rfl (lv_at hl 2 rfl) ?_
      refine lv_icmp_ne (tgt := 32) hx hb dX0_letterOfSigns_17 (by decide) (fun c_17 => ?_) (fun c_17 => ?_)
      · skip
        refine lv_iinc (v := (nI (i + 1))) (lv' := [(3, .int (nI (i + 1))), (0, .ref h0), (1, .int c1), (2, .int c2)]) hx hb dX0_letterOfSigns_32 hl (k := 0) rfl (nI_1 i) (by decide) rfl (fun ls hl => ?_)
        refine lv_goto (tgt := 2) hx hb dX0_letterOfSigns_35 (by decide) ?_
        exact ih (i + 1) (by omega) ls (lv_sub hl [0,1,2,3] rfl)
      · skip
        refine lv_aload_n hx hb dX0_letterOfSigns_20 rfl (lv_at hl 1 rfl) ?_
        refine va_get (D := G.1) (ci := 2) (v := .ref r3) (C := RX0) (T := TX0) (N := 4) hx hb hts hiX0 hown hK hP 0 rfl rfl 2 (by decide) (hts (.fieldLink RX0 19 "DialectDictionary$Alphabet" "seconds" "[C") (by decide +kernel)) (fun _ h9 => h9) rfl dX0_letterOfSigns_21 ?_
        refine lv_iload_n hx hb dX0_letterOfSigns_24 rfl (lv_at hl 0 rfl) ?_
        refine va_cald hx hb hK hP 3 1 rfl rfl (vp_in_nI (n := i) (by omega) (by omega)) dX0_letterOfSigns_25 ?_
        refine n_eqi (y := 32) (n_ld (v := fun _ => 32) hf (show i < 26 by omega) (by decide)) ?_
        refine lv_iload_n hx hb dX0_letterOfSigns_26 rfl (lv_at hl 3 rfl) ?_
        refine lv_icmp_ne (tgt := 32) hx hb dX0_letterOfSigns_27 (by decide) (fun _ => ?_) (fun h9 => absurd h9 hc)
        refine lv_iinc (v := (nI (i + 1))) (lv' := [(3, .int (nI (i + 1))), (0, .ref h0), (1, .int c1), (2, .int c2)]) hx hb dX0_letterOfSigns_32 hl (k := 0) rfl (nI_1 i) (by decide) rfl (fun ls hl => ?_)
        refine lv_goto (tgt := 2) hx hb dX0_letterOfSigns_35 (by decide) ?_
        exact ih (i + 1) (by omega) ls (lv_sub hl [0,1,2,3] rfl)
  exact key 26 0 rfl ls (lv_sub hl [0,1,2,3] rfl)

set_option maxHeartbeats 4000000 in
set_option maxRecDepth 100000 in
theorem mX0_shift (l : Launch) (G : nG) (h0 : Nat) (r1 : Nat) (r2 : Nat) (r3 : Nat) (f : Nat → Int32) (a : Nat) (b : Nat) (zn : Nat) (sz : Nat) (hzn : zn ≤ 36) (ha : a < zn) (hb9 : b < zn) : Met l yX0_shift wsX0_shift ({ frames := 1, cells := 0, slots := 0, locals := 21 }) (va_Pc [.ref h0, .int (nI a), .int (nI b)] (n_pp G [(h0, .inr (2, [.ref r1, .ref r2, .ref r3, .int (nI zn)])), (r1, eI G 36 f)] sz)) (va_Qv (fun (_ : Unit) => True) (fun (_ : Unit) (t : State) => n_po G (va_A [(h0, .inr (2, [.ref r1, .ref r2, .ref r3, .int (nI zn)])), (r1, eI G 36 f)] sz) [(h0, .inr (2, [.ref r1, .ref r2, .ref r3, .int (nI zn)]))] t) (va_A [(h0, .inr (2, [.ref r1, .ref r2, .ref r3, .int (nI zn)])), (r1, eI G 36 f)] sz)) 0 0 (va_A [(h0, .inr (2, [.ref r1, .ref r2, .ref r3, .int (nI zn)])), (r1, eI G 36 f)] sz) := by
  refine Met.ofW (cc := cX0_shift) (maxL := 5) (ret := none) (by decide) rfl ?_
  intro p e s m args below meth c s₁ B hml hv
  obtain ⟨rfl, hsz, hP, hK, hD0⟩ := hv
  have hx := B.exec
  have hb := B.bytes
  have hr := B.returns
  have hts := atoms_spec (ws := wsX0_shift) B.pre
  have hown : s.vm.findClass RX0 = some m.cls := findClass_of_methodNamed B.named
  have hlocks := B.notSynchronized
  subst hsz
  have hD := hD0.self (sz := s.heap.size)
  generalize hAe : va_A [(h0, .inr (2, [.ref r1, .ref r2, .ref r3, .int (nI zn)])), (r1, eI G 36 f)] s.heap.size = A at hD ⊢
  have hA : ∀ q : Nat, s.heap.size ≤ q → A q := fun q h => by rw [← hAe]; exact Or.inr h
  have hS : va_S A s.heap s.heap [] := va_S.rf
  have hP : va_P G.1 vwCl [(h0, .inr (2, [.ref r1, .ref r2, .ref r3, .int (nI zn)])), (r1, eI G 36 f)] s.heap := hP
  have hl := lv_entry ([.ref h0, .int (nI a), .int (nI b)]) (n := 5) (Nat.le_of_ble_eq_true rfl)
  rw [lg_entry_eq]
  generalize (lg_sl ([.ref h0, .int (nI a), .int (nI b)]) ++ List.replicate (5 - (lg_sl ([.ref h0, .int (nI a), .int (nI b)])).length) Slot.unset).toArray = ls at hl ⊢
  have hl : lv_has ls 5 [(0, .ref h0), (1, .int (nI a)), (2, .int (nI b))] := hl
  obtain ⟨H, hH⟩ : ∃ z, z = s.heap := ⟨_, rfl⟩
  have hS : va_S A s.heap H [] := by rw [hH]; exact hS
  have hP : va_P G.1 vwCl [(h0, .inr (2, [.ref r1, .ref r2, .ref r3, .int (nI zn)])), (r1, eI G 36 f)] H := by rw [hH]; exact hP
  refine n_heap hH ?_
  generalize ([] : List Loc) = locs at hS ⊢
  have hiX0 : ∀ w ∈ u_ws RX0 TX0 4, w ∈ wsX0_shift := by decide +kernel
  refine lv_aload_n hx hb dX0_shift_0 rfl (lv_at hl 0 rfl) ?_
  refine lv_iload_n hx hb dX0_shift_1 rfl (lv_at hl 1 rfl) ?_
  refine n_ci (wr := [(r1, eI G 36 f)]) (va_runV (As := [.int (nI a)]) (rest := []) ⟨hx, hb, hml, hown, hts⟩ (mX0_hasPlace l G h0 r1 r2 r3 (nI zn) (nI a) H.size) (cwV 1 hts gX0_shift_X0_hasPlace rfl rfl rfl (by decide +kernel) ⟨(Nat.le_of_ble_eq_true rfl), (Nat.le_of_ble_eq_true rfl)⟩) (n_prV (ci := 2) (q0 := 0) hK hP hD [0] rfl (by decide) rfl rfl) rfl rfl hl.1 rfl (lv_room (Nat.le_of_ble_eq_true rfl)) dX0_shift_2 ⟨(Nat.le_of_ble_eq_true rfl), (Nat.le_of_ble_eq_true rfl)⟩) hP hD hS hA [0] [1] rfl rfl (by decide) (by decide) (fun r_1 u_2 H locs hP hD hS hw => ?_)
  have hP : va_P G.1 vwCl [(r1, eI G 36 f), (h0, .inr (2, [.ref r1, .ref r2, .ref r3, .int (nI zn)]))] H := hP
  have hD : va_D A [(r1, eI G 36 f), (h0, .inr (2, [.ref r1, .ref r2, .ref r3, .int (nI zn)]))] := hD
  have hw : r_1 = (nhp (nI zn) (nI a)) := hw
  subst hw
  try dsimp only
  refine lv_if_eq (tgt := 16) hx hb dX0_shift_5 (by decide) (fun h9 => absurd h9 (by rw [nhp_in ha (by omega)]; decide)) (fun _ => ?_)
  refine lv_aload_n hx hb dX0_shift_8 rfl (lv_at hl 0 rfl) ?_
  refine lv_iload_n hx hb dX0_shift_9 rfl (lv_at hl 2 rfl) ?_
  refine n_ci (wr := [(r1, eI G 36 f)]) (va_runV (As := [.int (nI b)]) (rest := []) ⟨hx, hb, hml, hown, hts⟩ (mX0_hasPlace l G h0 r1 r2 r3 (nI zn) (nI b) H.size) (cwV 1 hts gX0_shift_X0_hasPlace rfl rfl rfl (by decide +kernel) ⟨(Nat.le_of_ble_eq_true rfl), (Nat.le_of_ble_eq_true rfl)⟩) (n_prV (ci := 2) (q0 := 1) hK hP hD [1] rfl (by decide) rfl rfl) rfl rfl hl.1 rfl (lv_room (Nat.le_of_ble_eq_true rfl)) dX0_shift_10 ⟨(Nat.le_of_ble_eq_true rfl), (Nat.le_of_ble_eq_true rfl)⟩) hP hD hS hA [1] [0] rfl rfl (by decide) (by decide) (fun r_3 u_4 H locs hP hD hS hw => ?_)
  have hP : va_P G.1 vwCl [(r1, eI G 36 f), (h0, .inr (2, [.ref r1, .ref r2, .ref r3, .int (nI zn)]))] H := hP
  have hD : va_D A [(r1, eI G 36 f), (h0, .inr (2, [.ref r1, .ref r2, .ref r3, .int (nI zn)]))] := hD
  have hw : r_3 = (nhp (nI zn) (nI b)) := hw
  subst hw
  try dsimp only
  refine lv_if_ne (tgt := 17) hx hb dX0_shift_13 (by decide) (fun _ => ?_) (fun h9 => absurd h9 (by rw [nhp_in hb9 (by omega)]; decide))
  refine lv_aload_n hx hb dX0_shift_17 rfl (lv_at hl 0 rfl) ?_
  refine va_get (D := G.1) (ci := 2) (v := .ref r1) (C := RX0) (T := TX0) (N := 4) hx hb hts hiX0 hown hK hP 1 rfl rfl 0 (by decide) (hts (.fieldLink RX0 9 "DialectDictionary$Alphabet" "row" "[I") (by decide +kernel)) (fun _ h9 => h9) rfl dX0_shift_18 ?_
  refine lv_iload_n hx hb dX0_shift_21 rfl (lv_at hl 1 rfl) ?_
  refine va_iald hx hb hK hP 0 0 rfl rfl (vp_in_nI (n := a) (by omega) (by omega)) dX0_shift_22 ?_
  refine lv_istore_n (lv' := [(3, .int (f (((nI a) : Int32).toNatClampNeg))), (0, .ref h0), (1, .int (nI a)), (2, .int (nI b))]) hx hb dX0_shift_23 rfl hl (by decide) rfl (fun ls hl => ?_)
  refine lv_iload_n hx hb dX0_shift_24 rfl (lv_at hl 2 rfl) ?_
  refine lv_istore (lv' := [(4, .int (nI a)), (3, .int (f (((nI a) : Int32).toNatClampNeg))), (0, .ref h0), (1, .int (nI a)), (2, .int (nI b))]) hx hb dX0_shift_25 hl (by decide) rfl (fun ls hl => ?_)
  have k2 : ∀ (w9 : Nat), w9 < zn → ∀ (x3 : Int32) (f9 : Nat → Int32) (H : Heap) (locs : List Loc) (ls : Array Slot), va_P G.1 vwCl [(r1, eI G 36 f9), (h0, .inr (2, [.ref r1, .ref r2, .ref r3, .int (nI zn)]))] H → va_D A [(r1, eI G 36 f9), (h0, .inr (2, [.ref r1, .ref r2, .ref r3, .int (nI zn)]))] → va_S A s.heap H locs → lv_has ls 5 [(4, .int (nI w9)), (3, .int x3), (0, .ref h0), (1, .int (nI a)), (2, .int (nI b))] → W p l e (headSpec wsX0_shift ({ frames := 1, cells := 0, slots := 0, locals := 21 })).room s m (([.ref h0, .int (nI a), .int (nI b)] : List Value).toArray) below meth c H locs 0 0 (MQ below (va_Qv (fun (_ : Unit) => True) (fun (_ : Unit) (t : State) => n_po G A [(h0, .inr (2, [.ref r1, .ref r2, .ref r3, .int (nI zn)]))] t) A) (([.ref h0, .int (nI a), .int (nI b)] : List Value).toArray) s 0 0 A) (F0 m 58 ls []) := by
    intro w9
    induction w9 with
    | zero =>
      intro hp x3 f9 H locs ls hP hD hS hl
      refine lv_iload hx hb dX0_shift_58 (lv_at hl 0 rfl) ?_
      refine lv_iload_n hx hb dX0_shift_60 rfl (lv_at hl 4 rfl) ?_
      refine lv_icmp_le (tgt := 86) hx hb dX0_shift_61 (by decide) (fun _ => ?_) (fun h9 => absurd (nI_le (Nat.zero_le b) (by omega)) h9)
      refine lv_aload_n hx hb dX0_shift_86 rfl (lv_at hl 2 rfl) ?_
      refine va_get (D := G.1) (ci := 2) (v := .ref r1) (C := RX0) (T := TX0) (N := 4) hx hb hts hiX0 hown hK hP 1 rfl rfl 0 (by decide) (hts (.fieldLink RX0 9 "DialectDictionary$Alphabet" "row" "[I") (by decide +kernel)) (fun _ h9 => h9) rfl dX0_shift_87 ?_
      refine lv_iload_n hx hb dX0_shift_90 rfl (lv_at hl 4 rfl) ?_
      refine lv_iload_n hx hb dX0_shift_91 rfl (lv_at hl 1 rfl) ?_
      refine va_iast hx hb hK hP hD hS 0 0 rfl rfl (vp_in_nI (n := b) (by omega) (by omega)) dX0_shift_92 (fun H locs hP hD hS => ?_)
      have hP : va_P G.1 vwCl [(r1, eI G 36 (upd f9 (((nI b) : Int32).toNatClampNeg) x3)), (h0, .inr (2, [.ref r1, .ref r2, .ref r3, .int (nI zn)]))] H := hP
      have hD : va_D A [(r1, eI G 36 (upd f9 (((nI b) : Int32).toNatClampNeg) x3)), (h0, .inr (2, [.ref r1, .ref r2, .ref r3, .int (nI zn)]))] := hD
      have hP9 := n_Psub (wc := [(h0, .inr (2, [.ref r1, .ref r2, .ref r3, .int (nI zn)]))]) hP [1] rfl
      have hD9 := hD.sub (ws' := [(h0, .inr (2, [.ref r1, .ref r2, .ref r3, .int (nI zn)]))]) [1] (by decide) rfl
      refine W.widen (k := 0) (n := 0) (Nat.le_of_ble_eq_true rfl) (Nat.le_of_ble_eq_true rfl) ?_
      exact W.vret hx hb hr (fun t ht hW => ⟨⟨(), rfl, trivial, by rw [ht]; exact hP9, va_K.moved hW.alike hK, hD9⟩, hS.F ht⟩) hS.2.2 dX0_shift_93
    | succ w9 ih =>
      intro hp x3 f9 H locs ls hP hD hS hl
      refine lv_iload hx hb dX0_shift_58 (lv_at hl 0 rfl) ?_
      refine lv_iload_n hx hb dX0_shift_60 rfl (lv_at hl 4 rfl) ?_
      refine lv_icmp_le (tgt := 86) hx hb dX0_shift_61 (by decide) (fun c_61 => ?_) (fun c_61 => ?_)
      · skip
        refine lv_aload_n hx hb dX0_shift_86 rfl (lv_at hl 2 rfl) ?_
        refine va_get (D := G.1) (ci := 2) (v := .ref r1) (C := RX0) (T := TX0) (N := 4) hx hb hts hiX0 hown hK hP 1 rfl rfl 0 (by decide) (hts (.fieldLink RX0 9 "DialectDictionary$Alphabet" "row" "[I") (by decide +kernel)) (fun _ h9 => h9) rfl dX0_shift_87 ?_
        refine lv_iload_n hx hb dX0_shift_90 rfl (lv_at hl 4 rfl) ?_
        refine lv_iload_n hx hb dX0_shift_91 rfl (lv_at hl 1 rfl) ?_
        refine va_iast hx hb hK hP hD hS 0 0 rfl rfl (vp_in_nI (n := b) (by omega) (by omega)) dX0_shift_92 (fun H locs hP hD hS => ?_)
        have hP : va_P G.1 vwCl [(r1, eI G 36 (upd f9 (((nI b) : Int32).toNatClampNeg) x3)), (h0, .inr (2, [.ref r1, .ref r2, .ref r3, .int (nI zn)]))] H := hP
        have hD : va_D A [(r1, eI G 36 (upd f9 (((nI b) : Int32).toNatClampNeg) x3)), (h0, .inr (2, [.ref r1, .ref r2, .ref r3, .int (nI zn)]))] := hD
        have hP9 := n_Psub (wc := [(h0, .inr (2, [.ref r1, .ref r2, .ref r3, .int (nI zn)]))]) hP [1] rfl
        have hD9 := hD.sub (ws' := [(h0, .inr (2, [.ref r1, .ref r2, .ref r3, .int (nI zn)]))]) [1] (by decide) rfl
        refine W.widen (k := 0) (n := 0) (Nat.le_of_ble_eq_true rfl) (Nat.le_of_ble_eq_true rfl) ?_
        exact W.vret hx hb hr (fun t ht hW => ⟨⟨(), rfl, trivial, by rw [ht]; exact hP9, va_K.moved hW.alike hK, hD9⟩, hS.F ht⟩) hS.2.2 dX0_shift_93
      · skip
        refine lv_aload_n hx hb dX0_shift_64 rfl (lv_at hl 2 rfl) ?_
        refine va_get (D := G.1) (ci := 2) (v := .ref r1) (C := RX0) (T := TX0) (N := 4) hx hb hts hiX0 hown hK hP 1 rfl rfl 0 (by decide) (hts (.fieldLink RX0 9 "DialectDictionary$Alphabet" "row" "[I") (by decide +kernel)) (fun _ h9 => h9) rfl dX0_shift_65 ?_
        refine lv_iload hx hb dX0_shift_68 (lv_at hl 0 rfl) ?_
        refine lv_aload_n hx hb dX0_shift_70 rfl (lv_at hl 2 rfl) ?_
        refine va_get (D := G.1) (ci := 2) (v := .ref r1) (C := RX0) (T := TX0) (N := 4) hx hb hts hiX0 hown hK hP 1 rfl rfl 0 (by decide) (hts (.fieldLink RX0 9 "DialectDictionary$Alphabet" "row" "[I") (by decide +kernel)) (fun _ h9 => h9) rfl dX0_shift_71 ?_
        refine lv_iload hx hb dX0_shift_74 (lv_at hl 0 rfl) ?_
        refine lv_iconst (v := 1) hx hb dX0_shift_76 (by decide) ?_
        refine lv_isub hx hb dX0_shift_77 ?_
        refine n_eqi (y := (nI w9)) (nI_pred w9) ?_
        refine va_iald hx hb hK hP 0 0 rfl rfl (vp_in_nI (n := w9) (by omega) (by omega)) dX0_shift_78 ?_
        refine va_iast hx hb hK hP hD hS 0 0 rfl rfl (vp_in_nI (n := (w9 + 1)) (by omega) (by omega)) dX0_shift_79 (fun H locs hP hD hS => ?_)
        have hP : va_P G.1 vwCl [(r1, eI G 36 (upd f9 (((nI (w9 + 1)) : Int32).toNatClampNeg) (f9 (((nI w9) : Int32).toNatClampNeg)))), (h0, .inr (2, [.ref r1, .ref r2, .ref r3, .int (nI zn)]))] H := hP
        have hD : va_D A [(r1, eI G 36 (upd f9 (((nI (w9 + 1)) : Int32).toNatClampNeg) (f9 (((nI w9) : Int32).toNatClampNeg)))), (h0, .inr (2, [.ref r1, .ref r2, .ref r3, .int (nI zn)]))] := hD
        refine lv_iinc (v := (nI w9)) (lv' := [(4, .int (nI w9)), (3, .int x3), (0, .ref h0), (1, .int (nI a)), (2, .int (nI b))]) hx hb dX0_shift_80 hl (k := 0) rfl (pk_m1 w9) (by decide) rfl (fun ls hl => ?_)
        refine lv_goto (tgt := 58) hx hb dX0_shift_83 (by decide) ?_
        exact ih (by omega) x3 _ H locs ls hP hD hS (lv_sub hl [0,1,2,3,4] rfl)
  have k1 : ∀ (n w9 : Nat), b ≤ w9 + n → w9 < zn → ∀ (x3 : Int32) (f9 : Nat → Int32) (H : Heap) (locs : List Loc) (ls : Array Slot), va_P G.1 vwCl [(r1, eI G 36 f9), (h0, .inr (2, [.ref r1, .ref r2, .ref r3, .int (nI zn)]))] H → va_D A [(r1, eI G 36 f9), (h0, .inr (2, [.ref r1, .ref r2, .ref r3, .int (nI zn)]))] → va_S A s.heap H locs → lv_has ls 5 [(4, .int (nI w9)), (3, .int x3), (0, .ref h0), (1, .int (nI a)), (2, .int (nI b))] → W p l e (headSpec wsX0_shift ({ frames := 1, cells := 0, slots := 0, locals := 21 })).room s m (([.ref h0, .int (nI a), .int (nI b)] : List Value).toArray) below meth c H locs 0 0 (MQ below (va_Qv (fun (_ : Unit) => True) (fun (_ : Unit) (t : State) => n_po G A [(h0, .inr (2, [.ref r1, .ref r2, .ref r3, .int (nI zn)]))] t) A) (([.ref h0, .int (nI a), .int (nI b)] : List Value).toArray) s 0 0 A) (F0 m 27 ls []) := by
    intro n
    induction n with
    | zero =>
      intro w9 hbp hp x3 f9 H locs ls hP hD hS hl
      refine lv_iload hx hb dX0_shift_27 (lv_at hl 0 rfl) ?_
      refine lv_iload_n hx hb dX0_shift_29 rfl (lv_at hl 4 rfl) ?_
      refine lv_icmp_ge (tgt := 55) hx hb dX0_shift_30 (by decide) (fun _ => ?_) (fun h9 => absurd (nI_le (show b ≤ w9 by omega) (by omega)) h9)
      refine lv_iload_n hx hb dX0_shift_55 rfl (lv_at hl 3 rfl) ?_
      refine lv_istore (lv' := [(4, .int (nI a)), (3, .int x3), (0, .ref h0), (1, .int (nI a)), (2, .int (nI b))]) hx hb dX0_shift_56 hl (by decide) rfl (fun ls hl => ?_)
      exact k2 a ha x3 _ H locs ls hP hD hS (lv_sub hl [0,1,2,3,4] rfl)
    | succ n ih =>
      intro w9 hbp hp x3 f9 H locs ls hP hD hS hl
      refine lv_iload hx hb dX0_shift_27 (lv_at hl 0 rfl) ?_
      refine lv_iload_n hx hb dX0_shift_29 rfl (lv_at hl 4 rfl) ?_
      refine lv_icmp_ge (tgt := 55) hx hb dX0_shift_30 (by decide) (fun c_30 => ?_) (fun c_30 => ?_)
      · skip
        refine lv_iload_n hx hb dX0_shift_55 rfl (lv_at hl 3 rfl) ?_
        refine lv_istore (lv' := [(4, .int (nI a)), (3, .int x3), (0, .ref h0), (1, .int (nI a)), (2, .int (nI b))]) hx hb dX0_shift_56 hl (by decide) rfl (fun ls hl => ?_)
        exact k2 a ha x3 _ H locs ls hP hD hS (lv_sub hl [0,1,2,3,4] rfl)
      · skip
        have hpb : w9 < b := by
          rcases Nat.lt_or_ge w9 b with q9 | q9
          · exact q9
          · exact absurd (nI_le q9 (by omega)) c_30
        refine lv_aload_n hx hb dX0_shift_33 rfl (lv_at hl 2 rfl) ?_
        refine va_get (D := G.1) (ci := 2) (v := .ref r1) (C := RX0) (T := TX0) (N := 4) hx hb hts hiX0 hown hK hP 1 rfl rfl 0 (by decide) (hts (.fieldLink RX0 9 "DialectDictionary$Alphabet" "row" "[I") (by decide +kernel)) (fun _ h9 => h9) rfl dX0_shift_34 ?_
        refine lv_iload hx hb dX0_shift_37 (lv_at hl 0 rfl) ?_
        refine lv_aload_n hx hb dX0_shift_39 rfl (lv_at hl 2 rfl) ?_
        refine va_get (D := G.1) (ci := 2) (v := .ref r1) (C := RX0) (T := TX0) (N := 4) hx hb hts hiX0 hown hK hP 1 rfl rfl 0 (by decide) (hts (.fieldLink RX0 9 "DialectDictionary$Alphabet" "row" "[I") (by decide +kernel)) (fun _ h9 => h9) rfl dX0_shift_40 ?_
        refine lv_iload hx hb dX0_shift_43 (lv_at hl 0 rfl) ?_
        refine lv_iconst (v := 1) hx hb dX0_shift_45 (by decide) ?_
        refine lv_iadd hx hb dX0_shift_46 ?_
        refine n_eqi (y := (nI (w9 + 1))) (nI_1 w9) ?_
        refine va_iald hx hb hK hP 0 0 rfl rfl (vp_in_nI (n := (w9 + 1)) (by omega) (by omega)) dX0_shift_47 ?_
        refine va_iast hx hb hK hP hD hS 0 0 rfl rfl (vp_in_nI (n := w9) (by omega) (by omega)) dX0_shift_48 (fun H locs hP hD hS => ?_)
        have hP : va_P G.1 vwCl [(r1, eI G 36 (upd f9 (((nI w9) : Int32).toNatClampNeg) (f9 (((nI (w9 + 1)) : Int32).toNatClampNeg)))), (h0, .inr (2, [.ref r1, .ref r2, .ref r3, .int (nI zn)]))] H := hP
        have hD : va_D A [(r1, eI G 36 (upd f9 (((nI w9) : Int32).toNatClampNeg) (f9 (((nI (w9 + 1)) : Int32).toNatClampNeg)))), (h0, .inr (2, [.ref r1, .ref r2, .ref r3, .int (nI zn)]))] := hD
        refine lv_iinc (v := (nI (w9 + 1))) (lv' := [(4, .int (nI (w9 + 1))), (3, .int x3), (0, .ref h0), (1, .int (nI a)), (2, .int (nI b))]) hx hb dX0_shift_49 hl (k := 0) rfl (nI_1 w9) (by decide) rfl (fun ls hl => ?_)
        refine lv_goto (tgt := 27) hx hb dX0_shift_52 (by decide) ?_
        exact ih (w9 + 1) (by omega) (by omega) x3 _ H locs ls hP hD hS (lv_sub hl [0,1,2,3,4] rfl)
  exact k1 b a (by omega) ha _ _ H locs ls hP hD hS (lv_sub hl [0,1,2,3,4] rfl)

set_option maxHeartbeats 4000000 in
set_option maxRecDepth 100000 in
theorem mX0_insert (l : Launch) (G : nG) (h0 : Nat) (r1 : Nat) (r2 : Nat) (r3 : Nat) (f : Nat → Int32) (g : Nat → Int32) (h : Nat → Int32) (c1 : Int32) (c2 : Int32) (j : Nat) (sz : Nat) (hj : j < 27) : Met l yX0_insert wsX0_insert ({ frames := 2, cells := 0, slots := 0, locals := 45 }) (va_Pc [.ref h0, .int c1, .int c2, .int (nI j)] (n_pp G [(h0, .inr (2, [.ref r1, .ref r2, .ref r3, .int 26])), (r1, eI G 36 f), (r2, eC G 36 g), (r3, eC G 36 h)] sz)) (va_Qv (fun (_ : Unit) => True) (fun (_ : Unit) (t : State) => n_po G (va_A [(h0, .inr (2, [.ref r1, .ref r2, .ref r3, .int 26])), (r1, eI G 36 f), (r2, eC G 36 g), (r3, eC G 36 h)] sz) [(h0, .inr (2, [.ref r1, .ref r2, .ref r3, .int (nI 27)]))] t) (va_A [(h0, .inr (2, [.ref r1, .ref r2, .ref r3, .int 26])), (r1, eI G 36 f), (r2, eC G 36 g), (r3, eC G 36 h)] sz)) 0 0 (va_A [(h0, .inr (2, [.ref r1, .ref r2, .ref r3, .int 26])), (r1, eI G 36 f), (r2, eC G 36 g), (r3, eC G 36 h)] sz) := by
  refine Met.ofW (cc := cX0_insert) (maxL := 4) (ret := none) (by decide) rfl ?_
  intro p e s m args below meth c s₁ B hml hv
  obtain ⟨rfl, hsz, hP, hK, hD0⟩ := hv
  have hx := B.exec
  have hb := B.bytes
  have hr := B.returns
  have hts := atoms_spec (ws := wsX0_insert) B.pre
  have hown : s.vm.findClass RX0 = some m.cls := findClass_of_methodNamed B.named
  have hlocks := B.notSynchronized
  subst hsz
  have hD := hD0.self (sz := s.heap.size)
  generalize hAe : va_A [(h0, .inr (2, [.ref r1, .ref r2, .ref r3, .int 26])), (r1, eI G 36 f), (r2, eC G 36 g), (r3, eC G 36 h)] s.heap.size = A at hD ⊢
  have hA : ∀ q : Nat, s.heap.size ≤ q → A q := fun q h => by rw [← hAe]; exact Or.inr h
  have hS : va_S A s.heap s.heap [] := va_S.rf
  have hP : va_P G.1 vwCl [(h0, .inr (2, [.ref r1, .ref r2, .ref r3, .int 26])), (r1, eI G 36 f), (r2, eC G 36 g), (r3, eC G 36 h)] s.heap := hP
  have hl := lv_entry ([.ref h0, .int c1, .int c2, .int (nI j)]) (n := 4) (Nat.le_of_ble_eq_true rfl)
  rw [lg_entry_eq]
  generalize (lg_sl ([.ref h0, .int c1, .int c2, .int (nI j)]) ++ List.replicate (4 - (lg_sl ([.ref h0, .int c1, .int c2, .int (nI j)])).length) Slot.unset).toArray = ls at hl ⊢
  have hl : lv_has ls 4 [(0, .ref h0), (1, .int c1), (2, .int c2), (3, .int (nI j))] := hl
  obtain ⟨H, hH⟩ : ∃ z, z = s.heap := ⟨_, rfl⟩
  have hS : va_S A s.heap H [] := by rw [hH]; exact hS
  have hP : va_P G.1 vwCl [(h0, .inr (2, [.ref r1, .ref r2, .ref r3, .int 26])), (r1, eI G 36 f), (r2, eC G 36 g), (r3, eC G 36 h)] H := by rw [hH]; exact hP
  refine n_heap hH ?_
  generalize ([] : List Loc) = locs at hS ⊢
  have hiX0 : ∀ w ∈ u_ws RX0 TX0 4, w ∈ wsX0_insert := by decide +kernel
  refine lv_aload_n hx hb dX0_insert_0 rfl (lv_at hl 0 rfl) ?_
  refine n_ci (wr := [(r1, eI G 36 f), (r2, eC G 36 g), (r3, eC G 36 h)]) (va_runV (As := []) (rest := []) ⟨hx, hb, hml, hown, hts⟩ (mX0_isFull26 l G h0 r1 r2 r3 H.size) (cwV 0 hts gX0_insert_X0_isFull rfl rfl rfl (by decide +kernel) ⟨(Nat.le_of_ble_eq_true rfl), (Nat.le_of_ble_eq_true rfl)⟩) (n_prV (ci := 2) (q0 := 0) hK hP hD [0] rfl (by decide) rfl rfl) rfl rfl hl.1 rfl (lv_room (Nat.le_of_ble_eq_true rfl)) dX0_insert_1 ⟨(Nat.le_of_ble_eq_true rfl), (Nat.le_of_ble_eq_true rfl)⟩) hP hD hS hA [0] [1, 2, 3] rfl rfl (by decide) (by decide) (fun r_1 u_2 H locs hP hD hS hw => ?_)
  have hP : va_P G.1 vwCl [(r1, eI G 36 f), (r2, eC G 36 g), (r3, eC G 36 h), (h0, .inr (2, [.ref r1, .ref r2, .ref r3, .int 26]))] H := hP
  have hD : va_D A [(r1, eI G 36 f), (r2, eC G 36 g), (r3, eC G 36 h), (h0, .inr (2, [.ref r1, .ref r2, .ref r3, .int 26]))] := hD
  have hw : r_1 = 0 := hw
  subst hw
  refine lv_if_eq (tgt := 8) hx hb dX0_insert_4 (by decide) (fun _ => ?_) (fun h9 => absurd (by decide) h9)
  refine lv_aload_n hx hb dX0_insert_8 rfl (lv_at hl 0 rfl) ?_
  refine va_get (D := G.1) (ci := 2) (v := .ref r1) (C := RX0) (T := TX0) (N := 4) hx hb hts hiX0 hown hK hP 3 rfl rfl 0 (by decide) (hts (.fieldLink RX0 9 "DialectDictionary$Alphabet" "row" "[I") (by decide +kernel)) (fun _ h9 => h9) rfl dX0_insert_9 ?_
  refine lv_aload_n hx hb dX0_insert_12 rfl (lv_at hl 0 rfl) ?_
  refine va_get (D := G.1) (ci := 2) (v := .int 26) (C := RX0) (T := TX0) (N := 4) hx hb hts hiX0 hown hK hP 3 rfl rfl 3 (by decide) (hts (.fieldLink RX0 22 "DialectDictionary$Alphabet" "size" "I") (by decide +kernel)) (fun _ h9 => h9) rfl dX0_insert_13 ?_
  refine lv_aload_n hx hb dX0_insert_16 rfl (lv_at hl 0 rfl) ?_
  refine va_get (D := G.1) (ci := 2) (v := .int 26) (C := RX0) (T := TX0) (N := 4) hx hb hts hiX0 hown hK hP 3 rfl rfl 3 (by decide) (hts (.fieldLink RX0 22 "DialectDictionary$Alphabet" "size" "I") (by decide +kernel)) (fun _ h9 => h9) rfl dX0_insert_17 ?_
  refine va_iast hx hb hK hP hD hS 0 0 rfl rfl (n_in (by decide)) dX0_insert_20 (fun H locs hP hD hS => ?_)
  have hP : va_P G.1 vwCl [(r1, eI G 36 (upd f ((26 : Int32).toNatClampNeg) 26)), (r2, eC G 36 g), (r3, eC G 36 h), (h0, .inr (2, [.ref r1, .ref r2, .ref r3, .int 26]))] H := hP
  have hD : va_D A [(r1, eI G 36 (upd f ((26 : Int32).toNatClampNeg) 26)), (r2, eC G 36 g), (r3, eC G 36 h), (h0, .inr (2, [.ref r1, .ref r2, .ref r3, .int 26]))] := hD
  refine lv_aload_n hx hb dX0_insert_21 rfl (lv_at hl 0 rfl) ?_
  refine va_get (D := G.1) (ci := 2) (v := .ref r2) (C := RX0) (T := TX0) (N := 4) hx hb hts hiX0 hown hK hP 3 rfl rfl 1 (by decide) (hts (.fieldLink RX0 15 "DialectDictionary$Alphabet" "firsts" "[C") (by decide +kernel)) (fun _ h9 => h9) rfl dX0_insert_22 ?_
  refine lv_aload_n hx hb dX0_insert_25 rfl (lv_at hl 0 rfl) ?_
  refine va_get (D := G.1) (ci := 2) (v := .int 26) (C := RX0) (T := TX0) (N := 4) hx hb hts hiX0 hown hK hP 3 rfl rfl 3 (by decide) (hts (.fieldLink RX0 22 "DialectDictionary$Alphabet" "size" "I") (by decide +kernel)) (fun _ h9 => h9) rfl dX0_insert_26 ?_
  refine lv_iload_n hx hb dX0_insert_29 rfl (lv_at hl 1 rfl) ?_
  refine va_cast hx hb hK hP hD hS 1 1 rfl rfl (n_in (by decide)) dX0_insert_30 (fun H locs hP hD hS => ?_)
  have hP : va_P G.1 vwCl [(r1, eI G 36 (upd f ((26 : Int32).toNatClampNeg) 26)), (r2, eC G 36 (upd g ((26 : Int32).toNatClampNeg) (vp_nar .char c1))), (r3, eC G 36 h), (h0, .inr (2, [.ref r1, .ref r2, .ref r3, .int 26]))] H := hP
  have hD : va_D A [(r1, eI G 36 (upd f ((26 : Int32).toNatClampNeg) 26)), (r2, eC G 36 (upd g ((26 : Int32).toNatClampNeg) (vp_nar .char c1))), (r3, eC G 36 h), (h0, .inr (2, [.ref r1, .ref r2, .ref r3, .int 26]))] := hD
  refine lv_aload_n hx hb dX0_insert_31 rfl (lv_at hl 0 rfl) ?_
  refine va_get (D := G.1) (ci := 2) (v := .ref r3) (C := RX0) (T := TX0) (N := 4) hx hb hts hiX0 hown hK hP 3 rfl rfl 2 (by decide) (hts (.fieldLink RX0 19 "DialectDictionary$Alphabet" "seconds" "[C") (by decide +kernel)) (fun _ h9 => h9) rfl dX0_insert_32 ?_
  refine lv_aload_n hx hb dX0_insert_35 rfl (lv_at hl 0 rfl) ?_
  refine va_get (D := G.1) (ci := 2) (v := .int 26) (C := RX0) (T := TX0) (N := 4) hx hb hts hiX0 hown hK hP 3 rfl rfl 3 (by decide) (hts (.fieldLink RX0 22 "DialectDictionary$Alphabet" "size" "I") (by decide +kernel)) (fun _ h9 => h9) rfl dX0_insert_36 ?_
  refine lv_iload_n hx hb dX0_insert_39 rfl (lv_at hl 2 rfl) ?_
  refine va_cast hx hb hK hP hD hS 2 1 rfl rfl (n_in (by decide)) dX0_insert_40 (fun H locs hP hD hS => ?_)
  have hP : va_P G.1 vwCl [(r1, eI G 36 (upd f ((26 : Int32).toNatClampNeg) 26)), (r2, eC G 36 (upd g ((26 : Int32).toNatClampNeg) (vp_nar .char c1))), (r3, eC G 36 (upd h ((26 : Int32).toNatClampNeg) (vp_nar .char c2))), (h0, .inr (2, [.ref r1, .ref r2, .ref r3, .int 26]))] H := hP
  have hD : va_D A [(r1, eI G 36 (upd f ((26 : Int32).toNatClampNeg) 26)), (r2, eC G 36 (upd g ((26 : Int32).toNatClampNeg) (vp_nar .char c1))), (r3, eC G 36 (upd h ((26 : Int32).toNatClampNeg) (vp_nar .char c2))), (h0, .inr (2, [.ref r1, .ref r2, .ref r3, .int 26]))] := hD
  refine lv_aload_n hx hb dX0_insert_41 rfl (lv_at hl 0 rfl) ?_
  refine lv_dup hx hb dX0_insert_42 rfl ?_
  refine va_get (D := G.1) (ci := 2) (v := .int 26) (C := RX0) (T := TX0) (N := 4) hx hb hts hiX0 hown hK hP 3 rfl rfl 3 (by decide) (hts (.fieldLink RX0 22 "DialectDictionary$Alphabet" "size" "I") (by decide +kernel)) (fun _ h9 => h9) rfl dX0_insert_43 ?_
  refine lv_iconst (v := 1) hx hb dX0_insert_46 (by decide) ?_
  refine lv_iadd hx hb dX0_insert_47 ?_
  refine n_eqi (y := 27) (by decide) ?_
  refine va_put (D := G.1) (ci := 2) (v := .int 27) (ty := .int) (C := RX0) (T := TX0) (N := 4) hx hb hts hiX0 tyX0 tyX0_ok nmX0 hown hK hP hD hS 3 rfl rfl 3 (by decide) (hts (.fieldLink RX0 22 "DialectDictionary$Alphabet" "size" "I") (by decide +kernel)) (fun _ h9 => h9) rfl (by decide +kernel) rfl rfl (Nat.le_of_ble_eq_true rfl) dX0_insert_48 (fun H locs hP hD hS => ?_)
  have hP : va_P G.1 vwCl [(r1, eI G 36 (upd f ((26 : Int32).toNatClampNeg) 26)), (r2, eC G 36 (upd g ((26 : Int32).toNatClampNeg) (vp_nar .char c1))), (r3, eC G 36 (upd h ((26 : Int32).toNatClampNeg) (vp_nar .char c2))), (h0, .inr (2, [.ref r1, .ref r2, .ref r3, .int 27]))] H := hP
  have hD : va_D A [(r1, eI G 36 (upd f ((26 : Int32).toNatClampNeg) 26)), (r2, eC G 36 (upd g ((26 : Int32).toNatClampNeg) (vp_nar .char c1))), (r3, eC G 36 (upd h ((26 : Int32).toNatClampNeg) (vp_nar .char c2))), (h0, .inr (2, [.ref r1, .ref r2, .ref r3, .int 27]))] := hD
  refine lv_aload_n hx hb dX0_insert_51 rfl (lv_at hl 0 rfl) ?_
  refine lv_aload_n hx hb dX0_insert_52 rfl (lv_at hl 0 rfl) ?_
  refine va_get (D := G.1) (ci := 2) (v := .int 27) (C := RX0) (T := TX0) (N := 4) hx hb hts hiX0 hown hK hP 3 rfl rfl 3 (by decide) (hts (.fieldLink RX0 22 "DialectDictionary$Alphabet" "size" "I") (by decide +kernel)) (fun _ h9 => h9) rfl dX0_insert_53 ?_
  refine lv_iconst (v := 1) hx hb dX0_insert_56 (by decide) ?_
  refine lv_isub hx hb dX0_insert_57 ?_
  refine n_eqi (y := 26) (by decide) ?_
  refine lv_iload_n hx hb dX0_insert_58 rfl (lv_at hl 3 rfl) ?_
  refine n_cv (wr := [(r2, eC G 36 (upd g ((26 : Int32).toNatClampNeg) (vp_nar .char c1))), (r3, eC G 36 (upd h ((26 : Int32).toNatClampNeg) (vp_nar .char c2)))]) (va_runV (As := [.int 26, .int (nI j)]) (rest := []) ⟨hx, hb, hml, hown, hts⟩ (mX0_shift l G h0 r1 r2 r3 (upd f ((26 : Int32).toNatClampNeg) 26) 26 j 27 H.size (by decide) (by decide) hj) (cwV 2 hts gX0_insert_X0_shift rfl rfl rfl (by decide +kernel) ⟨(Nat.le_of_ble_eq_true rfl), (Nat.le_of_ble_eq_true rfl)⟩) (n_prV (ci := 2) (q0 := 3) hK hP hD [3, 0] rfl (by decide) rfl rfl) rfl rfl hl.1 rfl (lv_room (Nat.le_of_ble_eq_true rfl)) dX0_insert_59 ⟨(Nat.le_of_ble_eq_true rfl), (Nat.le_of_ble_eq_true rfl)⟩) hP hD hS hA [3, 0] [1, 2] rfl rfl (by decide) (by decide) (fun u_3 H locs hP hD hS hw => ?_)
  have hP : va_P G.1 vwCl [(r2, eC G 36 (upd g ((26 : Int32).toNatClampNeg) (vp_nar .char c1))), (r3, eC G 36 (upd h ((26 : Int32).toNatClampNeg) (vp_nar .char c2))), (h0, .inr (2, [.ref r1, .ref r2, .ref r3, .int (nI 27)]))] H := hP
  have hD : va_D A [(r2, eC G 36 (upd g ((26 : Int32).toNatClampNeg) (vp_nar .char c1))), (r3, eC G 36 (upd h ((26 : Int32).toNatClampNeg) (vp_nar .char c2))), (h0, .inr (2, [.ref r1, .ref r2, .ref r3, .int (nI 27)]))] := hD
  have hP9 := n_Psub (wc := [(h0, .inr (2, [.ref r1, .ref r2, .ref r3, .int (nI 27)]))]) hP [2] rfl
  have hD9 := hD.sub (ws' := [(h0, .inr (2, [.ref r1, .ref r2, .ref r3, .int (nI 27)]))]) [2] (by decide) rfl
  refine W.widen (k := 0) (n := 0) (Nat.le_of_ble_eq_true rfl) (Nat.le_of_ble_eq_true rfl) ?_
  exact W.vret hx hb hr (fun t ht hW => ⟨⟨(), rfl, trivial, by rw [ht]; exact hP9, va_K.moved hW.alike hK, hD9⟩, hS.F ht⟩) hS.2.2 dX0_insert_62

set_option maxHeartbeats 4000000 in
set_option maxRecDepth 100000 in
theorem mX8_count (l : Launch) (G : nG) (h0 : Nat) (lr : Nat) (sz : Nat) : Met l yX8_count wsX8_count ({ frames := 0, cells := 0, slots := 0, locals := 0 }) (va_Pc [.ref h0] (n_pp G [(h0, .inr (9, [.ref lr, .int 0]))] sz)) (va_Qi (fun (r : Int32) (_ : Unit) => r = 0) (fun (_ : Unit) (t : State) => n_po G (va_A [(h0, .inr (9, [.ref lr, .int 0]))] sz) [(h0, .inr (9, [.ref lr, .int 0]))] t) (va_A [(h0, .inr (9, [.ref lr, .int 0]))] sz)) 0 0 (va_A [(h0, .inr (9, [.ref lr, .int 0]))] sz) := by
  refine Met.ofW (cc := cX8_count) (maxL := 1) (ret := (some .int)) (by decide) rfl ?_
  intro p e s m args below meth c s₁ B hml hv
  obtain ⟨rfl, hsz, hP, hK, hD0⟩ := hv
  have hx := B.exec
  have hb := B.bytes
  have hr := B.returns
  have hts := atoms_spec (ws := wsX8_count) B.pre
  have hown : s.vm.findClass RX8 = some m.cls := findClass_of_methodNamed B.named
  have hlocks := B.notSynchronized
  subst hsz
  have hD := hD0.self (sz := s.heap.size)
  generalize hAe : va_A [(h0, .inr (9, [.ref lr, .int 0]))] s.heap.size = A at hD ⊢
  have hA : ∀ q : Nat, s.heap.size ≤ q → A q := fun q h => by rw [← hAe]; exact Or.inr h
  have hS : va_S A s.heap s.heap [] := va_S.rf
  have hP : va_P G.1 vwCl [(h0, .inr (9, [.ref lr, .int 0]))] s.heap := hP
  have hl := lv_entry ([.ref h0]) (n := 1) (Nat.le_of_ble_eq_true rfl)
  rw [lg_entry_eq]
  generalize (lg_sl ([.ref h0]) ++ List.replicate (1 - (lg_sl ([.ref h0])).length) Slot.unset).toArray = ls at hl ⊢
  have hl : lv_has ls 1 [(0, .ref h0)] := hl
  obtain ⟨H, hH⟩ : ∃ z, z = s.heap := ⟨_, rfl⟩
  have hS : va_S A s.heap H [] := by rw [hH]; exact hS
  have hP : va_P G.1 vwCl [(h0, .inr (9, [.ref lr, .int 0]))] H := by rw [hH]; exact hP
  refine n_heap hH ?_
  generalize ([] : List Loc) = locs at hS ⊢
  have hiX8 : ∀ w ∈ u_ws RX8 TX8 2, w ∈ wsX8_count := by decide +kernel
  refine lv_aload_n hx hb dX8_count_0 rfl (lv_at hl 0 rfl) ?_
  refine va_get (D := G.1) (ci := 9) (v := .int 0) (C := RX8) (T := TX8) (N := 2) hx hb hts hiX8 hown hK hP 0 rfl rfl 1 (by decide) (hts (.fieldLink RX8 17 "DialectDictionary$Lexicon" "count" "I") (by decide +kernel)) (fun _ h9 => h9) rfl dX8_count_1 ?_
  have hP9 := n_Psub (wc := [(h0, .inr (9, [.ref lr, .int 0]))]) hP [0] rfl
  have hD9 := hD.sub (ws' := [(h0, .inr (9, [.ref lr, .int 0]))]) [0] (by decide) rfl
  refine W.widen (k := 0) (n := 0) (Nat.le_of_ble_eq_true rfl) (Nat.le_of_ble_eq_true rfl) ?_
  exact W.iret (v := 0) hx hb hr (fun t ht hW => ⟨⟨0, (), rfl, rfl, by rw [ht]; exact hP9, va_K.moved hW.alike hK, hD9⟩, hS.F ht⟩) hS.2.2 dX8_count_4

set_option maxHeartbeats 4000000 in
set_option maxRecDepth 100000 in
theorem mX8_formCount (l : Launch) (G : nG) (h0 : Nat) (lr : Nat) (sz : Nat) : Met l yX8_formCount wsX8_formCount ({ frames := 0, cells := 0, slots := 0, locals := 0 }) (va_Pc [.ref h0] (n_pp G [(h0, .inr (9, [.ref lr, .int 0]))] sz)) (va_Qi (fun (r : Int32) (_ : Unit) => r = 0) (fun (_ : Unit) (t : State) => n_po G (va_A [(h0, .inr (9, [.ref lr, .int 0]))] sz) [(h0, .inr (9, [.ref lr, .int 0]))] t) (va_A [(h0, .inr (9, [.ref lr, .int 0]))] sz)) 0 0 (va_A [(h0, .inr (9, [.ref lr, .int 0]))] sz) := by
  refine Met.ofW (cc := cX8_formCount) (maxL := 3) (ret := (some .int)) (by decide) rfl ?_
  intro p e s m args below meth c s₁ B hml hv
  obtain ⟨rfl, hsz, hP, hK, hD0⟩ := hv
  have hx := B.exec
  have hb := B.bytes
  have hr := B.returns
  have hts := atoms_spec (ws := wsX8_formCount) B.pre
  have hown : s.vm.findClass RX8 = some m.cls := findClass_of_methodNamed B.named
  have hlocks := B.notSynchronized
  subst hsz
  have hD := hD0.self (sz := s.heap.size)
  generalize hAe : va_A [(h0, .inr (9, [.ref lr, .int 0]))] s.heap.size = A at hD ⊢
  have hA : ∀ q : Nat, s.heap.size ≤ q → A q := fun q h => by rw [← hAe]; exact Or.inr h
  have hS : va_S A s.heap s.heap [] := va_S.rf
  have hP : va_P G.1 vwCl [(h0, .inr (9, [.ref lr, .int 0]))] s.heap := hP
  have hl := lv_entry ([.ref h0]) (n := 3) (Nat.le_of_ble_eq_true rfl)
  rw [lg_entry_eq]
  generalize (lg_sl ([.ref h0]) ++ List.replicate (3 - (lg_sl ([.ref h0])).length) Slot.unset).toArray = ls at hl ⊢
  have hl : lv_has ls 3 [(0, .ref h0)] := hl
  obtain ⟨H, hH⟩ : ∃ z, z = s.heap := ⟨_, rfl⟩
  have hS : va_S A s.heap H [] := by rw [hH]; exact hS
  have hP : va_P G.1 vwCl [(h0, .inr (9, [.ref lr, .int 0]))] H := by rw [hH]; exact hP
  refine n_heap hH ?_
  generalize ([] : List Loc) = locs at hS ⊢
  have hiX8 : ∀ w ∈ u_ws RX8 TX8 2, w ∈ wsX8_formCount := by decide +kernel
  refine lv_iconst (v := 0) hx hb dX8_formCount_0 (by decide) ?_
  refine lv_istore_n (lv' := [(1, .int 0), (0, .ref h0)]) hx hb dX8_formCount_1 rfl hl (by decide) rfl (fun ls hl => ?_)
  refine lv_iconst (v := 0) hx hb dX8_formCount_2 (by decide) ?_
  refine lv_istore_n (lv' := [(2, .int 0), (1, .int 0), (0, .ref h0)]) hx hb dX8_formCount_3 rfl hl (by decide) rfl (fun ls hl => ?_)
  refine lv_iload_n hx hb dX8_formCount_4 rfl (lv_at hl 0 rfl) ?_
  refine lv_aload_n hx hb dX8_formCount_5 rfl (lv_at hl 2 rfl) ?_
  refine va_get (D := G.1) (ci := 9) (v := .int 0) (C := RX8) (T := TX8) (N := 2) hx hb hts hiX8 hown hK hP 0 rfl rfl 1 (by decide) (hts (.fieldLink RX8 17 "DialectDictionary$Lexicon" "count" "I") (by decide +kernel)) (fun _ h9 => h9) rfl dX8_formCount_6 ?_
  refine lv_icmp_ge (tgt := 30) hx hb dX8_formCount_9 (by decide) (fun _ => ?_) (fun h9 => absurd (by decide) h9)
  refine lv_iload_n hx hb dX8_formCount_30 rfl (lv_at hl 1 rfl) ?_
  have hP9 := n_Psub (wc := [(h0, .inr (9, [.ref lr, .int 0]))]) hP [0] rfl
  have hD9 := hD.sub (ws' := [(h0, .inr (9, [.ref lr, .int 0]))]) [0] (by decide) rfl
  refine W.widen (k := 0) (n := 0) (Nat.le_of_ble_eq_true rfl) (Nat.le_of_ble_eq_true rfl) ?_
  exact W.iret (v := 0) hx hb hr (fun t ht hW => ⟨⟨0, (), rfl, rfl, by rw [ht]; exact hP9, va_K.moved hW.alike hK, hD9⟩, hS.F ht⟩) hS.2.2 dX8_formCount_31

set_option maxHeartbeats 4000000 in
set_option maxRecDepth 100000 in
theorem mX8_lettersOfAllForms (l : Launch) (G : nG) (h0 : Nat) (lr : Nat) (sz : Nat) : Met l yX8_lettersOfAllForms wsX8_lettersOfAllForms ({ frames := 0, cells := 0, slots := 0, locals := 0 }) (va_Pc [.ref h0] (n_pp G [(h0, .inr (9, [.ref lr, .int 0]))] sz)) (va_Qi (fun (r : Int32) (_ : Unit) => r = 0) (fun (_ : Unit) (t : State) => n_po G (va_A [(h0, .inr (9, [.ref lr, .int 0]))] sz) [(h0, .inr (9, [.ref lr, .int 0]))] t) (va_A [(h0, .inr (9, [.ref lr, .int 0]))] sz)) 0 0 (va_A [(h0, .inr (9, [.ref lr, .int 0]))] sz) := by
  refine Met.ofW (cc := cX8_lettersOfAllForms) (maxL := 3) (ret := (some .int)) (by decide) rfl ?_
  intro p e s m args below meth c s₁ B hml hv
  obtain ⟨rfl, hsz, hP, hK, hD0⟩ := hv
  have hx := B.exec
  have hb := B.bytes
  have hr := B.returns
  have hts := atoms_spec (ws := wsX8_lettersOfAllForms) B.pre
  have hown : s.vm.findClass RX8 = some m.cls := findClass_of_methodNamed B.named
  have hlocks := B.notSynchronized
  subst hsz
  have hD := hD0.self (sz := s.heap.size)
  generalize hAe : va_A [(h0, .inr (9, [.ref lr, .int 0]))] s.heap.size = A at hD ⊢
  have hA : ∀ q : Nat, s.heap.size ≤ q → A q := fun q h => by rw [← hAe]; exact Or.inr h
  have hS : va_S A s.heap s.heap [] := va_S.rf
  have hP : va_P G.1 vwCl [(h0, .inr (9, [.ref lr, .int 0]))] s.heap := hP
  have hl := lv_entry ([.ref h0]) (n := 3) (Nat.le_of_ble_eq_true rfl)
  rw [lg_entry_eq]
  generalize (lg_sl ([.ref h0]) ++ List.replicate (3 - (lg_sl ([.ref h0])).length) Slot.unset).toArray = ls at hl ⊢
  have hl : lv_has ls 3 [(0, .ref h0)] := hl
  obtain ⟨H, hH⟩ : ∃ z, z = s.heap := ⟨_, rfl⟩
  have hS : va_S A s.heap H [] := by rw [hH]; exact hS
  have hP : va_P G.1 vwCl [(h0, .inr (9, [.ref lr, .int 0]))] H := by rw [hH]; exact hP
  refine n_heap hH ?_
  generalize ([] : List Loc) = locs at hS ⊢
  have hiX8 : ∀ w ∈ u_ws RX8 TX8 2, w ∈ wsX8_lettersOfAllForms := by decide +kernel
  refine lv_iconst (v := 0) hx hb dX8_lettersOfAllForms_0 (by decide) ?_
  refine lv_istore_n (lv' := [(1, .int 0), (0, .ref h0)]) hx hb dX8_lettersOfAllForms_1 rfl hl (by decide) rfl (fun ls hl => ?_)
  refine lv_iconst (v := 0) hx hb dX8_lettersOfAllForms_2 (by decide) ?_
  refine lv_istore_n (lv' := [(2, .int 0), (1, .int 0), (0, .ref h0)]) hx hb dX8_lettersOfAllForms_3 rfl hl (by decide) rfl (fun ls hl => ?_)
  refine lv_iload_n hx hb dX8_lettersOfAllForms_4 rfl (lv_at hl 0 rfl) ?_
  refine lv_aload_n hx hb dX8_lettersOfAllForms_5 rfl (lv_at hl 2 rfl) ?_
  refine va_get (D := G.1) (ci := 9) (v := .int 0) (C := RX8) (T := TX8) (N := 2) hx hb hts hiX8 hown hK hP 0 rfl rfl 1 (by decide) (hts (.fieldLink RX8 17 "DialectDictionary$Lexicon" "count" "I") (by decide +kernel)) (fun _ h9 => h9) rfl dX8_lettersOfAllForms_6 ?_
  refine lv_icmp_ge (tgt := 30) hx hb dX8_lettersOfAllForms_9 (by decide) (fun _ => ?_) (fun h9 => absurd (by decide) h9)
  refine lv_iload_n hx hb dX8_lettersOfAllForms_30 rfl (lv_at hl 1 rfl) ?_
  have hP9 := n_Psub (wc := [(h0, .inr (9, [.ref lr, .int 0]))]) hP [0] rfl
  have hD9 := hD.sub (ws' := [(h0, .inr (9, [.ref lr, .int 0]))]) [0] (by decide) rfl
  refine W.widen (k := 0) (n := 0) (Nat.le_of_ble_eq_true rfl) (Nat.le_of_ble_eq_true rfl) ?_
  exact W.iret (v := 0) hx hb hr (fun t ht hW => ⟨⟨0, (), rfl, rfl, by rw [ht]; exact hP9, va_K.moved hW.alike hK, hD9⟩, hS.F ht⟩) hS.2.2 dX8_lettersOfAllForms_31

set_option maxHeartbeats 4000000 in
set_option maxRecDepth 100000 in
theorem mX8_references (l : Launch) (G : nG) (h0 : Nat) (lr : Nat) (sz : Nat) : Met l yX8_references wsX8_references ({ frames := 0, cells := 0, slots := 0, locals := 0 }) (va_Pc [.ref h0] (n_pp G [(h0, .inr (9, [.ref lr, .int 0]))] sz)) (va_Qi (fun (r : Int32) (_ : Unit) => r = 0) (fun (_ : Unit) (t : State) => n_po G (va_A [(h0, .inr (9, [.ref lr, .int 0]))] sz) [(h0, .inr (9, [.ref lr, .int 0]))] t) (va_A [(h0, .inr (9, [.ref lr, .int 0]))] sz)) 0 0 (va_A [(h0, .inr (9, [.ref lr, .int 0]))] sz) := by
  refine Met.ofW (cc := cX8_references) (maxL := 3) (ret := (some .int)) (by decide) rfl ?_
  intro p e s m args below meth c s₁ B hml hv
  obtain ⟨rfl, hsz, hP, hK, hD0⟩ := hv
  have hx := B.exec
  have hb := B.bytes
  have hr := B.returns
  have hts := atoms_spec (ws := wsX8_references) B.pre
  have hown : s.vm.findClass RX8 = some m.cls := findClass_of_methodNamed B.named
  have hlocks := B.notSynchronized
  subst hsz
  have hD := hD0.self (sz := s.heap.size)
  generalize hAe : va_A [(h0, .inr (9, [.ref lr, .int 0]))] s.heap.size = A at hD ⊢
  have hA : ∀ q : Nat, s.heap.size ≤ q → A q := fun q h => by rw [← hAe]; exact Or.inr h
  have hS : va_S A s.heap s.heap [] := va_S.rf
  have hP : va_P G.1 vwCl [(h0, .inr (9, [.ref lr, .int 0]))] s.heap := hP
  have hl := lv_entry ([.ref h0]) (n := 3) (Nat.le_of_ble_eq_true rfl)
  rw [lg_entry_eq]
  generalize (lg_sl ([.ref h0]) ++ List.replicate (3 - (lg_sl ([.ref h0])).length) Slot.unset).toArray = ls at hl ⊢
  have hl : lv_has ls 3 [(0, .ref h0)] := hl
  obtain ⟨H, hH⟩ : ∃ z, z = s.heap := ⟨_, rfl⟩
  have hS : va_S A s.heap H [] := by rw [hH]; exact hS
  have hP : va_P G.1 vwCl [(h0, .inr (9, [.ref lr, .int 0]))] H := by rw [hH]; exact hP
  refine n_heap hH ?_
  generalize ([] : List Loc) = locs at hS ⊢
  have hiX8 : ∀ w ∈ u_ws RX8 TX8 2, w ∈ wsX8_references := by decide +kernel
  refine lv_iconst (v := 0) hx hb dX8_references_0 (by decide) ?_
  refine lv_istore_n (lv' := [(1, .int 0), (0, .ref h0)]) hx hb dX8_references_1 rfl hl (by decide) rfl (fun ls hl => ?_)
  refine lv_iconst (v := 0) hx hb dX8_references_2 (by decide) ?_
  refine lv_istore_n (lv' := [(2, .int 0), (1, .int 0), (0, .ref h0)]) hx hb dX8_references_3 rfl hl (by decide) rfl (fun ls hl => ?_)
  refine lv_iload_n hx hb dX8_references_4 rfl (lv_at hl 0 rfl) ?_
  refine lv_aload_n hx hb dX8_references_5 rfl (lv_at hl 2 rfl) ?_
  refine va_get (D := G.1) (ci := 9) (v := .int 0) (C := RX8) (T := TX8) (N := 2) hx hb hts hiX8 hown hK hP 0 rfl rfl 1 (by decide) (hts (.fieldLink RX8 17 "DialectDictionary$Lexicon" "count" "I") (by decide +kernel)) (fun _ h9 => h9) rfl dX8_references_6 ?_
  refine lv_icmp_ge (tgt := 34) hx hb dX8_references_9 (by decide) (fun _ => ?_) (fun h9 => absurd (by decide) h9)
  refine lv_iload_n hx hb dX8_references_34 rfl (lv_at hl 1 rfl) ?_
  have hP9 := n_Psub (wc := [(h0, .inr (9, [.ref lr, .int 0]))]) hP [0] rfl
  have hD9 := hD.sub (ws' := [(h0, .inr (9, [.ref lr, .int 0]))]) [0] (by decide) rfl
  refine W.widen (k := 0) (n := 0) (Nat.le_of_ble_eq_true rfl) (Nat.le_of_ble_eq_true rfl) ?_
  exact W.iret (v := 0) hx hb hr (fun t ht hW => ⟨⟨0, (), rfl, rfl, by rw [ht]; exact hP9, va_K.moved hW.alike hK, hD9⟩, hS.F ht⟩) hS.2.2 dX8_references_35

set_option maxHeartbeats 4000000 in
set_option maxRecDepth 100000 in
theorem mX8_unconnected (l : Launch) (G : nG) (h0 : Nat) (lr : Nat) (sz : Nat) : Met l yX8_unconnected wsX8_unconnected ({ frames := 0, cells := 0, slots := 0, locals := 0 }) (va_Pc [.ref h0] (n_pp G [(h0, .inr (9, [.ref lr, .int 0]))] sz)) (va_Qi (fun (r : Int32) (_ : Unit) => r = 0) (fun (_ : Unit) (t : State) => n_po G (va_A [(h0, .inr (9, [.ref lr, .int 0]))] sz) [(h0, .inr (9, [.ref lr, .int 0]))] t) (va_A [(h0, .inr (9, [.ref lr, .int 0]))] sz)) 0 0 (va_A [(h0, .inr (9, [.ref lr, .int 0]))] sz) := by
  refine Met.ofW (cc := cX8_unconnected) (maxL := 3) (ret := (some .int)) (by decide) rfl ?_
  intro p e s m args below meth c s₁ B hml hv
  obtain ⟨rfl, hsz, hP, hK, hD0⟩ := hv
  have hx := B.exec
  have hb := B.bytes
  have hr := B.returns
  have hts := atoms_spec (ws := wsX8_unconnected) B.pre
  have hown : s.vm.findClass RX8 = some m.cls := findClass_of_methodNamed B.named
  have hlocks := B.notSynchronized
  subst hsz
  have hD := hD0.self (sz := s.heap.size)
  generalize hAe : va_A [(h0, .inr (9, [.ref lr, .int 0]))] s.heap.size = A at hD ⊢
  have hA : ∀ q : Nat, s.heap.size ≤ q → A q := fun q h => by rw [← hAe]; exact Or.inr h
  have hS : va_S A s.heap s.heap [] := va_S.rf
  have hP : va_P G.1 vwCl [(h0, .inr (9, [.ref lr, .int 0]))] s.heap := hP
  have hl := lv_entry ([.ref h0]) (n := 3) (Nat.le_of_ble_eq_true rfl)
  rw [lg_entry_eq]
  generalize (lg_sl ([.ref h0]) ++ List.replicate (3 - (lg_sl ([.ref h0])).length) Slot.unset).toArray = ls at hl ⊢
  have hl : lv_has ls 3 [(0, .ref h0)] := hl
  obtain ⟨H, hH⟩ : ∃ z, z = s.heap := ⟨_, rfl⟩
  have hS : va_S A s.heap H [] := by rw [hH]; exact hS
  have hP : va_P G.1 vwCl [(h0, .inr (9, [.ref lr, .int 0]))] H := by rw [hH]; exact hP
  refine n_heap hH ?_
  generalize ([] : List Loc) = locs at hS ⊢
  have hiX8 : ∀ w ∈ u_ws RX8 TX8 2, w ∈ wsX8_unconnected := by decide +kernel
  refine lv_iconst (v := 0) hx hb dX8_unconnected_0 (by decide) ?_
  refine lv_istore_n (lv' := [(1, .int 0), (0, .ref h0)]) hx hb dX8_unconnected_1 rfl hl (by decide) rfl (fun ls hl => ?_)
  refine lv_iconst (v := 0) hx hb dX8_unconnected_2 (by decide) ?_
  refine lv_istore_n (lv' := [(2, .int 0), (1, .int 0), (0, .ref h0)]) hx hb dX8_unconnected_3 rfl hl (by decide) rfl (fun ls hl => ?_)
  refine lv_iload_n hx hb dX8_unconnected_4 rfl (lv_at hl 0 rfl) ?_
  refine lv_aload_n hx hb dX8_unconnected_5 rfl (lv_at hl 2 rfl) ?_
  refine va_get (D := G.1) (ci := 9) (v := .int 0) (C := RX8) (T := TX8) (N := 2) hx hb hts hiX8 hown hK hP 0 rfl rfl 1 (by decide) (hts (.fieldLink RX8 17 "DialectDictionary$Lexicon" "count" "I") (by decide +kernel)) (fun _ h9 => h9) rfl dX8_unconnected_6 ?_
  refine lv_icmp_ge (tgt := 42) hx hb dX8_unconnected_9 (by decide) (fun _ => ?_) (fun h9 => absurd (by decide) h9)
  refine lv_iload_n hx hb dX8_unconnected_42 rfl (lv_at hl 1 rfl) ?_
  have hP9 := n_Psub (wc := [(h0, .inr (9, [.ref lr, .int 0]))]) hP [0] rfl
  have hD9 := hD.sub (ws' := [(h0, .inr (9, [.ref lr, .int 0]))]) [0] (by decide) rfl
  refine W.widen (k := 0) (n := 0) (Nat.le_of_ble_eq_true rfl) (Nat.le_of_ble_eq_true rfl) ?_
  exact W.iret (v := 0) hx hb hr (fun t ht hW => ⟨⟨0, (), rfl, rfl, by rw [ht]; exact hP9, va_K.moved hW.alike hK, hD9⟩, hS.F ht⟩) hS.2.2 dX8_unconnected_43

set_option maxHeartbeats 4000000 in
set_option maxRecDepth 100000 in
theorem mX8_hasHeadword (l : Launch) (G : nG) (h0 : Nat) (lr : Nat) (q : Int32) (sz : Nat) : Met l yX8_hasHeadword wsX8_hasHeadword ({ frames := 0, cells := 0, slots := 0, locals := 0 }) (va_Pc [.ref h0, .int q] (n_pp G [(h0, .inr (9, [.ref lr, .int 0]))] sz)) (va_Qi (fun (r : Int32) (_ : Unit) => r = 0) (fun (_ : Unit) (t : State) => n_po G (va_A [(h0, .inr (9, [.ref lr, .int 0]))] sz) [(h0, .inr (9, [.ref lr, .int 0]))] t) (va_A [(h0, .inr (9, [.ref lr, .int 0]))] sz)) 0 0 (va_A [(h0, .inr (9, [.ref lr, .int 0]))] sz) := by
  refine Met.ofW (cc := cX8_hasHeadword) (maxL := 2) (ret := (some .boolean)) (by decide) rfl ?_
  intro p e s m args below meth c s₁ B hml hv
  obtain ⟨rfl, hsz, hP, hK, hD0⟩ := hv
  have hx := B.exec
  have hb := B.bytes
  have hr := B.returns
  have hts := atoms_spec (ws := wsX8_hasHeadword) B.pre
  have hown : s.vm.findClass RX8 = some m.cls := findClass_of_methodNamed B.named
  have hlocks := B.notSynchronized
  subst hsz
  have hD := hD0.self (sz := s.heap.size)
  generalize hAe : va_A [(h0, .inr (9, [.ref lr, .int 0]))] s.heap.size = A at hD ⊢
  have hA : ∀ q : Nat, s.heap.size ≤ q → A q := fun q h => by rw [← hAe]; exact Or.inr h
  have hS : va_S A s.heap s.heap [] := va_S.rf
  have hP : va_P G.1 vwCl [(h0, .inr (9, [.ref lr, .int 0]))] s.heap := hP
  have hl := lv_entry ([.ref h0, .int q]) (n := 2) (Nat.le_of_ble_eq_true rfl)
  rw [lg_entry_eq]
  generalize (lg_sl ([.ref h0, .int q]) ++ List.replicate (2 - (lg_sl ([.ref h0, .int q])).length) Slot.unset).toArray = ls at hl ⊢
  have hl : lv_has ls 2 [(0, .ref h0), (1, .int q)] := hl
  obtain ⟨H, hH⟩ : ∃ z, z = s.heap := ⟨_, rfl⟩
  have hS : va_S A s.heap H [] := by rw [hH]; exact hS
  have hP : va_P G.1 vwCl [(h0, .inr (9, [.ref lr, .int 0]))] H := by rw [hH]; exact hP
  refine n_heap hH ?_
  generalize ([] : List Loc) = locs at hS ⊢
  have hiX8 : ∀ w ∈ u_ws RX8 TX8 2, w ∈ wsX8_hasHeadword := by decide +kernel
  refine lv_iload_n hx hb dX8_hasHeadword_0 rfl (lv_at hl 1 rfl) ?_
  refine lv_if_lt (tgt := 16) hx hb dX8_hasHeadword_1 (by decide) (fun c_1 => ?_) (fun c_1 => ?_)
  · skip
    refine lv_iconst (v := 0) hx hb dX8_hasHeadword_16 (by decide) ?_
    have hP9 := n_Psub (wc := [(h0, .inr (9, [.ref lr, .int 0]))]) hP [0] rfl
    have hD9 := hD.sub (ws' := [(h0, .inr (9, [.ref lr, .int 0]))]) [0] (by decide) rfl
    refine W.widen (k := 0) (n := 0) (Nat.le_of_ble_eq_true rfl) (Nat.le_of_ble_eq_true rfl) ?_
    exact W.zret (v := 0) (ty := .boolean) hx hb hr rfl (fun t ht hW => ⟨⟨0, (), rfl, rfl, by rw [ht]; exact hP9, va_K.moved hW.alike hK, hD9⟩, hS.F ht⟩) hS.2.2 dX8_hasHeadword_17
  · skip
    refine lv_iload_n hx hb dX8_hasHeadword_4 rfl (lv_at hl 1 rfl) ?_
    refine lv_aload_n hx hb dX8_hasHeadword_5 rfl (lv_at hl 0 rfl) ?_
    refine va_get (D := G.1) (ci := 9) (v := .int 0) (C := RX8) (T := TX8) (N := 2) hx hb hts hiX8 hown hK hP 0 rfl rfl 1 (by decide) (hts (.fieldLink RX8 17 "DialectDictionary$Lexicon" "count" "I") (by decide +kernel)) (fun _ h9 => h9) rfl dX8_hasHeadword_6 ?_
    refine lv_icmp_ge (tgt := 16) hx hb dX8_hasHeadword_9 (by decide) (fun _ => ?_) (fun h9 => absurd (Int32.not_lt.mp c_1) h9)
    refine lv_iconst (v := 0) hx hb dX8_hasHeadword_16 (by decide) ?_
    have hP9 := n_Psub (wc := [(h0, .inr (9, [.ref lr, .int 0]))]) hP [0] rfl
    have hD9 := hD.sub (ws' := [(h0, .inr (9, [.ref lr, .int 0]))]) [0] (by decide) rfl
    refine W.widen (k := 0) (n := 0) (Nat.le_of_ble_eq_true rfl) (Nat.le_of_ble_eq_true rfl) ?_
    exact W.zret (v := 0) (ty := .boolean) hx hb hr rfl (fun t ht hW => ⟨⟨0, (), rfl, rfl, by rw [ht]; exact hP9, va_K.moved hW.alike hK, hD9⟩, hS.F ht⟩) hS.2.2 dX8_hasHeadword_17

set_option maxHeartbeats 4000000 in
set_option maxRecDepth 100000 in
theorem mX8_atPlaceInOrder (l : Launch) (G : nG) (h0 : Nat) (lr : Nat) (q : Int32) (al : Nat) (sz : Nat) : Met l yX8_atPlaceInOrder wsX8_atPlaceInOrder ({ frames := 0, cells := 0, slots := 0, locals := 0 }) (va_Pc [.ref h0, .int q, .ref al] (n_pp G [(h0, .inr (9, [.ref lr, .int 0]))] sz)) (va_Qi (fun (r : Int32) (_ : Unit) => r = (-1)) (fun (_ : Unit) (t : State) => n_po G (va_A [(h0, .inr (9, [.ref lr, .int 0]))] sz) [(h0, .inr (9, [.ref lr, .int 0]))] t) (va_A [(h0, .inr (9, [.ref lr, .int 0]))] sz)) 0 0 (va_A [(h0, .inr (9, [.ref lr, .int 0]))] sz) := by
  refine Met.ofW (cc := cX8_atPlaceInOrder) (maxL := 4) (ret := (some .int)) (by decide) rfl ?_
  intro p e s m args below meth c s₁ B hml hv
  obtain ⟨rfl, hsz, hP, hK, hD0⟩ := hv
  have hx := B.exec
  have hb := B.bytes
  have hr := B.returns
  have hts := atoms_spec (ws := wsX8_atPlaceInOrder) B.pre
  have hown : s.vm.findClass RX8 = some m.cls := findClass_of_methodNamed B.named
  have hlocks := B.notSynchronized
  subst hsz
  have hD := hD0.self (sz := s.heap.size)
  generalize hAe : va_A [(h0, .inr (9, [.ref lr, .int 0]))] s.heap.size = A at hD ⊢
  have hA : ∀ q : Nat, s.heap.size ≤ q → A q := fun q h => by rw [← hAe]; exact Or.inr h
  have hS : va_S A s.heap s.heap [] := va_S.rf
  have hP : va_P G.1 vwCl [(h0, .inr (9, [.ref lr, .int 0]))] s.heap := hP
  have hl := lv_entry ([.ref h0, .int q, .ref al]) (n := 4) (Nat.le_of_ble_eq_true rfl)
  rw [lg_entry_eq]
  generalize (lg_sl ([.ref h0, .int q, .ref al]) ++ List.replicate (4 - (lg_sl ([.ref h0, .int q, .ref al])).length) Slot.unset).toArray = ls at hl ⊢
  have hl : lv_has ls 4 [(0, .ref h0), (1, .int q), (2, .ref al)] := hl
  obtain ⟨H, hH⟩ : ∃ z, z = s.heap := ⟨_, rfl⟩
  have hS : va_S A s.heap H [] := by rw [hH]; exact hS
  have hP : va_P G.1 vwCl [(h0, .inr (9, [.ref lr, .int 0]))] H := by rw [hH]; exact hP
  refine n_heap hH ?_
  generalize ([] : List Loc) = locs at hS ⊢
  have hiX8 : ∀ w ∈ u_ws RX8 TX8 2, w ∈ wsX8_atPlaceInOrder := by decide +kernel
  refine lv_iconst (v := 0) hx hb dX8_atPlaceInOrder_0 (by decide) ?_
  refine lv_istore_n (lv' := [(3, .int 0), (0, .ref h0), (1, .int q), (2, .ref al)]) hx hb dX8_atPlaceInOrder_1 rfl hl (by decide) rfl (fun ls hl => ?_)
  refine lv_iload_n hx hb dX8_atPlaceInOrder_2 rfl (lv_at hl 0 rfl) ?_
  refine lv_aload_n hx hb dX8_atPlaceInOrder_3 rfl (lv_at hl 1 rfl) ?_
  refine va_get (D := G.1) (ci := 9) (v := .int 0) (C := RX8) (T := TX8) (N := 2) hx hb hts hiX8 hown hK hP 0 rfl rfl 1 (by decide) (hts (.fieldLink RX8 17 "DialectDictionary$Lexicon" "count" "I") (by decide +kernel)) (fun _ h9 => h9) rfl dX8_atPlaceInOrder_4 ?_
  refine lv_icmp_ge (tgt := 28) hx hb dX8_atPlaceInOrder_7 (by decide) (fun _ => ?_) (fun h9 => absurd (by decide) h9)
  refine lv_iconst (v := -1) hx hb dX8_atPlaceInOrder_28 (by decide) ?_
  have hP9 := n_Psub (wc := [(h0, .inr (9, [.ref lr, .int 0]))]) hP [0] rfl
  have hD9 := hD.sub (ws' := [(h0, .inr (9, [.ref lr, .int 0]))]) [0] (by decide) rfl
  refine W.widen (k := 0) (n := 0) (Nat.le_of_ble_eq_true rfl) (Nat.le_of_ble_eq_true rfl) ?_
  exact W.iret (v := (-1)) hx hb hr (fun t ht hW => ⟨⟨(-1), (), rfl, rfl, by rw [ht]; exact hP9, va_K.moved hW.alike hK, hD9⟩, hS.F ht⟩) hS.2.2 dX8_atPlaceInOrder_29

set_option maxHeartbeats 4000000 in
set_option maxRecDepth 100000 in
theorem mX8_copyFrom (l : Launch) (G : nG) (h0 : Nat) (lr : Nat) (z : Int32) (h1 : Nat) (lr2 : Nat) (sz : Nat) : Met l yX8_copyFrom wsX8_copyFrom ({ frames := 0, cells := 0, slots := 0, locals := 0 }) (va_Pc [.ref h0, .ref h1] (n_pp G [(h0, .inr (9, [.ref lr, .int z])), (h1, .inr (9, [.ref lr2, .int 0]))] sz)) (va_Qv (fun (_ : Unit) => True) (fun (_ : Unit) (t : State) => n_po G (va_A [(h0, .inr (9, [.ref lr, .int z])), (h1, .inr (9, [.ref lr2, .int 0]))] sz) [(h1, .inr (9, [.ref lr2, .int 0]))] t) (va_A [(h0, .inr (9, [.ref lr, .int z])), (h1, .inr (9, [.ref lr2, .int 0]))] sz)) 0 0 (va_A [(h0, .inr (9, [.ref lr, .int z])), (h1, .inr (9, [.ref lr2, .int 0]))] sz) := by
  refine Met.ofW (cc := cX8_copyFrom) (maxL := 3) (ret := none) (by decide) rfl ?_
  intro p e s m args below meth c s₁ B hml hv
  obtain ⟨rfl, hsz, hP, hK, hD0⟩ := hv
  have hx := B.exec
  have hb := B.bytes
  have hr := B.returns
  have hts := atoms_spec (ws := wsX8_copyFrom) B.pre
  have hown : s.vm.findClass RX8 = some m.cls := findClass_of_methodNamed B.named
  have hlocks := B.notSynchronized
  subst hsz
  have hD := hD0.self (sz := s.heap.size)
  generalize hAe : va_A [(h0, .inr (9, [.ref lr, .int z])), (h1, .inr (9, [.ref lr2, .int 0]))] s.heap.size = A at hD ⊢
  have hA : ∀ q : Nat, s.heap.size ≤ q → A q := fun q h => by rw [← hAe]; exact Or.inr h
  have hS : va_S A s.heap s.heap [] := va_S.rf
  have hP : va_P G.1 vwCl [(h0, .inr (9, [.ref lr, .int z])), (h1, .inr (9, [.ref lr2, .int 0]))] s.heap := hP
  have hl := lv_entry ([.ref h0, .ref h1]) (n := 3) (Nat.le_of_ble_eq_true rfl)
  rw [lg_entry_eq]
  generalize (lg_sl ([.ref h0, .ref h1]) ++ List.replicate (3 - (lg_sl ([.ref h0, .ref h1])).length) Slot.unset).toArray = ls at hl ⊢
  have hl : lv_has ls 3 [(0, .ref h0), (1, .ref h1)] := hl
  obtain ⟨H, hH⟩ : ∃ z, z = s.heap := ⟨_, rfl⟩
  have hS : va_S A s.heap H [] := by rw [hH]; exact hS
  have hP : va_P G.1 vwCl [(h0, .inr (9, [.ref lr, .int z])), (h1, .inr (9, [.ref lr2, .int 0]))] H := by rw [hH]; exact hP
  refine n_heap hH ?_
  generalize ([] : List Loc) = locs at hS ⊢
  have hiX8 : ∀ w ∈ u_ws RX8 TX8 2, w ∈ wsX8_copyFrom := by decide +kernel
  refine lv_iconst (v := 0) hx hb dX8_copyFrom_0 (by decide) ?_
  refine lv_istore_n (lv' := [(2, .int 0), (0, .ref h0), (1, .ref h1)]) hx hb dX8_copyFrom_1 rfl hl (by decide) rfl (fun ls hl => ?_)
  refine lv_iload_n hx hb dX8_copyFrom_2 rfl (lv_at hl 0 rfl) ?_
  refine lv_aload_n hx hb dX8_copyFrom_3 rfl (lv_at hl 2 rfl) ?_
  refine va_get (D := G.1) (ci := 9) (v := .int 0) (C := RX8) (T := TX8) (N := 2) hx hb hts hiX8 hown hK hP 1 rfl rfl 1 (by decide) (hts (.fieldLink RX8 17 "DialectDictionary$Lexicon" "count" "I") (by decide +kernel)) (fun _ h9 => h9) rfl dX8_copyFrom_4 ?_
  refine lv_icmp_ge (tgt := 31) hx hb dX8_copyFrom_7 (by decide) (fun _ => ?_) (fun h9 => absurd (by decide) h9)
  refine lv_aload_n hx hb dX8_copyFrom_31 rfl (lv_at hl 1 rfl) ?_
  refine lv_aload_n hx hb dX8_copyFrom_32 rfl (lv_at hl 2 rfl) ?_
  refine va_get (D := G.1) (ci := 9) (v := .int 0) (C := RX8) (T := TX8) (N := 2) hx hb hts hiX8 hown hK hP 1 rfl rfl 1 (by decide) (hts (.fieldLink RX8 17 "DialectDictionary$Lexicon" "count" "I") (by decide +kernel)) (fun _ h9 => h9) rfl dX8_copyFrom_33 ?_
  refine va_put (D := G.1) (ci := 9) (v := .int 0) (ty := .int) (C := RX8) (T := TX8) (N := 2) hx hb hts hiX8 tyX8 tyX8_ok nmX8 hown hK hP hD hS 0 rfl rfl 1 (by decide) (hts (.fieldLink RX8 17 "DialectDictionary$Lexicon" "count" "I") (by decide +kernel)) (fun _ h9 => h9) rfl (by decide +kernel) rfl rfl (Nat.le_of_ble_eq_true rfl) dX8_copyFrom_36 (fun H locs hP hD hS => ?_)
  have hP : va_P G.1 vwCl [(h0, .inr (9, [.ref lr, .int 0])), (h1, .inr (9, [.ref lr2, .int 0]))] H := hP
  have hD : va_D A [(h0, .inr (9, [.ref lr, .int 0])), (h1, .inr (9, [.ref lr2, .int 0]))] := hD
  have hP9 := n_Psub (wc := [(h1, .inr (9, [.ref lr2, .int 0]))]) hP [1] rfl
  have hD9 := hD.sub (ws' := [(h1, .inr (9, [.ref lr2, .int 0]))]) [1] (by decide) rfl
  refine W.widen (k := 0) (n := 0) (Nat.le_of_ble_eq_true rfl) (Nat.le_of_ble_eq_true rfl) ?_
  exact W.vret hx hb hr (fun t ht hW => ⟨⟨(), rfl, trivial, by rw [ht]; exact hP9, va_K.moved hW.alike hK, hD9⟩, hS.F ht⟩) hS.2.2 dX8_copyFrom_39

set_option maxHeartbeats 4000000 in
set_option maxRecDepth 100000 in
theorem mX10_copyFrom (l : Launch) (G : nG) (h0 : Nat) (as1 : Nat) (as2 : Nat) (as3 : Nat) (as4 : Nat) (ac1 : Nat → Int32) (ac2 : Nat → Int32) (ac3 : Nat → Int32) (ac4 : Nat → Int32) (z : Int32) (h1 : Nat) (bs1 : Nat) (bs2 : Nat) (bs3 : Nat) (bs4 : Nat) (bc1 : Nat → Int32) (bc2 : Nat → Int32) (bc3 : Nat → Int32) (bc4 : Nat → Int32) (sz : Nat) : Met l yX10_copyFrom wsX10_copyFrom ({ frames := 1, cells := 0, slots := 0, locals := 60 }) (va_Pc [.ref h0, .ref h1] (n_pp G [(h0, .inr (11, [.ref as1, .ref as2, .ref as3, .ref as4, .int z])), (as1, eI G 8 ac1), (as2, eI G 8 ac2), (as3, eI G 8 ac3), (as4, eI G 8 ac4), (h1, .inr (11, [.ref bs1, .ref bs2, .ref bs3, .ref bs4, .int 0])), (bs1, eI G 8 bc1), (bs2, eI G 8 bc2), (bs3, eI G 8 bc3), (bs4, eI G 8 bc4)] sz)) (va_Qv (fun (_ : Unit) => True) (fun (_ : Unit) (t : State) => n_po G (va_A [(h0, .inr (11, [.ref as1, .ref as2, .ref as3, .ref as4, .int z])), (as1, eI G 8 ac1), (as2, eI G 8 ac2), (as3, eI G 8 ac3), (as4, eI G 8 ac4), (h1, .inr (11, [.ref bs1, .ref bs2, .ref bs3, .ref bs4, .int 0])), (bs1, eI G 8 bc1), (bs2, eI G 8 bc2), (bs3, eI G 8 bc3), (bs4, eI G 8 bc4)] sz) [(h1, .inr (11, [.ref bs1, .ref bs2, .ref bs3, .ref bs4, .int 0])), (bs1, eI G 8 bc1), (bs2, eI G 8 bc2), (bs3, eI G 8 bc3), (bs4, eI G 8 bc4)] t) (va_A [(h0, .inr (11, [.ref as1, .ref as2, .ref as3, .ref as4, .int z])), (as1, eI G 8 ac1), (as2, eI G 8 ac2), (as3, eI G 8 ac3), (as4, eI G 8 ac4), (h1, .inr (11, [.ref bs1, .ref bs2, .ref bs3, .ref bs4, .int 0])), (bs1, eI G 8 bc1), (bs2, eI G 8 bc2), (bs3, eI G 8 bc3), (bs4, eI G 8 bc4)] sz)) 0 0 (va_A [(h0, .inr (11, [.ref as1, .ref as2, .ref as3, .ref as4, .int z])), (as1, eI G 8 ac1), (as2, eI G 8 ac2), (as3, eI G 8 ac3), (as4, eI G 8 ac4), (h1, .inr (11, [.ref bs1, .ref bs2, .ref bs3, .ref bs4, .int 0])), (bs1, eI G 8 bc1), (bs2, eI G 8 bc2), (bs3, eI G 8 bc3), (bs4, eI G 8 bc4)] sz) := by
  refine Met.ofW (cc := cX10_copyFrom) (maxL := 2) (ret := none) (by decide) rfl ?_
  intro p e s m args below meth c s₁ B hml hv
  obtain ⟨rfl, hsz, hP, hK, hD0⟩ := hv
  have hx := B.exec
  have hb := B.bytes
  have hr := B.returns
  have hts := atoms_spec (ws := wsX10_copyFrom) B.pre
  have hown : s.vm.findClass RX10 = some m.cls := findClass_of_methodNamed B.named
  have hlocks := B.notSynchronized
  subst hsz
  have hD := hD0.self (sz := s.heap.size)
  generalize hAe : va_A [(h0, .inr (11, [.ref as1, .ref as2, .ref as3, .ref as4, .int z])), (as1, eI G 8 ac1), (as2, eI G 8 ac2), (as3, eI G 8 ac3), (as4, eI G 8 ac4), (h1, .inr (11, [.ref bs1, .ref bs2, .ref bs3, .ref bs4, .int 0])), (bs1, eI G 8 bc1), (bs2, eI G 8 bc2), (bs3, eI G 8 bc3), (bs4, eI G 8 bc4)] s.heap.size = A at hD ⊢
  have hA : ∀ q : Nat, s.heap.size ≤ q → A q := fun q h => by rw [← hAe]; exact Or.inr h
  have hS : va_S A s.heap s.heap [] := va_S.rf
  have hP : va_P G.1 vwCl [(h0, .inr (11, [.ref as1, .ref as2, .ref as3, .ref as4, .int z])), (as1, eI G 8 ac1), (as2, eI G 8 ac2), (as3, eI G 8 ac3), (as4, eI G 8 ac4), (h1, .inr (11, [.ref bs1, .ref bs2, .ref bs3, .ref bs4, .int 0])), (bs1, eI G 8 bc1), (bs2, eI G 8 bc2), (bs3, eI G 8 bc3), (bs4, eI G 8 bc4)] s.heap := hP
  have hl := lv_entry ([.ref h0, .ref h1]) (n := 2) (Nat.le_of_ble_eq_true rfl)
  rw [lg_entry_eq]
  generalize (lg_sl ([.ref h0, .ref h1]) ++ List.replicate (2 - (lg_sl ([.ref h0, .ref h1])).length) Slot.unset).toArray = ls at hl ⊢
  have hl : lv_has ls 2 [(0, .ref h0), (1, .ref h1)] := hl
  obtain ⟨H, hH⟩ : ∃ z, z = s.heap := ⟨_, rfl⟩
  have hS : va_S A s.heap H [] := by rw [hH]; exact hS
  have hP : va_P G.1 vwCl [(h0, .inr (11, [.ref as1, .ref as2, .ref as3, .ref as4, .int z])), (as1, eI G 8 ac1), (as2, eI G 8 ac2), (as3, eI G 8 ac3), (as4, eI G 8 ac4), (h1, .inr (11, [.ref bs1, .ref bs2, .ref bs3, .ref bs4, .int 0])), (bs1, eI G 8 bc1), (bs2, eI G 8 bc2), (bs3, eI G 8 bc3), (bs4, eI G 8 bc4)] H := by rw [hH]; exact hP
  refine n_heap hH ?_
  generalize ([] : List Loc) = locs at hS ⊢
  have hiX10 : ∀ w ∈ u_ws RX10 TX10 5, w ∈ wsX10_copyFrom := by decide +kernel
  refine lv_aload_n hx hb dX10_copyFrom_0 rfl (lv_at hl 1 rfl) ?_
  refine va_get (D := G.1) (ci := 11) (v := .ref bs1) (C := RX10) (T := TX10) (N := 5) hx hb hts hiX10 hown hK hP 5 rfl rfl 0 (by decide) (hts (.fieldLink RX10 9 "DialectDictionary$Rules" "from" "[I") (by decide +kernel)) (fun _ h9 => h9) rfl dX10_copyFrom_1 ?_
  refine lv_iconst (v := 0) hx hb dX10_copyFrom_4 (by decide) ?_
  refine lv_aload_n hx hb dX10_copyFrom_5 rfl (lv_at hl 0 rfl) ?_
  refine va_get (D := G.1) (ci := 11) (v := .ref as1) (C := RX10) (T := TX10) (N := 5) hx hb hts hiX10 hown hK hP 0 rfl rfl 0 (by decide) (hts (.fieldLink RX10 9 "DialectDictionary$Rules" "from" "[I") (by decide +kernel)) (fun _ h9 => h9) rfl dX10_copyFrom_6 ?_
  refine lv_iconst (v := 0) hx hb dX10_copyFrom_9 (by decide) ?_
  refine lv_bipush (v := 8) hx hb dX10_copyFrom_10 (by decide) ?_
  refine va_copyi hx hb (hml.trans hl.1.symm) hown (hts (.methodLink RX10 28 arraycopyName) (by decide +kernel)) (hts (.native arraycopyName) (by decide +kernel)) (hts (.static arraycopyName) (by decide +kernel)) (hts (.initialized "java/lang/System") (by decide +kernel)) hK hP hD hS 6 1 0 0 rfl rfl rfl rfl rfl (by decide) (by decide) (by decide) (by decide) (by decide) (fun i _ => rfl) (Nat.le_of_ble_eq_true rfl) (Nat.le_of_ble_eq_true rfl) dX10_copyFrom_12 (fun H locs hP hD hS => ?_)
  have hP : va_P G.1 vwCl [(h0, .inr (11, [.ref as1, .ref as2, .ref as3, .ref as4, .int z])), (as1, eI G 8 (va_cpy bc1 ac1 ((0 : Int32).toNatClampNeg) ((0 : Int32).toNatClampNeg) ((8 : Int32).toNatClampNeg))), (as2, eI G 8 ac2), (as3, eI G 8 ac3), (as4, eI G 8 ac4), (h1, .inr (11, [.ref bs1, .ref bs2, .ref bs3, .ref bs4, .int 0])), (bs1, eI G 8 bc1), (bs2, eI G 8 bc2), (bs3, eI G 8 bc3), (bs4, eI G 8 bc4)] H := hP
  have hD : va_D A [(h0, .inr (11, [.ref as1, .ref as2, .ref as3, .ref as4, .int z])), (as1, eI G 8 (va_cpy bc1 ac1 ((0 : Int32).toNatClampNeg) ((0 : Int32).toNatClampNeg) ((8 : Int32).toNatClampNeg))), (as2, eI G 8 ac2), (as3, eI G 8 ac3), (as4, eI G 8 ac4), (h1, .inr (11, [.ref bs1, .ref bs2, .ref bs3, .ref bs4, .int 0])), (bs1, eI G 8 bc1), (bs2, eI G 8 bc2), (bs3, eI G 8 bc3), (bs4, eI G 8 bc4)] := hD
  refine lv_aload_n hx hb dX10_copyFrom_15 rfl (lv_at hl 1 rfl) ?_
  refine va_get (D := G.1) (ci := 11) (v := .ref bs2) (C := RX10) (T := TX10) (N := 5) hx hb hts hiX10 hown hK hP 5 rfl rfl 1 (by decide) (hts (.fieldLink RX10 15 "DialectDictionary$Rules" "to" "[I") (by decide +kernel)) (fun _ h9 => h9) rfl dX10_copyFrom_16 ?_
  refine lv_iconst (v := 0) hx hb dX10_copyFrom_19 (by decide) ?_
  refine lv_aload_n hx hb dX10_copyFrom_20 rfl (lv_at hl 0 rfl) ?_
  refine va_get (D := G.1) (ci := 11) (v := .ref as2) (C := RX10) (T := TX10) (N := 5) hx hb hts hiX10 hown hK hP 0 rfl rfl 1 (by decide) (hts (.fieldLink RX10 15 "DialectDictionary$Rules" "to" "[I") (by decide +kernel)) (fun _ h9 => h9) rfl dX10_copyFrom_21 ?_
  refine lv_iconst (v := 0) hx hb dX10_copyFrom_24 (by decide) ?_
  refine lv_bipush (v := 8) hx hb dX10_copyFrom_25 (by decide) ?_
  refine va_copyi hx hb (hml.trans hl.1.symm) hown (hts (.methodLink RX10 28 arraycopyName) (by decide +kernel)) (hts (.native arraycopyName) (by decide +kernel)) (hts (.static arraycopyName) (by decide +kernel)) (hts (.initialized "java/lang/System") (by decide +kernel)) hK hP hD hS 7 2 0 0 rfl rfl rfl rfl rfl (by decide) (by decide) (by decide) (by decide) (by decide) (fun i _ => rfl) (Nat.le_of_ble_eq_true rfl) (Nat.le_of_ble_eq_true rfl) dX10_copyFrom_27 (fun H locs hP hD hS => ?_)
  have hP : va_P G.1 vwCl [(h0, .inr (11, [.ref as1, .ref as2, .ref as3, .ref as4, .int z])), (as1, eI G 8 (va_cpy bc1 ac1 ((0 : Int32).toNatClampNeg) ((0 : Int32).toNatClampNeg) ((8 : Int32).toNatClampNeg))), (as2, eI G 8 (va_cpy bc2 ac2 ((0 : Int32).toNatClampNeg) ((0 : Int32).toNatClampNeg) ((8 : Int32).toNatClampNeg))), (as3, eI G 8 ac3), (as4, eI G 8 ac4), (h1, .inr (11, [.ref bs1, .ref bs2, .ref bs3, .ref bs4, .int 0])), (bs1, eI G 8 bc1), (bs2, eI G 8 bc2), (bs3, eI G 8 bc3), (bs4, eI G 8 bc4)] H := hP
  have hD : va_D A [(h0, .inr (11, [.ref as1, .ref as2, .ref as3, .ref as4, .int z])), (as1, eI G 8 (va_cpy bc1 ac1 ((0 : Int32).toNatClampNeg) ((0 : Int32).toNatClampNeg) ((8 : Int32).toNatClampNeg))), (as2, eI G 8 (va_cpy bc2 ac2 ((0 : Int32).toNatClampNeg) ((0 : Int32).toNatClampNeg) ((8 : Int32).toNatClampNeg))), (as3, eI G 8 ac3), (as4, eI G 8 ac4), (h1, .inr (11, [.ref bs1, .ref bs2, .ref bs3, .ref bs4, .int 0])), (bs1, eI G 8 bc1), (bs2, eI G 8 bc2), (bs3, eI G 8 bc3), (bs4, eI G 8 bc4)] := hD
  refine lv_aload_n hx hb dX10_copyFrom_30 rfl (lv_at hl 1 rfl) ?_
  refine va_get (D := G.1) (ci := 11) (v := .ref bs3) (C := RX10) (T := TX10) (N := 5) hx hb hts hiX10 hown hK hP 5 rfl rfl 2 (by decide) (hts (.fieldLink RX10 18 "DialectDictionary$Rules" "ahead" "[I") (by decide +kernel)) (fun _ h9 => h9) rfl dX10_copyFrom_31 ?_
  refine lv_iconst (v := 0) hx hb dX10_copyFrom_34 (by decide) ?_
  refine lv_aload_n hx hb dX10_copyFrom_35 rfl (lv_at hl 0 rfl) ?_
  refine va_get (D := G.1) (ci := 11) (v := .ref as3) (C := RX10) (T := TX10) (N := 5) hx hb hts hiX10 hown hK hP 0 rfl rfl 2 (by decide) (hts (.fieldLink RX10 18 "DialectDictionary$Rules" "ahead" "[I") (by decide +kernel)) (fun _ h9 => h9) rfl dX10_copyFrom_36 ?_
  refine lv_iconst (v := 0) hx hb dX10_copyFrom_39 (by decide) ?_
  refine lv_bipush (v := 8) hx hb dX10_copyFrom_40 (by decide) ?_
  refine va_copyi hx hb (hml.trans hl.1.symm) hown (hts (.methodLink RX10 28 arraycopyName) (by decide +kernel)) (hts (.native arraycopyName) (by decide +kernel)) (hts (.static arraycopyName) (by decide +kernel)) (hts (.initialized "java/lang/System") (by decide +kernel)) hK hP hD hS 8 3 0 0 rfl rfl rfl rfl rfl (by decide) (by decide) (by decide) (by decide) (by decide) (fun i _ => rfl) (Nat.le_of_ble_eq_true rfl) (Nat.le_of_ble_eq_true rfl) dX10_copyFrom_42 (fun H locs hP hD hS => ?_)
  have hP : va_P G.1 vwCl [(h0, .inr (11, [.ref as1, .ref as2, .ref as3, .ref as4, .int z])), (as1, eI G 8 (va_cpy bc1 ac1 ((0 : Int32).toNatClampNeg) ((0 : Int32).toNatClampNeg) ((8 : Int32).toNatClampNeg))), (as2, eI G 8 (va_cpy bc2 ac2 ((0 : Int32).toNatClampNeg) ((0 : Int32).toNatClampNeg) ((8 : Int32).toNatClampNeg))), (as3, eI G 8 (va_cpy bc3 ac3 ((0 : Int32).toNatClampNeg) ((0 : Int32).toNatClampNeg) ((8 : Int32).toNatClampNeg))), (as4, eI G 8 ac4), (h1, .inr (11, [.ref bs1, .ref bs2, .ref bs3, .ref bs4, .int 0])), (bs1, eI G 8 bc1), (bs2, eI G 8 bc2), (bs3, eI G 8 bc3), (bs4, eI G 8 bc4)] H := hP
  have hD : va_D A [(h0, .inr (11, [.ref as1, .ref as2, .ref as3, .ref as4, .int z])), (as1, eI G 8 (va_cpy bc1 ac1 ((0 : Int32).toNatClampNeg) ((0 : Int32).toNatClampNeg) ((8 : Int32).toNatClampNeg))), (as2, eI G 8 (va_cpy bc2 ac2 ((0 : Int32).toNatClampNeg) ((0 : Int32).toNatClampNeg) ((8 : Int32).toNatClampNeg))), (as3, eI G 8 (va_cpy bc3 ac3 ((0 : Int32).toNatClampNeg) ((0 : Int32).toNatClampNeg) ((8 : Int32).toNatClampNeg))), (as4, eI G 8 ac4), (h1, .inr (11, [.ref bs1, .ref bs2, .ref bs3, .ref bs4, .int 0])), (bs1, eI G 8 bc1), (bs2, eI G 8 bc2), (bs3, eI G 8 bc3), (bs4, eI G 8 bc4)] := hD
  refine lv_aload_n hx hb dX10_copyFrom_45 rfl (lv_at hl 1 rfl) ?_
  refine va_get (D := G.1) (ci := 11) (v := .ref bs4) (C := RX10) (T := TX10) (N := 5) hx hb hts hiX10 hown hK hP 5 rfl rfl 3 (by decide) (hts (.fieldLink RX10 21 "DialectDictionary$Rules" "behind" "[I") (by decide +kernel)) (fun _ h9 => h9) rfl dX10_copyFrom_46 ?_
  refine lv_iconst (v := 0) hx hb dX10_copyFrom_49 (by decide) ?_
  refine lv_aload_n hx hb dX10_copyFrom_50 rfl (lv_at hl 0 rfl) ?_
  refine va_get (D := G.1) (ci := 11) (v := .ref as4) (C := RX10) (T := TX10) (N := 5) hx hb hts hiX10 hown hK hP 0 rfl rfl 3 (by decide) (hts (.fieldLink RX10 21 "DialectDictionary$Rules" "behind" "[I") (by decide +kernel)) (fun _ h9 => h9) rfl dX10_copyFrom_51 ?_
  refine lv_iconst (v := 0) hx hb dX10_copyFrom_54 (by decide) ?_
  refine lv_bipush (v := 8) hx hb dX10_copyFrom_55 (by decide) ?_
  refine va_copyi hx hb (hml.trans hl.1.symm) hown (hts (.methodLink RX10 28 arraycopyName) (by decide +kernel)) (hts (.native arraycopyName) (by decide +kernel)) (hts (.static arraycopyName) (by decide +kernel)) (hts (.initialized "java/lang/System") (by decide +kernel)) hK hP hD hS 9 4 0 0 rfl rfl rfl rfl rfl (by decide) (by decide) (by decide) (by decide) (by decide) (fun i _ => rfl) (Nat.le_of_ble_eq_true rfl) (Nat.le_of_ble_eq_true rfl) dX10_copyFrom_57 (fun H locs hP hD hS => ?_)
  have hP : va_P G.1 vwCl [(h0, .inr (11, [.ref as1, .ref as2, .ref as3, .ref as4, .int z])), (as1, eI G 8 (va_cpy bc1 ac1 ((0 : Int32).toNatClampNeg) ((0 : Int32).toNatClampNeg) ((8 : Int32).toNatClampNeg))), (as2, eI G 8 (va_cpy bc2 ac2 ((0 : Int32).toNatClampNeg) ((0 : Int32).toNatClampNeg) ((8 : Int32).toNatClampNeg))), (as3, eI G 8 (va_cpy bc3 ac3 ((0 : Int32).toNatClampNeg) ((0 : Int32).toNatClampNeg) ((8 : Int32).toNatClampNeg))), (as4, eI G 8 (va_cpy bc4 ac4 ((0 : Int32).toNatClampNeg) ((0 : Int32).toNatClampNeg) ((8 : Int32).toNatClampNeg))), (h1, .inr (11, [.ref bs1, .ref bs2, .ref bs3, .ref bs4, .int 0])), (bs1, eI G 8 bc1), (bs2, eI G 8 bc2), (bs3, eI G 8 bc3), (bs4, eI G 8 bc4)] H := hP
  have hD : va_D A [(h0, .inr (11, [.ref as1, .ref as2, .ref as3, .ref as4, .int z])), (as1, eI G 8 (va_cpy bc1 ac1 ((0 : Int32).toNatClampNeg) ((0 : Int32).toNatClampNeg) ((8 : Int32).toNatClampNeg))), (as2, eI G 8 (va_cpy bc2 ac2 ((0 : Int32).toNatClampNeg) ((0 : Int32).toNatClampNeg) ((8 : Int32).toNatClampNeg))), (as3, eI G 8 (va_cpy bc3 ac3 ((0 : Int32).toNatClampNeg) ((0 : Int32).toNatClampNeg) ((8 : Int32).toNatClampNeg))), (as4, eI G 8 (va_cpy bc4 ac4 ((0 : Int32).toNatClampNeg) ((0 : Int32).toNatClampNeg) ((8 : Int32).toNatClampNeg))), (h1, .inr (11, [.ref bs1, .ref bs2, .ref bs3, .ref bs4, .int 0])), (bs1, eI G 8 bc1), (bs2, eI G 8 bc2), (bs3, eI G 8 bc3), (bs4, eI G 8 bc4)] := hD
  refine lv_aload_n hx hb dX10_copyFrom_60 rfl (lv_at hl 0 rfl) ?_
  refine lv_aload_n hx hb dX10_copyFrom_61 rfl (lv_at hl 1 rfl) ?_
  refine va_get (D := G.1) (ci := 11) (v := .int 0) (C := RX10) (T := TX10) (N := 5) hx hb hts hiX10 hown hK hP 5 rfl rfl 4 (by decide) (hts (.fieldLink RX10 24 "DialectDictionary$Rules" "count" "I") (by decide +kernel)) (fun _ h9 => h9) rfl dX10_copyFrom_62 ?_
  refine va_put (D := G.1) (ci := 11) (v := .int 0) (ty := .int) (C := RX10) (T := TX10) (N := 5) hx hb hts hiX10 tyX10 tyX10_ok nmX10 hown hK hP hD hS 0 rfl rfl 4 (by decide) (hts (.fieldLink RX10 24 "DialectDictionary$Rules" "count" "I") (by decide +kernel)) (fun _ h9 => h9) rfl (by decide +kernel) rfl rfl (Nat.le_of_ble_eq_true rfl) dX10_copyFrom_65 (fun H locs hP hD hS => ?_)
  have hP : va_P G.1 vwCl [(h0, .inr (11, [.ref as1, .ref as2, .ref as3, .ref as4, .int 0])), (as1, eI G 8 (va_cpy bc1 ac1 ((0 : Int32).toNatClampNeg) ((0 : Int32).toNatClampNeg) ((8 : Int32).toNatClampNeg))), (as2, eI G 8 (va_cpy bc2 ac2 ((0 : Int32).toNatClampNeg) ((0 : Int32).toNatClampNeg) ((8 : Int32).toNatClampNeg))), (as3, eI G 8 (va_cpy bc3 ac3 ((0 : Int32).toNatClampNeg) ((0 : Int32).toNatClampNeg) ((8 : Int32).toNatClampNeg))), (as4, eI G 8 (va_cpy bc4 ac4 ((0 : Int32).toNatClampNeg) ((0 : Int32).toNatClampNeg) ((8 : Int32).toNatClampNeg))), (h1, .inr (11, [.ref bs1, .ref bs2, .ref bs3, .ref bs4, .int 0])), (bs1, eI G 8 bc1), (bs2, eI G 8 bc2), (bs3, eI G 8 bc3), (bs4, eI G 8 bc4)] H := hP
  have hD : va_D A [(h0, .inr (11, [.ref as1, .ref as2, .ref as3, .ref as4, .int 0])), (as1, eI G 8 (va_cpy bc1 ac1 ((0 : Int32).toNatClampNeg) ((0 : Int32).toNatClampNeg) ((8 : Int32).toNatClampNeg))), (as2, eI G 8 (va_cpy bc2 ac2 ((0 : Int32).toNatClampNeg) ((0 : Int32).toNatClampNeg) ((8 : Int32).toNatClampNeg))), (as3, eI G 8 (va_cpy bc3 ac3 ((0 : Int32).toNatClampNeg) ((0 : Int32).toNatClampNeg) ((8 : Int32).toNatClampNeg))), (as4, eI G 8 (va_cpy bc4 ac4 ((0 : Int32).toNatClampNeg) ((0 : Int32).toNatClampNeg) ((8 : Int32).toNatClampNeg))), (h1, .inr (11, [.ref bs1, .ref bs2, .ref bs3, .ref bs4, .int 0])), (bs1, eI G 8 bc1), (bs2, eI G 8 bc2), (bs3, eI G 8 bc3), (bs4, eI G 8 bc4)] := hD
  have hP9 := n_Psub (wc := [(h1, .inr (11, [.ref bs1, .ref bs2, .ref bs3, .ref bs4, .int 0])), (bs1, eI G 8 bc1), (bs2, eI G 8 bc2), (bs3, eI G 8 bc3), (bs4, eI G 8 bc4)]) hP [5, 6, 7, 8, 9] rfl
  have hD9 := hD.sub (ws' := [(h1, .inr (11, [.ref bs1, .ref bs2, .ref bs3, .ref bs4, .int 0])), (bs1, eI G 8 bc1), (bs2, eI G 8 bc2), (bs3, eI G 8 bc3), (bs4, eI G 8 bc4)]) [5, 6, 7, 8, 9] (by decide) rfl
  refine W.widen (k := 0) (n := 0) (Nat.le_of_ble_eq_true rfl) (Nat.le_of_ble_eq_true rfl) ?_
  exact W.vret hx hb hr (fun t ht hW => ⟨⟨(), rfl, trivial, by rw [ht]; exact hP9, va_K.moved hW.alike hK, hD9⟩, hS.F ht⟩) hS.2.2 dX10_copyFrom_68

set_option maxHeartbeats 4000000 in
set_option maxRecDepth 100000 in
theorem mX10_count (l : Launch) (G : nG) (h0 : Nat) (s1 : Nat) (s2 : Nat) (s3 : Nat) (s4 : Nat) (z : Int32) (sz : Nat) : Met l yX10_count wsX10_count ({ frames := 0, cells := 0, slots := 0, locals := 0 }) (va_Pc [.ref h0] (n_pp G [(h0, .inr (11, [.ref s1, .ref s2, .ref s3, .ref s4, .int z]))] sz)) (va_Qi (fun (r : Int32) (_ : Unit) => r = z) (fun (_ : Unit) (t : State) => n_po G (va_A [(h0, .inr (11, [.ref s1, .ref s2, .ref s3, .ref s4, .int z]))] sz) [(h0, .inr (11, [.ref s1, .ref s2, .ref s3, .ref s4, .int z]))] t) (va_A [(h0, .inr (11, [.ref s1, .ref s2, .ref s3, .ref s4, .int z]))] sz)) 0 0 (va_A [(h0, .inr (11, [.ref s1, .ref s2, .ref s3, .ref s4, .int z]))] sz) := by
  refine Met.ofW (cc := cX10_count) (maxL := 1) (ret := (some .int)) (by decide) rfl ?_
  intro p e s m args below meth c s₁ B hml hv
  obtain ⟨rfl, hsz, hP, hK, hD0⟩ := hv
  have hx := B.exec
  have hb := B.bytes
  have hr := B.returns
  have hts := atoms_spec (ws := wsX10_count) B.pre
  have hown : s.vm.findClass RX10 = some m.cls := findClass_of_methodNamed B.named
  have hlocks := B.notSynchronized
  subst hsz
  have hD := hD0.self (sz := s.heap.size)
  generalize hAe : va_A [(h0, .inr (11, [.ref s1, .ref s2, .ref s3, .ref s4, .int z]))] s.heap.size = A at hD ⊢
  have hA : ∀ q : Nat, s.heap.size ≤ q → A q := fun q h => by rw [← hAe]; exact Or.inr h
  have hS : va_S A s.heap s.heap [] := va_S.rf
  have hP : va_P G.1 vwCl [(h0, .inr (11, [.ref s1, .ref s2, .ref s3, .ref s4, .int z]))] s.heap := hP
  have hl := lv_entry ([.ref h0]) (n := 1) (Nat.le_of_ble_eq_true rfl)
  rw [lg_entry_eq]
  generalize (lg_sl ([.ref h0]) ++ List.replicate (1 - (lg_sl ([.ref h0])).length) Slot.unset).toArray = ls at hl ⊢
  have hl : lv_has ls 1 [(0, .ref h0)] := hl
  obtain ⟨H, hH⟩ : ∃ z, z = s.heap := ⟨_, rfl⟩
  have hS : va_S A s.heap H [] := by rw [hH]; exact hS
  have hP : va_P G.1 vwCl [(h0, .inr (11, [.ref s1, .ref s2, .ref s3, .ref s4, .int z]))] H := by rw [hH]; exact hP
  refine n_heap hH ?_
  generalize ([] : List Loc) = locs at hS ⊢
  have hiX10 : ∀ w ∈ u_ws RX10 TX10 5, w ∈ wsX10_count := by decide +kernel
  refine lv_aload_n hx hb dX10_count_0 rfl (lv_at hl 0 rfl) ?_
  refine va_get (D := G.1) (ci := 11) (v := .int z) (C := RX10) (T := TX10) (N := 5) hx hb hts hiX10 hown hK hP 0 rfl rfl 4 (by decide) (hts (.fieldLink RX10 24 "DialectDictionary$Rules" "count" "I") (by decide +kernel)) (fun _ h9 => h9) rfl dX10_count_1 ?_
  have hP9 := n_Psub (wc := [(h0, .inr (11, [.ref s1, .ref s2, .ref s3, .ref s4, .int z]))]) hP [0] rfl
  have hD9 := hD.sub (ws' := [(h0, .inr (11, [.ref s1, .ref s2, .ref s3, .ref s4, .int z]))]) [0] (by decide) rfl
  refine W.widen (k := 0) (n := 0) (Nat.le_of_ble_eq_true rfl) (Nat.le_of_ble_eq_true rfl) ?_
  exact W.iret (v := z) hx hb hr (fun t ht hW => ⟨⟨z, (), rfl, rfl, by rw [ht]; exact hP9, va_K.moved hW.alike hK, hD9⟩, hS.F ht⟩) hS.2.2 dX10_count_4

set_option maxHeartbeats 4000000 in
set_option maxRecDepth 100000 in
theorem mX10_isFull (l : Launch) (G : nG) (h0 : Nat) (s1 : Nat) (s2 : Nat) (s3 : Nat) (s4 : Nat) (sz : Nat) : Met l yX10_isFull wsX10_isFull ({ frames := 0, cells := 0, slots := 0, locals := 0 }) (va_Pc [.ref h0] (n_pp G [(h0, .inr (11, [.ref s1, .ref s2, .ref s3, .ref s4, .int 0]))] sz)) (va_Qi (fun (r : Int32) (_ : Unit) => r = 0) (fun (_ : Unit) (t : State) => n_po G (va_A [(h0, .inr (11, [.ref s1, .ref s2, .ref s3, .ref s4, .int 0]))] sz) [(h0, .inr (11, [.ref s1, .ref s2, .ref s3, .ref s4, .int 0]))] t) (va_A [(h0, .inr (11, [.ref s1, .ref s2, .ref s3, .ref s4, .int 0]))] sz)) 0 0 (va_A [(h0, .inr (11, [.ref s1, .ref s2, .ref s3, .ref s4, .int 0]))] sz) := by
  refine Met.ofW (cc := cX10_isFull) (maxL := 1) (ret := (some .boolean)) (by decide) rfl ?_
  intro p e s m args below meth c s₁ B hml hv
  obtain ⟨rfl, hsz, hP, hK, hD0⟩ := hv
  have hx := B.exec
  have hb := B.bytes
  have hr := B.returns
  have hts := atoms_spec (ws := wsX10_isFull) B.pre
  have hown : s.vm.findClass RX10 = some m.cls := findClass_of_methodNamed B.named
  have hlocks := B.notSynchronized
  subst hsz
  have hD := hD0.self (sz := s.heap.size)
  generalize hAe : va_A [(h0, .inr (11, [.ref s1, .ref s2, .ref s3, .ref s4, .int 0]))] s.heap.size = A at hD ⊢
  have hA : ∀ q : Nat, s.heap.size ≤ q → A q := fun q h => by rw [← hAe]; exact Or.inr h
  have hS : va_S A s.heap s.heap [] := va_S.rf
  have hP : va_P G.1 vwCl [(h0, .inr (11, [.ref s1, .ref s2, .ref s3, .ref s4, .int 0]))] s.heap := hP
  have hl := lv_entry ([.ref h0]) (n := 1) (Nat.le_of_ble_eq_true rfl)
  rw [lg_entry_eq]
  generalize (lg_sl ([.ref h0]) ++ List.replicate (1 - (lg_sl ([.ref h0])).length) Slot.unset).toArray = ls at hl ⊢
  have hl : lv_has ls 1 [(0, .ref h0)] := hl
  obtain ⟨H, hH⟩ : ∃ z, z = s.heap := ⟨_, rfl⟩
  have hS : va_S A s.heap H [] := by rw [hH]; exact hS
  have hP : va_P G.1 vwCl [(h0, .inr (11, [.ref s1, .ref s2, .ref s3, .ref s4, .int 0]))] H := by rw [hH]; exact hP
  refine n_heap hH ?_
  generalize ([] : List Loc) = locs at hS ⊢
  have hiX10 : ∀ w ∈ u_ws RX10 TX10 5, w ∈ wsX10_isFull := by decide +kernel
  refine lv_aload_n hx hb dX10_isFull_0 rfl (lv_at hl 0 rfl) ?_
  refine va_get (D := G.1) (ci := 11) (v := .int 0) (C := RX10) (T := TX10) (N := 5) hx hb hts hiX10 hown hK hP 0 rfl rfl 4 (by decide) (hts (.fieldLink RX10 24 "DialectDictionary$Rules" "count" "I") (by decide +kernel)) (fun _ h9 => h9) rfl dX10_isFull_1 ?_
  refine lv_bipush (v := 8) hx hb dX10_isFull_4 (by decide) ?_
  refine lv_icmp_lt (tgt := 13) hx hb dX10_isFull_6 (by decide) (fun _ => ?_) (fun h9 => absurd (by decide) h9)
  refine lv_iconst (v := 0) hx hb dX10_isFull_13 (by decide) ?_
  have hP9 := n_Psub (wc := [(h0, .inr (11, [.ref s1, .ref s2, .ref s3, .ref s4, .int 0]))]) hP [0] rfl
  have hD9 := hD.sub (ws' := [(h0, .inr (11, [.ref s1, .ref s2, .ref s3, .ref s4, .int 0]))]) [0] (by decide) rfl
  refine W.widen (k := 0) (n := 0) (Nat.le_of_ble_eq_true rfl) (Nat.le_of_ble_eq_true rfl) ?_
  exact W.zret (v := 0) (ty := .boolean) hx hb hr rfl (fun t ht hW => ⟨⟨0, (), rfl, rfl, by rw [ht]; exact hP9, va_K.moved hW.alike hK, hD9⟩, hS.F ht⟩) hS.2.2 dX10_isFull_14

set_option maxHeartbeats 4000000 in
set_option maxRecDepth 100000 in
theorem mX10_hasRule (l : Launch) (G : nG) (h0 : Nat) (s1 : Nat) (s2 : Nat) (s3 : Nat) (s4 : Nat) (q : Int32) (sz : Nat) : Met l yX10_hasRule wsX10_hasRule ({ frames := 0, cells := 0, slots := 0, locals := 0 }) (va_Pc [.ref h0, .int q] (n_pp G [(h0, .inr (11, [.ref s1, .ref s2, .ref s3, .ref s4, .int 0]))] sz)) (va_Qi (fun (r : Int32) (_ : Unit) => r = 0) (fun (_ : Unit) (t : State) => n_po G (va_A [(h0, .inr (11, [.ref s1, .ref s2, .ref s3, .ref s4, .int 0]))] sz) [(h0, .inr (11, [.ref s1, .ref s2, .ref s3, .ref s4, .int 0]))] t) (va_A [(h0, .inr (11, [.ref s1, .ref s2, .ref s3, .ref s4, .int 0]))] sz)) 0 0 (va_A [(h0, .inr (11, [.ref s1, .ref s2, .ref s3, .ref s4, .int 0]))] sz) := by
  refine Met.ofW (cc := cX10_hasRule) (maxL := 2) (ret := (some .boolean)) (by decide) rfl ?_
  intro p e s m args below meth c s₁ B hml hv
  obtain ⟨rfl, hsz, hP, hK, hD0⟩ := hv
  have hx := B.exec
  have hb := B.bytes
  have hr := B.returns
  have hts := atoms_spec (ws := wsX10_hasRule) B.pre
  have hown : s.vm.findClass RX10 = some m.cls := findClass_of_methodNamed B.named
  have hlocks := B.notSynchronized
  subst hsz
  have hD := hD0.self (sz := s.heap.size)
  generalize hAe : va_A [(h0, .inr (11, [.ref s1, .ref s2, .ref s3, .ref s4, .int 0]))] s.heap.size = A at hD ⊢
  have hA : ∀ q : Nat, s.heap.size ≤ q → A q := fun q h => by rw [← hAe]; exact Or.inr h
  have hS : va_S A s.heap s.heap [] := va_S.rf
  have hP : va_P G.1 vwCl [(h0, .inr (11, [.ref s1, .ref s2, .ref s3, .ref s4, .int 0]))] s.heap := hP
  have hl := lv_entry ([.ref h0, .int q]) (n := 2) (Nat.le_of_ble_eq_true rfl)
  rw [lg_entry_eq]
  generalize (lg_sl ([.ref h0, .int q]) ++ List.replicate (2 - (lg_sl ([.ref h0, .int q])).length) Slot.unset).toArray = ls at hl ⊢
  have hl : lv_has ls 2 [(0, .ref h0), (1, .int q)] := hl
  obtain ⟨H, hH⟩ : ∃ z, z = s.heap := ⟨_, rfl⟩
  have hS : va_S A s.heap H [] := by rw [hH]; exact hS
  have hP : va_P G.1 vwCl [(h0, .inr (11, [.ref s1, .ref s2, .ref s3, .ref s4, .int 0]))] H := by rw [hH]; exact hP
  refine n_heap hH ?_
  generalize ([] : List Loc) = locs at hS ⊢
  have hiX10 : ∀ w ∈ u_ws RX10 TX10 5, w ∈ wsX10_hasRule := by decide +kernel
  refine lv_iload_n hx hb dX10_hasRule_0 rfl (lv_at hl 1 rfl) ?_
  refine lv_if_lt (tgt := 16) hx hb dX10_hasRule_1 (by decide) (fun c_1 => ?_) (fun c_1 => ?_)
  · skip
    refine lv_iconst (v := 0) hx hb dX10_hasRule_16 (by decide) ?_
    have hP9 := n_Psub (wc := [(h0, .inr (11, [.ref s1, .ref s2, .ref s3, .ref s4, .int 0]))]) hP [0] rfl
    have hD9 := hD.sub (ws' := [(h0, .inr (11, [.ref s1, .ref s2, .ref s3, .ref s4, .int 0]))]) [0] (by decide) rfl
    refine W.widen (k := 0) (n := 0) (Nat.le_of_ble_eq_true rfl) (Nat.le_of_ble_eq_true rfl) ?_
    exact W.zret (v := 0) (ty := .boolean) hx hb hr rfl (fun t ht hW => ⟨⟨0, (), rfl, rfl, by rw [ht]; exact hP9, va_K.moved hW.alike hK, hD9⟩, hS.F ht⟩) hS.2.2 dX10_hasRule_17
  · skip
    refine lv_iload_n hx hb dX10_hasRule_4 rfl (lv_at hl 1 rfl) ?_
    refine lv_aload_n hx hb dX10_hasRule_5 rfl (lv_at hl 0 rfl) ?_
    refine va_get (D := G.1) (ci := 11) (v := .int 0) (C := RX10) (T := TX10) (N := 5) hx hb hts hiX10 hown hK hP 0 rfl rfl 4 (by decide) (hts (.fieldLink RX10 24 "DialectDictionary$Rules" "count" "I") (by decide +kernel)) (fun _ h9 => h9) rfl dX10_hasRule_6 ?_
    refine lv_icmp_ge (tgt := 16) hx hb dX10_hasRule_9 (by decide) (fun _ => ?_) (fun h9 => absurd (Int32.not_lt.mp c_1) h9)
    refine lv_iconst (v := 0) hx hb dX10_hasRule_16 (by decide) ?_
    have hP9 := n_Psub (wc := [(h0, .inr (11, [.ref s1, .ref s2, .ref s3, .ref s4, .int 0]))]) hP [0] rfl
    have hD9 := hD.sub (ws' := [(h0, .inr (11, [.ref s1, .ref s2, .ref s3, .ref s4, .int 0]))]) [0] (by decide) rfl
    refine W.widen (k := 0) (n := 0) (Nat.le_of_ble_eq_true rfl) (Nat.le_of_ble_eq_true rfl) ?_
    exact W.zret (v := 0) (ty := .boolean) hx hb hr rfl (fun t ht hW => ⟨⟨0, (), rfl, rfl, by rw [ht]; exact hP9, va_K.moved hW.alike hK, hD9⟩, hS.F ht⟩) hS.2.2 dX10_hasRule_17

set_option maxHeartbeats 4000000 in
set_option maxRecDepth 100000 in
theorem mX10_append (l : Launch) (G : nG) (h0 : Nat) (s1 : Nat) (s2 : Nat) (s3 : Nat) (s4 : Nat) (c1 : Nat → Int32) (c2 : Nat → Int32) (c3 : Nat → Int32) (c4 : Nat → Int32) (a1 : Int32) (a2 : Int32) (a3 : Int32) (a4 : Int32) (sz : Nat) : Met l yX10_append wsX10_append ({ frames := 1, cells := 0, slots := 0, locals := 20 }) (va_Pc [.ref h0, .int a1, .int a2, .int a3, .int a4] (n_pp G [(h0, .inr (11, [.ref s1, .ref s2, .ref s3, .ref s4, .int 0])), (s1, eI G 8 c1), (s2, eI G 8 c2), (s3, eI G 8 c3), (s4, eI G 8 c4)] sz)) (va_Qv (fun (_ : Unit) => True) (fun (_ : Unit) (t : State) => n_po G (va_A [(h0, .inr (11, [.ref s1, .ref s2, .ref s3, .ref s4, .int 0])), (s1, eI G 8 c1), (s2, eI G 8 c2), (s3, eI G 8 c3), (s4, eI G 8 c4)] sz) [(h0, .inr (11, [.ref s1, .ref s2, .ref s3, .ref s4, .int 1]))] t) (va_A [(h0, .inr (11, [.ref s1, .ref s2, .ref s3, .ref s4, .int 0])), (s1, eI G 8 c1), (s2, eI G 8 c2), (s3, eI G 8 c3), (s4, eI G 8 c4)] sz)) 0 0 (va_A [(h0, .inr (11, [.ref s1, .ref s2, .ref s3, .ref s4, .int 0])), (s1, eI G 8 c1), (s2, eI G 8 c2), (s3, eI G 8 c3), (s4, eI G 8 c4)] sz) := by
  refine Met.ofW (cc := cX10_append) (maxL := 5) (ret := none) (by decide) rfl ?_
  intro p e s m args below meth c s₁ B hml hv
  obtain ⟨rfl, hsz, hP, hK, hD0⟩ := hv
  have hx := B.exec
  have hb := B.bytes
  have hr := B.returns
  have hts := atoms_spec (ws := wsX10_append) B.pre
  have hown : s.vm.findClass RX10 = some m.cls := findClass_of_methodNamed B.named
  have hlocks := B.notSynchronized
  subst hsz
  have hD := hD0.self (sz := s.heap.size)
  generalize hAe : va_A [(h0, .inr (11, [.ref s1, .ref s2, .ref s3, .ref s4, .int 0])), (s1, eI G 8 c1), (s2, eI G 8 c2), (s3, eI G 8 c3), (s4, eI G 8 c4)] s.heap.size = A at hD ⊢
  have hA : ∀ q : Nat, s.heap.size ≤ q → A q := fun q h => by rw [← hAe]; exact Or.inr h
  have hS : va_S A s.heap s.heap [] := va_S.rf
  have hP : va_P G.1 vwCl [(h0, .inr (11, [.ref s1, .ref s2, .ref s3, .ref s4, .int 0])), (s1, eI G 8 c1), (s2, eI G 8 c2), (s3, eI G 8 c3), (s4, eI G 8 c4)] s.heap := hP
  have hl := lv_entry ([.ref h0, .int a1, .int a2, .int a3, .int a4]) (n := 5) (Nat.le_of_ble_eq_true rfl)
  rw [lg_entry_eq]
  generalize (lg_sl ([.ref h0, .int a1, .int a2, .int a3, .int a4]) ++ List.replicate (5 - (lg_sl ([.ref h0, .int a1, .int a2, .int a3, .int a4])).length) Slot.unset).toArray = ls at hl ⊢
  have hl : lv_has ls 5 [(0, .ref h0), (1, .int a1), (2, .int a2), (3, .int a3), (4, .int a4)] := hl
  obtain ⟨H, hH⟩ : ∃ z, z = s.heap := ⟨_, rfl⟩
  have hS : va_S A s.heap H [] := by rw [hH]; exact hS
  have hP : va_P G.1 vwCl [(h0, .inr (11, [.ref s1, .ref s2, .ref s3, .ref s4, .int 0])), (s1, eI G 8 c1), (s2, eI G 8 c2), (s3, eI G 8 c3), (s4, eI G 8 c4)] H := by rw [hH]; exact hP
  refine n_heap hH ?_
  generalize ([] : List Loc) = locs at hS ⊢
  have hiX10 : ∀ w ∈ u_ws RX10 TX10 5, w ∈ wsX10_append := by decide +kernel
  refine lv_aload_n hx hb dX10_append_0 rfl (lv_at hl 0 rfl) ?_
  refine n_ci (wr := [(s1, eI G 8 c1), (s2, eI G 8 c2), (s3, eI G 8 c3), (s4, eI G 8 c4)]) (va_runV (As := []) (rest := []) ⟨hx, hb, hml, hown, hts⟩ (mX10_isFull l G h0 s1 s2 s3 s4 H.size) (cwV 0 hts gX10_append_X10_isFull rfl rfl rfl (by decide +kernel) ⟨(Nat.le_of_ble_eq_true rfl), (Nat.le_of_ble_eq_true rfl)⟩) (n_prV (ci := 11) (q0 := 0) hK hP hD [0] rfl (by decide) rfl rfl) rfl rfl hl.1 rfl (lv_room (Nat.le_of_ble_eq_true rfl)) dX10_append_1 ⟨(Nat.le_of_ble_eq_true rfl), (Nat.le_of_ble_eq_true rfl)⟩) hP hD hS hA [0] [1, 2, 3, 4] rfl rfl (by decide) (by decide) (fun r_1 u_2 H locs hP hD hS hw => ?_)
  have hP : va_P G.1 vwCl [(s1, eI G 8 c1), (s2, eI G 8 c2), (s3, eI G 8 c3), (s4, eI G 8 c4), (h0, .inr (11, [.ref s1, .ref s2, .ref s3, .ref s4, .int 0]))] H := hP
  have hD : va_D A [(s1, eI G 8 c1), (s2, eI G 8 c2), (s3, eI G 8 c3), (s4, eI G 8 c4), (h0, .inr (11, [.ref s1, .ref s2, .ref s3, .ref s4, .int 0]))] := hD
  have hw : r_1 = 0 := hw
  subst hw
  refine lv_if_ne (tgt := 58) hx hb dX10_append_4 (by decide) (fun h9 => absurd (by decide) h9) (fun _ => ?_)
  refine lv_aload_n hx hb dX10_append_7 rfl (lv_at hl 0 rfl) ?_
  refine va_get (D := G.1) (ci := 11) (v := .ref s1) (C := RX10) (T := TX10) (N := 5) hx hb hts hiX10 hown hK hP 4 rfl rfl 0 (by decide) (hts (.fieldLink RX10 9 "DialectDictionary$Rules" "from" "[I") (by decide +kernel)) (fun _ h9 => h9) rfl dX10_append_8 ?_
  refine lv_aload_n hx hb dX10_append_11 rfl (lv_at hl 0 rfl) ?_
  refine va_get (D := G.1) (ci := 11) (v := .int 0) (C := RX10) (T := TX10) (N := 5) hx hb hts hiX10 hown hK hP 4 rfl rfl 4 (by decide) (hts (.fieldLink RX10 24 "DialectDictionary$Rules" "count" "I") (by decide +kernel)) (fun _ h9 => h9) rfl dX10_append_12 ?_
  refine lv_iload_n hx hb dX10_append_15 rfl (lv_at hl 1 rfl) ?_
  refine va_iast hx hb hK hP hD hS 0 0 rfl rfl (n_in (by decide)) dX10_append_16 (fun H locs hP hD hS => ?_)
  have hP : va_P G.1 vwCl [(s1, eI G 8 (upd c1 ((0 : Int32).toNatClampNeg) a1)), (s2, eI G 8 c2), (s3, eI G 8 c3), (s4, eI G 8 c4), (h0, .inr (11, [.ref s1, .ref s2, .ref s3, .ref s4, .int 0]))] H := hP
  have hD : va_D A [(s1, eI G 8 (upd c1 ((0 : Int32).toNatClampNeg) a1)), (s2, eI G 8 c2), (s3, eI G 8 c3), (s4, eI G 8 c4), (h0, .inr (11, [.ref s1, .ref s2, .ref s3, .ref s4, .int 0]))] := hD
  refine lv_aload_n hx hb dX10_append_17 rfl (lv_at hl 0 rfl) ?_
  refine va_get (D := G.1) (ci := 11) (v := .ref s2) (C := RX10) (T := TX10) (N := 5) hx hb hts hiX10 hown hK hP 4 rfl rfl 1 (by decide) (hts (.fieldLink RX10 15 "DialectDictionary$Rules" "to" "[I") (by decide +kernel)) (fun _ h9 => h9) rfl dX10_append_18 ?_
  refine lv_aload_n hx hb dX10_append_21 rfl (lv_at hl 0 rfl) ?_
  refine va_get (D := G.1) (ci := 11) (v := .int 0) (C := RX10) (T := TX10) (N := 5) hx hb hts hiX10 hown hK hP 4 rfl rfl 4 (by decide) (hts (.fieldLink RX10 24 "DialectDictionary$Rules" "count" "I") (by decide +kernel)) (fun _ h9 => h9) rfl dX10_append_22 ?_
  refine lv_iload_n hx hb dX10_append_25 rfl (lv_at hl 2 rfl) ?_
  refine va_iast hx hb hK hP hD hS 1 0 rfl rfl (n_in (by decide)) dX10_append_26 (fun H locs hP hD hS => ?_)
  have hP : va_P G.1 vwCl [(s1, eI G 8 (upd c1 ((0 : Int32).toNatClampNeg) a1)), (s2, eI G 8 (upd c2 ((0 : Int32).toNatClampNeg) a2)), (s3, eI G 8 c3), (s4, eI G 8 c4), (h0, .inr (11, [.ref s1, .ref s2, .ref s3, .ref s4, .int 0]))] H := hP
  have hD : va_D A [(s1, eI G 8 (upd c1 ((0 : Int32).toNatClampNeg) a1)), (s2, eI G 8 (upd c2 ((0 : Int32).toNatClampNeg) a2)), (s3, eI G 8 c3), (s4, eI G 8 c4), (h0, .inr (11, [.ref s1, .ref s2, .ref s3, .ref s4, .int 0]))] := hD
  refine lv_aload_n hx hb dX10_append_27 rfl (lv_at hl 0 rfl) ?_
  refine va_get (D := G.1) (ci := 11) (v := .ref s3) (C := RX10) (T := TX10) (N := 5) hx hb hts hiX10 hown hK hP 4 rfl rfl 2 (by decide) (hts (.fieldLink RX10 18 "DialectDictionary$Rules" "ahead" "[I") (by decide +kernel)) (fun _ h9 => h9) rfl dX10_append_28 ?_
  refine lv_aload_n hx hb dX10_append_31 rfl (lv_at hl 0 rfl) ?_
  refine va_get (D := G.1) (ci := 11) (v := .int 0) (C := RX10) (T := TX10) (N := 5) hx hb hts hiX10 hown hK hP 4 rfl rfl 4 (by decide) (hts (.fieldLink RX10 24 "DialectDictionary$Rules" "count" "I") (by decide +kernel)) (fun _ h9 => h9) rfl dX10_append_32 ?_
  refine lv_iload_n hx hb dX10_append_35 rfl (lv_at hl 3 rfl) ?_
  refine va_iast hx hb hK hP hD hS 2 0 rfl rfl (n_in (by decide)) dX10_append_36 (fun H locs hP hD hS => ?_)
  have hP : va_P G.1 vwCl [(s1, eI G 8 (upd c1 ((0 : Int32).toNatClampNeg) a1)), (s2, eI G 8 (upd c2 ((0 : Int32).toNatClampNeg) a2)), (s3, eI G 8 (upd c3 ((0 : Int32).toNatClampNeg) a3)), (s4, eI G 8 c4), (h0, .inr (11, [.ref s1, .ref s2, .ref s3, .ref s4, .int 0]))] H := hP
  have hD : va_D A [(s1, eI G 8 (upd c1 ((0 : Int32).toNatClampNeg) a1)), (s2, eI G 8 (upd c2 ((0 : Int32).toNatClampNeg) a2)), (s3, eI G 8 (upd c3 ((0 : Int32).toNatClampNeg) a3)), (s4, eI G 8 c4), (h0, .inr (11, [.ref s1, .ref s2, .ref s3, .ref s4, .int 0]))] := hD
  refine lv_aload_n hx hb dX10_append_37 rfl (lv_at hl 0 rfl) ?_
  refine va_get (D := G.1) (ci := 11) (v := .ref s4) (C := RX10) (T := TX10) (N := 5) hx hb hts hiX10 hown hK hP 4 rfl rfl 3 (by decide) (hts (.fieldLink RX10 21 "DialectDictionary$Rules" "behind" "[I") (by decide +kernel)) (fun _ h9 => h9) rfl dX10_append_38 ?_
  refine lv_aload_n hx hb dX10_append_41 rfl (lv_at hl 0 rfl) ?_
  refine va_get (D := G.1) (ci := 11) (v := .int 0) (C := RX10) (T := TX10) (N := 5) hx hb hts hiX10 hown hK hP 4 rfl rfl 4 (by decide) (hts (.fieldLink RX10 24 "DialectDictionary$Rules" "count" "I") (by decide +kernel)) (fun _ h9 => h9) rfl dX10_append_42 ?_
  refine lv_iload hx hb dX10_append_45 (lv_at hl 4 rfl) ?_
  refine va_iast hx hb hK hP hD hS 3 0 rfl rfl (n_in (by decide)) dX10_append_47 (fun H locs hP hD hS => ?_)
  have hP : va_P G.1 vwCl [(s1, eI G 8 (upd c1 ((0 : Int32).toNatClampNeg) a1)), (s2, eI G 8 (upd c2 ((0 : Int32).toNatClampNeg) a2)), (s3, eI G 8 (upd c3 ((0 : Int32).toNatClampNeg) a3)), (s4, eI G 8 (upd c4 ((0 : Int32).toNatClampNeg) a4)), (h0, .inr (11, [.ref s1, .ref s2, .ref s3, .ref s4, .int 0]))] H := hP
  have hD : va_D A [(s1, eI G 8 (upd c1 ((0 : Int32).toNatClampNeg) a1)), (s2, eI G 8 (upd c2 ((0 : Int32).toNatClampNeg) a2)), (s3, eI G 8 (upd c3 ((0 : Int32).toNatClampNeg) a3)), (s4, eI G 8 (upd c4 ((0 : Int32).toNatClampNeg) a4)), (h0, .inr (11, [.ref s1, .ref s2, .ref s3, .ref s4, .int 0]))] := hD
  refine lv_aload_n hx hb dX10_append_48 rfl (lv_at hl 0 rfl) ?_
  refine lv_dup hx hb dX10_append_49 rfl ?_
  refine va_get (D := G.1) (ci := 11) (v := .int 0) (C := RX10) (T := TX10) (N := 5) hx hb hts hiX10 hown hK hP 4 rfl rfl 4 (by decide) (hts (.fieldLink RX10 24 "DialectDictionary$Rules" "count" "I") (by decide +kernel)) (fun _ h9 => h9) rfl dX10_append_50 ?_
  refine lv_iconst (v := 1) hx hb dX10_append_53 (by decide) ?_
  refine lv_iadd hx hb dX10_append_54 ?_
  refine n_eqi (y := 1) (by decide) ?_
  refine va_put (D := G.1) (ci := 11) (v := .int 1) (ty := .int) (C := RX10) (T := TX10) (N := 5) hx hb hts hiX10 tyX10 tyX10_ok nmX10 hown hK hP hD hS 4 rfl rfl 4 (by decide) (hts (.fieldLink RX10 24 "DialectDictionary$Rules" "count" "I") (by decide +kernel)) (fun _ h9 => h9) rfl (by decide +kernel) rfl rfl (Nat.le_of_ble_eq_true rfl) dX10_append_55 (fun H locs hP hD hS => ?_)
  have hP : va_P G.1 vwCl [(s1, eI G 8 (upd c1 ((0 : Int32).toNatClampNeg) a1)), (s2, eI G 8 (upd c2 ((0 : Int32).toNatClampNeg) a2)), (s3, eI G 8 (upd c3 ((0 : Int32).toNatClampNeg) a3)), (s4, eI G 8 (upd c4 ((0 : Int32).toNatClampNeg) a4)), (h0, .inr (11, [.ref s1, .ref s2, .ref s3, .ref s4, .int 1]))] H := hP
  have hD : va_D A [(s1, eI G 8 (upd c1 ((0 : Int32).toNatClampNeg) a1)), (s2, eI G 8 (upd c2 ((0 : Int32).toNatClampNeg) a2)), (s3, eI G 8 (upd c3 ((0 : Int32).toNatClampNeg) a3)), (s4, eI G 8 (upd c4 ((0 : Int32).toNatClampNeg) a4)), (h0, .inr (11, [.ref s1, .ref s2, .ref s3, .ref s4, .int 1]))] := hD
  have hP9 := n_Psub (wc := [(h0, .inr (11, [.ref s1, .ref s2, .ref s3, .ref s4, .int 1]))]) hP [4] rfl
  have hD9 := hD.sub (ws' := [(h0, .inr (11, [.ref s1, .ref s2, .ref s3, .ref s4, .int 1]))]) [4] (by decide) rfl
  refine W.widen (k := 0) (n := 0) (Nat.le_of_ble_eq_true rfl) (Nat.le_of_ble_eq_true rfl) ?_
  exact W.vret hx hb hr (fun t ht hW => ⟨⟨(), rfl, trivial, by rw [ht]; exact hP9, va_K.moved hW.alike hK, hD9⟩, hS.F ht⟩) hS.2.2 dX10_append_58

set_option maxHeartbeats 4000000 in
set_option maxRecDepth 100000 in
theorem mX10_isCondition (l : Launch) (G : nG) (q : Int32) (sz : Nat) : Met l yX10_isCondition wsX10_isCondition ({ frames := 0, cells := 0, slots := 0, locals := 0 }) (va_Pc [.int q] (n_pp G [] sz)) (va_Qi (fun (r : Int32) (_ : Unit) => r = (ncd q)) (fun (_ : Unit) (t : State) => n_po G (va_A [] sz) [] t) (va_A [] sz)) 0 0 (va_A [] sz) := by
  refine Met.ofW (cc := cX10_isCondition) (maxL := 1) (ret := (some .boolean)) (by decide) rfl ?_
  intro p e s m args below meth c s₁ B hml hv
  obtain ⟨rfl, hsz, hP, hK, hD0⟩ := hv
  have hx := B.exec
  have hb := B.bytes
  have hr := B.returns
  have hts := atoms_spec (ws := wsX10_isCondition) B.pre
  have hown : s.vm.findClass RX10 = some m.cls := findClass_of_methodNamed B.named
  have hlocks := B.notSynchronized
  subst hsz
  have hD := hD0.self (sz := s.heap.size)
  generalize hAe : va_A [] s.heap.size = A at hD ⊢
  have hA : ∀ q : Nat, s.heap.size ≤ q → A q := fun q h => by rw [← hAe]; exact Or.inr h
  have hS : va_S A s.heap s.heap [] := va_S.rf
  have hP : va_P G.1 vwCl [] s.heap := hP
  have hl := lv_entry ([.int q]) (n := 1) (Nat.le_of_ble_eq_true rfl)
  rw [lg_entry_eq]
  generalize (lg_sl ([.int q]) ++ List.replicate (1 - (lg_sl ([.int q])).length) Slot.unset).toArray = ls at hl ⊢
  have hl : lv_has ls 1 [(0, .int q)] := hl
  obtain ⟨H, hH⟩ : ∃ z, z = s.heap := ⟨_, rfl⟩
  have hS : va_S A s.heap H [] := by rw [hH]; exact hS
  have hP : va_P G.1 vwCl [] H := by rw [hH]; exact hP
  refine n_heap hH ?_
  generalize ([] : List Loc) = locs at hS ⊢
  refine lv_iload_n hx hb dX10_isCondition_0 rfl (lv_at hl 0 rfl) ?_
  refine lv_if_lt (tgt := 13) hx hb dX10_isCondition_1 (by decide) (fun c_1 => ?_) (fun c_1 => ?_)
  · skip
    refine lv_iconst (v := 0) hx hb dX10_isCondition_13 (by decide) ?_
    have hP9 := n_Psub (wc := []) hP [] rfl
    have hD9 := hD.sub (ws' := []) [] (by decide) rfl
    refine W.widen (k := 0) (n := 0) (Nat.le_of_ble_eq_true rfl) (Nat.le_of_ble_eq_true rfl) ?_
    exact W.zret (v := 0) (ty := .boolean) hx hb hr rfl (fun t ht hW => ⟨⟨0, (), rfl, (by rw [ncd, if_pos c_1]), by rw [ht]; exact hP9, va_K.moved hW.alike hK, hD9⟩, hS.F ht⟩) hS.2.2 dX10_isCondition_14
  · skip
    refine lv_iload_n hx hb dX10_isCondition_4 rfl (lv_at hl 0 rfl) ?_
    refine lv_iconst (v := 3) hx hb dX10_isCondition_5 (by decide) ?_
    refine lv_icmp_gt (tgt := 13) hx hb dX10_isCondition_6 (by decide) (fun c_6 => ?_) (fun c_6 => ?_)
    · skip
      refine lv_iconst (v := 0) hx hb dX10_isCondition_13 (by decide) ?_
      have hP9 := n_Psub (wc := []) hP [] rfl
      have hD9 := hD.sub (ws' := []) [] (by decide) rfl
      refine W.widen (k := 0) (n := 0) (Nat.le_of_ble_eq_true rfl) (Nat.le_of_ble_eq_true rfl) ?_
      exact W.zret (v := 0) (ty := .boolean) hx hb hr rfl (fun t ht hW => ⟨⟨0, (), rfl, (by rw [ncd, if_neg c_1, if_pos c_6]), by rw [ht]; exact hP9, va_K.moved hW.alike hK, hD9⟩, hS.F ht⟩) hS.2.2 dX10_isCondition_14
    · skip
      refine lv_iconst (v := 1) hx hb dX10_isCondition_9 (by decide) ?_
      refine lv_goto (tgt := 14) hx hb dX10_isCondition_10 (by decide) ?_
      have hP9 := n_Psub (wc := []) hP [] rfl
      have hD9 := hD.sub (ws' := []) [] (by decide) rfl
      refine W.widen (k := 0) (n := 0) (Nat.le_of_ble_eq_true rfl) (Nat.le_of_ble_eq_true rfl) ?_
      exact W.zret (v := 1) (ty := .boolean) hx hb hr rfl (fun t ht hW => ⟨⟨1, (), rfl, (by rw [ncd, if_neg c_1, if_neg c_6]), by rw [ht]; exact hP9, va_K.moved hW.alike hK, hD9⟩, hS.F ht⟩) hS.2.2 dX10_isCondition_14

set_option maxHeartbeats 4000000 in
set_option maxRecDepth 100000 in
theorem mX3_alphabet (l : Launch) (G : nG) (h0 : Nat) (a : Nat) (l9 : Nat) (r9 : Nat) (sz : Nat) : Met l yX3_alphabet wsX3_alphabet ({ frames := 0, cells := 0, slots := 0, locals := 0 }) (va_Pc [.ref h0] (n_pp G [(h0, .inr (5, [.ref a, .ref l9, .ref r9]))] sz)) (va_Qr (fun (_ : Unit) => True) (fun (_ : Unit) (b9 : Nat) (t : State) => b9 = a ∧ n_po G (va_A [(h0, .inr (5, [.ref a, .ref l9, .ref r9]))] sz) [(h0, .inr (5, [.ref a, .ref l9, .ref r9]))] t) (va_A [(h0, .inr (5, [.ref a, .ref l9, .ref r9]))] sz)) 0 0 (va_A [(h0, .inr (5, [.ref a, .ref l9, .ref r9]))] sz) := by
  refine Met.ofW (cc := cX3_alphabet) (maxL := 1) (ret := (some (.object "DialectDictionary$Alphabet"))) (by decide) rfl ?_
  intro p e s m args below meth c s₁ B hml hv
  obtain ⟨rfl, hsz, hP, hK, hD0⟩ := hv
  have hx := B.exec
  have hb := B.bytes
  have hr := B.returns
  have hts := atoms_spec (ws := wsX3_alphabet) B.pre
  have hown : s.vm.findClass RX3 = some m.cls := findClass_of_methodNamed B.named
  have hlocks := B.notSynchronized
  subst hsz
  have hD := hD0.self (sz := s.heap.size)
  generalize hAe : va_A [(h0, .inr (5, [.ref a, .ref l9, .ref r9]))] s.heap.size = A at hD ⊢
  have hA : ∀ q : Nat, s.heap.size ≤ q → A q := fun q h => by rw [← hAe]; exact Or.inr h
  have hS : va_S A s.heap s.heap [] := va_S.rf
  have hP : va_P G.1 vwCl [(h0, .inr (5, [.ref a, .ref l9, .ref r9]))] s.heap := hP
  have hl := lv_entry ([.ref h0]) (n := 1) (Nat.le_of_ble_eq_true rfl)
  rw [lg_entry_eq]
  generalize (lg_sl ([.ref h0]) ++ List.replicate (1 - (lg_sl ([.ref h0])).length) Slot.unset).toArray = ls at hl ⊢
  have hl : lv_has ls 1 [(0, .ref h0)] := hl
  obtain ⟨H, hH⟩ : ∃ z, z = s.heap := ⟨_, rfl⟩
  have hS : va_S A s.heap H [] := by rw [hH]; exact hS
  have hP : va_P G.1 vwCl [(h0, .inr (5, [.ref a, .ref l9, .ref r9]))] H := by rw [hH]; exact hP
  refine n_heap hH ?_
  generalize ([] : List Loc) = locs at hS ⊢
  have hiX3 : ∀ w ∈ u_ws RX3 TX3 3, w ∈ wsX3_alphabet := by decide +kernel
  refine lv_aload_n hx hb dX3_alphabet_0 rfl (lv_at hl 0 rfl) ?_
  refine va_get (D := G.1) (ci := 5) (v := .ref a) (C := RX3) (T := TX3) (N := 3) hx hb hts hiX3 hown hK hP 0 rfl rfl 0 (by decide) (hts (.fieldLink RX3 10 "DialectDictionary$Desk" "alphabet" "LDialectDictionary$Alphabet;") (by decide +kernel)) (fun _ h9 => h9) rfl dX3_alphabet_1 ?_
  have hP9 := n_Psub (wc := [(h0, .inr (5, [.ref a, .ref l9, .ref r9]))]) hP [0] rfl
  have hD9 := hD.sub (ws' := [(h0, .inr (5, [.ref a, .ref l9, .ref r9]))]) [0] (by decide) rfl
  refine W.widen (k := 0) (n := 0) (Nat.le_of_ble_eq_true rfl) (Nat.le_of_ble_eq_true rfl) ?_
  exact W.aret (v := .ref a) hx hb hr (Or.inl ⟨_, rfl⟩) (Or.inr ⟨_, rfl⟩) (fun t ht hW => ⟨⟨(), a, rfl, trivial, rfl, by rw [ht]; exact hP9, va_K.moved hW.alike hK, hD9⟩, hS.F ht⟩) hS.2.2 dX3_alphabet_4

set_option maxHeartbeats 4000000 in
set_option maxRecDepth 100000 in
theorem mX3_lexicon (l : Launch) (G : nG) (h0 : Nat) (a : Nat) (l9 : Nat) (r9 : Nat) (sz : Nat) : Met l yX3_lexicon wsX3_lexicon ({ frames := 0, cells := 0, slots := 0, locals := 0 }) (va_Pc [.ref h0] (n_pp G [(h0, .inr (5, [.ref a, .ref l9, .ref r9]))] sz)) (va_Qr (fun (_ : Unit) => True) (fun (_ : Unit) (b9 : Nat) (t : State) => b9 = l9 ∧ n_po G (va_A [(h0, .inr (5, [.ref a, .ref l9, .ref r9]))] sz) [(h0, .inr (5, [.ref a, .ref l9, .ref r9]))] t) (va_A [(h0, .inr (5, [.ref a, .ref l9, .ref r9]))] sz)) 0 0 (va_A [(h0, .inr (5, [.ref a, .ref l9, .ref r9]))] sz) := by
  refine Met.ofW (cc := cX3_lexicon) (maxL := 1) (ret := (some (.object "DialectDictionary$Lexicon"))) (by decide) rfl ?_
  intro p e s m args below meth c s₁ B hml hv
  obtain ⟨rfl, hsz, hP, hK, hD0⟩ := hv
  have hx := B.exec
  have hb := B.bytes
  have hr := B.returns
  have hts := atoms_spec (ws := wsX3_lexicon) B.pre
  have hown : s.vm.findClass RX3 = some m.cls := findClass_of_methodNamed B.named
  have hlocks := B.notSynchronized
  subst hsz
  have hD := hD0.self (sz := s.heap.size)
  generalize hAe : va_A [(h0, .inr (5, [.ref a, .ref l9, .ref r9]))] s.heap.size = A at hD ⊢
  have hA : ∀ q : Nat, s.heap.size ≤ q → A q := fun q h => by rw [← hAe]; exact Or.inr h
  have hS : va_S A s.heap s.heap [] := va_S.rf
  have hP : va_P G.1 vwCl [(h0, .inr (5, [.ref a, .ref l9, .ref r9]))] s.heap := hP
  have hl := lv_entry ([.ref h0]) (n := 1) (Nat.le_of_ble_eq_true rfl)
  rw [lg_entry_eq]
  generalize (lg_sl ([.ref h0]) ++ List.replicate (1 - (lg_sl ([.ref h0])).length) Slot.unset).toArray = ls at hl ⊢
  have hl : lv_has ls 1 [(0, .ref h0)] := hl
  obtain ⟨H, hH⟩ : ∃ z, z = s.heap := ⟨_, rfl⟩
  have hS : va_S A s.heap H [] := by rw [hH]; exact hS
  have hP : va_P G.1 vwCl [(h0, .inr (5, [.ref a, .ref l9, .ref r9]))] H := by rw [hH]; exact hP
  refine n_heap hH ?_
  generalize ([] : List Loc) = locs at hS ⊢
  have hiX3 : ∀ w ∈ u_ws RX3 TX3 3, w ∈ wsX3_lexicon := by decide +kernel
  refine lv_aload_n hx hb dX3_lexicon_0 rfl (lv_at hl 0 rfl) ?_
  refine va_get (D := G.1) (ci := 5) (v := .ref l9) (C := RX3) (T := TX3) (N := 3) hx hb hts hiX3 hown hK hP 0 rfl rfl 1 (by decide) (hts (.fieldLink RX3 19 "DialectDictionary$Desk" "lexicon" "LDialectDictionary$Lexicon;") (by decide +kernel)) (fun _ h9 => h9) rfl dX3_lexicon_1 ?_
  have hP9 := n_Psub (wc := [(h0, .inr (5, [.ref a, .ref l9, .ref r9]))]) hP [0] rfl
  have hD9 := hD.sub (ws' := [(h0, .inr (5, [.ref a, .ref l9, .ref r9]))]) [0] (by decide) rfl
  refine W.widen (k := 0) (n := 0) (Nat.le_of_ble_eq_true rfl) (Nat.le_of_ble_eq_true rfl) ?_
  exact W.aret (v := .ref l9) hx hb hr (Or.inl ⟨_, rfl⟩) (Or.inr ⟨_, rfl⟩) (fun t ht hW => ⟨⟨(), l9, rfl, trivial, rfl, by rw [ht]; exact hP9, va_K.moved hW.alike hK, hD9⟩, hS.F ht⟩) hS.2.2 dX3_lexicon_4

set_option maxHeartbeats 4000000 in
set_option maxRecDepth 100000 in
theorem mX3_rules (l : Launch) (G : nG) (h0 : Nat) (a : Nat) (l9 : Nat) (r9 : Nat) (sz : Nat) : Met l yX3_rules wsX3_rules ({ frames := 0, cells := 0, slots := 0, locals := 0 }) (va_Pc [.ref h0] (n_pp G [(h0, .inr (5, [.ref a, .ref l9, .ref r9]))] sz)) (va_Qr (fun (_ : Unit) => True) (fun (_ : Unit) (b9 : Nat) (t : State) => b9 = r9 ∧ n_po G (va_A [(h0, .inr (5, [.ref a, .ref l9, .ref r9]))] sz) [(h0, .inr (5, [.ref a, .ref l9, .ref r9]))] t) (va_A [(h0, .inr (5, [.ref a, .ref l9, .ref r9]))] sz)) 0 0 (va_A [(h0, .inr (5, [.ref a, .ref l9, .ref r9]))] sz) := by
  refine Met.ofW (cc := cX3_rules) (maxL := 1) (ret := (some (.object "DialectDictionary$Rules"))) (by decide) rfl ?_
  intro p e s m args below meth c s₁ B hml hv
  obtain ⟨rfl, hsz, hP, hK, hD0⟩ := hv
  have hx := B.exec
  have hb := B.bytes
  have hr := B.returns
  have hts := atoms_spec (ws := wsX3_rules) B.pre
  have hown : s.vm.findClass RX3 = some m.cls := findClass_of_methodNamed B.named
  have hlocks := B.notSynchronized
  subst hsz
  have hD := hD0.self (sz := s.heap.size)
  generalize hAe : va_A [(h0, .inr (5, [.ref a, .ref l9, .ref r9]))] s.heap.size = A at hD ⊢
  have hA : ∀ q : Nat, s.heap.size ≤ q → A q := fun q h => by rw [← hAe]; exact Or.inr h
  have hS : va_S A s.heap s.heap [] := va_S.rf
  have hP : va_P G.1 vwCl [(h0, .inr (5, [.ref a, .ref l9, .ref r9]))] s.heap := hP
  have hl := lv_entry ([.ref h0]) (n := 1) (Nat.le_of_ble_eq_true rfl)
  rw [lg_entry_eq]
  generalize (lg_sl ([.ref h0]) ++ List.replicate (1 - (lg_sl ([.ref h0])).length) Slot.unset).toArray = ls at hl ⊢
  have hl : lv_has ls 1 [(0, .ref h0)] := hl
  obtain ⟨H, hH⟩ : ∃ z, z = s.heap := ⟨_, rfl⟩
  have hS : va_S A s.heap H [] := by rw [hH]; exact hS
  have hP : va_P G.1 vwCl [(h0, .inr (5, [.ref a, .ref l9, .ref r9]))] H := by rw [hH]; exact hP
  refine n_heap hH ?_
  generalize ([] : List Loc) = locs at hS ⊢
  have hiX3 : ∀ w ∈ u_ws RX3 TX3 3, w ∈ wsX3_rules := by decide +kernel
  refine lv_aload_n hx hb dX3_rules_0 rfl (lv_at hl 0 rfl) ?_
  refine va_get (D := G.1) (ci := 5) (v := .ref r9) (C := RX3) (T := TX3) (N := 3) hx hb hts hiX3 hown hK hP 0 rfl rfl 2 (by decide) (hts (.fieldLink RX3 26 "DialectDictionary$Desk" "rules" "LDialectDictionary$Rules;") (by decide +kernel)) (fun _ h9 => h9) rfl dX3_rules_1 ?_
  have hP9 := n_Psub (wc := [(h0, .inr (5, [.ref a, .ref l9, .ref r9]))]) hP [0] rfl
  have hD9 := hD.sub (ws' := [(h0, .inr (5, [.ref a, .ref l9, .ref r9]))]) [0] (by decide) rfl
  refine W.widen (k := 0) (n := 0) (Nat.le_of_ble_eq_true rfl) (Nat.le_of_ble_eq_true rfl) ?_
  exact W.aret (v := .ref r9) hx hb hr (Or.inl ⟨_, rfl⟩) (Or.inr ⟨_, rfl⟩) (fun t ht hW => ⟨⟨(), r9, rfl, trivial, rfl, by rw [ht]; exact hP9, va_K.moved hW.alike hK, hD9⟩, hS.F ht⟩) hS.2.2 dX3_rules_4

set_option maxHeartbeats 4000000 in
set_option maxRecDepth 100000 in
theorem mX3_copyFrom (l : Launch) (G : nG) (h0 : Nat) (aa : Nat) (ar1 : Nat) (ar2 : Nat) (ar3 : Nat) (af : Nat → Int32) (ag : Nat → Int32) (ah : Nat → Int32) (al : Nat) (alr : Nat) (ar : Nat) (as1 : Nat) (as2 : Nat) (as3 : Nat) (as4 : Nat) (ac1 : Nat → Int32) (ac2 : Nat → Int32) (ac3 : Nat → Int32) (ac4 : Nat → Int32) (h1 : Nat) (ba : Nat) (br1 : Nat) (br2 : Nat) (br3 : Nat) (bf : Nat → Int32) (bg : Nat → Int32) (bh : Nat → Int32) (bl : Nat) (blr : Nat) (br : Nat) (bs1 : Nat) (bs2 : Nat) (bs3 : Nat) (bs4 : Nat) (bc1 : Nat → Int32) (bc2 : Nat → Int32) (bc3 : Nat → Int32) (bc4 : Nat → Int32) (sz : Nat) (hbg : nFit bg) (hbh : nFit bh) : Met l yX3_copyFrom wsX3_copyFrom ({ frames := 2, cells := 0, slots := 0, locals := 81 }) (va_Pc [.ref h0, .ref h1] (n_pp G [(h0, .inr (5, [.ref aa, .ref al, .ref ar])), (aa, .inr (2, [.ref ar1, .ref ar2, .ref ar3, .int 26])), (ar1, eI G 36 af), (ar2, eC G 36 ag), (ar3, eC G 36 ah), (al, .inr (9, [.ref alr, .int 0])), (ar, .inr (11, [.ref as1, .ref as2, .ref as3, .ref as4, .int 0])), (as1, eI G 8 ac1), (as2, eI G 8 ac2), (as3, eI G 8 ac3), (as4, eI G 8 ac4), (h1, .inr (5, [.ref ba, .ref bl, .ref br])), (ba, .inr (2, [.ref br1, .ref br2, .ref br3, .int 26])), (br1, eI G 36 bf), (br2, eC G 36 bg), (br3, eC G 36 bh), (bl, .inr (9, [.ref blr, .int 0])), (br, .inr (11, [.ref bs1, .ref bs2, .ref bs3, .ref bs4, .int 0])), (bs1, eI G 8 bc1), (bs2, eI G 8 bc2), (bs3, eI G 8 bc3), (bs4, eI G 8 bc4)] sz)) (va_Qv (fun (_ : Unit) => True) (fun (_ : Unit) (t : State) => n_po G (va_A [(h0, .inr (5, [.ref aa, .ref al, .ref ar])), (aa, .inr (2, [.ref ar1, .ref ar2, .ref ar3, .int 26])), (ar1, eI G 36 af), (ar2, eC G 36 ag), (ar3, eC G 36 ah), (al, .inr (9, [.ref alr, .int 0])), (ar, .inr (11, [.ref as1, .ref as2, .ref as3, .ref as4, .int 0])), (as1, eI G 8 ac1), (as2, eI G 8 ac2), (as3, eI G 8 ac3), (as4, eI G 8 ac4), (h1, .inr (5, [.ref ba, .ref bl, .ref br])), (ba, .inr (2, [.ref br1, .ref br2, .ref br3, .int 26])), (br1, eI G 36 bf), (br2, eC G 36 bg), (br3, eC G 36 bh), (bl, .inr (9, [.ref blr, .int 0])), (br, .inr (11, [.ref bs1, .ref bs2, .ref bs3, .ref bs4, .int 0])), (bs1, eI G 8 bc1), (bs2, eI G 8 bc2), (bs3, eI G 8 bc3), (bs4, eI G 8 bc4)] sz) [(h1, .inr (5, [.ref ba, .ref bl, .ref br])), (ba, .inr (2, [.ref br1, .ref br2, .ref br3, .int 26])), (br1, eI G 36 bf), (br2, eC G 36 bg), (br3, eC G 36 bh), (bl, .inr (9, [.ref blr, .int 0])), (br, .inr (11, [.ref bs1, .ref bs2, .ref bs3, .ref bs4, .int 0])), (bs1, eI G 8 bc1), (bs2, eI G 8 bc2), (bs3, eI G 8 bc3), (bs4, eI G 8 bc4)] t) (va_A [(h0, .inr (5, [.ref aa, .ref al, .ref ar])), (aa, .inr (2, [.ref ar1, .ref ar2, .ref ar3, .int 26])), (ar1, eI G 36 af), (ar2, eC G 36 ag), (ar3, eC G 36 ah), (al, .inr (9, [.ref alr, .int 0])), (ar, .inr (11, [.ref as1, .ref as2, .ref as3, .ref as4, .int 0])), (as1, eI G 8 ac1), (as2, eI G 8 ac2), (as3, eI G 8 ac3), (as4, eI G 8 ac4), (h1, .inr (5, [.ref ba, .ref bl, .ref br])), (ba, .inr (2, [.ref br1, .ref br2, .ref br3, .int 26])), (br1, eI G 36 bf), (br2, eC G 36 bg), (br3, eC G 36 bh), (bl, .inr (9, [.ref blr, .int 0])), (br, .inr (11, [.ref bs1, .ref bs2, .ref bs3, .ref bs4, .int 0])), (bs1, eI G 8 bc1), (bs2, eI G 8 bc2), (bs3, eI G 8 bc3), (bs4, eI G 8 bc4)] sz)) 0 0 (va_A [(h0, .inr (5, [.ref aa, .ref al, .ref ar])), (aa, .inr (2, [.ref ar1, .ref ar2, .ref ar3, .int 26])), (ar1, eI G 36 af), (ar2, eC G 36 ag), (ar3, eC G 36 ah), (al, .inr (9, [.ref alr, .int 0])), (ar, .inr (11, [.ref as1, .ref as2, .ref as3, .ref as4, .int 0])), (as1, eI G 8 ac1), (as2, eI G 8 ac2), (as3, eI G 8 ac3), (as4, eI G 8 ac4), (h1, .inr (5, [.ref ba, .ref bl, .ref br])), (ba, .inr (2, [.ref br1, .ref br2, .ref br3, .int 26])), (br1, eI G 36 bf), (br2, eC G 36 bg), (br3, eC G 36 bh), (bl, .inr (9, [.ref blr, .int 0])), (br, .inr (11, [.ref bs1, .ref bs2, .ref bs3, .ref bs4, .int 0])), (bs1, eI G 8 bc1), (bs2, eI G 8 bc2), (bs3, eI G 8 bc3), (bs4, eI G 8 bc4)] sz) := by
  refine Met.ofW (cc := cX3_copyFrom) (maxL := 2) (ret := none) (by decide) rfl ?_
  intro p e s m args below meth c s₁ B hml hv
  obtain ⟨rfl, hsz, hP, hK, hD0⟩ := hv
  have hx := B.exec
  have hb := B.bytes
  have hr := B.returns
  have hts := atoms_spec (ws := wsX3_copyFrom) B.pre
  have hown : s.vm.findClass RX3 = some m.cls := findClass_of_methodNamed B.named
  have hlocks := B.notSynchronized
  subst hsz
  have hD := hD0.self (sz := s.heap.size)
  generalize hAe : va_A [(h0, .inr (5, [.ref aa, .ref al, .ref ar])), (aa, .inr (2, [.ref ar1, .ref ar2, .ref ar3, .int 26])), (ar1, eI G 36 af), (ar2, eC G 36 ag), (ar3, eC G 36 ah), (al, .inr (9, [.ref alr, .int 0])), (ar, .inr (11, [.ref as1, .ref as2, .ref as3, .ref as4, .int 0])), (as1, eI G 8 ac1), (as2, eI G 8 ac2), (as3, eI G 8 ac3), (as4, eI G 8 ac4), (h1, .inr (5, [.ref ba, .ref bl, .ref br])), (ba, .inr (2, [.ref br1, .ref br2, .ref br3, .int 26])), (br1, eI G 36 bf), (br2, eC G 36 bg), (br3, eC G 36 bh), (bl, .inr (9, [.ref blr, .int 0])), (br, .inr (11, [.ref bs1, .ref bs2, .ref bs3, .ref bs4, .int 0])), (bs1, eI G 8 bc1), (bs2, eI G 8 bc2), (bs3, eI G 8 bc3), (bs4, eI G 8 bc4)] s.heap.size = A at hD ⊢
  have hA : ∀ q : Nat, s.heap.size ≤ q → A q := fun q h => by rw [← hAe]; exact Or.inr h
  have hS : va_S A s.heap s.heap [] := va_S.rf
  have hP : va_P G.1 vwCl [(h0, .inr (5, [.ref aa, .ref al, .ref ar])), (aa, .inr (2, [.ref ar1, .ref ar2, .ref ar3, .int 26])), (ar1, eI G 36 af), (ar2, eC G 36 ag), (ar3, eC G 36 ah), (al, .inr (9, [.ref alr, .int 0])), (ar, .inr (11, [.ref as1, .ref as2, .ref as3, .ref as4, .int 0])), (as1, eI G 8 ac1), (as2, eI G 8 ac2), (as3, eI G 8 ac3), (as4, eI G 8 ac4), (h1, .inr (5, [.ref ba, .ref bl, .ref br])), (ba, .inr (2, [.ref br1, .ref br2, .ref br3, .int 26])), (br1, eI G 36 bf), (br2, eC G 36 bg), (br3, eC G 36 bh), (bl, .inr (9, [.ref blr, .int 0])), (br, .inr (11, [.ref bs1, .ref bs2, .ref bs3, .ref bs4, .int 0])), (bs1, eI G 8 bc1), (bs2, eI G 8 bc2), (bs3, eI G 8 bc3), (bs4, eI G 8 bc4)] s.heap := hP
  have hl := lv_entry ([.ref h0, .ref h1]) (n := 2) (Nat.le_of_ble_eq_true rfl)
  rw [lg_entry_eq]
  generalize (lg_sl ([.ref h0, .ref h1]) ++ List.replicate (2 - (lg_sl ([.ref h0, .ref h1])).length) Slot.unset).toArray = ls at hl ⊢
  have hl : lv_has ls 2 [(0, .ref h0), (1, .ref h1)] := hl
  obtain ⟨H, hH⟩ : ∃ z, z = s.heap := ⟨_, rfl⟩
  have hS : va_S A s.heap H [] := by rw [hH]; exact hS
  have hP : va_P G.1 vwCl [(h0, .inr (5, [.ref aa, .ref al, .ref ar])), (aa, .inr (2, [.ref ar1, .ref ar2, .ref ar3, .int 26])), (ar1, eI G 36 af), (ar2, eC G 36 ag), (ar3, eC G 36 ah), (al, .inr (9, [.ref alr, .int 0])), (ar, .inr (11, [.ref as1, .ref as2, .ref as3, .ref as4, .int 0])), (as1, eI G 8 ac1), (as2, eI G 8 ac2), (as3, eI G 8 ac3), (as4, eI G 8 ac4), (h1, .inr (5, [.ref ba, .ref bl, .ref br])), (ba, .inr (2, [.ref br1, .ref br2, .ref br3, .int 26])), (br1, eI G 36 bf), (br2, eC G 36 bg), (br3, eC G 36 bh), (bl, .inr (9, [.ref blr, .int 0])), (br, .inr (11, [.ref bs1, .ref bs2, .ref bs3, .ref bs4, .int 0])), (bs1, eI G 8 bc1), (bs2, eI G 8 bc2), (bs3, eI G 8 bc3), (bs4, eI G 8 bc4)] H := by rw [hH]; exact hP
  refine n_heap hH ?_
  generalize ([] : List Loc) = locs at hS ⊢
  have hiX3 : ∀ w ∈ u_ws RX3 TX3 3, w ∈ wsX3_copyFrom := by decide +kernel
  refine lv_aload_n hx hb dX3_copyFrom_0 rfl (lv_at hl 0 rfl) ?_
  refine va_get (D := G.1) (ci := 5) (v := .ref aa) (C := RX3) (T := TX3) (N := 3) hx hb hts hiX3 hown hK hP 0 rfl rfl 0 (by decide) (hts (.fieldLink RX3 10 "DialectDictionary$Desk" "alphabet" "LDialectDictionary$Alphabet;") (by decide +kernel)) (fun _ h9 => h9) rfl dX3_copyFrom_1 ?_
  refine lv_aload_n hx hb dX3_copyFrom_4 rfl (lv_at hl 1 rfl) ?_
  refine va_get (D := G.1) (ci := 5) (v := .ref ba) (C := RX3) (T := TX3) (N := 3) hx hb hts hiX3 hown hK hP 11 rfl rfl 0 (by decide) (hts (.fieldLink RX3 10 "DialectDictionary$Desk" "alphabet" "LDialectDictionary$Alphabet;") (by decide +kernel)) (fun _ h9 => h9) rfl dX3_copyFrom_5 ?_
  refine n_cv (wr := [(h0, .inr (5, [.ref aa, .ref al, .ref ar])), (al, .inr (9, [.ref alr, .int 0])), (ar, .inr (11, [.ref as1, .ref as2, .ref as3, .ref as4, .int 0])), (as1, eI G 8 ac1), (as2, eI G 8 ac2), (as3, eI G 8 ac3), (as4, eI G 8 ac4), (h1, .inr (5, [.ref ba, .ref bl, .ref br])), (bl, .inr (9, [.ref blr, .int 0])), (br, .inr (11, [.ref bs1, .ref bs2, .ref bs3, .ref bs4, .int 0])), (bs1, eI G 8 bc1), (bs2, eI G 8 bc2), (bs3, eI G 8 bc3), (bs4, eI G 8 bc4)]) (va_runV (As := [.ref ba]) (rest := []) ⟨hx, hb, hml, hown, hts⟩ (mX0_copyFrom l G aa ar1 ar2 ar3 af ag ah 26 ba br1 br2 br3 bf bg bh H.size hbg hbh) (cwV 1 hts gX3_copyFrom_X0_copyFrom rfl rfl rfl (by decide +kernel) ⟨(Nat.le_of_ble_eq_true rfl), (Nat.le_of_ble_eq_true rfl)⟩) (n_prV (ci := 2) (q0 := 1) hK hP hD [1, 2, 3, 4, 12, 13, 14, 15] rfl (by decide) rfl rfl) rfl rfl hl.1 rfl (lv_room (Nat.le_of_ble_eq_true rfl)) dX3_copyFrom_8 ⟨(Nat.le_of_ble_eq_true rfl), (Nat.le_of_ble_eq_true rfl)⟩) hP hD hS hA [1, 2, 3, 4, 12, 13, 14, 15] [0, 5, 6, 7, 8, 9, 10, 11, 16, 17, 18, 19, 20, 21] rfl rfl (by decide) (by decide) (fun u_1 H locs hP hD hS hw => ?_)
  have hP : va_P G.1 vwCl [(h0, .inr (5, [.ref aa, .ref al, .ref ar])), (al, .inr (9, [.ref alr, .int 0])), (ar, .inr (11, [.ref as1, .ref as2, .ref as3, .ref as4, .int 0])), (as1, eI G 8 ac1), (as2, eI G 8 ac2), (as3, eI G 8 ac3), (as4, eI G 8 ac4), (h1, .inr (5, [.ref ba, .ref bl, .ref br])), (bl, .inr (9, [.ref blr, .int 0])), (br, .inr (11, [.ref bs1, .ref bs2, .ref bs3, .ref bs4, .int 0])), (bs1, eI G 8 bc1), (bs2, eI G 8 bc2), (bs3, eI G 8 bc3), (bs4, eI G 8 bc4), (ba, .inr (2, [.ref br1, .ref br2, .ref br3, .int 26])), (br1, eI G 36 bf), (br2, eC G 36 bg), (br3, eC G 36 bh)] H := hP
  have hD : va_D A [(h0, .inr (5, [.ref aa, .ref al, .ref ar])), (al, .inr (9, [.ref alr, .int 0])), (ar, .inr (11, [.ref as1, .ref as2, .ref as3, .ref as4, .int 0])), (as1, eI G 8 ac1), (as2, eI G 8 ac2), (as3, eI G 8 ac3), (as4, eI G 8 ac4), (h1, .inr (5, [.ref ba, .ref bl, .ref br])), (bl, .inr (9, [.ref blr, .int 0])), (br, .inr (11, [.ref bs1, .ref bs2, .ref bs3, .ref bs4, .int 0])), (bs1, eI G 8 bc1), (bs2, eI G 8 bc2), (bs3, eI G 8 bc3), (bs4, eI G 8 bc4), (ba, .inr (2, [.ref br1, .ref br2, .ref br3, .int 26])), (br1, eI G 36 bf), (br2, eC G 36 bg), (br3, eC G 36 bh)] := hD
  refine lv_aload_n hx hb dX3_copyFrom_11 rfl (lv_at hl 0 rfl) ?_
  refine va_get (D := G.1) (ci := 5) (v := .ref al) (C := RX3) (T := TX3) (N := 3) hx hb hts hiX3 hown hK hP 0 rfl rfl 1 (by decide) (hts (.fieldLink RX3 19 "DialectDictionary$Desk" "lexicon" "LDialectDictionary$Lexicon;") (by decide +kernel)) (fun _ h9 => h9) rfl dX3_copyFrom_12 ?_
  refine lv_aload_n hx hb dX3_copyFrom_15 rfl (lv_at hl 1 rfl) ?_
  refine va_get (D := G.1) (ci := 5) (v := .ref bl) (C := RX3) (T := TX3) (N := 3) hx hb hts hiX3 hown hK hP 7 rfl rfl 1 (by decide) (hts (.fieldLink RX3 19 "DialectDictionary$Desk" "lexicon" "LDialectDictionary$Lexicon;") (by decide +kernel)) (fun _ h9 => h9) rfl dX3_copyFrom_16 ?_
  refine n_cv (wr := [(h0, .inr (5, [.ref aa, .ref al, .ref ar])), (ar, .inr (11, [.ref as1, .ref as2, .ref as3, .ref as4, .int 0])), (as1, eI G 8 ac1), (as2, eI G 8 ac2), (as3, eI G 8 ac3), (as4, eI G 8 ac4), (h1, .inr (5, [.ref ba, .ref bl, .ref br])), (br, .inr (11, [.ref bs1, .ref bs2, .ref bs3, .ref bs4, .int 0])), (bs1, eI G 8 bc1), (bs2, eI G 8 bc2), (bs3, eI G 8 bc3), (bs4, eI G 8 bc4), (ba, .inr (2, [.ref br1, .ref br2, .ref br3, .int 26])), (br1, eI G 36 bf), (br2, eC G 36 bg), (br3, eC G 36 bh)]) (va_runV (As := [.ref bl]) (rest := []) ⟨hx, hb, hml, hown, hts⟩ (mX8_copyFrom l G al alr 0 bl blr H.size) (cwV 1 hts gX3_copyFrom_X8_copyFrom rfl rfl rfl (by decide +kernel) ⟨(Nat.le_of_ble_eq_true rfl), (Nat.le_of_ble_eq_true rfl)⟩) (n_prV (ci := 9) (q0 := 1) hK hP hD [1, 8] rfl (by decide) rfl rfl) rfl rfl hl.1 rfl (lv_room (Nat.le_of_ble_eq_true rfl)) dX3_copyFrom_19 ⟨(Nat.le_of_ble_eq_true rfl), (Nat.le_of_ble_eq_true rfl)⟩) hP hD hS hA [1, 8] [0, 2, 3, 4, 5, 6, 7, 9, 10, 11, 12, 13, 14, 15, 16, 17] rfl rfl (by decide) (by decide) (fun u_2 H locs hP hD hS hw => ?_)
  have hP : va_P G.1 vwCl [(h0, .inr (5, [.ref aa, .ref al, .ref ar])), (ar, .inr (11, [.ref as1, .ref as2, .ref as3, .ref as4, .int 0])), (as1, eI G 8 ac1), (as2, eI G 8 ac2), (as3, eI G 8 ac3), (as4, eI G 8 ac4), (h1, .inr (5, [.ref ba, .ref bl, .ref br])), (br, .inr (11, [.ref bs1, .ref bs2, .ref bs3, .ref bs4, .int 0])), (bs1, eI G 8 bc1), (bs2, eI G 8 bc2), (bs3, eI G 8 bc3), (bs4, eI G 8 bc4), (ba, .inr (2, [.ref br1, .ref br2, .ref br3, .int 26])), (br1, eI G 36 bf), (br2, eC G 36 bg), (br3, eC G 36 bh), (bl, .inr (9, [.ref blr, .int 0]))] H := hP
  have hD : va_D A [(h0, .inr (5, [.ref aa, .ref al, .ref ar])), (ar, .inr (11, [.ref as1, .ref as2, .ref as3, .ref as4, .int 0])), (as1, eI G 8 ac1), (as2, eI G 8 ac2), (as3, eI G 8 ac3), (as4, eI G 8 ac4), (h1, .inr (5, [.ref ba, .ref bl, .ref br])), (br, .inr (11, [.ref bs1, .ref bs2, .ref bs3, .ref bs4, .int 0])), (bs1, eI G 8 bc1), (bs2, eI G 8 bc2), (bs3, eI G 8 bc3), (bs4, eI G 8 bc4), (ba, .inr (2, [.ref br1, .ref br2, .ref br3, .int 26])), (br1, eI G 36 bf), (br2, eC G 36 bg), (br3, eC G 36 bh), (bl, .inr (9, [.ref blr, .int 0]))] := hD
  refine lv_aload_n hx hb dX3_copyFrom_22 rfl (lv_at hl 0 rfl) ?_
  refine va_get (D := G.1) (ci := 5) (v := .ref ar) (C := RX3) (T := TX3) (N := 3) hx hb hts hiX3 hown hK hP 0 rfl rfl 2 (by decide) (hts (.fieldLink RX3 26 "DialectDictionary$Desk" "rules" "LDialectDictionary$Rules;") (by decide +kernel)) (fun _ h9 => h9) rfl dX3_copyFrom_23 ?_
  refine lv_aload_n hx hb dX3_copyFrom_26 rfl (lv_at hl 1 rfl) ?_
  refine va_get (D := G.1) (ci := 5) (v := .ref br) (C := RX3) (T := TX3) (N := 3) hx hb hts hiX3 hown hK hP 6 rfl rfl 2 (by decide) (hts (.fieldLink RX3 26 "DialectDictionary$Desk" "rules" "LDialectDictionary$Rules;") (by decide +kernel)) (fun _ h9 => h9) rfl dX3_copyFrom_27 ?_
  refine n_cv (wr := [(h0, .inr (5, [.ref aa, .ref al, .ref ar])), (h1, .inr (5, [.ref ba, .ref bl, .ref br])), (ba, .inr (2, [.ref br1, .ref br2, .ref br3, .int 26])), (br1, eI G 36 bf), (br2, eC G 36 bg), (br3, eC G 36 bh), (bl, .inr (9, [.ref blr, .int 0]))]) (va_runV (As := [.ref br]) (rest := []) ⟨hx, hb, hml, hown, hts⟩ (mX10_copyFrom l G ar as1 as2 as3 as4 ac1 ac2 ac3 ac4 0 br bs1 bs2 bs3 bs4 bc1 bc2 bc3 bc4 H.size) (cwV 1 hts gX3_copyFrom_X10_copyFrom rfl rfl rfl (by decide +kernel) ⟨(Nat.le_of_ble_eq_true rfl), (Nat.le_of_ble_eq_true rfl)⟩) (n_prV (ci := 11) (q0 := 1) hK hP hD [1, 2, 3, 4, 5, 7, 8, 9, 10, 11] rfl (by decide) rfl rfl) rfl rfl hl.1 rfl (lv_room (Nat.le_of_ble_eq_true rfl)) dX3_copyFrom_30 ⟨(Nat.le_of_ble_eq_true rfl), (Nat.le_of_ble_eq_true rfl)⟩) hP hD hS hA [1, 2, 3, 4, 5, 7, 8, 9, 10, 11] [0, 6, 12, 13, 14, 15, 16] rfl rfl (by decide) (by decide) (fun u_3 H locs hP hD hS hw => ?_)
  have hP : va_P G.1 vwCl [(h0, .inr (5, [.ref aa, .ref al, .ref ar])), (h1, .inr (5, [.ref ba, .ref bl, .ref br])), (ba, .inr (2, [.ref br1, .ref br2, .ref br3, .int 26])), (br1, eI G 36 bf), (br2, eC G 36 bg), (br3, eC G 36 bh), (bl, .inr (9, [.ref blr, .int 0])), (br, .inr (11, [.ref bs1, .ref bs2, .ref bs3, .ref bs4, .int 0])), (bs1, eI G 8 bc1), (bs2, eI G 8 bc2), (bs3, eI G 8 bc3), (bs4, eI G 8 bc4)] H := hP
  have hD : va_D A [(h0, .inr (5, [.ref aa, .ref al, .ref ar])), (h1, .inr (5, [.ref ba, .ref bl, .ref br])), (ba, .inr (2, [.ref br1, .ref br2, .ref br3, .int 26])), (br1, eI G 36 bf), (br2, eC G 36 bg), (br3, eC G 36 bh), (bl, .inr (9, [.ref blr, .int 0])), (br, .inr (11, [.ref bs1, .ref bs2, .ref bs3, .ref bs4, .int 0])), (bs1, eI G 8 bc1), (bs2, eI G 8 bc2), (bs3, eI G 8 bc3), (bs4, eI G 8 bc4)] := hD
  have hP9 := n_Psub (wc := [(h1, .inr (5, [.ref ba, .ref bl, .ref br])), (ba, .inr (2, [.ref br1, .ref br2, .ref br3, .int 26])), (br1, eI G 36 bf), (br2, eC G 36 bg), (br3, eC G 36 bh), (bl, .inr (9, [.ref blr, .int 0])), (br, .inr (11, [.ref bs1, .ref bs2, .ref bs3, .ref bs4, .int 0])), (bs1, eI G 8 bc1), (bs2, eI G 8 bc2), (bs3, eI G 8 bc3), (bs4, eI G 8 bc4)]) hP [1, 2, 3, 4, 5, 6, 7, 8, 9, 10, 11] rfl
  have hD9 := hD.sub (ws' := [(h1, .inr (5, [.ref ba, .ref bl, .ref br])), (ba, .inr (2, [.ref br1, .ref br2, .ref br3, .int 26])), (br1, eI G 36 bf), (br2, eC G 36 bg), (br3, eC G 36 bh), (bl, .inr (9, [.ref blr, .int 0])), (br, .inr (11, [.ref bs1, .ref bs2, .ref bs3, .ref bs4, .int 0])), (bs1, eI G 8 bc1), (bs2, eI G 8 bc2), (bs3, eI G 8 bc3), (bs4, eI G 8 bc4)]) [1, 2, 3, 4, 5, 6, 7, 8, 9, 10, 11] (by decide) rfl
  refine W.widen (k := 0) (n := 0) (Nat.le_of_ble_eq_true rfl) (Nat.le_of_ble_eq_true rfl) ?_
  exact W.vret hx hb hr (fun t ht hW => ⟨⟨(), rfl, trivial, by rw [ht]; exact hP9, va_K.moved hW.alike hK, hD9⟩, hS.F ht⟩) hS.2.2 dX3_copyFrom_33

set_option maxHeartbeats 4000000 in
set_option maxRecDepth 100000 in
theorem mX6_count (l : Launch) (G : nG) (h0 : Nat) (rg : Nat) (sz : Nat) : Met l yX6_count wsX6_count ({ frames := 0, cells := 0, slots := 0, locals := 0 }) (va_Pc [.ref h0] (n_pp G [(h0, .inr (7, [.ref rg, .int 0, .int 0]))] sz)) (va_Qi (fun (r : Int32) (_ : Unit) => r = 0) (fun (_ : Unit) (t : State) => n_po G (va_A [(h0, .inr (7, [.ref rg, .int 0, .int 0]))] sz) [(h0, .inr (7, [.ref rg, .int 0, .int 0]))] t) (va_A [(h0, .inr (7, [.ref rg, .int 0, .int 0]))] sz)) 0 0 (va_A [(h0, .inr (7, [.ref rg, .int 0, .int 0]))] sz) := by
  refine Met.ofW (cc := cX6_count) (maxL := 1) (ret := (some .int)) (by decide) rfl ?_
  intro p e s m args below meth c s₁ B hml hv
  obtain ⟨rfl, hsz, hP, hK, hD0⟩ := hv
  have hx := B.exec
  have hb := B.bytes
  have hr := B.returns
  have hts := atoms_spec (ws := wsX6_count) B.pre
  have hown : s.vm.findClass RX6 = some m.cls := findClass_of_methodNamed B.named
  have hlocks := B.notSynchronized
  subst hsz
  have hD := hD0.self (sz := s.heap.size)
  generalize hAe : va_A [(h0, .inr (7, [.ref rg, .int 0, .int 0]))] s.heap.size = A at hD ⊢
  have hA : ∀ q : Nat, s.heap.size ≤ q → A q := fun q h => by rw [← hAe]; exact Or.inr h
  have hS : va_S A s.heap s.heap [] := va_S.rf
  have hP : va_P G.1 vwCl [(h0, .inr (7, [.ref rg, .int 0, .int 0]))] s.heap := hP
  have hl := lv_entry ([.ref h0]) (n := 1) (Nat.le_of_ble_eq_true rfl)
  rw [lg_entry_eq]
  generalize (lg_sl ([.ref h0]) ++ List.replicate (1 - (lg_sl ([.ref h0])).length) Slot.unset).toArray = ls at hl ⊢
  have hl : lv_has ls 1 [(0, .ref h0)] := hl
  obtain ⟨H, hH⟩ : ∃ z, z = s.heap := ⟨_, rfl⟩
  have hS : va_S A s.heap H [] := by rw [hH]; exact hS
  have hP : va_P G.1 vwCl [(h0, .inr (7, [.ref rg, .int 0, .int 0]))] H := by rw [hH]; exact hP
  refine n_heap hH ?_
  generalize ([] : List Loc) = locs at hS ⊢
  have hiX6 : ∀ w ∈ u_ws RX6 TX6 3, w ∈ wsX6_count := by decide +kernel
  refine lv_aload_n hx hb dX6_count_0 rfl (lv_at hl 0 rfl) ?_
  refine va_get (D := G.1) (ci := 7) (v := .int 0) (C := RX6) (T := TX6) (N := 3) hx hb hts hiX6 hown hK hP 0 rfl rfl 2 (by decide) (hts (.fieldLink RX6 21 "DialectDictionary$History" "count" "I") (by decide +kernel)) (fun _ h9 => h9) rfl dX6_count_1 ?_
  have hP9 := n_Psub (wc := [(h0, .inr (7, [.ref rg, .int 0, .int 0]))]) hP [0] rfl
  have hD9 := hD.sub (ws' := [(h0, .inr (7, [.ref rg, .int 0, .int 0]))]) [0] (by decide) rfl
  refine W.widen (k := 0) (n := 0) (Nat.le_of_ble_eq_true rfl) (Nat.le_of_ble_eq_true rfl) ?_
  exact W.iret (v := 0) hx hb hr (fun t ht hW => ⟨⟨0, (), rfl, rfl, by rw [ht]; exact hP9, va_K.moved hW.alike hK, hD9⟩, hS.F ht⟩) hS.2.2 dX6_count_4

set_option maxHeartbeats 4000000 in
set_option maxRecDepth 100000 in
theorem mX6_prepare (l : Launch) (G : nG) (h0 : Nat) (rg : Nat) (fr : Nat → Option Nat) (d0 : Nat) (aa : Nat) (ar1 : Nat) (ar2 : Nat) (ar3 : Nat) (af : Nat → Int32) (ag : Nat → Int32) (ah : Nat → Int32) (al : Nat) (alr : Nat) (ar : Nat) (as1 : Nat) (as2 : Nat) (as3 : Nat) (as4 : Nat) (ac1 : Nat → Int32) (ac2 : Nat → Int32) (ac3 : Nat → Int32) (ac4 : Nat → Int32) (d : Nat) (ba : Nat) (br1 : Nat) (br2 : Nat) (br3 : Nat) (bf : Nat → Int32) (bg : Nat → Int32) (bh : Nat → Int32) (bl : Nat) (blr : Nat) (br : Nat) (bs1 : Nat) (bs2 : Nat) (bs3 : Nat) (bs4 : Nat) (bc1 : Nat → Int32) (bc2 : Nat → Int32) (bc3 : Nat → Int32) (bc4 : Nat → Int32) (sz : Nat) (hbg : nFit bg) (hbh : nFit bh) (hring : fr 0 = some d0) : Met l yX6_prepare wsX6_prepare ({ frames := 3, cells := 0, slots := 0, locals := 102 }) (va_Pc [.ref h0, .ref d] (n_pp G [(h0, .inr (7, [.ref rg, .int 0, .int 0])), (rg, eR G 9 fr), (d0, .inr (5, [.ref aa, .ref al, .ref ar])), (aa, .inr (2, [.ref ar1, .ref ar2, .ref ar3, .int 26])), (ar1, eI G 36 af), (ar2, eC G 36 ag), (ar3, eC G 36 ah), (al, .inr (9, [.ref alr, .int 0])), (ar, .inr (11, [.ref as1, .ref as2, .ref as3, .ref as4, .int 0])), (as1, eI G 8 ac1), (as2, eI G 8 ac2), (as3, eI G 8 ac3), (as4, eI G 8 ac4), (d, .inr (5, [.ref ba, .ref bl, .ref br])), (ba, .inr (2, [.ref br1, .ref br2, .ref br3, .int 26])), (br1, eI G 36 bf), (br2, eC G 36 bg), (br3, eC G 36 bh), (bl, .inr (9, [.ref blr, .int 0])), (br, .inr (11, [.ref bs1, .ref bs2, .ref bs3, .ref bs4, .int 0])), (bs1, eI G 8 bc1), (bs2, eI G 8 bc2), (bs3, eI G 8 bc3), (bs4, eI G 8 bc4)] sz)) (va_Qv (fun (_ : Unit) => True) (fun (_ : Unit) (t : State) => n_po G (va_A [(h0, .inr (7, [.ref rg, .int 0, .int 0])), (rg, eR G 9 fr), (d0, .inr (5, [.ref aa, .ref al, .ref ar])), (aa, .inr (2, [.ref ar1, .ref ar2, .ref ar3, .int 26])), (ar1, eI G 36 af), (ar2, eC G 36 ag), (ar3, eC G 36 ah), (al, .inr (9, [.ref alr, .int 0])), (ar, .inr (11, [.ref as1, .ref as2, .ref as3, .ref as4, .int 0])), (as1, eI G 8 ac1), (as2, eI G 8 ac2), (as3, eI G 8 ac3), (as4, eI G 8 ac4), (d, .inr (5, [.ref ba, .ref bl, .ref br])), (ba, .inr (2, [.ref br1, .ref br2, .ref br3, .int 26])), (br1, eI G 36 bf), (br2, eC G 36 bg), (br3, eC G 36 bh), (bl, .inr (9, [.ref blr, .int 0])), (br, .inr (11, [.ref bs1, .ref bs2, .ref bs3, .ref bs4, .int 0])), (bs1, eI G 8 bc1), (bs2, eI G 8 bc2), (bs3, eI G 8 bc3), (bs4, eI G 8 bc4)] sz) [(h0, .inr (7, [.ref rg, .int 0, .int 0])), (d, .inr (5, [.ref ba, .ref bl, .ref br])), (ba, .inr (2, [.ref br1, .ref br2, .ref br3, .int 26])), (br1, eI G 36 bf), (br2, eC G 36 bg), (br3, eC G 36 bh), (bl, .inr (9, [.ref blr, .int 0])), (br, .inr (11, [.ref bs1, .ref bs2, .ref bs3, .ref bs4, .int 0])), (bs1, eI G 8 bc1), (bs2, eI G 8 bc2), (bs3, eI G 8 bc3), (bs4, eI G 8 bc4)] t) (va_A [(h0, .inr (7, [.ref rg, .int 0, .int 0])), (rg, eR G 9 fr), (d0, .inr (5, [.ref aa, .ref al, .ref ar])), (aa, .inr (2, [.ref ar1, .ref ar2, .ref ar3, .int 26])), (ar1, eI G 36 af), (ar2, eC G 36 ag), (ar3, eC G 36 ah), (al, .inr (9, [.ref alr, .int 0])), (ar, .inr (11, [.ref as1, .ref as2, .ref as3, .ref as4, .int 0])), (as1, eI G 8 ac1), (as2, eI G 8 ac2), (as3, eI G 8 ac3), (as4, eI G 8 ac4), (d, .inr (5, [.ref ba, .ref bl, .ref br])), (ba, .inr (2, [.ref br1, .ref br2, .ref br3, .int 26])), (br1, eI G 36 bf), (br2, eC G 36 bg), (br3, eC G 36 bh), (bl, .inr (9, [.ref blr, .int 0])), (br, .inr (11, [.ref bs1, .ref bs2, .ref bs3, .ref bs4, .int 0])), (bs1, eI G 8 bc1), (bs2, eI G 8 bc2), (bs3, eI G 8 bc3), (bs4, eI G 8 bc4)] sz)) 0 0 (va_A [(h0, .inr (7, [.ref rg, .int 0, .int 0])), (rg, eR G 9 fr), (d0, .inr (5, [.ref aa, .ref al, .ref ar])), (aa, .inr (2, [.ref ar1, .ref ar2, .ref ar3, .int 26])), (ar1, eI G 36 af), (ar2, eC G 36 ag), (ar3, eC G 36 ah), (al, .inr (9, [.ref alr, .int 0])), (ar, .inr (11, [.ref as1, .ref as2, .ref as3, .ref as4, .int 0])), (as1, eI G 8 ac1), (as2, eI G 8 ac2), (as3, eI G 8 ac3), (as4, eI G 8 ac4), (d, .inr (5, [.ref ba, .ref bl, .ref br])), (ba, .inr (2, [.ref br1, .ref br2, .ref br3, .int 26])), (br1, eI G 36 bf), (br2, eC G 36 bg), (br3, eC G 36 bh), (bl, .inr (9, [.ref blr, .int 0])), (br, .inr (11, [.ref bs1, .ref bs2, .ref bs3, .ref bs4, .int 0])), (bs1, eI G 8 bc1), (bs2, eI G 8 bc2), (bs3, eI G 8 bc3), (bs4, eI G 8 bc4)] sz) := by
  refine Met.ofW (cc := cX6_prepare) (maxL := 2) (ret := none) (by decide) rfl ?_
  intro p e s m args below meth c s₁ B hml hv
  obtain ⟨rfl, hsz, hP, hK, hD0⟩ := hv
  have hx := B.exec
  have hb := B.bytes
  have hr := B.returns
  have hts := atoms_spec (ws := wsX6_prepare) B.pre
  have hown : s.vm.findClass RX6 = some m.cls := findClass_of_methodNamed B.named
  have hlocks := B.notSynchronized
  subst hsz
  have hD := hD0.self (sz := s.heap.size)
  generalize hAe : va_A [(h0, .inr (7, [.ref rg, .int 0, .int 0])), (rg, eR G 9 fr), (d0, .inr (5, [.ref aa, .ref al, .ref ar])), (aa, .inr (2, [.ref ar1, .ref ar2, .ref ar3, .int 26])), (ar1, eI G 36 af), (ar2, eC G 36 ag), (ar3, eC G 36 ah), (al, .inr (9, [.ref alr, .int 0])), (ar, .inr (11, [.ref as1, .ref as2, .ref as3, .ref as4, .int 0])), (as1, eI G 8 ac1), (as2, eI G 8 ac2), (as3, eI G 8 ac3), (as4, eI G 8 ac4), (d, .inr (5, [.ref ba, .ref bl, .ref br])), (ba, .inr (2, [.ref br1, .ref br2, .ref br3, .int 26])), (br1, eI G 36 bf), (br2, eC G 36 bg), (br3, eC G 36 bh), (bl, .inr (9, [.ref blr, .int 0])), (br, .inr (11, [.ref bs1, .ref bs2, .ref bs3, .ref bs4, .int 0])), (bs1, eI G 8 bc1), (bs2, eI G 8 bc2), (bs3, eI G 8 bc3), (bs4, eI G 8 bc4)] s.heap.size = A at hD ⊢
  have hA : ∀ q : Nat, s.heap.size ≤ q → A q := fun q h => by rw [← hAe]; exact Or.inr h
  have hS : va_S A s.heap s.heap [] := va_S.rf
  have hP : va_P G.1 vwCl [(h0, .inr (7, [.ref rg, .int 0, .int 0])), (rg, eR G 9 fr), (d0, .inr (5, [.ref aa, .ref al, .ref ar])), (aa, .inr (2, [.ref ar1, .ref ar2, .ref ar3, .int 26])), (ar1, eI G 36 af), (ar2, eC G 36 ag), (ar3, eC G 36 ah), (al, .inr (9, [.ref alr, .int 0])), (ar, .inr (11, [.ref as1, .ref as2, .ref as3, .ref as4, .int 0])), (as1, eI G 8 ac1), (as2, eI G 8 ac2), (as3, eI G 8 ac3), (as4, eI G 8 ac4), (d, .inr (5, [.ref ba, .ref bl, .ref br])), (ba, .inr (2, [.ref br1, .ref br2, .ref br3, .int 26])), (br1, eI G 36 bf), (br2, eC G 36 bg), (br3, eC G 36 bh), (bl, .inr (9, [.ref blr, .int 0])), (br, .inr (11, [.ref bs1, .ref bs2, .ref bs3, .ref bs4, .int 0])), (bs1, eI G 8 bc1), (bs2, eI G 8 bc2), (bs3, eI G 8 bc3), (bs4, eI G 8 bc4)] s.heap := hP
  have hl := lv_entry ([.ref h0, .ref d]) (n := 2) (Nat.le_of_ble_eq_true rfl)
  rw [lg_entry_eq]
  generalize (lg_sl ([.ref h0, .ref d]) ++ List.replicate (2 - (lg_sl ([.ref h0, .ref d])).length) Slot.unset).toArray = ls at hl ⊢
  have hl : lv_has ls 2 [(0, .ref h0), (1, .ref d)] := hl
  obtain ⟨H, hH⟩ : ∃ z, z = s.heap := ⟨_, rfl⟩
  have hS : va_S A s.heap H [] := by rw [hH]; exact hS
  have hP : va_P G.1 vwCl [(h0, .inr (7, [.ref rg, .int 0, .int 0])), (rg, eR G 9 fr), (d0, .inr (5, [.ref aa, .ref al, .ref ar])), (aa, .inr (2, [.ref ar1, .ref ar2, .ref ar3, .int 26])), (ar1, eI G 36 af), (ar2, eC G 36 ag), (ar3, eC G 36 ah), (al, .inr (9, [.ref alr, .int 0])), (ar, .inr (11, [.ref as1, .ref as2, .ref as3, .ref as4, .int 0])), (as1, eI G 8 ac1), (as2, eI G 8 ac2), (as3, eI G 8 ac3), (as4, eI G 8 ac4), (d, .inr (5, [.ref ba, .ref bl, .ref br])), (ba, .inr (2, [.ref br1, .ref br2, .ref br3, .int 26])), (br1, eI G 36 bf), (br2, eC G 36 bg), (br3, eC G 36 bh), (bl, .inr (9, [.ref blr, .int 0])), (br, .inr (11, [.ref bs1, .ref bs2, .ref bs3, .ref bs4, .int 0])), (bs1, eI G 8 bc1), (bs2, eI G 8 bc2), (bs3, eI G 8 bc3), (bs4, eI G 8 bc4)] H := by rw [hH]; exact hP
  refine n_heap hH ?_
  generalize ([] : List Loc) = locs at hS ⊢
  have hiX6 : ∀ w ∈ u_ws RX6 TX6 3, w ∈ wsX6_prepare := by decide +kernel
  refine lv_aload_n hx hb dX6_prepare_0 rfl (lv_at hl 0 rfl) ?_
  refine va_get (D := G.1) (ci := 7) (v := .ref rg) (C := RX6) (T := TX6) (N := 3) hx hb hts hiX6 hown hK hP 0 rfl rfl 0 (by decide) (hts (.fieldLink RX6 13 "DialectDictionary$History" "ring" "[LDialectDictionary$Desk;") (by decide +kernel)) (fun _ h9 => h9) rfl dX6_prepare_1 ?_
  refine lv_aload_n hx hb dX6_prepare_4 rfl (lv_at hl 0 rfl) ?_
  refine va_get (D := G.1) (ci := 7) (v := .int 0) (C := RX6) (T := TX6) (N := 3) hx hb hts hiX6 hown hK hP 0 rfl rfl 1 (by decide) (hts (.fieldLink RX6 17 "DialectDictionary$History" "next" "I") (by decide +kernel)) (fun _ h9 => h9) rfl dX6_prepare_5 ?_
  refine va_aldq hx hb hK hP 1 4 rfl rfl (n_in (by decide)) dX6_prepare_8 ?_
  refine n_eqq (y := .ref d0) (n_el hring) ?_
  refine lv_aload_n hx hb dX6_prepare_9 rfl (lv_at hl 1 rfl) ?_
  refine n_cv (wr := [(h0, .inr (7, [.ref rg, .int 0, .int 0])), (rg, eR G 9 fr)]) (va_runV (As := [.ref d]) (rest := []) ⟨hx, hb, hml, hown, hts⟩ (mX3_copyFrom l G d0 aa ar1 ar2 ar3 af ag ah al alr ar as1 as2 as3 as4 ac1 ac2 ac3 ac4 d ba br1 br2 br3 bf bg bh bl blr br bs1 bs2 bs3 bs4 bc1 bc2 bc3 bc4 H.size hbg hbh) (cwV 1 hts gX6_prepare_X3_copyFrom rfl rfl rfl (by decide +kernel) ⟨(Nat.le_of_ble_eq_true rfl), (Nat.le_of_ble_eq_true rfl)⟩) (n_prV (ci := 5) (q0 := 2) hK hP hD [2, 3, 4, 5, 6, 7, 8, 9, 10, 11, 12, 13, 14, 15, 16, 17, 18, 19, 20, 21, 22, 23] rfl (by decide) rfl rfl) rfl rfl hl.1 rfl (lv_room (Nat.le_of_ble_eq_true rfl)) dX6_prepare_10 ⟨(Nat.le_of_ble_eq_true rfl), (Nat.le_of_ble_eq_true rfl)⟩) hP hD hS hA [2, 3, 4, 5, 6, 7, 8, 9, 10, 11, 12, 13, 14, 15, 16, 17, 18, 19, 20, 21, 22, 23] [0, 1] rfl rfl (by decide) (by decide) (fun u_1 H locs hP hD hS hw => ?_)
  have hP : va_P G.1 vwCl [(h0, .inr (7, [.ref rg, .int 0, .int 0])), (rg, eR G 9 fr), (d, .inr (5, [.ref ba, .ref bl, .ref br])), (ba, .inr (2, [.ref br1, .ref br2, .ref br3, .int 26])), (br1, eI G 36 bf), (br2, eC G 36 bg), (br3, eC G 36 bh), (bl, .inr (9, [.ref blr, .int 0])), (br, .inr (11, [.ref bs1, .ref bs2, .ref bs3, .ref bs4, .int 0])), (bs1, eI G 8 bc1), (bs2, eI G 8 bc2), (bs3, eI G 8 bc3), (bs4, eI G 8 bc4)] H := hP
  have hD : va_D A [(h0, .inr (7, [.ref rg, .int 0, .int 0])), (rg, eR G 9 fr), (d, .inr (5, [.ref ba, .ref bl, .ref br])), (ba, .inr (2, [.ref br1, .ref br2, .ref br3, .int 26])), (br1, eI G 36 bf), (br2, eC G 36 bg), (br3, eC G 36 bh), (bl, .inr (9, [.ref blr, .int 0])), (br, .inr (11, [.ref bs1, .ref bs2, .ref bs3, .ref bs4, .int 0])), (bs1, eI G 8 bc1), (bs2, eI G 8 bc2), (bs3, eI G 8 bc3), (bs4, eI G 8 bc4)] := hD
  have hP9 := n_Psub (wc := [(h0, .inr (7, [.ref rg, .int 0, .int 0])), (d, .inr (5, [.ref ba, .ref bl, .ref br])), (ba, .inr (2, [.ref br1, .ref br2, .ref br3, .int 26])), (br1, eI G 36 bf), (br2, eC G 36 bg), (br3, eC G 36 bh), (bl, .inr (9, [.ref blr, .int 0])), (br, .inr (11, [.ref bs1, .ref bs2, .ref bs3, .ref bs4, .int 0])), (bs1, eI G 8 bc1), (bs2, eI G 8 bc2), (bs3, eI G 8 bc3), (bs4, eI G 8 bc4)]) hP [0, 2, 3, 4, 5, 6, 7, 8, 9, 10, 11, 12] rfl
  have hD9 := hD.sub (ws' := [(h0, .inr (7, [.ref rg, .int 0, .int 0])), (d, .inr (5, [.ref ba, .ref bl, .ref br])), (ba, .inr (2, [.ref br1, .ref br2, .ref br3, .int 26])), (br1, eI G 36 bf), (br2, eC G 36 bg), (br3, eC G 36 bh), (bl, .inr (9, [.ref blr, .int 0])), (br, .inr (11, [.ref bs1, .ref bs2, .ref bs3, .ref bs4, .int 0])), (bs1, eI G 8 bc1), (bs2, eI G 8 bc2), (bs3, eI G 8 bc3), (bs4, eI G 8 bc4)]) [0, 2, 3, 4, 5, 6, 7, 8, 9, 10, 11, 12] (by decide) rfl
  refine W.widen (k := 0) (n := 0) (Nat.le_of_ble_eq_true rfl) (Nat.le_of_ble_eq_true rfl) ?_
  exact W.vret hx hb hr (fun t ht hW => ⟨⟨(), rfl, trivial, by rw [ht]; exact hP9, va_K.moved hW.alike hK, hD9⟩, hS.F ht⟩) hS.2.2 dX6_prepare_13

set_option maxHeartbeats 4000000 in
set_option maxRecDepth 100000 in
theorem mX6_keep (l : Launch) (G : nG) (h0 : Nat) (rg : Nat) (sz : Nat) : Met l yX6_keep wsX6_keep ({ frames := 1, cells := 0, slots := 0, locals := 20 }) (va_Pc [.ref h0] (n_pp G [(h0, .inr (7, [.ref rg, .int 0, .int 0]))] sz)) (va_Qv (fun (_ : Unit) => True) (fun (_ : Unit) (t : State) => n_po G (va_A [(h0, .inr (7, [.ref rg, .int 0, .int 0]))] sz) [(h0, .inr (7, [.ref rg, .int 1, .int 1]))] t) (va_A [(h0, .inr (7, [.ref rg, .int 0, .int 0]))] sz)) 0 0 (va_A [(h0, .inr (7, [.ref rg, .int 0, .int 0]))] sz) := by
  refine Met.ofW (cc := cX6_keep) (maxL := 1) (ret := none) (by decide) rfl ?_
  intro p e s m args below meth c s₁ B hml hv
  obtain ⟨rfl, hsz, hP, hK, hD0⟩ := hv
  have hx := B.exec
  have hb := B.bytes
  have hr := B.returns
  have hts := atoms_spec (ws := wsX6_keep) B.pre
  have hown : s.vm.findClass RX6 = some m.cls := findClass_of_methodNamed B.named
  have hlocks := B.notSynchronized
  subst hsz
  have hD := hD0.self (sz := s.heap.size)
  generalize hAe : va_A [(h0, .inr (7, [.ref rg, .int 0, .int 0]))] s.heap.size = A at hD ⊢
  have hA : ∀ q : Nat, s.heap.size ≤ q → A q := fun q h => by rw [← hAe]; exact Or.inr h
  have hS : va_S A s.heap s.heap [] := va_S.rf
  have hP : va_P G.1 vwCl [(h0, .inr (7, [.ref rg, .int 0, .int 0]))] s.heap := hP
  have hl := lv_entry ([.ref h0]) (n := 1) (Nat.le_of_ble_eq_true rfl)
  rw [lg_entry_eq]
  generalize (lg_sl ([.ref h0]) ++ List.replicate (1 - (lg_sl ([.ref h0])).length) Slot.unset).toArray = ls at hl ⊢
  have hl : lv_has ls 1 [(0, .ref h0)] := hl
  obtain ⟨H, hH⟩ : ∃ z, z = s.heap := ⟨_, rfl⟩
  have hS : va_S A s.heap H [] := by rw [hH]; exact hS
  have hP : va_P G.1 vwCl [(h0, .inr (7, [.ref rg, .int 0, .int 0]))] H := by rw [hH]; exact hP
  refine n_heap hH ?_
  generalize ([] : List Loc) = locs at hS ⊢
  have hiX6 : ∀ w ∈ u_ws RX6 TX6 3, w ∈ wsX6_keep := by decide +kernel
  refine lv_aload_n hx hb dX6_keep_0 rfl (lv_at hl 0 rfl) ?_
  refine lv_aload_n hx hb dX6_keep_1 rfl (lv_at hl 0 rfl) ?_
  refine va_get (D := G.1) (ci := 7) (v := .int 0) (C := RX6) (T := TX6) (N := 3) hx hb hts hiX6 hown hK hP 0 rfl rfl 1 (by decide) (hts (.fieldLink RX6 17 "DialectDictionary$History" "next" "I") (by decide +kernel)) (fun _ h9 => h9) rfl dX6_keep_2 ?_
  refine lv_iconst (v := 1) hx hb dX6_keep_5 (by decide) ?_
  refine lv_iadd hx hb dX6_keep_6 ?_
  refine n_eqi (y := 1) (by decide) ?_
  refine lv_bipush (v := 9) hx hb dX6_keep_7 (by decide) ?_
  refine lv_irem hx hb dX6_keep_9 (by decide) ?_
  refine n_eqi (y := 1) (by decide) ?_
  refine va_put (D := G.1) (ci := 7) (v := .int 1) (ty := .int) (C := RX6) (T := TX6) (N := 3) hx hb hts hiX6 tyX6 tyX6_ok nmX6 hown hK hP hD hS 0 rfl rfl 1 (by decide) (hts (.fieldLink RX6 17 "DialectDictionary$History" "next" "I") (by decide +kernel)) (fun _ h9 => h9) rfl (by decide +kernel) rfl rfl (Nat.le_of_ble_eq_true rfl) dX6_keep_10 (fun H locs hP hD hS => ?_)
  have hP : va_P G.1 vwCl [(h0, .inr (7, [.ref rg, .int 1, .int 0]))] H := hP
  have hD : va_D A [(h0, .inr (7, [.ref rg, .int 1, .int 0]))] := hD
  refine lv_aload_n hx hb dX6_keep_13 rfl (lv_at hl 0 rfl) ?_
  refine lv_aload_n hx hb dX6_keep_14 rfl (lv_at hl 0 rfl) ?_
  refine va_get (D := G.1) (ci := 7) (v := .int 0) (C := RX6) (T := TX6) (N := 3) hx hb hts hiX6 hown hK hP 0 rfl rfl 2 (by decide) (hts (.fieldLink RX6 21 "DialectDictionary$History" "count" "I") (by decide +kernel)) (fun _ h9 => h9) rfl dX6_keep_15 ?_
  refine lv_iconst (v := 1) hx hb dX6_keep_18 (by decide) ?_
  refine lv_iadd hx hb dX6_keep_19 ?_
  refine n_eqi (y := 1) (by decide) ?_
  refine lv_bipush (v := 8) hx hb dX6_keep_20 (by decide) ?_
  refine va_mmin hx hb (hml.trans hl.1.symm) hown (hts (.methodLink RX6 29 Lib.Math.min.name) (by decide +kernel)) (hts (.static Lib.Math.min.name) (by decide +kernel)) (hts (.initialized "java/lang/Math") (by decide +kernel)) (hts (.code Lib.Math.min.name Lib.Math.min.code 2 (some .int)) (by decide +kernel)) (Nat.le_of_ble_eq_true rfl) (Nat.le_of_ble_eq_true rfl) (Nat.le_of_ble_eq_true rfl) (Nat.le_of_ble_eq_true rfl) dX6_keep_22 ?_
  refine n_eqi (y := 1) (by decide) ?_
  refine va_put (D := G.1) (ci := 7) (v := .int 1) (ty := .int) (C := RX6) (T := TX6) (N := 3) hx hb hts hiX6 tyX6 tyX6_ok nmX6 hown hK hP hD hS 0 rfl rfl 2 (by decide) (hts (.fieldLink RX6 21 "DialectDictionary$History" "count" "I") (by decide +kernel)) (fun _ h9 => h9) rfl (by decide +kernel) rfl rfl (Nat.le_of_ble_eq_true rfl) dX6_keep_25 (fun H locs hP hD hS => ?_)
  have hP : va_P G.1 vwCl [(h0, .inr (7, [.ref rg, .int 1, .int 1]))] H := hP
  have hD : va_D A [(h0, .inr (7, [.ref rg, .int 1, .int 1]))] := hD
  have hP9 := n_Psub (wc := [(h0, .inr (7, [.ref rg, .int 1, .int 1]))]) hP [0] rfl
  have hD9 := hD.sub (ws' := [(h0, .inr (7, [.ref rg, .int 1, .int 1]))]) [0] (by decide) rfl
  refine W.widen (k := 0) (n := 0) (Nat.le_of_ble_eq_true rfl) (Nat.le_of_ble_eq_true rfl) ?_
  exact W.vret hx hb hr (fun t ht hW => ⟨⟨(), rfl, trivial, by rw [ht]; exact hP9, va_K.moved hW.alike hK, hD9⟩, hS.F ht⟩) hS.2.2 dX6_keep_28

set_option maxHeartbeats 4000000 in
set_option maxRecDepth 100000 in
theorem mX7_count (l : Launch) (G : nG) (h0 : Nat) (sg : Nat) (n : Int32) (fm : Int64) (le : Int32) (sz : Nat) : Met l yX7_count wsX7_count ({ frames := 0, cells := 0, slots := 0, locals := 0 }) (va_Pc [.ref h0] (n_pp G [(h0, .inr (8, [.ref sg, .int n, .long fm, .int le]))] sz)) (va_Qi (fun (r : Int32) (_ : Unit) => r = n) (fun (_ : Unit) (t : State) => n_po G (va_A [(h0, .inr (8, [.ref sg, .int n, .long fm, .int le]))] sz) [(h0, .inr (8, [.ref sg, .int n, .long fm, .int le]))] t) (va_A [(h0, .inr (8, [.ref sg, .int n, .long fm, .int le]))] sz)) 0 0 (va_A [(h0, .inr (8, [.ref sg, .int n, .long fm, .int le]))] sz) := by
  refine Met.ofW (cc := cX7_count) (maxL := 1) (ret := (some .int)) (by decide) rfl ?_
  intro p e s m args below meth c s₁ B hml hv
  obtain ⟨rfl, hsz, hP, hK, hD0⟩ := hv
  have hx := B.exec
  have hb := B.bytes
  have hr := B.returns
  have hts := atoms_spec (ws := wsX7_count) B.pre
  have hown : s.vm.findClass RX7 = some m.cls := findClass_of_methodNamed B.named
  have hlocks := B.notSynchronized
  subst hsz
  have hD := hD0.self (sz := s.heap.size)
  generalize hAe : va_A [(h0, .inr (8, [.ref sg, .int n, .long fm, .int le]))] s.heap.size = A at hD ⊢
  have hA : ∀ q : Nat, s.heap.size ≤ q → A q := fun q h => by rw [← hAe]; exact Or.inr h
  have hS : va_S A s.heap s.heap [] := va_S.rf
  have hP : va_P G.1 vwCl [(h0, .inr (8, [.ref sg, .int n, .long fm, .int le]))] s.heap := hP
  have hl := lv_entry ([.ref h0]) (n := 1) (Nat.le_of_ble_eq_true rfl)
  rw [lg_entry_eq]
  generalize (lg_sl ([.ref h0]) ++ List.replicate (1 - (lg_sl ([.ref h0])).length) Slot.unset).toArray = ls at hl ⊢
  have hl : lv_has ls 1 [(0, .ref h0)] := hl
  obtain ⟨H, hH⟩ : ∃ z, z = s.heap := ⟨_, rfl⟩
  have hS : va_S A s.heap H [] := by rw [hH]; exact hS
  have hP : va_P G.1 vwCl [(h0, .inr (8, [.ref sg, .int n, .long fm, .int le]))] H := by rw [hH]; exact hP
  refine n_heap hH ?_
  generalize ([] : List Loc) = locs at hS ⊢
  have hiX7 : ∀ w ∈ u_ws RX7 TX7 4, w ∈ wsX7_count := by decide +kernel
  refine lv_aload_n hx hb dX7_count_0 rfl (lv_at hl 0 rfl) ?_
  refine va_get (D := G.1) (ci := 8) (v := .int n) (C := RX7) (T := TX7) (N := 4) hx hb hts hiX7 hown hK hP 0 rfl rfl 1 (by decide) (hts (.fieldLink RX7 15 "DialectDictionary$Input" "count" "I") (by decide +kernel)) (fun _ h9 => h9) rfl dX7_count_1 ?_
  have hP9 := n_Psub (wc := [(h0, .inr (8, [.ref sg, .int n, .long fm, .int le]))]) hP [0] rfl
  have hD9 := hD.sub (ws' := [(h0, .inr (8, [.ref sg, .int n, .long fm, .int le]))]) [0] (by decide) rfl
  refine W.widen (k := 0) (n := 0) (Nat.le_of_ble_eq_true rfl) (Nat.le_of_ble_eq_true rfl) ?_
  exact W.iret (v := n) hx hb hr (fun t ht hW => ⟨⟨n, (), rfl, rfl, by rw [ht]; exact hP9, va_K.moved hW.alike hK, hD9⟩, hS.F ht⟩) hS.2.2 dX7_count_4

set_option maxHeartbeats 4000000 in
set_option maxRecDepth 100000 in
theorem mX7_isFull (l : Launch) (G : nG) (h0 : Nat) (sg : Nat) (fm : Int64) (le : Int32) (sz : Nat) : Met l yX7_isFull wsX7_isFull ({ frames := 0, cells := 0, slots := 0, locals := 0 }) (va_Pc [.ref h0] (n_pp G [(h0, .inr (8, [.ref sg, .int 0, .long fm, .int le]))] sz)) (va_Qi (fun (r : Int32) (_ : Unit) => r = 0) (fun (_ : Unit) (t : State) => n_po G (va_A [(h0, .inr (8, [.ref sg, .int 0, .long fm, .int le]))] sz) [(h0, .inr (8, [.ref sg, .int 0, .long fm, .int le]))] t) (va_A [(h0, .inr (8, [.ref sg, .int 0, .long fm, .int le]))] sz)) 0 0 (va_A [(h0, .inr (8, [.ref sg, .int 0, .long fm, .int le]))] sz) := by
  refine Met.ofW (cc := cX7_isFull) (maxL := 1) (ret := (some .boolean)) (by decide) rfl ?_
  intro p e s m args below meth c s₁ B hml hv
  obtain ⟨rfl, hsz, hP, hK, hD0⟩ := hv
  have hx := B.exec
  have hb := B.bytes
  have hr := B.returns
  have hts := atoms_spec (ws := wsX7_isFull) B.pre
  have hown : s.vm.findClass RX7 = some m.cls := findClass_of_methodNamed B.named
  have hlocks := B.notSynchronized
  subst hsz
  have hD := hD0.self (sz := s.heap.size)
  generalize hAe : va_A [(h0, .inr (8, [.ref sg, .int 0, .long fm, .int le]))] s.heap.size = A at hD ⊢
  have hA : ∀ q : Nat, s.heap.size ≤ q → A q := fun q h => by rw [← hAe]; exact Or.inr h
  have hS : va_S A s.heap s.heap [] := va_S.rf
  have hP : va_P G.1 vwCl [(h0, .inr (8, [.ref sg, .int 0, .long fm, .int le]))] s.heap := hP
  have hl := lv_entry ([.ref h0]) (n := 1) (Nat.le_of_ble_eq_true rfl)
  rw [lg_entry_eq]
  generalize (lg_sl ([.ref h0]) ++ List.replicate (1 - (lg_sl ([.ref h0])).length) Slot.unset).toArray = ls at hl ⊢
  have hl : lv_has ls 1 [(0, .ref h0)] := hl
  obtain ⟨H, hH⟩ : ∃ z, z = s.heap := ⟨_, rfl⟩
  have hS : va_S A s.heap H [] := by rw [hH]; exact hS
  have hP : va_P G.1 vwCl [(h0, .inr (8, [.ref sg, .int 0, .long fm, .int le]))] H := by rw [hH]; exact hP
  refine n_heap hH ?_
  generalize ([] : List Loc) = locs at hS ⊢
  have hiX7 : ∀ w ∈ u_ws RX7 TX7 4, w ∈ wsX7_isFull := by decide +kernel
  refine lv_aload_n hx hb dX7_isFull_0 rfl (lv_at hl 0 rfl) ?_
  refine va_get (D := G.1) (ci := 8) (v := .int 0) (C := RX7) (T := TX7) (N := 4) hx hb hts hiX7 hown hK hP 0 rfl rfl 1 (by decide) (hts (.fieldLink RX7 15 "DialectDictionary$Input" "count" "I") (by decide +kernel)) (fun _ h9 => h9) rfl dX7_isFull_1 ?_
  refine lv_bipush (v := 60) hx hb dX7_isFull_4 (by decide) ?_
  refine lv_icmp_lt (tgt := 13) hx hb dX7_isFull_6 (by decide) (fun _ => ?_) (fun h9 => absurd (by decide) h9)
  refine lv_iconst (v := 0) hx hb dX7_isFull_13 (by decide) ?_
  have hP9 := n_Psub (wc := [(h0, .inr (8, [.ref sg, .int 0, .long fm, .int le]))]) hP [0] rfl
  have hD9 := hD.sub (ws' := [(h0, .inr (8, [.ref sg, .int 0, .long fm, .int le]))]) [0] (by decide) rfl
  refine W.widen (k := 0) (n := 0) (Nat.le_of_ble_eq_true rfl) (Nat.le_of_ble_eq_true rfl) ?_
  exact W.zret (v := 0) (ty := .boolean) hx hb hr rfl (fun t ht hW => ⟨⟨0, (), rfl, rfl, by rw [ht]; exact hP9, va_K.moved hW.alike hK, hD9⟩, hS.F ht⟩) hS.2.2 dX7_isFull_14

set_option maxHeartbeats 4000000 in
set_option maxRecDepth 100000 in
theorem mX7_put (l : Launch) (G : nG) (h0 : Nat) (sg : Nat) (fm : Int64) (le : Int32) (f : Nat → Int32) (q : Int32) (sz : Nat) : Met l yX7_put wsX7_put ({ frames := 1, cells := 0, slots := 0, locals := 20 }) (va_Pc [.ref h0, .int q] (n_pp G [(h0, .inr (8, [.ref sg, .int 0, .long fm, .int le])), (sg, eC G 60 f)] sz)) (va_Qv (fun (_ : Unit) => True) (fun (_ : Unit) (t : State) => n_po G (va_A [(h0, .inr (8, [.ref sg, .int 0, .long fm, .int le])), (sg, eC G 60 f)] sz) [(h0, .inr (8, [.ref sg, .int 1, .long fm, .int le]))] t) (va_A [(h0, .inr (8, [.ref sg, .int 0, .long fm, .int le])), (sg, eC G 60 f)] sz)) 0 0 (va_A [(h0, .inr (8, [.ref sg, .int 0, .long fm, .int le])), (sg, eC G 60 f)] sz) := by
  refine Met.ofW (cc := cX7_put) (maxL := 2) (ret := none) (by decide) rfl ?_
  intro p e s m args below meth c s₁ B hml hv
  obtain ⟨rfl, hsz, hP, hK, hD0⟩ := hv
  have hx := B.exec
  have hb := B.bytes
  have hr := B.returns
  have hts := atoms_spec (ws := wsX7_put) B.pre
  have hown : s.vm.findClass RX7 = some m.cls := findClass_of_methodNamed B.named
  have hlocks := B.notSynchronized
  subst hsz
  have hD := hD0.self (sz := s.heap.size)
  generalize hAe : va_A [(h0, .inr (8, [.ref sg, .int 0, .long fm, .int le])), (sg, eC G 60 f)] s.heap.size = A at hD ⊢
  have hA : ∀ q : Nat, s.heap.size ≤ q → A q := fun q h => by rw [← hAe]; exact Or.inr h
  have hS : va_S A s.heap s.heap [] := va_S.rf
  have hP : va_P G.1 vwCl [(h0, .inr (8, [.ref sg, .int 0, .long fm, .int le])), (sg, eC G 60 f)] s.heap := hP
  have hl := lv_entry ([.ref h0, .int q]) (n := 2) (Nat.le_of_ble_eq_true rfl)
  rw [lg_entry_eq]
  generalize (lg_sl ([.ref h0, .int q]) ++ List.replicate (2 - (lg_sl ([.ref h0, .int q])).length) Slot.unset).toArray = ls at hl ⊢
  have hl : lv_has ls 2 [(0, .ref h0), (1, .int q)] := hl
  obtain ⟨H, hH⟩ : ∃ z, z = s.heap := ⟨_, rfl⟩
  have hS : va_S A s.heap H [] := by rw [hH]; exact hS
  have hP : va_P G.1 vwCl [(h0, .inr (8, [.ref sg, .int 0, .long fm, .int le])), (sg, eC G 60 f)] H := by rw [hH]; exact hP
  refine n_heap hH ?_
  generalize ([] : List Loc) = locs at hS ⊢
  have hiX7 : ∀ w ∈ u_ws RX7 TX7 4, w ∈ wsX7_put := by decide +kernel
  refine lv_aload_n hx hb dX7_put_0 rfl (lv_at hl 0 rfl) ?_
  refine n_ci (wr := [(sg, eC G 60 f)]) (va_runV (As := []) (rest := []) ⟨hx, hb, hml, hown, hts⟩ (mX7_isFull l G h0 sg fm le H.size) (cwV 0 hts gX7_put_X7_isFull rfl rfl rfl (by decide +kernel) ⟨(Nat.le_of_ble_eq_true rfl), (Nat.le_of_ble_eq_true rfl)⟩) (n_prV (ci := 8) (q0 := 0) hK hP hD [0] rfl (by decide) rfl rfl) rfl rfl hl.1 rfl (lv_room (Nat.le_of_ble_eq_true rfl)) dX7_put_1 ⟨(Nat.le_of_ble_eq_true rfl), (Nat.le_of_ble_eq_true rfl)⟩) hP hD hS hA [0] [1] rfl rfl (by decide) (by decide) (fun r_1 u_2 H locs hP hD hS hw => ?_)
  have hP : va_P G.1 vwCl [(sg, eC G 60 f), (h0, .inr (8, [.ref sg, .int 0, .long fm, .int le]))] H := hP
  have hD : va_D A [(sg, eC G 60 f), (h0, .inr (8, [.ref sg, .int 0, .long fm, .int le]))] := hD
  have hw : r_1 = 0 := hw
  subst hw
  refine lv_if_ne (tgt := 27) hx hb dX7_put_4 (by decide) (fun h9 => absurd (by decide) h9) (fun _ => ?_)
  refine lv_aload_n hx hb dX7_put_7 rfl (lv_at hl 0 rfl) ?_
  refine va_get (D := G.1) (ci := 8) (v := .ref sg) (C := RX7) (T := TX7) (N := 4) hx hb hts hiX7 hown hK hP 1 rfl rfl 0 (by decide) (hts (.fieldLink RX7 9 "DialectDictionary$Input" "signs" "[C") (by decide +kernel)) (fun _ h9 => h9) rfl dX7_put_8 ?_
  refine lv_aload_n hx hb dX7_put_11 rfl (lv_at hl 0 rfl) ?_
  refine va_get (D := G.1) (ci := 8) (v := .int 0) (C := RX7) (T := TX7) (N := 4) hx hb hts hiX7 hown hK hP 1 rfl rfl 1 (by decide) (hts (.fieldLink RX7 15 "DialectDictionary$Input" "count" "I") (by decide +kernel)) (fun _ h9 => h9) rfl dX7_put_12 ?_
  refine lv_iload_n hx hb dX7_put_15 rfl (lv_at hl 1 rfl) ?_
  refine va_cast hx hb hK hP hD hS 0 1 rfl rfl (n_in (by decide)) dX7_put_16 (fun H locs hP hD hS => ?_)
  have hP : va_P G.1 vwCl [(sg, eC G 60 (upd f ((0 : Int32).toNatClampNeg) (vp_nar .char q))), (h0, .inr (8, [.ref sg, .int 0, .long fm, .int le]))] H := hP
  have hD : va_D A [(sg, eC G 60 (upd f ((0 : Int32).toNatClampNeg) (vp_nar .char q))), (h0, .inr (8, [.ref sg, .int 0, .long fm, .int le]))] := hD
  refine lv_aload_n hx hb dX7_put_17 rfl (lv_at hl 0 rfl) ?_
  refine lv_dup hx hb dX7_put_18 rfl ?_
  refine va_get (D := G.1) (ci := 8) (v := .int 0) (C := RX7) (T := TX7) (N := 4) hx hb hts hiX7 hown hK hP 1 rfl rfl 1 (by decide) (hts (.fieldLink RX7 15 "DialectDictionary$Input" "count" "I") (by decide +kernel)) (fun _ h9 => h9) rfl dX7_put_19 ?_
  refine lv_iconst (v := 1) hx hb dX7_put_22 (by decide) ?_
  refine lv_iadd hx hb dX7_put_23 ?_
  refine n_eqi (y := 1) (by decide) ?_
  refine va_put (D := G.1) (ci := 8) (v := .int 1) (ty := .int) (C := RX7) (T := TX7) (N := 4) hx hb hts hiX7 tyX7 tyX7_ok nmX7 hown hK hP hD hS 1 rfl rfl 1 (by decide) (hts (.fieldLink RX7 15 "DialectDictionary$Input" "count" "I") (by decide +kernel)) (fun _ h9 => h9) rfl (by decide +kernel) rfl rfl (Nat.le_of_ble_eq_true rfl) dX7_put_24 (fun H locs hP hD hS => ?_)
  have hP : va_P G.1 vwCl [(sg, eC G 60 (upd f ((0 : Int32).toNatClampNeg) (vp_nar .char q))), (h0, .inr (8, [.ref sg, .int 1, .long fm, .int le]))] H := hP
  have hD : va_D A [(sg, eC G 60 (upd f ((0 : Int32).toNatClampNeg) (vp_nar .char q))), (h0, .inr (8, [.ref sg, .int 1, .long fm, .int le]))] := hD
  have hP9 := n_Psub (wc := [(h0, .inr (8, [.ref sg, .int 1, .long fm, .int le]))]) hP [1] rfl
  have hD9 := hD.sub (ws' := [(h0, .inr (8, [.ref sg, .int 1, .long fm, .int le]))]) [1] (by decide) rfl
  refine W.widen (k := 0) (n := 0) (Nat.le_of_ble_eq_true rfl) (Nat.le_of_ble_eq_true rfl) ?_
  exact W.vret hx hb hr (fun t ht hW => ⟨⟨(), rfl, trivial, by rw [ht]; exact hP9, va_K.moved hW.alike hK, hD9⟩, hS.F ht⟩) hS.2.2 dX7_put_27

set_option maxHeartbeats 4000000 in
set_option maxRecDepth 100000 in
theorem mX7_clear (l : Launch) (G : nG) (h0 : Nat) (sg : Nat) (n : Int32) (fm : Int64) (le : Int32) (sz : Nat) : Met l yX7_clear wsX7_clear ({ frames := 0, cells := 0, slots := 0, locals := 0 }) (va_Pc [.ref h0] (n_pp G [(h0, .inr (8, [.ref sg, .int n, .long fm, .int le]))] sz)) (va_Qv (fun (_ : Unit) => True) (fun (_ : Unit) (t : State) => n_po G (va_A [(h0, .inr (8, [.ref sg, .int n, .long fm, .int le]))] sz) [(h0, .inr (8, [.ref sg, .int 0, .long fm, .int le]))] t) (va_A [(h0, .inr (8, [.ref sg, .int n, .long fm, .int le]))] sz)) 0 0 (va_A [(h0, .inr (8, [.ref sg, .int n, .long fm, .int le]))] sz) := by
  refine Met.ofW (cc := cX7_clear) (maxL := 1) (ret := none) (by decide) rfl ?_
  intro p e s m args below meth c s₁ B hml hv
  obtain ⟨rfl, hsz, hP, hK, hD0⟩ := hv
  have hx := B.exec
  have hb := B.bytes
  have hr := B.returns
  have hts := atoms_spec (ws := wsX7_clear) B.pre
  have hown : s.vm.findClass RX7 = some m.cls := findClass_of_methodNamed B.named
  have hlocks := B.notSynchronized
  subst hsz
  have hD := hD0.self (sz := s.heap.size)
  generalize hAe : va_A [(h0, .inr (8, [.ref sg, .int n, .long fm, .int le]))] s.heap.size = A at hD ⊢
  have hA : ∀ q : Nat, s.heap.size ≤ q → A q := fun q h => by rw [← hAe]; exact Or.inr h
  have hS : va_S A s.heap s.heap [] := va_S.rf
  have hP : va_P G.1 vwCl [(h0, .inr (8, [.ref sg, .int n, .long fm, .int le]))] s.heap := hP
  have hl := lv_entry ([.ref h0]) (n := 1) (Nat.le_of_ble_eq_true rfl)
  rw [lg_entry_eq]
  generalize (lg_sl ([.ref h0]) ++ List.replicate (1 - (lg_sl ([.ref h0])).length) Slot.unset).toArray = ls at hl ⊢
  have hl : lv_has ls 1 [(0, .ref h0)] := hl
  obtain ⟨H, hH⟩ : ∃ z, z = s.heap := ⟨_, rfl⟩
  have hS : va_S A s.heap H [] := by rw [hH]; exact hS
  have hP : va_P G.1 vwCl [(h0, .inr (8, [.ref sg, .int n, .long fm, .int le]))] H := by rw [hH]; exact hP
  refine n_heap hH ?_
  generalize ([] : List Loc) = locs at hS ⊢
  have hiX7 : ∀ w ∈ u_ws RX7 TX7 4, w ∈ wsX7_clear := by decide +kernel
  refine lv_aload_n hx hb dX7_clear_0 rfl (lv_at hl 0 rfl) ?_
  refine lv_iconst (v := 0) hx hb dX7_clear_1 (by decide) ?_
  refine va_put (D := G.1) (ci := 8) (v := .int 0) (ty := .int) (C := RX7) (T := TX7) (N := 4) hx hb hts hiX7 tyX7 tyX7_ok nmX7 hown hK hP hD hS 0 rfl rfl 1 (by decide) (hts (.fieldLink RX7 15 "DialectDictionary$Input" "count" "I") (by decide +kernel)) (fun _ h9 => h9) rfl (by decide +kernel) rfl rfl (Nat.le_of_ble_eq_true rfl) dX7_clear_2 (fun H locs hP hD hS => ?_)
  have hP : va_P G.1 vwCl [(h0, .inr (8, [.ref sg, .int 0, .long fm, .int le]))] H := hP
  have hD : va_D A [(h0, .inr (8, [.ref sg, .int 0, .long fm, .int le]))] := hD
  have hP9 := n_Psub (wc := [(h0, .inr (8, [.ref sg, .int 0, .long fm, .int le]))]) hP [0] rfl
  have hD9 := hD.sub (ws' := [(h0, .inr (8, [.ref sg, .int 0, .long fm, .int le]))]) [0] (by decide) rfl
  refine W.widen (k := 0) (n := 0) (Nat.le_of_ble_eq_true rfl) (Nat.le_of_ble_eq_true rfl) ?_
  exact W.vret hx hb hr (fun t ht hW => ⟨⟨(), rfl, trivial, by rw [ht]; exact hP9, va_K.moved hW.alike hK, hD9⟩, hS.F ht⟩) hS.2.2 dX7_clear_5

set_option maxHeartbeats 4000000 in
set_option maxRecDepth 100000 in
theorem mX7_signAt (l : Launch) (G : nG) (h0 : Nat) (sg : Nat) (fm : Int64) (le : Int32) (sz : Nat) : Met l yX7_signAt wsX7_signAt ({ frames := 0, cells := 0, slots := 0, locals := 0 }) (va_Pc [.ref h0, .int 0] (n_pp G [(h0, .inr (8, [.ref sg, .int 0, .long fm, .int le]))] sz)) (va_Qi (fun (r : Int32) (_ : Unit) => r = 32) (fun (_ : Unit) (t : State) => n_po G (va_A [(h0, .inr (8, [.ref sg, .int 0, .long fm, .int le]))] sz) [(h0, .inr (8, [.ref sg, .int 0, .long fm, .int le]))] t) (va_A [(h0, .inr (8, [.ref sg, .int 0, .long fm, .int le]))] sz)) 0 0 (va_A [(h0, .inr (8, [.ref sg, .int 0, .long fm, .int le]))] sz) := by
  refine Met.ofW (cc := cX7_signAt) (maxL := 2) (ret := (some .char)) (by decide) rfl ?_
  intro p e s m args below meth c s₁ B hml hv
  obtain ⟨rfl, hsz, hP, hK, hD0⟩ := hv
  have hx := B.exec
  have hb := B.bytes
  have hr := B.returns
  have hts := atoms_spec (ws := wsX7_signAt) B.pre
  have hown : s.vm.findClass RX7 = some m.cls := findClass_of_methodNamed B.named
  have hlocks := B.notSynchronized
  subst hsz
  have hD := hD0.self (sz := s.heap.size)
  generalize hAe : va_A [(h0, .inr (8, [.ref sg, .int 0, .long fm, .int le]))] s.heap.size = A at hD ⊢
  have hA : ∀ q : Nat, s.heap.size ≤ q → A q := fun q h => by rw [← hAe]; exact Or.inr h
  have hS : va_S A s.heap s.heap [] := va_S.rf
  have hP : va_P G.1 vwCl [(h0, .inr (8, [.ref sg, .int 0, .long fm, .int le]))] s.heap := hP
  have hl := lv_entry ([.ref h0, .int 0]) (n := 2) (Nat.le_of_ble_eq_true rfl)
  rw [lg_entry_eq]
  generalize (lg_sl ([.ref h0, .int 0]) ++ List.replicate (2 - (lg_sl ([.ref h0, .int 0])).length) Slot.unset).toArray = ls at hl ⊢
  have hl : lv_has ls 2 [(0, .ref h0), (1, .int 0)] := hl
  obtain ⟨H, hH⟩ : ∃ z, z = s.heap := ⟨_, rfl⟩
  have hS : va_S A s.heap H [] := by rw [hH]; exact hS
  have hP : va_P G.1 vwCl [(h0, .inr (8, [.ref sg, .int 0, .long fm, .int le]))] H := by rw [hH]; exact hP
  refine n_heap hH ?_
  generalize ([] : List Loc) = locs at hS ⊢
  have hiX7 : ∀ w ∈ u_ws RX7 TX7 4, w ∈ wsX7_signAt := by decide +kernel
  refine lv_iload_n hx hb dX7_signAt_0 rfl (lv_at hl 1 rfl) ?_
  refine lv_if_lt (tgt := 21) hx hb dX7_signAt_1 (by decide) (fun h9 => absurd h9 (by decide)) (fun _ => ?_)
  refine lv_iload_n hx hb dX7_signAt_4 rfl (lv_at hl 1 rfl) ?_
  refine lv_aload_n hx hb dX7_signAt_5 rfl (lv_at hl 0 rfl) ?_
  refine va_get (D := G.1) (ci := 8) (v := .int 0) (C := RX7) (T := TX7) (N := 4) hx hb hts hiX7 hown hK hP 0 rfl rfl 1 (by decide) (hts (.fieldLink RX7 15 "DialectDictionary$Input" "count" "I") (by decide +kernel)) (fun _ h9 => h9) rfl dX7_signAt_6 ?_
  refine lv_icmp_ge (tgt := 21) hx hb dX7_signAt_9 (by decide) (fun _ => ?_) (fun h9 => absurd (by decide) h9)
  refine lv_bipush (v := 32) hx hb dX7_signAt_21 (by decide) ?_
  have hP9 := n_Psub (wc := [(h0, .inr (8, [.ref sg, .int 0, .long fm, .int le]))]) hP [0] rfl
  have hD9 := hD.sub (ws' := [(h0, .inr (8, [.ref sg, .int 0, .long fm, .int le]))]) [0] (by decide) rfl
  refine W.widen (k := 0) (n := 0) (Nat.le_of_ble_eq_true rfl) (Nat.le_of_ble_eq_true rfl) ?_
  exact W.zret (v := 32) (ty := .char) hx hb hr rfl (fun t ht hW => ⟨⟨32, (), rfl, rfl, by rw [ht]; exact hP9, va_K.moved hW.alike hK, hD9⟩, hS.F ht⟩) hS.2.2 dX7_signAt_23

set_option maxHeartbeats 4000000 in
set_option maxRecDepth 100000 in
theorem mX7_arePlain (l : Launch) (G : nG) (h0 : Nat) (sg : Nat) (fm : Int64) (le : Int32) (sz : Nat) : Met l yX7_arePlain wsX7_arePlain ({ frames := 0, cells := 0, slots := 0, locals := 0 }) (va_Pc [.ref h0, .int 0, .int 0] (n_pp G [(h0, .inr (8, [.ref sg, .int 0, .long fm, .int le]))] sz)) (va_Qi (fun (r : Int32) (_ : Unit) => r = 1) (fun (_ : Unit) (t : State) => n_po G (va_A [(h0, .inr (8, [.ref sg, .int 0, .long fm, .int le]))] sz) [(h0, .inr (8, [.ref sg, .int 0, .long fm, .int le]))] t) (va_A [(h0, .inr (8, [.ref sg, .int 0, .long fm, .int le]))] sz)) 0 0 (va_A [(h0, .inr (8, [.ref sg, .int 0, .long fm, .int le]))] sz) := by
  refine Met.ofW (cc := cX7_arePlain) (maxL := 4) (ret := (some .boolean)) (by decide) rfl ?_
  intro p e s m args below meth c s₁ B hml hv
  obtain ⟨rfl, hsz, hP, hK, hD0⟩ := hv
  have hx := B.exec
  have hb := B.bytes
  have hr := B.returns
  have hts := atoms_spec (ws := wsX7_arePlain) B.pre
  have hown : s.vm.findClass RX7 = some m.cls := findClass_of_methodNamed B.named
  have hlocks := B.notSynchronized
  subst hsz
  have hD := hD0.self (sz := s.heap.size)
  generalize hAe : va_A [(h0, .inr (8, [.ref sg, .int 0, .long fm, .int le]))] s.heap.size = A at hD ⊢
  have hA : ∀ q : Nat, s.heap.size ≤ q → A q := fun q h => by rw [← hAe]; exact Or.inr h
  have hS : va_S A s.heap s.heap [] := va_S.rf
  have hP : va_P G.1 vwCl [(h0, .inr (8, [.ref sg, .int 0, .long fm, .int le]))] s.heap := hP
  have hl := lv_entry ([.ref h0, .int 0, .int 0]) (n := 4) (Nat.le_of_ble_eq_true rfl)
  rw [lg_entry_eq]
  generalize (lg_sl ([.ref h0, .int 0, .int 0]) ++ List.replicate (4 - (lg_sl ([.ref h0, .int 0, .int 0])).length) Slot.unset).toArray = ls at hl ⊢
  have hl : lv_has ls 4 [(0, .ref h0), (1, .int 0), (2, .int 0)] := hl
  obtain ⟨H, hH⟩ : ∃ z, z = s.heap := ⟨_, rfl⟩
  have hS : va_S A s.heap H [] := by rw [hH]; exact hS
  have hP : va_P G.1 vwCl [(h0, .inr (8, [.ref sg, .int 0, .long fm, .int le]))] H := by rw [hH]; exact hP
  refine n_heap hH ?_
  generalize ([] : List Loc) = locs at hS ⊢
  refine lv_iload_n hx hb dX7_arePlain_0 rfl (lv_at hl 1 rfl) ?_
  refine lv_istore_n (lv' := [(3, .int 0), (0, .ref h0), (1, .int 0), (2, .int 0)]) hx hb dX7_arePlain_1 rfl hl (by decide) rfl (fun ls hl => ?_)
  refine lv_iload_n hx hb dX7_arePlain_2 rfl (lv_at hl 0 rfl) ?_
  refine lv_iload_n hx hb dX7_arePlain_3 rfl (lv_at hl 3 rfl) ?_
  refine lv_icmp_ge (tgt := 26) hx hb dX7_arePlain_4 (by decide) (fun _ => ?_) (fun h9 => absurd (by decide) h9)
  refine lv_iconst (v := 1) hx hb dX7_arePlain_26 (by decide) ?_
  have hP9 := n_Psub (wc := [(h0, .inr (8, [.ref sg, .int 0, .long fm, .int le]))]) hP [0] rfl
  have hD9 := hD.sub (ws' := [(h0, .inr (8, [.ref sg, .int 0, .long fm, .int le]))]) [0] (by decide) rfl
  refine W.widen (k := 0) (n := 0) (Nat.le_of_ble_eq_true rfl) (Nat.le_of_ble_eq_true rfl) ?_
  exact W.zret (v := 1) (ty := .boolean) hx hb hr rfl (fun t ht hW => ⟨⟨1, (), rfl, rfl, by rw [ht]; exact hP9, va_K.moved hW.alike hK, hD9⟩, hS.F ht⟩) hS.2.2 dX7_arePlain_27

set_option maxHeartbeats 4000000 in
set_option maxRecDepth 100000 in
theorem mX7_divide (l : Launch) (G : nG) (h0 : Nat) (sg : Nat) (fm : Int64) (le : Int32) (al : Nat) (sz : Nat) : Met l yX7_divide wsX7_divide ({ frames := 1, cells := 0, slots := 0, locals := 23 }) (va_Pc [.ref h0, .int 0, .int 0, .ref al] (n_pp G [(h0, .inr (8, [.ref sg, .int 0, .long fm, .int le]))] sz)) (va_Qv (fun (_ : Unit) => True) (fun (_ : Unit) (t : State) => n_po G (va_A [(h0, .inr (8, [.ref sg, .int 0, .long fm, .int le]))] sz) [(h0, .inr (8, [.ref sg, .int 0, .long 0, .int 0]))] t) (va_A [(h0, .inr (8, [.ref sg, .int 0, .long fm, .int le]))] sz)) 0 0 (va_A [(h0, .inr (8, [.ref sg, .int 0, .long fm, .int le]))] sz) := by
  refine Met.ofW (cc := cX7_divide) (maxL := 6) (ret := none) (by decide) rfl ?_
  intro p e s m args below meth c s₁ B hml hv
  obtain ⟨rfl, hsz, hP, hK, hD0⟩ := hv
  have hx := B.exec
  have hb := B.bytes
  have hr := B.returns
  have hts := atoms_spec (ws := wsX7_divide) B.pre
  have hown : s.vm.findClass RX7 = some m.cls := findClass_of_methodNamed B.named
  have hlocks := B.notSynchronized
  subst hsz
  have hD := hD0.self (sz := s.heap.size)
  generalize hAe : va_A [(h0, .inr (8, [.ref sg, .int 0, .long fm, .int le]))] s.heap.size = A at hD ⊢
  have hA : ∀ q : Nat, s.heap.size ≤ q → A q := fun q h => by rw [← hAe]; exact Or.inr h
  have hS : va_S A s.heap s.heap [] := va_S.rf
  have hP : va_P G.1 vwCl [(h0, .inr (8, [.ref sg, .int 0, .long fm, .int le]))] s.heap := hP
  have hl := lv_entry ([.ref h0, .int 0, .int 0, .ref al]) (n := 6) (Nat.le_of_ble_eq_true rfl)
  rw [lg_entry_eq]
  generalize (lg_sl ([.ref h0, .int 0, .int 0, .ref al]) ++ List.replicate (6 - (lg_sl ([.ref h0, .int 0, .int 0, .ref al])).length) Slot.unset).toArray = ls at hl ⊢
  have hl : lv_has ls 6 [(0, .ref h0), (1, .int 0), (2, .int 0), (3, .ref al)] := hl
  obtain ⟨H, hH⟩ : ∃ z, z = s.heap := ⟨_, rfl⟩
  have hS : va_S A s.heap H [] := by rw [hH]; exact hS
  have hP : va_P G.1 vwCl [(h0, .inr (8, [.ref sg, .int 0, .long fm, .int le]))] H := by rw [hH]; exact hP
  refine n_heap hH ?_
  generalize ([] : List Loc) = locs at hS ⊢
  have hiX7 : ∀ w ∈ u_ws RX7 TX7 4, w ∈ wsX7_divide := by decide +kernel
  refine lv_aload_n hx hb dX7_divide_0 rfl (lv_at hl 0 rfl) ?_
  refine lv_lconst (v := 0) hx hb dX7_divide_1 (by decide) ?_
  refine va_put (D := G.1) (ci := 8) (v := .long 0) (ty := .long) (C := RX7) (T := TX7) (N := 4) hx hb hts hiX7 tyX7 tyX7_ok nmX7 hown hK hP hD hS 0 rfl rfl 2 (by decide) (hts (.fieldLink RX7 21 "DialectDictionary$Input" "form" "J") (by decide +kernel)) (fun _ h9 => h9) rfl (by decide +kernel) rfl rfl (Nat.le_of_ble_eq_true rfl) dX7_divide_2 (fun H locs hP hD hS => ?_)
  have hP : va_P G.1 vwCl [(h0, .inr (8, [.ref sg, .int 0, .long 0, .int le]))] H := hP
  have hD : va_D A [(h0, .inr (8, [.ref sg, .int 0, .long 0, .int le]))] := hD
  refine lv_aload_n hx hb dX7_divide_5 rfl (lv_at hl 0 rfl) ?_
  refine lv_iconst (v := 0) hx hb dX7_divide_6 (by decide) ?_
  refine va_put (D := G.1) (ci := 8) (v := .int 0) (ty := .int) (C := RX7) (T := TX7) (N := 4) hx hb hts hiX7 tyX7 tyX7_ok nmX7 hown hK hP hD hS 0 rfl rfl 3 (by decide) (hts (.fieldLink RX7 25 "DialectDictionary$Input" "letters" "I") (by decide +kernel)) (fun _ h9 => h9) rfl (by decide +kernel) rfl rfl (Nat.le_of_ble_eq_true rfl) dX7_divide_7 (fun H locs hP hD hS => ?_)
  have hP : va_P G.1 vwCl [(h0, .inr (8, [.ref sg, .int 0, .long 0, .int 0]))] H := hP
  have hD : va_D A [(h0, .inr (8, [.ref sg, .int 0, .long 0, .int 0]))] := hD
  refine lv_aload_n hx hb dX7_divide_10 rfl (lv_at hl 0 rfl) ?_
  refine lv_iload_n hx hb dX7_divide_11 rfl (lv_at hl 1 rfl) ?_
  refine lv_iload_n hx hb dX7_divide_12 rfl (lv_at hl 2 rfl) ?_
  refine n_ci (wr := []) (va_runV (As := [.int 0, .int 0]) (rest := []) ⟨hx, hb, hml, hown, hts⟩ (mX7_arePlain l G h0 sg 0 0 H.size) (cwV 2 hts gX7_divide_X7_arePlain rfl rfl rfl (by decide +kernel) ⟨(Nat.le_of_ble_eq_true rfl), (Nat.le_of_ble_eq_true rfl)⟩) (n_prV (ci := 8) (q0 := 0) hK hP hD [0] rfl (by decide) rfl rfl) rfl rfl hl.1 rfl (lv_room (Nat.le_of_ble_eq_true rfl)) dX7_divide_13 ⟨(Nat.le_of_ble_eq_true rfl), (Nat.le_of_ble_eq_true rfl)⟩) hP hD hS hA [0] [] rfl rfl (by decide) (by decide) (fun r_1 u_2 H locs hP hD hS hw => ?_)
  have hP : va_P G.1 vwCl [(h0, .inr (8, [.ref sg, .int 0, .long 0, .int 0]))] H := hP
  have hD : va_D A [(h0, .inr (8, [.ref sg, .int 0, .long 0, .int 0]))] := hD
  have hw : r_1 = 1 := hw
  subst hw
  refine lv_if_ne (tgt := 20) hx hb dX7_divide_16 (by decide) (fun _ => ?_) (fun h9 => absurd h9 (by decide))
  refine lv_iload_n hx hb dX7_divide_20 rfl (lv_at hl 1 rfl) ?_
  refine lv_istore (lv' := [(4, .int 0), (0, .ref h0), (1, .int 0), (2, .int 0), (3, .ref al)]) hx hb dX7_divide_21 hl (by decide) rfl (fun ls hl => ?_)
  refine lv_iload hx hb dX7_divide_23 (lv_at hl 0 rfl) ?_
  refine lv_iload_n hx hb dX7_divide_25 rfl (lv_at hl 3 rfl) ?_
  refine lv_icmp_ge (tgt := 121) hx hb dX7_divide_26 (by decide) (fun _ => ?_) (fun h9 => absurd (by decide) h9)
  have hP9 := n_Psub (wc := [(h0, .inr (8, [.ref sg, .int 0, .long 0, .int 0]))]) hP [0] rfl
  have hD9 := hD.sub (ws' := [(h0, .inr (8, [.ref sg, .int 0, .long 0, .int 0]))]) [0] (by decide) rfl
  refine W.widen (k := 0) (n := 0) (Nat.le_of_ble_eq_true rfl) (Nat.le_of_ble_eq_true rfl) ?_
  exact W.vret hx hb hr (fun t ht hW => ⟨⟨(), rfl, trivial, by rw [ht]; exact hP9, va_K.moved hW.alike hK, hD9⟩, hS.F ht⟩) hS.2.2 dX7_divide_121

set_option maxHeartbeats 4000000 in
set_option maxRecDepth 100000 in
theorem mX7_divideAll (l : Launch) (G : nG) (h0 : Nat) (sg : Nat) (fm : Int64) (le : Int32) (al : Nat) (sz : Nat) : Met l yX7_divideAll wsX7_divideAll ({ frames := 2, cells := 0, slots := 0, locals := 48 }) (va_Pc [.ref h0, .ref al] (n_pp G [(h0, .inr (8, [.ref sg, .int 0, .long fm, .int le]))] sz)) (va_Qv (fun (_ : Unit) => True) (fun (_ : Unit) (t : State) => n_po G (va_A [(h0, .inr (8, [.ref sg, .int 0, .long fm, .int le]))] sz) [(h0, .inr (8, [.ref sg, .int 0, .long 0, .int 0]))] t) (va_A [(h0, .inr (8, [.ref sg, .int 0, .long fm, .int le]))] sz)) 0 0 (va_A [(h0, .inr (8, [.ref sg, .int 0, .long fm, .int le]))] sz) := by
  refine Met.ofW (cc := cX7_divideAll) (maxL := 2) (ret := none) (by decide) rfl ?_
  intro p e s m args below meth c s₁ B hml hv
  obtain ⟨rfl, hsz, hP, hK, hD0⟩ := hv
  have hx := B.exec
  have hb := B.bytes
  have hr := B.returns
  have hts := atoms_spec (ws := wsX7_divideAll) B.pre
  have hown : s.vm.findClass RX7 = some m.cls := findClass_of_methodNamed B.named
  have hlocks := B.notSynchronized
  subst hsz
  have hD := hD0.self (sz := s.heap.size)
  generalize hAe : va_A [(h0, .inr (8, [.ref sg, .int 0, .long fm, .int le]))] s.heap.size = A at hD ⊢
  have hA : ∀ q : Nat, s.heap.size ≤ q → A q := fun q h => by rw [← hAe]; exact Or.inr h
  have hS : va_S A s.heap s.heap [] := va_S.rf
  have hP : va_P G.1 vwCl [(h0, .inr (8, [.ref sg, .int 0, .long fm, .int le]))] s.heap := hP
  have hl := lv_entry ([.ref h0, .ref al]) (n := 2) (Nat.le_of_ble_eq_true rfl)
  rw [lg_entry_eq]
  generalize (lg_sl ([.ref h0, .ref al]) ++ List.replicate (2 - (lg_sl ([.ref h0, .ref al])).length) Slot.unset).toArray = ls at hl ⊢
  have hl : lv_has ls 2 [(0, .ref h0), (1, .ref al)] := hl
  obtain ⟨H, hH⟩ : ∃ z, z = s.heap := ⟨_, rfl⟩
  have hS : va_S A s.heap H [] := by rw [hH]; exact hS
  have hP : va_P G.1 vwCl [(h0, .inr (8, [.ref sg, .int 0, .long fm, .int le]))] H := by rw [hH]; exact hP
  refine n_heap hH ?_
  generalize ([] : List Loc) = locs at hS ⊢
  have hiX7 : ∀ w ∈ u_ws RX7 TX7 4, w ∈ wsX7_divideAll := by decide +kernel
  refine lv_aload_n hx hb dX7_divideAll_0 rfl (lv_at hl 0 rfl) ?_
  refine lv_iconst (v := 0) hx hb dX7_divideAll_1 (by decide) ?_
  refine lv_aload_n hx hb dX7_divideAll_2 rfl (lv_at hl 0 rfl) ?_
  refine va_get (D := G.1) (ci := 8) (v := .int 0) (C := RX7) (T := TX7) (N := 4) hx hb hts hiX7 hown hK hP 0 rfl rfl 1 (by decide) (hts (.fieldLink RX7 15 "DialectDictionary$Input" "count" "I") (by decide +kernel)) (fun _ h9 => h9) rfl dX7_divideAll_3 ?_
  refine lv_aload_n hx hb dX7_divideAll_6 rfl (lv_at hl 1 rfl) ?_
  refine n_cv (wr := []) (va_runV (As := [.int 0, .int 0, .ref al]) (rest := []) ⟨hx, hb, hml, hown, hts⟩ (mX7_divide l G h0 sg fm le al H.size) (cwV 3 hts gX7_divideAll_X7_divide rfl rfl rfl (by decide +kernel) ⟨(Nat.le_of_ble_eq_true rfl), (Nat.le_of_ble_eq_true rfl)⟩) (n_prV (ci := 8) (q0 := 0) hK hP hD [0] rfl (by decide) rfl rfl) rfl rfl hl.1 rfl (lv_room (Nat.le_of_ble_eq_true rfl)) dX7_divideAll_7 ⟨(Nat.le_of_ble_eq_true rfl), (Nat.le_of_ble_eq_true rfl)⟩) hP hD hS hA [0] [] rfl rfl (by decide) (by decide) (fun u_1 H locs hP hD hS hw => ?_)
  have hP : va_P G.1 vwCl [(h0, .inr (8, [.ref sg, .int 0, .long 0, .int 0]))] H := hP
  have hD : va_D A [(h0, .inr (8, [.ref sg, .int 0, .long 0, .int 0]))] := hD
  have hP9 := n_Psub (wc := [(h0, .inr (8, [.ref sg, .int 0, .long 0, .int 0]))]) hP [0] rfl
  have hD9 := hD.sub (ws' := [(h0, .inr (8, [.ref sg, .int 0, .long 0, .int 0]))]) [0] (by decide) rfl
  refine W.widen (k := 0) (n := 0) (Nat.le_of_ble_eq_true rfl) (Nat.le_of_ble_eq_true rfl) ?_
  exact W.vret hx hb hr (fun t ht hW => ⟨⟨(), rfl, trivial, by rw [ht]; exact hP9, va_K.moved hW.alike hK, hD9⟩, hS.F ht⟩) hS.2.2 dX7_divideAll_10

set_option maxHeartbeats 4000000 in
set_option maxRecDepth 100000 in
theorem mX7_letters (l : Launch) (G : nG) (h0 : Nat) (sg : Nat) (n : Int32) (fm : Int64) (sz : Nat) : Met l yX7_letters wsX7_letters ({ frames := 0, cells := 0, slots := 0, locals := 0 }) (va_Pc [.ref h0] (n_pp G [(h0, .inr (8, [.ref sg, .int n, .long fm, .int 0]))] sz)) (va_Qi (fun (r : Int32) (_ : Unit) => r = 0) (fun (_ : Unit) (t : State) => n_po G (va_A [(h0, .inr (8, [.ref sg, .int n, .long fm, .int 0]))] sz) [(h0, .inr (8, [.ref sg, .int n, .long fm, .int 0]))] t) (va_A [(h0, .inr (8, [.ref sg, .int n, .long fm, .int 0]))] sz)) 0 0 (va_A [(h0, .inr (8, [.ref sg, .int n, .long fm, .int 0]))] sz) := by
  refine Met.ofW (cc := cX7_letters) (maxL := 1) (ret := (some .int)) (by decide) rfl ?_
  intro p e s m args below meth c s₁ B hml hv
  obtain ⟨rfl, hsz, hP, hK, hD0⟩ := hv
  have hx := B.exec
  have hb := B.bytes
  have hr := B.returns
  have hts := atoms_spec (ws := wsX7_letters) B.pre
  have hown : s.vm.findClass RX7 = some m.cls := findClass_of_methodNamed B.named
  have hlocks := B.notSynchronized
  subst hsz
  have hD := hD0.self (sz := s.heap.size)
  generalize hAe : va_A [(h0, .inr (8, [.ref sg, .int n, .long fm, .int 0]))] s.heap.size = A at hD ⊢
  have hA : ∀ q : Nat, s.heap.size ≤ q → A q := fun q h => by rw [← hAe]; exact Or.inr h
  have hS : va_S A s.heap s.heap [] := va_S.rf
  have hP : va_P G.1 vwCl [(h0, .inr (8, [.ref sg, .int n, .long fm, .int 0]))] s.heap := hP
  have hl := lv_entry ([.ref h0]) (n := 1) (Nat.le_of_ble_eq_true rfl)
  rw [lg_entry_eq]
  generalize (lg_sl ([.ref h0]) ++ List.replicate (1 - (lg_sl ([.ref h0])).length) Slot.unset).toArray = ls at hl ⊢
  have hl : lv_has ls 1 [(0, .ref h0)] := hl
  obtain ⟨H, hH⟩ : ∃ z, z = s.heap := ⟨_, rfl⟩
  have hS : va_S A s.heap H [] := by rw [hH]; exact hS
  have hP : va_P G.1 vwCl [(h0, .inr (8, [.ref sg, .int n, .long fm, .int 0]))] H := by rw [hH]; exact hP
  refine n_heap hH ?_
  generalize ([] : List Loc) = locs at hS ⊢
  have hiX7 : ∀ w ∈ u_ws RX7 TX7 4, w ∈ wsX7_letters := by decide +kernel
  refine lv_aload_n hx hb dX7_letters_0 rfl (lv_at hl 0 rfl) ?_
  refine va_get (D := G.1) (ci := 8) (v := .int 0) (C := RX7) (T := TX7) (N := 4) hx hb hts hiX7 hown hK hP 0 rfl rfl 3 (by decide) (hts (.fieldLink RX7 25 "DialectDictionary$Input" "letters" "I") (by decide +kernel)) (fun _ h9 => h9) rfl dX7_letters_1 ?_
  have hP9 := n_Psub (wc := [(h0, .inr (8, [.ref sg, .int n, .long fm, .int 0]))]) hP [0] rfl
  have hD9 := hD.sub (ws' := [(h0, .inr (8, [.ref sg, .int n, .long fm, .int 0]))]) [0] (by decide) rfl
  refine W.widen (k := 0) (n := 0) (Nat.le_of_ble_eq_true rfl) (Nat.le_of_ble_eq_true rfl) ?_
  exact W.iret (v := 0) hx hb hr (fun t ht hW => ⟨⟨0, (), rfl, rfl, by rw [ht]; exact hP9, va_K.moved hW.alike hK, hD9⟩, hS.F ht⟩) hS.2.2 dX7_letters_4

set_option maxHeartbeats 4000000 in
set_option maxRecDepth 100000 in
theorem mX7_isForm (l : Launch) (G : nG) (h0 : Nat) (sg : Nat) (n : Int32) (fm : Int64) (sz : Nat) : Met l yX7_isForm wsX7_isForm ({ frames := 0, cells := 0, slots := 0, locals := 0 }) (va_Pc [.ref h0] (n_pp G [(h0, .inr (8, [.ref sg, .int n, .long fm, .int 0]))] sz)) (va_Qi (fun (r : Int32) (_ : Unit) => r = 0) (fun (_ : Unit) (t : State) => n_po G (va_A [(h0, .inr (8, [.ref sg, .int n, .long fm, .int 0]))] sz) [(h0, .inr (8, [.ref sg, .int n, .long fm, .int 0]))] t) (va_A [(h0, .inr (8, [.ref sg, .int n, .long fm, .int 0]))] sz)) 0 0 (va_A [(h0, .inr (8, [.ref sg, .int n, .long fm, .int 0]))] sz) := by
  refine Met.ofW (cc := cX7_isForm) (maxL := 1) (ret := (some .boolean)) (by decide) rfl ?_
  intro p e s m args below meth c s₁ B hml hv
  obtain ⟨rfl, hsz, hP, hK, hD0⟩ := hv
  have hx := B.exec
  have hb := B.bytes
  have hr := B.returns
  have hts := atoms_spec (ws := wsX7_isForm) B.pre
  have hown : s.vm.findClass RX7 = some m.cls := findClass_of_methodNamed B.named
  have hlocks := B.notSynchronized
  subst hsz
  have hD := hD0.self (sz := s.heap.size)
  generalize hAe : va_A [(h0, .inr (8, [.ref sg, .int n, .long fm, .int 0]))] s.heap.size = A at hD ⊢
  have hA : ∀ q : Nat, s.heap.size ≤ q → A q := fun q h => by rw [← hAe]; exact Or.inr h
  have hS : va_S A s.heap s.heap [] := va_S.rf
  have hP : va_P G.1 vwCl [(h0, .inr (8, [.ref sg, .int n, .long fm, .int 0]))] s.heap := hP
  have hl := lv_entry ([.ref h0]) (n := 1) (Nat.le_of_ble_eq_true rfl)
  rw [lg_entry_eq]
  generalize (lg_sl ([.ref h0]) ++ List.replicate (1 - (lg_sl ([.ref h0])).length) Slot.unset).toArray = ls at hl ⊢
  have hl : lv_has ls 1 [(0, .ref h0)] := hl
  obtain ⟨H, hH⟩ : ∃ z, z = s.heap := ⟨_, rfl⟩
  have hS : va_S A s.heap H [] := by rw [hH]; exact hS
  have hP : va_P G.1 vwCl [(h0, .inr (8, [.ref sg, .int n, .long fm, .int 0]))] H := by rw [hH]; exact hP
  refine n_heap hH ?_
  generalize ([] : List Loc) = locs at hS ⊢
  have hiX7 : ∀ w ∈ u_ws RX7 TX7 4, w ∈ wsX7_isForm := by decide +kernel
  refine lv_aload_n hx hb dX7_isForm_0 rfl (lv_at hl 0 rfl) ?_
  refine va_get (D := G.1) (ci := 8) (v := .int 0) (C := RX7) (T := TX7) (N := 4) hx hb hts hiX7 hown hK hP 0 rfl rfl 3 (by decide) (hts (.fieldLink RX7 25 "DialectDictionary$Input" "letters" "I") (by decide +kernel)) (fun _ h9 => h9) rfl dX7_isForm_1 ?_
  refine lv_iconst (v := 1) hx hb dX7_isForm_4 (by decide) ?_
  refine lv_icmp_lt (tgt := 21) hx hb dX7_isForm_5 (by decide) (fun _ => ?_) (fun h9 => absurd (by decide) h9)
  refine lv_iconst (v := 0) hx hb dX7_isForm_21 (by decide) ?_
  have hP9 := n_Psub (wc := [(h0, .inr (8, [.ref sg, .int n, .long fm, .int 0]))]) hP [0] rfl
  have hD9 := hD.sub (ws' := [(h0, .inr (8, [.ref sg, .int n, .long fm, .int 0]))]) [0] (by decide) rfl
  refine W.widen (k := 0) (n := 0) (Nat.le_of_ble_eq_true rfl) (Nat.le_of_ble_eq_true rfl) ?_
  exact W.zret (v := 0) (ty := .boolean) hx hb hr rfl (fun t ht hW => ⟨⟨0, (), rfl, rfl, by rw [ht]; exact hP9, va_K.moved hW.alike hK, hD9⟩, hS.F ht⟩) hS.2.2 dX7_isForm_22

set_option maxHeartbeats 4000000 in
set_option maxRecDepth 100000 in
theorem mX9_levels (l : Launch) (G : nG) (h0 : Nat) (p1 : Nat) (p2 : Nat) (z : Int32) (sz : Nat) : Met l yX9_levels wsX9_levels ({ frames := 0, cells := 0, slots := 0, locals := 0 }) (va_Pc [.ref h0] (n_pp G [(h0, .inr (10, [.ref p1, .ref p2, .int z]))] sz)) (va_Qi (fun (r : Int32) (_ : Unit) => r = z) (fun (_ : Unit) (t : State) => n_po G (va_A [(h0, .inr (10, [.ref p1, .ref p2, .int z]))] sz) [(h0, .inr (10, [.ref p1, .ref p2, .int z]))] t) (va_A [(h0, .inr (10, [.ref p1, .ref p2, .int z]))] sz)) 0 0 (va_A [(h0, .inr (10, [.ref p1, .ref p2, .int z]))] sz) := by
  refine Met.ofW (cc := cX9_levels) (maxL := 1) (ret := (some .int)) (by decide) rfl ?_
  intro p e s m args below meth c s₁ B hml hv
  obtain ⟨rfl, hsz, hP, hK, hD0⟩ := hv
  have hx := B.exec
  have hb := B.bytes
  have hr := B.returns
  have hts := atoms_spec (ws := wsX9_levels) B.pre
  have hown : s.vm.findClass RX9 = some m.cls := findClass_of_methodNamed B.named
  have hlocks := B.notSynchronized
  subst hsz
  have hD := hD0.self (sz := s.heap.size)
  generalize hAe : va_A [(h0, .inr (10, [.ref p1, .ref p2, .int z]))] s.heap.size = A at hD ⊢
  have hA : ∀ q : Nat, s.heap.size ≤ q → A q := fun q h => by rw [← hAe]; exact Or.inr h
  have hS : va_S A s.heap s.heap [] := va_S.rf
  have hP : va_P G.1 vwCl [(h0, .inr (10, [.ref p1, .ref p2, .int z]))] s.heap := hP
  have hl := lv_entry ([.ref h0]) (n := 1) (Nat.le_of_ble_eq_true rfl)
  rw [lg_entry_eq]
  generalize (lg_sl ([.ref h0]) ++ List.replicate (1 - (lg_sl ([.ref h0])).length) Slot.unset).toArray = ls at hl ⊢
  have hl : lv_has ls 1 [(0, .ref h0)] := hl
  obtain ⟨H, hH⟩ : ∃ z, z = s.heap := ⟨_, rfl⟩
  have hS : va_S A s.heap H [] := by rw [hH]; exact hS
  have hP : va_P G.1 vwCl [(h0, .inr (10, [.ref p1, .ref p2, .int z]))] H := by rw [hH]; exact hP
  refine n_heap hH ?_
  generalize ([] : List Loc) = locs at hS ⊢
  have hiX9 : ∀ w ∈ u_ws RX9 TX9 3, w ∈ wsX9_levels := by decide +kernel
  refine lv_aload_n hx hb dX9_levels_0 rfl (lv_at hl 0 rfl) ?_
  refine va_get (D := G.1) (ci := 10) (v := .int z) (C := RX9) (T := TX9) (N := 3) hx hb hts hiX9 hown hK hP 0 rfl rfl 2 (by decide) (hts (.fieldLink RX9 18 "DialectDictionary$Report" "levels" "I") (by decide +kernel)) (fun _ h9 => h9) rfl dX9_levels_1 ?_
  have hP9 := n_Psub (wc := [(h0, .inr (10, [.ref p1, .ref p2, .int z]))]) hP [0] rfl
  have hD9 := hD.sub (ws' := [(h0, .inr (10, [.ref p1, .ref p2, .int z]))]) [0] (by decide) rfl
  refine W.widen (k := 0) (n := 0) (Nat.le_of_ble_eq_true rfl) (Nat.le_of_ble_eq_true rfl) ?_
  exact W.iret (v := z) hx hb hr (fun t ht hW => ⟨⟨z, (), rfl, rfl, by rw [ht]; exact hP9, va_K.moved hW.alike hK, hD9⟩, hS.F ht⟩) hS.2.2 dX9_levels_4

set_option maxHeartbeats 4000000 in
set_option maxRecDepth 100000 in
theorem mX9_write (l : Launch) (G : nG) (h0 : Nat) (p1 : Nat) (p2 : Nat) (z : Int32) (f1 : Nat → Int32) (f2 : Nat → Int32) (a1 : Int32) (a2 : Int32) (a3 : Int32) (a4 : Int32) (sz : Nat) : Met l yX9_write wsX9_write ({ frames := 0, cells := 0, slots := 0, locals := 0 }) (va_Pc [.ref h0, .int a1, .int a2, .int a3, .int a4] (n_pp G [(h0, .inr (10, [.ref p1, .ref p2, .int z])), (p1, eI G 3 f1), (p2, eI G 3 f2)] sz)) (va_Qv (fun (_ : Unit) => True) (fun (_ : Unit) (t : State) => n_po G (va_A [(h0, .inr (10, [.ref p1, .ref p2, .int z])), (p1, eI G 3 f1), (p2, eI G 3 f2)] sz) [(h0, .inr (10, [.ref p1, .ref p2, .int 2]))] t) (va_A [(h0, .inr (10, [.ref p1, .ref p2, .int z])), (p1, eI G 3 f1), (p2, eI G 3 f2)] sz)) 0 0 (va_A [(h0, .inr (10, [.ref p1, .ref p2, .int z])), (p1, eI G 3 f1), (p2, eI G 3 f2)] sz) := by
  refine Met.ofW (cc := cX9_write) (maxL := 5) (ret := none) (by decide) rfl ?_
  intro p e s m args below meth c s₁ B hml hv
  obtain ⟨rfl, hsz, hP, hK, hD0⟩ := hv
  have hx := B.exec
  have hb := B.bytes
  have hr := B.returns
  have hts := atoms_spec (ws := wsX9_write) B.pre
  have hown : s.vm.findClass RX9 = some m.cls := findClass_of_methodNamed B.named
  have hlocks := B.notSynchronized
  subst hsz
  have hD := hD0.self (sz := s.heap.size)
  generalize hAe : va_A [(h0, .inr (10, [.ref p1, .ref p2, .int z])), (p1, eI G 3 f1), (p2, eI G 3 f2)] s.heap.size = A at hD ⊢
  have hA : ∀ q : Nat, s.heap.size ≤ q → A q := fun q h => by rw [← hAe]; exact Or.inr h
  have hS : va_S A s.heap s.heap [] := va_S.rf
  have hP : va_P G.1 vwCl [(h0, .inr (10, [.ref p1, .ref p2, .int z])), (p1, eI G 3 f1), (p2, eI G 3 f2)] s.heap := hP
  have hl := lv_entry ([.ref h0, .int a1, .int a2, .int a3, .int a4]) (n := 5) (Nat.le_of_ble_eq_true rfl)
  rw [lg_entry_eq]
  generalize (lg_sl ([.ref h0, .int a1, .int a2, .int a3, .int a4]) ++ List.replicate (5 - (lg_sl ([.ref h0, .int a1, .int a2, .int a3, .int a4])).length) Slot.unset).toArray = ls at hl ⊢
  have hl : lv_has ls 5 [(0, .ref h0), (1, .int a1), (2, .int a2), (3, .int a3), (4, .int a4)] := hl
  obtain ⟨H, hH⟩ : ∃ z, z = s.heap := ⟨_, rfl⟩
  have hS : va_S A s.heap H [] := by rw [hH]; exact hS
  have hP : va_P G.1 vwCl [(h0, .inr (10, [.ref p1, .ref p2, .int z])), (p1, eI G 3 f1), (p2, eI G 3 f2)] H := by rw [hH]; exact hP
  refine n_heap hH ?_
  generalize ([] : List Loc) = locs at hS ⊢
  have hiX9 : ∀ w ∈ u_ws RX9 TX9 3, w ∈ wsX9_write := by decide +kernel
  refine lv_aload_n hx hb dX9_write_0 rfl (lv_at hl 0 rfl) ?_
  refine va_get (D := G.1) (ci := 10) (v := .ref p1) (C := RX9) (T := TX9) (N := 3) hx hb hts hiX9 hown hK hP 0 rfl rfl 0 (by decide) (hts (.fieldLink RX9 11 "DialectDictionary$Report" "numbers" "[I") (by decide +kernel)) (fun _ h9 => h9) rfl dX9_write_1 ?_
  refine lv_iconst (v := 0) hx hb dX9_write_4 (by decide) ?_
  refine lv_iload_n hx hb dX9_write_5 rfl (lv_at hl 1 rfl) ?_
  refine va_iast hx hb hK hP hD hS 1 0 rfl rfl (n_in (by decide)) dX9_write_6 (fun H locs hP hD hS => ?_)
  have hP : va_P G.1 vwCl [(h0, .inr (10, [.ref p1, .ref p2, .int z])), (p1, eI G 3 (upd f1 ((0 : Int32).toNatClampNeg) a1)), (p2, eI G 3 f2)] H := hP
  have hD : va_D A [(h0, .inr (10, [.ref p1, .ref p2, .int z])), (p1, eI G 3 (upd f1 ((0 : Int32).toNatClampNeg) a1)), (p2, eI G 3 f2)] := hD
  refine lv_aload_n hx hb dX9_write_7 rfl (lv_at hl 0 rfl) ?_
  refine va_get (D := G.1) (ci := 10) (v := .ref p2) (C := RX9) (T := TX9) (N := 3) hx hb hts hiX9 hown hK hP 0 rfl rfl 1 (by decide) (hts (.fieldLink RX9 15 "DialectDictionary$Report" "details" "[I") (by decide +kernel)) (fun _ h9 => h9) rfl dX9_write_8 ?_
  refine lv_iconst (v := 0) hx hb dX9_write_11 (by decide) ?_
  refine lv_iload_n hx hb dX9_write_12 rfl (lv_at hl 2 rfl) ?_
  refine va_iast hx hb hK hP hD hS 2 0 rfl rfl (n_in (by decide)) dX9_write_13 (fun H locs hP hD hS => ?_)
  have hP : va_P G.1 vwCl [(h0, .inr (10, [.ref p1, .ref p2, .int z])), (p1, eI G 3 (upd f1 ((0 : Int32).toNatClampNeg) a1)), (p2, eI G 3 (upd f2 ((0 : Int32).toNatClampNeg) a2))] H := hP
  have hD : va_D A [(h0, .inr (10, [.ref p1, .ref p2, .int z])), (p1, eI G 3 (upd f1 ((0 : Int32).toNatClampNeg) a1)), (p2, eI G 3 (upd f2 ((0 : Int32).toNatClampNeg) a2))] := hD
  refine lv_aload_n hx hb dX9_write_14 rfl (lv_at hl 0 rfl) ?_
  refine va_get (D := G.1) (ci := 10) (v := .ref p1) (C := RX9) (T := TX9) (N := 3) hx hb hts hiX9 hown hK hP 0 rfl rfl 0 (by decide) (hts (.fieldLink RX9 11 "DialectDictionary$Report" "numbers" "[I") (by decide +kernel)) (fun _ h9 => h9) rfl dX9_write_15 ?_
  refine lv_iconst (v := 1) hx hb dX9_write_18 (by decide) ?_
  refine lv_iload_n hx hb dX9_write_19 rfl (lv_at hl 3 rfl) ?_
  refine va_iast hx hb hK hP hD hS 1 0 rfl rfl (n_in (by decide)) dX9_write_20 (fun H locs hP hD hS => ?_)
  have hP : va_P G.1 vwCl [(h0, .inr (10, [.ref p1, .ref p2, .int z])), (p1, eI G 3 (upd (upd f1 ((0 : Int32).toNatClampNeg) a1) ((1 : Int32).toNatClampNeg) a3)), (p2, eI G 3 (upd f2 ((0 : Int32).toNatClampNeg) a2))] H := hP
  have hD : va_D A [(h0, .inr (10, [.ref p1, .ref p2, .int z])), (p1, eI G 3 (upd (upd f1 ((0 : Int32).toNatClampNeg) a1) ((1 : Int32).toNatClampNeg) a3)), (p2, eI G 3 (upd f2 ((0 : Int32).toNatClampNeg) a2))] := hD
  refine lv_aload_n hx hb dX9_write_21 rfl (lv_at hl 0 rfl) ?_
  refine va_get (D := G.1) (ci := 10) (v := .ref p2) (C := RX9) (T := TX9) (N := 3) hx hb hts hiX9 hown hK hP 0 rfl rfl 1 (by decide) (hts (.fieldLink RX9 15 "DialectDictionary$Report" "details" "[I") (by decide +kernel)) (fun _ h9 => h9) rfl dX9_write_22 ?_
  refine lv_iconst (v := 1) hx hb dX9_write_25 (by decide) ?_
  refine lv_iload hx hb dX9_write_26 (lv_at hl 4 rfl) ?_
  refine va_iast hx hb hK hP hD hS 2 0 rfl rfl (n_in (by decide)) dX9_write_28 (fun H locs hP hD hS => ?_)
  have hP : va_P G.1 vwCl [(h0, .inr (10, [.ref p1, .ref p2, .int z])), (p1, eI G 3 (upd (upd f1 ((0 : Int32).toNatClampNeg) a1) ((1 : Int32).toNatClampNeg) a3)), (p2, eI G 3 (upd (upd f2 ((0 : Int32).toNatClampNeg) a2) ((1 : Int32).toNatClampNeg) a4))] H := hP
  have hD : va_D A [(h0, .inr (10, [.ref p1, .ref p2, .int z])), (p1, eI G 3 (upd (upd f1 ((0 : Int32).toNatClampNeg) a1) ((1 : Int32).toNatClampNeg) a3)), (p2, eI G 3 (upd (upd f2 ((0 : Int32).toNatClampNeg) a2) ((1 : Int32).toNatClampNeg) a4))] := hD
  refine lv_aload_n hx hb dX9_write_29 rfl (lv_at hl 0 rfl) ?_
  refine lv_iconst (v := 2) hx hb dX9_write_30 (by decide) ?_
  refine va_put (D := G.1) (ci := 10) (v := .int 2) (ty := .int) (C := RX9) (T := TX9) (N := 3) hx hb hts hiX9 tyX9 tyX9_ok nmX9 hown hK hP hD hS 0 rfl rfl 2 (by decide) (hts (.fieldLink RX9 18 "DialectDictionary$Report" "levels" "I") (by decide +kernel)) (fun _ h9 => h9) rfl (by decide +kernel) rfl rfl (Nat.le_of_ble_eq_true rfl) dX9_write_31 (fun H locs hP hD hS => ?_)
  have hP : va_P G.1 vwCl [(h0, .inr (10, [.ref p1, .ref p2, .int 2])), (p1, eI G 3 (upd (upd f1 ((0 : Int32).toNatClampNeg) a1) ((1 : Int32).toNatClampNeg) a3)), (p2, eI G 3 (upd (upd f2 ((0 : Int32).toNatClampNeg) a2) ((1 : Int32).toNatClampNeg) a4))] H := hP
  have hD : va_D A [(h0, .inr (10, [.ref p1, .ref p2, .int 2])), (p1, eI G 3 (upd (upd f1 ((0 : Int32).toNatClampNeg) a1) ((1 : Int32).toNatClampNeg) a3)), (p2, eI G 3 (upd (upd f2 ((0 : Int32).toNatClampNeg) a2) ((1 : Int32).toNatClampNeg) a4))] := hD
  have hP9 := n_Psub (wc := [(h0, .inr (10, [.ref p1, .ref p2, .int 2]))]) hP [0] rfl
  have hD9 := hD.sub (ws' := [(h0, .inr (10, [.ref p1, .ref p2, .int 2]))]) [0] (by decide) rfl
  refine W.widen (k := 0) (n := 0) (Nat.le_of_ble_eq_true rfl) (Nat.le_of_ble_eq_true rfl) ?_
  exact W.vret hx hb hr (fun t ht hW => ⟨⟨(), rfl, trivial, by rw [ht]; exact hP9, va_K.moved hW.alike hK, hD9⟩, hS.F ht⟩) hS.2.2 dX9_write_34

set_option maxHeartbeats 4000000 in
set_option maxRecDepth 100000 in
theorem mX8_isTextRefused (l : Launch) (G : nG) (h0 : Nat) (lr : Nat) (w1 : Int32) (w2 : Int32) (t0 : Nat) (sg : Nat) (n : Int32) (fm : Int64) (p0 : Nat) (p1 : Nat) (p2 : Nat) (pf1 : Nat → Int32) (pf2 : Nat → Int32) (sz : Nat) : Met l yX8_isTextRefused wsX8_isTextRefused ({ frames := 1, cells := 0, slots := 0, locals := 24 }) (va_Pc [.ref h0, .int w1, .int w2, .ref t0, .ref p0] (n_pp G [(h0, .inr (9, [.ref lr, .int 0])), (t0, .inr (8, [.ref sg, .int n, .long fm, .int 0])), (p0, .inr (10, [.ref p1, .ref p2, .int 0])), (p1, eI G 3 pf1), (p2, eI G 3 pf2)] sz)) (va_Qi (fun (r : Int32) (_ : Unit) => r = 1) (fun (_ : Unit) (t : State) => n_po G (va_A [(h0, .inr (9, [.ref lr, .int 0])), (t0, .inr (8, [.ref sg, .int n, .long fm, .int 0])), (p0, .inr (10, [.ref p1, .ref p2, .int 0])), (p1, eI G 3 pf1), (p2, eI G 3 pf2)] sz) [(h0, .inr (9, [.ref lr, .int 0])), (t0, .inr (8, [.ref sg, .int n, .long fm, .int 0]))] t) (va_A [(h0, .inr (9, [.ref lr, .int 0])), (t0, .inr (8, [.ref sg, .int n, .long fm, .int 0])), (p0, .inr (10, [.ref p1, .ref p2, .int 0])), (p1, eI G 3 pf1), (p2, eI G 3 pf2)] sz)) 0 0 (va_A [(h0, .inr (9, [.ref lr, .int 0])), (t0, .inr (8, [.ref sg, .int n, .long fm, .int 0])), (p0, .inr (10, [.ref p1, .ref p2, .int 0])), (p1, eI G 3 pf1), (p2, eI G 3 pf2)] sz) := by
  refine Met.ofW (cc := cX8_isTextRefused) (maxL := 6) (ret := (some .boolean)) (by decide) rfl ?_
  intro p e s m args below meth c s₁ B hml hv
  obtain ⟨rfl, hsz, hP, hK, hD0⟩ := hv
  have hx := B.exec
  have hb := B.bytes
  have hr := B.returns
  have hts := atoms_spec (ws := wsX8_isTextRefused) B.pre
  have hown : s.vm.findClass RX8 = some m.cls := findClass_of_methodNamed B.named
  have hlocks := B.notSynchronized
  subst hsz
  have hD := hD0.self (sz := s.heap.size)
  generalize hAe : va_A [(h0, .inr (9, [.ref lr, .int 0])), (t0, .inr (8, [.ref sg, .int n, .long fm, .int 0])), (p0, .inr (10, [.ref p1, .ref p2, .int 0])), (p1, eI G 3 pf1), (p2, eI G 3 pf2)] s.heap.size = A at hD ⊢
  have hA : ∀ q : Nat, s.heap.size ≤ q → A q := fun q h => by rw [← hAe]; exact Or.inr h
  have hS : va_S A s.heap s.heap [] := va_S.rf
  have hP : va_P G.1 vwCl [(h0, .inr (9, [.ref lr, .int 0])), (t0, .inr (8, [.ref sg, .int n, .long fm, .int 0])), (p0, .inr (10, [.ref p1, .ref p2, .int 0])), (p1, eI G 3 pf1), (p2, eI G 3 pf2)] s.heap := hP
  have hl := lv_entry ([.ref h0, .int w1, .int w2, .ref t0, .ref p0]) (n := 6) (Nat.le_of_ble_eq_true rfl)
  rw [lg_entry_eq]
  generalize (lg_sl ([.ref h0, .int w1, .int w2, .ref t0, .ref p0]) ++ List.replicate (6 - (lg_sl ([.ref h0, .int w1, .int w2, .ref t0, .ref p0])).length) Slot.unset).toArray = ls at hl ⊢
  have hl : lv_has ls 6 [(0, .ref h0), (1, .int w1), (2, .int w2), (3, .ref t0), (4, .ref p0)] := hl
  obtain ⟨H, hH⟩ : ∃ z, z = s.heap := ⟨_, rfl⟩
  have hS : va_S A s.heap H [] := by rw [hH]; exact hS
  have hP : va_P G.1 vwCl [(h0, .inr (9, [.ref lr, .int 0])), (t0, .inr (8, [.ref sg, .int n, .long fm, .int 0])), (p0, .inr (10, [.ref p1, .ref p2, .int 0])), (p1, eI G 3 pf1), (p2, eI G 3 pf2)] H := by rw [hH]; exact hP
  refine n_heap hH ?_
  generalize ([] : List Loc) = locs at hS ⊢
  refine lv_aload_n hx hb dX8_isTextRefused_0 rfl (lv_at hl 3 rfl) ?_
  refine n_ci (wr := [(h0, .inr (9, [.ref lr, .int 0])), (p0, .inr (10, [.ref p1, .ref p2, .int 0])), (p1, eI G 3 pf1), (p2, eI G 3 pf2)]) (va_runV (As := []) (rest := []) ⟨hx, hb, hml, hown, hts⟩ (mX7_isForm l G t0 sg n fm H.size) (cwV 0 hts gX8_isTextRefused_X7_isForm rfl rfl rfl (by decide +kernel) ⟨(Nat.le_of_ble_eq_true rfl), (Nat.le_of_ble_eq_true rfl)⟩) (n_prV (ci := 8) (q0 := 1) hK hP hD [1] rfl (by decide) rfl rfl) rfl rfl hl.1 rfl (lv_room (Nat.le_of_ble_eq_true rfl)) dX8_isTextRefused_1 ⟨(Nat.le_of_ble_eq_true rfl), (Nat.le_of_ble_eq_true rfl)⟩) hP hD hS hA [1] [0, 2, 3, 4] rfl rfl (by decide) (by decide) (fun r_1 u_2 H locs hP hD hS hw => ?_)
  have hP : va_P G.1 vwCl [(h0, .inr (9, [.ref lr, .int 0])), (p0, .inr (10, [.ref p1, .ref p2, .int 0])), (p1, eI G 3 pf1), (p2, eI G 3 pf2), (t0, .inr (8, [.ref sg, .int n, .long fm, .int 0]))] H := hP
  have hD : va_D A [(h0, .inr (9, [.ref lr, .int 0])), (p0, .inr (10, [.ref p1, .ref p2, .int 0])), (p1, eI G 3 pf1), (p2, eI G 3 pf2), (t0, .inr (8, [.ref sg, .int n, .long fm, .int 0]))] := hD
  have hw : r_1 = 0 := hw
  subst hw
  refine lv_if_ne (tgt := 21) hx hb dX8_isTextRefused_4 (by decide) (fun h9 => absurd (by decide) h9) (fun _ => ?_)
  refine lv_aload hx hb dX8_isTextRefused_7 (lv_at hl 4 rfl) ?_
  refine lv_iload_n hx hb dX8_isTextRefused_9 rfl (lv_at hl 1 rfl) ?_
  refine lv_iload_n hx hb dX8_isTextRefused_10 rfl (lv_at hl 2 rfl) ?_
  refine lv_iconst (v := 1) hx hb dX8_isTextRefused_11 (by decide) ?_
  refine lv_aload_n hx hb dX8_isTextRefused_12 rfl (lv_at hl 3 rfl) ?_
  refine n_ci (wr := [(h0, .inr (9, [.ref lr, .int 0])), (p0, .inr (10, [.ref p1, .ref p2, .int 0])), (p1, eI G 3 pf1), (p2, eI G 3 pf2)]) (va_runV (As := []) (rest := [.int 1, .int w2, .int w1, .ref p0]) ⟨hx, hb, hml, hown, hts⟩ (mX7_letters l G t0 sg n fm H.size) (cwV 0 hts gX8_isTextRefused_X7_letters rfl rfl rfl (by decide +kernel) ⟨(Nat.le_of_ble_eq_true rfl), (Nat.le_of_ble_eq_true rfl)⟩) (n_prV (ci := 8) (q0 := 4) hK hP hD [4] rfl (by decide) rfl rfl) rfl rfl hl.1 rfl (lv_room (Nat.le_of_ble_eq_true rfl)) dX8_isTextRefused_13 ⟨(Nat.le_of_ble_eq_true rfl), (Nat.le_of_ble_eq_true rfl)⟩) hP hD hS hA [4] [0, 1, 2, 3] rfl rfl (by decide) (by decide) (fun r_3 u_4 H locs hP hD hS hw => ?_)
  have hP : va_P G.1 vwCl [(h0, .inr (9, [.ref lr, .int 0])), (p0, .inr (10, [.ref p1, .ref p2, .int 0])), (p1, eI G 3 pf1), (p2, eI G 3 pf2), (t0, .inr (8, [.ref sg, .int n, .long fm, .int 0]))] H := hP
  have hD : va_D A [(h0, .inr (9, [.ref lr, .int 0])), (p0, .inr (10, [.ref p1, .ref p2, .int 0])), (p1, eI G 3 pf1), (p2, eI G 3 pf2), (t0, .inr (8, [.ref sg, .int n, .long fm, .int 0]))] := hD
  have hw : r_3 = 0 := hw
  subst hw
  refine n_cv (wr := [(h0, .inr (9, [.ref lr, .int 0])), (t0, .inr (8, [.ref sg, .int n, .long fm, .int 0]))]) (va_runV (As := [.int w1, .int w2, .int 1, .int 0]) (rest := []) ⟨hx, hb, hml, hown, hts⟩ (mX9_write l G p0 p1 p2 0 pf1 pf2 w1 w2 1 0 H.size) (cwV 4 hts gX8_isTextRefused_X9_write rfl rfl rfl (by decide +kernel) ⟨(Nat.le_of_ble_eq_true rfl), (Nat.le_of_ble_eq_true rfl)⟩) (n_prV (ci := 10) (q0 := 1) hK hP hD [1, 2, 3] rfl (by decide) rfl rfl) rfl rfl hl.1 rfl (lv_room (Nat.le_of_ble_eq_true rfl)) dX8_isTextRefused_16 ⟨(Nat.le_of_ble_eq_true rfl), (Nat.le_of_ble_eq_true rfl)⟩) hP hD hS hA [1, 2, 3] [0, 4] rfl rfl (by decide) (by decide) (fun u_5 H locs hP hD hS hw => ?_)
  have hP : va_P G.1 vwCl [(h0, .inr (9, [.ref lr, .int 0])), (t0, .inr (8, [.ref sg, .int n, .long fm, .int 0])), (p0, .inr (10, [.ref p1, .ref p2, .int 2]))] H := hP
  have hD : va_D A [(h0, .inr (9, [.ref lr, .int 0])), (t0, .inr (8, [.ref sg, .int n, .long fm, .int 0])), (p0, .inr (10, [.ref p1, .ref p2, .int 2]))] := hD
  refine lv_iconst (v := 1) hx hb dX8_isTextRefused_19 (by decide) ?_
  have hP9 := n_Psub (wc := [(h0, .inr (9, [.ref lr, .int 0])), (t0, .inr (8, [.ref sg, .int n, .long fm, .int 0]))]) hP [0, 1] rfl
  have hD9 := hD.sub (ws' := [(h0, .inr (9, [.ref lr, .int 0])), (t0, .inr (8, [.ref sg, .int n, .long fm, .int 0]))]) [0, 1] (by decide) rfl
  refine W.widen (k := 0) (n := 0) (Nat.le_of_ble_eq_true rfl) (Nat.le_of_ble_eq_true rfl) ?_
  exact W.zret (v := 1) (ty := .boolean) hx hb hr rfl (fun t ht hW => ⟨⟨1, (), rfl, rfl, by rw [ht]; exact hP9, va_K.moved hW.alike hK, hD9⟩, hS.F ht⟩) hS.2.2 dX8_isTextRefused_20

set_option maxHeartbeats 4000000 in
set_option maxRecDepth 100000 in
theorem mX8_isMakingRefused (l : Launch) (G : nG) (h0 : Nat) (lr : Nat) (t0 : Nat) (sg : Nat) (n : Int32) (fm : Int64) (p0 : Nat) (p1 : Nat) (p2 : Nat) (pf1 : Nat → Int32) (pf2 : Nat → Int32) (sz : Nat) : Met l yX8_isMakingRefused wsX8_isMakingRefused ({ frames := 2, cells := 0, slots := 0, locals := 49 }) (va_Pc [.ref h0, .ref t0, .ref p0] (n_pp G [(h0, .inr (9, [.ref lr, .int 0])), (t0, .inr (8, [.ref sg, .int n, .long fm, .int 0])), (p0, .inr (10, [.ref p1, .ref p2, .int 0])), (p1, eI G 3 pf1), (p2, eI G 3 pf2)] sz)) (va_Qi (fun (r : Int32) (_ : Unit) => r = 1) (fun (_ : Unit) (t : State) => n_po G (va_A [(h0, .inr (9, [.ref lr, .int 0])), (t0, .inr (8, [.ref sg, .int n, .long fm, .int 0])), (p0, .inr (10, [.ref p1, .ref p2, .int 0])), (p1, eI G 3 pf1), (p2, eI G 3 pf2)] sz) [(h0, .inr (9, [.ref lr, .int 0])), (t0, .inr (8, [.ref sg, .int n, .long fm, .int 0]))] t) (va_A [(h0, .inr (9, [.ref lr, .int 0])), (t0, .inr (8, [.ref sg, .int n, .long fm, .int 0])), (p0, .inr (10, [.ref p1, .ref p2, .int 0])), (p1, eI G 3 pf1), (p2, eI G 3 pf2)] sz)) 0 0 (va_A [(h0, .inr (9, [.ref lr, .int 0])), (t0, .inr (8, [.ref sg, .int n, .long fm, .int 0])), (p0, .inr (10, [.ref p1, .ref p2, .int 0])), (p1, eI G 3 pf1), (p2, eI G 3 pf2)] sz) := by
  refine Met.ofW (cc := cX8_isMakingRefused) (maxL := 3) (ret := (some .boolean)) (by decide) rfl ?_
  intro p e s m args below meth c s₁ B hml hv
  obtain ⟨rfl, hsz, hP, hK, hD0⟩ := hv
  have hx := B.exec
  have hb := B.bytes
  have hr := B.returns
  have hts := atoms_spec (ws := wsX8_isMakingRefused) B.pre
  have hown : s.vm.findClass RX8 = some m.cls := findClass_of_methodNamed B.named
  have hlocks := B.notSynchronized
  subst hsz
  have hD := hD0.self (sz := s.heap.size)
  generalize hAe : va_A [(h0, .inr (9, [.ref lr, .int 0])), (t0, .inr (8, [.ref sg, .int n, .long fm, .int 0])), (p0, .inr (10, [.ref p1, .ref p2, .int 0])), (p1, eI G 3 pf1), (p2, eI G 3 pf2)] s.heap.size = A at hD ⊢
  have hA : ∀ q : Nat, s.heap.size ≤ q → A q := fun q h => by rw [← hAe]; exact Or.inr h
  have hS : va_S A s.heap s.heap [] := va_S.rf
  have hP : va_P G.1 vwCl [(h0, .inr (9, [.ref lr, .int 0])), (t0, .inr (8, [.ref sg, .int n, .long fm, .int 0])), (p0, .inr (10, [.ref p1, .ref p2, .int 0])), (p1, eI G 3 pf1), (p2, eI G 3 pf2)] s.heap := hP
  have hl := lv_entry ([.ref h0, .ref t0, .ref p0]) (n := 3) (Nat.le_of_ble_eq_true rfl)
  rw [lg_entry_eq]
  generalize (lg_sl ([.ref h0, .ref t0, .ref p0]) ++ List.replicate (3 - (lg_sl ([.ref h0, .ref t0, .ref p0])).length) Slot.unset).toArray = ls at hl ⊢
  have hl : lv_has ls 3 [(0, .ref h0), (1, .ref t0), (2, .ref p0)] := hl
  obtain ⟨H, hH⟩ : ∃ z, z = s.heap := ⟨_, rfl⟩
  have hS : va_S A s.heap H [] := by rw [hH]; exact hS
  have hP : va_P G.1 vwCl [(h0, .inr (9, [.ref lr, .int 0])), (t0, .inr (8, [.ref sg, .int n, .long fm, .int 0])), (p0, .inr (10, [.ref p1, .ref p2, .int 0])), (p1, eI G 3 pf1), (p2, eI G 3 pf2)] H := by rw [hH]; exact hP
  refine n_heap hH ?_
  generalize ([] : List Loc) = locs at hS ⊢
  refine lv_aload_n hx hb dX8_isMakingRefused_0 rfl (lv_at hl 0 rfl) ?_
  refine lv_iconst (v := 1) hx hb dX8_isMakingRefused_1 (by decide) ?_
  refine lv_iconst (v := -1) hx hb dX8_isMakingRefused_2 (by decide) ?_
  refine lv_aload_n hx hb dX8_isMakingRefused_3 rfl (lv_at hl 1 rfl) ?_
  refine lv_aload_n hx hb dX8_isMakingRefused_4 rfl (lv_at hl 2 rfl) ?_
  refine n_ci (wr := []) (va_runV (As := [.int 1, .int (-1), .ref t0, .ref p0]) (rest := []) ⟨hx, hb, hml, hown, hts⟩ (mX8_isTextRefused l G h0 lr 1 (-1) t0 sg n fm p0 p1 p2 pf1 pf2 H.size) (cwV 4 hts gX8_isMakingRefused_X8_isTextRefused rfl rfl rfl (by decide +kernel) ⟨(Nat.le_of_ble_eq_true rfl), (Nat.le_of_ble_eq_true rfl)⟩) (n_prV (ci := 9) (q0 := 0) hK hP hD [0, 1, 2, 3, 4] rfl (by decide) rfl rfl) rfl rfl hl.1 rfl (lv_room (Nat.le_of_ble_eq_true rfl)) dX8_isMakingRefused_5 ⟨(Nat.le_of_ble_eq_true rfl), (Nat.le_of_ble_eq_true rfl)⟩) hP hD hS hA [0, 1, 2, 3, 4] [] rfl rfl (by decide) (by decide) (fun r_1 u_2 H locs hP hD hS hw => ?_)
  have hP : va_P G.1 vwCl [(h0, .inr (9, [.ref lr, .int 0])), (t0, .inr (8, [.ref sg, .int n, .long fm, .int 0]))] H := hP
  have hD : va_D A [(h0, .inr (9, [.ref lr, .int 0])), (t0, .inr (8, [.ref sg, .int n, .long fm, .int 0]))] := hD
  have hw : r_1 = 1 := hw
  subst hw
  refine lv_if_ne (tgt := 21) hx hb dX8_isMakingRefused_8 (by decide) (fun _ => ?_) (fun h9 => absurd h9 (by decide))
  refine lv_iconst (v := 1) hx hb dX8_isMakingRefused_21 (by decide) ?_
  have hP9 := n_Psub (wc := [(h0, .inr (9, [.ref lr, .int 0])), (t0, .inr (8, [.ref sg, .int n, .long fm, .int 0]))]) hP [0, 1] rfl
  have hD9 := hD.sub (ws' := [(h0, .inr (9, [.ref lr, .int 0])), (t0, .inr (8, [.ref sg, .int n, .long fm, .int 0]))]) [0, 1] (by decide) rfl
  refine W.widen (k := 0) (n := 0) (Nat.le_of_ble_eq_true rfl) (Nat.le_of_ble_eq_true rfl) ?_
  exact W.zret (v := 1) (ty := .boolean) hx hb hr rfl (fun t ht hW => ⟨⟨1, (), rfl, rfl, by rw [ht]; exact hP9, va_K.moved hW.alike hK, hD9⟩, hS.F ht⟩) hS.2.2 dX8_isMakingRefused_22

set_option maxHeartbeats 4000000 in
set_option maxRecDepth 100000 in
theorem mX1_errorPosition (l : Launch) (G : nG) (h0 : Nat) (k1 : Nat) (k2 : Nat) (k3 : Nat) (k4 : Nat) (k5 : Nat) (sz : Nat) : Met l yX1_errorPosition wsX1_errorPosition ({ frames := 0, cells := 0, slots := 0, locals := 0 }) (va_Pc [.ref h0] (n_pp G [(h0, .inr (3, [.ref k1, .ref k2, .ref k3, .ref k4, .ref k5, .int 0, .int 0]))] sz)) (va_Qi (fun (r : Int32) (_ : Unit) => r = 0) (fun (_ : Unit) (t : State) => n_po G (va_A [(h0, .inr (3, [.ref k1, .ref k2, .ref k3, .ref k4, .ref k5, .int 0, .int 0]))] sz) [(h0, .inr (3, [.ref k1, .ref k2, .ref k3, .ref k4, .ref k5, .int 0, .int 0]))] t) (va_A [(h0, .inr (3, [.ref k1, .ref k2, .ref k3, .ref k4, .ref k5, .int 0, .int 0]))] sz)) 0 0 (va_A [(h0, .inr (3, [.ref k1, .ref k2, .ref k3, .ref k4, .ref k5, .int 0, .int 0]))] sz) := by
  refine Met.ofW (cc := cX1_errorPosition) (maxL := 1) (ret := (some .int)) (by decide) rfl ?_
  intro p e s m args below meth c s₁ B hml hv
  obtain ⟨rfl, hsz, hP, hK, hD0⟩ := hv
  have hx := B.exec
  have hb := B.bytes
  have hr := B.returns
  have hts := atoms_spec (ws := wsX1_errorPosition) B.pre
  have hown : s.vm.findClass RX1 = some m.cls := findClass_of_methodNamed B.named
  have hlocks := B.notSynchronized
  subst hsz
  have hD := hD0.self (sz := s.heap.size)
  generalize hAe : va_A [(h0, .inr (3, [.ref k1, .ref k2, .ref k3, .ref k4, .ref k5, .int 0, .int 0]))] s.heap.size = A at hD ⊢
  have hA : ∀ q : Nat, s.heap.size ≤ q → A q := fun q h => by rw [← hAe]; exact Or.inr h
  have hS : va_S A s.heap s.heap [] := va_S.rf
  have hP : va_P G.1 vwCl [(h0, .inr (3, [.ref k1, .ref k2, .ref k3, .ref k4, .ref k5, .int 0, .int 0]))] s.heap := hP
  have hl := lv_entry ([.ref h0]) (n := 1) (Nat.le_of_ble_eq_true rfl)
  rw [lg_entry_eq]
  generalize (lg_sl ([.ref h0]) ++ List.replicate (1 - (lg_sl ([.ref h0])).length) Slot.unset).toArray = ls at hl ⊢
  have hl : lv_has ls 1 [(0, .ref h0)] := hl
  obtain ⟨H, hH⟩ : ∃ z, z = s.heap := ⟨_, rfl⟩
  have hS : va_S A s.heap H [] := by rw [hH]; exact hS
  have hP : va_P G.1 vwCl [(h0, .inr (3, [.ref k1, .ref k2, .ref k3, .ref k4, .ref k5, .int 0, .int 0]))] H := by rw [hH]; exact hP
  refine n_heap hH ?_
  generalize ([] : List Loc) = locs at hS ⊢
  have hiX1 : ∀ w ∈ u_ws RX1 TX1 7, w ∈ wsX1_errorPosition := by decide +kernel
  refine lv_aload_n hx hb dX1_errorPosition_0 rfl (lv_at hl 0 rfl) ?_
  refine va_get (D := G.1) (ci := 3) (v := .int 0) (C := RX1) (T := TX1) (N := 7) hx hb hts hiX1 hown hK hP 0 rfl rfl 6 (by decide) (hts (.fieldLink RX1 31 "DialectDictionary$Commands" "cursor" "I") (by decide +kernel)) (fun _ h9 => h9) rfl dX1_errorPosition_1 ?_
  have hP9 := n_Psub (wc := [(h0, .inr (3, [.ref k1, .ref k2, .ref k3, .ref k4, .ref k5, .int 0, .int 0]))]) hP [0] rfl
  have hD9 := hD.sub (ws' := [(h0, .inr (3, [.ref k1, .ref k2, .ref k3, .ref k4, .ref k5, .int 0, .int 0]))]) [0] (by decide) rfl
  refine W.widen (k := 0) (n := 0) (Nat.le_of_ble_eq_true rfl) (Nat.le_of_ble_eq_true rfl) ?_
  exact W.iret (v := 0) hx hb hr (fun t ht hW => ⟨⟨0, (), rfl, rfl, by rw [ht]; exact hP9, va_K.moved hW.alike hK, hD9⟩, hS.F ht⟩) hS.2.2 dX1_errorPosition_4

set_option maxHeartbeats 4000000 in
set_option maxRecDepth 100000 in
theorem mX1_isDigit (l : Launch) (G : nG) (sz : Nat) : Met l yX1_isDigit wsX1_isDigit ({ frames := 0, cells := 0, slots := 0, locals := 0 }) (va_Pc [.int 32] (n_pp G [] sz)) (va_Qi (fun (r : Int32) (_ : Unit) => r = 0) (fun (_ : Unit) (t : State) => n_po G (va_A [] sz) [] t) (va_A [] sz)) 0 0 (va_A [] sz) := by
  refine Met.ofW (cc := cX1_isDigit) (maxL := 1) (ret := (some .boolean)) (by decide) rfl ?_
  intro p e s m args below meth c s₁ B hml hv
  obtain ⟨rfl, hsz, hP, hK, hD0⟩ := hv
  have hx := B.exec
  have hb := B.bytes
  have hr := B.returns
  have hts := atoms_spec (ws := wsX1_isDigit) B.pre
  have hown : s.vm.findClass RX1 = some m.cls := findClass_of_methodNamed B.named
  have hlocks := B.notSynchronized
  subst hsz
  have hD := hD0.self (sz := s.heap.size)
  generalize hAe : va_A [] s.heap.size = A at hD ⊢
  have hA : ∀ q : Nat, s.heap.size ≤ q → A q := fun q h => by rw [← hAe]; exact Or.inr h
  have hS : va_S A s.heap s.heap [] := va_S.rf
  have hP : va_P G.1 vwCl [] s.heap := hP
  have hl := lv_entry ([.int 32]) (n := 1) (Nat.le_of_ble_eq_true rfl)
  rw [lg_entry_eq]
  generalize (lg_sl ([.int 32]) ++ List.replicate (1 - (lg_sl ([.int 32])).length) Slot.unset).toArray = ls at hl ⊢
  have hl : lv_has ls 1 [(0, .int 32)] := hl
  obtain ⟨H, hH⟩ : ∃ z, z = s.heap := ⟨_, rfl⟩
  have hS : va_S A s.heap H [] := by rw [hH]; exact hS
  have hP : va_P G.1 vwCl [] H := by rw [hH]; exact hP
  refine n_heap hH ?_
  generalize ([] : List Loc) = locs at hS ⊢
  refine lv_iload_n hx hb dX1_isDigit_0 rfl (lv_at hl 0 rfl) ?_
  refine lv_bipush (v := 48) hx hb dX1_isDigit_1 (by decide) ?_
  refine lv_icmp_lt (tgt := 16) hx hb dX1_isDigit_3 (by decide) (fun _ => ?_) (fun h9 => absurd (by decide) h9)
  refine lv_iconst (v := 0) hx hb dX1_isDigit_16 (by decide) ?_
  have hP9 := n_Psub (wc := []) hP [] rfl
  have hD9 := hD.sub (ws' := []) [] (by decide) rfl
  refine W.widen (k := 0) (n := 0) (Nat.le_of_ble_eq_true rfl) (Nat.le_of_ble_eq_true rfl) ?_
  exact W.zret (v := 0) (ty := .boolean) hx hb hr rfl (fun t ht hW => ⟨⟨0, (), rfl, rfl, by rw [ht]; exact hP9, va_K.moved hW.alike hK, hD9⟩, hS.F ht⟩) hS.2.2 dX1_isDigit_17

set_option maxHeartbeats 4000000 in
set_option maxRecDepth 100000 in
theorem mX1_take (l : Launch) (G : nG) (h0 : Nat) (k1 : Nat) (k2 : Nat) (k3 : Nat) (k4 : Nat) (k5 : Nat) (t0 : Nat) (sg : Nat) (fm : Int64) (le : Int32) (sz : Nat) : Met l yX1_take wsX1_take ({ frames := 1, cells := 0, slots := 0, locals := 21 }) (va_Pc [.ref h0, .int 43, .ref t0] (n_pp G [(h0, .inr (3, [.ref k1, .ref k2, .ref k3, .ref k4, .ref k5, .int 0, .int 0])), (t0, .inr (8, [.ref sg, .int 0, .long fm, .int le]))] sz)) (va_Qi (fun (r : Int32) (_ : Unit) => r = 0) (fun (_ : Unit) (t : State) => n_po G (va_A [(h0, .inr (3, [.ref k1, .ref k2, .ref k3, .ref k4, .ref k5, .int 0, .int 0])), (t0, .inr (8, [.ref sg, .int 0, .long fm, .int le]))] sz) [(h0, .inr (3, [.ref k1, .ref k2, .ref k3, .ref k4, .ref k5, .int 0, .int 0])), (t0, .inr (8, [.ref sg, .int 0, .long fm, .int le]))] t) (va_A [(h0, .inr (3, [.ref k1, .ref k2, .ref k3, .ref k4, .ref k5, .int 0, .int 0])), (t0, .inr (8, [.ref sg, .int 0, .long fm, .int le]))] sz)) 0 0 (va_A [(h0, .inr (3, [.ref k1, .ref k2, .ref k3, .ref k4, .ref k5, .int 0, .int 0])), (t0, .inr (8, [.ref sg, .int 0, .long fm, .int le]))] sz) := by
  refine Met.ofW (cc := cX1_take) (maxL := 3) (ret := (some .boolean)) (by decide) rfl ?_
  intro p e s m args below meth c s₁ B hml hv
  obtain ⟨rfl, hsz, hP, hK, hD0⟩ := hv
  have hx := B.exec
  have hb := B.bytes
  have hr := B.returns
  have hts := atoms_spec (ws := wsX1_take) B.pre
  have hown : s.vm.findClass RX1 = some m.cls := findClass_of_methodNamed B.named
  have hlocks := B.notSynchronized
  subst hsz
  have hD := hD0.self (sz := s.heap.size)
  generalize hAe : va_A [(h0, .inr (3, [.ref k1, .ref k2, .ref k3, .ref k4, .ref k5, .int 0, .int 0])), (t0, .inr (8, [.ref sg, .int 0, .long fm, .int le]))] s.heap.size = A at hD ⊢
  have hA : ∀ q : Nat, s.heap.size ≤ q → A q := fun q h => by rw [← hAe]; exact Or.inr h
  have hS : va_S A s.heap s.heap [] := va_S.rf
  have hP : va_P G.1 vwCl [(h0, .inr (3, [.ref k1, .ref k2, .ref k3, .ref k4, .ref k5, .int 0, .int 0])), (t0, .inr (8, [.ref sg, .int 0, .long fm, .int le]))] s.heap := hP
  have hl := lv_entry ([.ref h0, .int 43, .ref t0]) (n := 3) (Nat.le_of_ble_eq_true rfl)
  rw [lg_entry_eq]
  generalize (lg_sl ([.ref h0, .int 43, .ref t0]) ++ List.replicate (3 - (lg_sl ([.ref h0, .int 43, .ref t0])).length) Slot.unset).toArray = ls at hl ⊢
  have hl : lv_has ls 3 [(0, .ref h0), (1, .int 43), (2, .ref t0)] := hl
  obtain ⟨H, hH⟩ : ∃ z, z = s.heap := ⟨_, rfl⟩
  have hS : va_S A s.heap H [] := by rw [hH]; exact hS
  have hP : va_P G.1 vwCl [(h0, .inr (3, [.ref k1, .ref k2, .ref k3, .ref k4, .ref k5, .int 0, .int 0])), (t0, .inr (8, [.ref sg, .int 0, .long fm, .int le]))] H := by rw [hH]; exact hP
  refine n_heap hH ?_
  generalize ([] : List Loc) = locs at hS ⊢
  have hiX1 : ∀ w ∈ u_ws RX1 TX1 7, w ∈ wsX1_take := by decide +kernel
  refine lv_aload_n hx hb dX1_take_0 rfl (lv_at hl 2 rfl) ?_
  refine lv_aload_n hx hb dX1_take_1 rfl (lv_at hl 0 rfl) ?_
  refine va_get (D := G.1) (ci := 3) (v := .int 0) (C := RX1) (T := TX1) (N := 7) hx hb hts hiX1 hown hK hP 0 rfl rfl 6 (by decide) (hts (.fieldLink RX1 31 "DialectDictionary$Commands" "cursor" "I") (by decide +kernel)) (fun _ h9 => h9) rfl dX1_take_2 ?_
  refine n_ci (wr := [(h0, .inr (3, [.ref k1, .ref k2, .ref k3, .ref k4, .ref k5, .int 0, .int 0]))]) (va_runV (As := [.int 0]) (rest := []) ⟨hx, hb, hml, hown, hts⟩ (mX7_signAt l G t0 sg fm le H.size) (cwV 1 hts gX1_take_X7_signAt rfl rfl rfl (by decide +kernel) ⟨(Nat.le_of_ble_eq_true rfl), (Nat.le_of_ble_eq_true rfl)⟩) (n_prV (ci := 8) (q0 := 1) hK hP hD [1] rfl (by decide) rfl rfl) rfl rfl hl.1 rfl (lv_room (Nat.le_of_ble_eq_true rfl)) dX1_take_5 ⟨(Nat.le_of_ble_eq_true rfl), (Nat.le_of_ble_eq_true rfl)⟩) hP hD hS hA [1] [0] rfl rfl (by decide) (by decide) (fun r_1 u_2 H locs hP hD hS hw => ?_)
  have hP : va_P G.1 vwCl [(h0, .inr (3, [.ref k1, .ref k2, .ref k3, .ref k4, .ref k5, .int 0, .int 0])), (t0, .inr (8, [.ref sg, .int 0, .long fm, .int le]))] H := hP
  have hD : va_D A [(h0, .inr (3, [.ref k1, .ref k2, .ref k3, .ref k4, .ref k5, .int 0, .int 0])), (t0, .inr (8, [.ref sg, .int 0, .long fm, .int le]))] := hD
  have hw : r_1 = 32 := hw
  subst hw
  refine lv_iload_n hx hb dX1_take_8 rfl (lv_at hl 1 rfl) ?_
  refine lv_icmp_eq (tgt := 14) hx hb dX1_take_9 (by decide) (fun h9 => absurd h9 (by decide)) (fun _ => ?_)
  refine lv_iconst (v := 0) hx hb dX1_take_12 (by decide) ?_
  have hP9 := n_Psub (wc := [(h0, .inr (3, [.ref k1, .ref k2, .ref k3, .ref k4, .ref k5, .int 0, .int 0])), (t0, .inr (8, [.ref sg, .int 0, .long fm, .int le]))]) hP [0, 1] rfl
  have hD9 := hD.sub (ws' := [(h0, .inr (3, [.ref k1, .ref k2, .ref k3, .ref k4, .ref k5, .int 0, .int 0])), (t0, .inr (8, [.ref sg, .int 0, .long fm, .int le]))]) [0, 1] (by decide) rfl
  refine W.widen (k := 0) (n := 0) (Nat.le_of_ble_eq_true rfl) (Nat.le_of_ble_eq_true rfl) ?_
  exact W.zret (v := 0) (ty := .boolean) hx hb hr rfl (fun t ht hW => ⟨⟨0, (), rfl, rfl, by rw [ht]; exact hP9, va_K.moved hW.alike hK, hD9⟩, hS.F ht⟩) hS.2.2 dX1_take_13

set_option maxHeartbeats 4000000 in
set_option maxRecDepth 100000 in
theorem mX1_parseNumber (l : Launch) (G : nG) (h0 : Nat) (k1 : Nat) (k2 : Nat) (k3 : Nat) (k4 : Nat) (k5 : Nat) (t0 : Nat) (sg : Nat) (fm : Int64) (le : Int32) (sz : Nat) : Met l yX1_parseNumber wsX1_parseNumber ({ frames := 1, cells := 0, slots := 0, locals := 21 }) (va_Pc [.ref h0, .ref t0] (n_pp G [(h0, .inr (3, [.ref k1, .ref k2, .ref k3, .ref k4, .ref k5, .int 0, .int 0])), (t0, .inr (8, [.ref sg, .int 0, .long fm, .int le]))] sz)) (va_Qi (fun (r : Int32) (_ : Unit) => r = (-1)) (fun (_ : Unit) (t : State) => n_po G (va_A [(h0, .inr (3, [.ref k1, .ref k2, .ref k3, .ref k4, .ref k5, .int 0, .int 0])), (t0, .inr (8, [.ref sg, .int 0, .long fm, .int le]))] sz) [(h0, .inr (3, [.ref k1, .ref k2, .ref k3, .ref k4, .ref k5, .int 0, .int 0])), (t0, .inr (8, [.ref sg, .int 0, .long fm, .int le]))] t) (va_A [(h0, .inr (3, [.ref k1, .ref k2, .ref k3, .ref k4, .ref k5, .int 0, .int 0])), (t0, .inr (8, [.ref sg, .int 0, .long fm, .int le]))] sz)) 0 0 (va_A [(h0, .inr (3, [.ref k1, .ref k2, .ref k3, .ref k4, .ref k5, .int 0, .int 0])), (t0, .inr (8, [.ref sg, .int 0, .long fm, .int le]))] sz) := by
  refine Met.ofW (cc := cX1_parseNumber) (maxL := 3) (ret := (some .int)) (by decide) rfl ?_
  intro p e s m args below meth c s₁ B hml hv
  obtain ⟨rfl, hsz, hP, hK, hD0⟩ := hv
  have hx := B.exec
  have hb := B.bytes
  have hr := B.returns
  have hts := atoms_spec (ws := wsX1_parseNumber) B.pre
  have hown : s.vm.findClass RX1 = some m.cls := findClass_of_methodNamed B.named
  have hlocks := B.notSynchronized
  subst hsz
  have hD := hD0.self (sz := s.heap.size)
  generalize hAe : va_A [(h0, .inr (3, [.ref k1, .ref k2, .ref k3, .ref k4, .ref k5, .int 0, .int 0])), (t0, .inr (8, [.ref sg, .int 0, .long fm, .int le]))] s.heap.size = A at hD ⊢
  have hA : ∀ q : Nat, s.heap.size ≤ q → A q := fun q h => by rw [← hAe]; exact Or.inr h
  have hS : va_S A s.heap s.heap [] := va_S.rf
  have hP : va_P G.1 vwCl [(h0, .inr (3, [.ref k1, .ref k2, .ref k3, .ref k4, .ref k5, .int 0, .int 0])), (t0, .inr (8, [.ref sg, .int 0, .long fm, .int le]))] s.heap := hP
  have hl := lv_entry ([.ref h0, .ref t0]) (n := 3) (Nat.le_of_ble_eq_true rfl)
  rw [lg_entry_eq]
  generalize (lg_sl ([.ref h0, .ref t0]) ++ List.replicate (3 - (lg_sl ([.ref h0, .ref t0])).length) Slot.unset).toArray = ls at hl ⊢
  have hl : lv_has ls 3 [(0, .ref h0), (1, .ref t0)] := hl
  obtain ⟨H, hH⟩ : ∃ z, z = s.heap := ⟨_, rfl⟩
  have hS : va_S A s.heap H [] := by rw [hH]; exact hS
  have hP : va_P G.1 vwCl [(h0, .inr (3, [.ref k1, .ref k2, .ref k3, .ref k4, .ref k5, .int 0, .int 0])), (t0, .inr (8, [.ref sg, .int 0, .long fm, .int le]))] H := by rw [hH]; exact hP
  refine n_heap hH ?_
  generalize ([] : List Loc) = locs at hS ⊢
  have hiX1 : ∀ w ∈ u_ws RX1 TX1 7, w ∈ wsX1_parseNumber := by decide +kernel
  refine lv_aload_n hx hb dX1_parseNumber_0 rfl (lv_at hl 1 rfl) ?_
  refine lv_aload_n hx hb dX1_parseNumber_1 rfl (lv_at hl 0 rfl) ?_
  refine va_get (D := G.1) (ci := 3) (v := .int 0) (C := RX1) (T := TX1) (N := 7) hx hb hts hiX1 hown hK hP 0 rfl rfl 6 (by decide) (hts (.fieldLink RX1 31 "DialectDictionary$Commands" "cursor" "I") (by decide +kernel)) (fun _ h9 => h9) rfl dX1_parseNumber_2 ?_
  refine n_ci (wr := [(h0, .inr (3, [.ref k1, .ref k2, .ref k3, .ref k4, .ref k5, .int 0, .int 0]))]) (va_runV (As := [.int 0]) (rest := []) ⟨hx, hb, hml, hown, hts⟩ (mX7_signAt l G t0 sg fm le H.size) (cwV 1 hts gX1_parseNumber_X7_signAt rfl rfl rfl (by decide +kernel) ⟨(Nat.le_of_ble_eq_true rfl), (Nat.le_of_ble_eq_true rfl)⟩) (n_prV (ci := 8) (q0 := 1) hK hP hD [1] rfl (by decide) rfl rfl) rfl rfl hl.1 rfl (lv_room (Nat.le_of_ble_eq_true rfl)) dX1_parseNumber_5 ⟨(Nat.le_of_ble_eq_true rfl), (Nat.le_of_ble_eq_true rfl)⟩) hP hD hS hA [1] [0] rfl rfl (by decide) (by decide) (fun r_1 u_2 H locs hP hD hS hw => ?_)
  have hP : va_P G.1 vwCl [(h0, .inr (3, [.ref k1, .ref k2, .ref k3, .ref k4, .ref k5, .int 0, .int 0])), (t0, .inr (8, [.ref sg, .int 0, .long fm, .int le]))] H := hP
  have hD : va_D A [(h0, .inr (3, [.ref k1, .ref k2, .ref k3, .ref k4, .ref k5, .int 0, .int 0])), (t0, .inr (8, [.ref sg, .int 0, .long fm, .int le]))] := hD
  have hw : r_1 = 32 := hw
  subst hw
  refine n_ci (wr := [(h0, .inr (3, [.ref k1, .ref k2, .ref k3, .ref k4, .ref k5, .int 0, .int 0])), (t0, .inr (8, [.ref sg, .int 0, .long fm, .int le]))]) (va_runS (As := [.int 32]) (rest := []) ⟨hx, hb, hml, hown, hts⟩ (mX1_isDigit l G H.size) (va_cwS 1 hts gX1_parseNumber_X1_isDigit rfl rfl rfl (by decide +kernel) ⟨(Nat.le_of_ble_eq_true rfl), (Nat.le_of_ble_eq_true rfl)⟩) (n_prS hK hP hD [] rfl (by decide)) rfl rfl hl.1 rfl (lv_room (Nat.le_of_ble_eq_true rfl)) dX1_parseNumber_8 ⟨(Nat.le_of_ble_eq_true rfl), (Nat.le_of_ble_eq_true rfl)⟩) hP hD hS hA [] [0, 1] rfl rfl (by decide) (by decide) (fun r_3 u_4 H locs hP hD hS hw => ?_)
  have hP : va_P G.1 vwCl [(h0, .inr (3, [.ref k1, .ref k2, .ref k3, .ref k4, .ref k5, .int 0, .int 0])), (t0, .inr (8, [.ref sg, .int 0, .long fm, .int le]))] H := hP
  have hD : va_D A [(h0, .inr (3, [.ref k1, .ref k2, .ref k3, .ref k4, .ref k5, .int 0, .int 0])), (t0, .inr (8, [.ref sg, .int 0, .long fm, .int le]))] := hD
  have hw : r_3 = 0 := hw
  subst hw
  refine lv_if_ne (tgt := 16) hx hb dX1_parseNumber_11 (by decide) (fun h9 => absurd (by decide) h9) (fun _ => ?_)
  refine lv_iconst (v := -1) hx hb dX1_parseNumber_14 (by decide) ?_
  have hP9 := n_Psub (wc := [(h0, .inr (3, [.ref k1, .ref k2, .ref k3, .ref k4, .ref k5, .int 0, .int 0])), (t0, .inr (8, [.ref sg, .int 0, .long fm, .int le]))]) hP [0, 1] rfl
  have hD9 := hD.sub (ws' := [(h0, .inr (3, [.ref k1, .ref k2, .ref k3, .ref k4, .ref k5, .int 0, .int 0])), (t0, .inr (8, [.ref sg, .int 0, .long fm, .int le]))]) [0, 1] (by decide) rfl
  refine W.widen (k := 0) (n := 0) (Nat.le_of_ble_eq_true rfl) (Nat.le_of_ble_eq_true rfl) ?_
  exact W.iret (v := (-1)) hx hb hr (fun t ht hW => ⟨⟨(-1), (), rfl, rfl, by rw [ht]; exact hP9, va_K.moved hW.alike hK, hD9⟩, hS.F ht⟩) hS.2.2 dX1_parseNumber_15

set_option maxHeartbeats 4000000 in
set_option maxRecDepth 100000 in
theorem mX1_parseCommand (l : Launch) (G : nG) (h0 : Nat) (k1 : Nat) (k2 : Nat) (k3 : Nat) (k4 : Nat) (k5 : Nat) (kf2 : Nat → Int32) (kf3 : Nat → Int32) (t0 : Nat) (sg : Nat) (fm : Int64) (le : Int32) (sz : Nat) : Met l yX1_parseCommand wsX1_parseCommand ({ frames := 2, cells := 0, slots := 0, locals := 43 }) (va_Pc [.ref h0, .ref t0] (n_pp G [(h0, .inr (3, [.ref k1, .ref k2, .ref k3, .ref k4, .ref k5, .int 0, .int 0])), (k2, eI G 30 kf2), (k3, eI G 30 kf3), (t0, .inr (8, [.ref sg, .int 0, .long fm, .int le]))] sz)) (va_Qi (fun (r : Int32) (_ : Unit) => r = 0) (fun (_ : Unit) (t : State) => n_po G (va_A [(h0, .inr (3, [.ref k1, .ref k2, .ref k3, .ref k4, .ref k5, .int 0, .int 0])), (k2, eI G 30 kf2), (k3, eI G 30 kf3), (t0, .inr (8, [.ref sg, .int 0, .long fm, .int le]))] sz) [(h0, .inr (3, [.ref k1, .ref k2, .ref k3, .ref k4, .ref k5, .int 0, .int 0])), (t0, .inr (8, [.ref sg, .int 0, .long fm, .int le]))] t) (va_A [(h0, .inr (3, [.ref k1, .ref k2, .ref k3, .ref k4, .ref k5, .int 0, .int 0])), (k2, eI G 30 kf2), (k3, eI G 30 kf3), (t0, .inr (8, [.ref sg, .int 0, .long fm, .int le]))] sz)) 0 0 (va_A [(h0, .inr (3, [.ref k1, .ref k2, .ref k3, .ref k4, .ref k5, .int 0, .int 0])), (k2, eI G 30 kf2), (k3, eI G 30 kf3), (t0, .inr (8, [.ref sg, .int 0, .long fm, .int le]))] sz) := by
  refine Met.ofW (cc := cX1_parseCommand) (maxL := 2) (ret := (some .boolean)) (by decide) rfl ?_
  intro p e s m args below meth c s₁ B hml hv
  obtain ⟨rfl, hsz, hP, hK, hD0⟩ := hv
  have hx := B.exec
  have hb := B.bytes
  have hr := B.returns
  have hts := atoms_spec (ws := wsX1_parseCommand) B.pre
  have hown : s.vm.findClass RX1 = some m.cls := findClass_of_methodNamed B.named
  have hlocks := B.notSynchronized
  subst hsz
  have hD := hD0.self (sz := s.heap.size)
  generalize hAe : va_A [(h0, .inr (3, [.ref k1, .ref k2, .ref k3, .ref k4, .ref k5, .int 0, .int 0])), (k2, eI G 30 kf2), (k3, eI G 30 kf3), (t0, .inr (8, [.ref sg, .int 0, .long fm, .int le]))] s.heap.size = A at hD ⊢
  have hA : ∀ q : Nat, s.heap.size ≤ q → A q := fun q h => by rw [← hAe]; exact Or.inr h
  have hS : va_S A s.heap s.heap [] := va_S.rf
  have hP : va_P G.1 vwCl [(h0, .inr (3, [.ref k1, .ref k2, .ref k3, .ref k4, .ref k5, .int 0, .int 0])), (k2, eI G 30 kf2), (k3, eI G 30 kf3), (t0, .inr (8, [.ref sg, .int 0, .long fm, .int le]))] s.heap := hP
  have hl := lv_entry ([.ref h0, .ref t0]) (n := 2) (Nat.le_of_ble_eq_true rfl)
  rw [lg_entry_eq]
  generalize (lg_sl ([.ref h0, .ref t0]) ++ List.replicate (2 - (lg_sl ([.ref h0, .ref t0])).length) Slot.unset).toArray = ls at hl ⊢
  have hl : lv_has ls 2 [(0, .ref h0), (1, .ref t0)] := hl
  obtain ⟨H, hH⟩ : ∃ z, z = s.heap := ⟨_, rfl⟩
  have hS : va_S A s.heap H [] := by rw [hH]; exact hS
  have hP : va_P G.1 vwCl [(h0, .inr (3, [.ref k1, .ref k2, .ref k3, .ref k4, .ref k5, .int 0, .int 0])), (k2, eI G 30 kf2), (k3, eI G 30 kf3), (t0, .inr (8, [.ref sg, .int 0, .long fm, .int le]))] H := by rw [hH]; exact hP
  refine n_heap hH ?_
  generalize ([] : List Loc) = locs at hS ⊢
  have hiX1 : ∀ w ∈ u_ws RX1 TX1 7, w ∈ wsX1_parseCommand := by decide +kernel
  refine lv_aload_n hx hb dX1_parseCommand_0 rfl (lv_at hl 0 rfl) ?_
  refine va_get (D := G.1) (ci := 3) (v := .ref k2) (C := RX1) (T := TX1) (N := 7) hx hb hts hiX1 hown hK hP 0 rfl rfl 1 (by decide) (hts (.fieldLink RX1 15 "DialectDictionary$Commands" "headwords" "[I") (by decide +kernel)) (fun _ h9 => h9) rfl dX1_parseCommand_1 ?_
  refine lv_aload_n hx hb dX1_parseCommand_4 rfl (lv_at hl 0 rfl) ?_
  refine va_get (D := G.1) (ci := 3) (v := .int 0) (C := RX1) (T := TX1) (N := 7) hx hb hts hiX1 hown hK hP 0 rfl rfl 5 (by decide) (hts (.fieldLink RX1 27 "DialectDictionary$Commands" "count" "I") (by decide +kernel)) (fun _ h9 => h9) rfl dX1_parseCommand_5 ?_
  refine lv_iconst (v := -1) hx hb dX1_parseCommand_8 (by decide) ?_
  refine va_iast hx hb hK hP hD hS 1 0 rfl rfl (n_in (by decide)) dX1_parseCommand_9 (fun H locs hP hD hS => ?_)
  have hP : va_P G.1 vwCl [(h0, .inr (3, [.ref k1, .ref k2, .ref k3, .ref k4, .ref k5, .int 0, .int 0])), (k2, eI G 30 (upd kf2 ((0 : Int32).toNatClampNeg) (-1))), (k3, eI G 30 kf3), (t0, .inr (8, [.ref sg, .int 0, .long fm, .int le]))] H := hP
  have hD : va_D A [(h0, .inr (3, [.ref k1, .ref k2, .ref k3, .ref k4, .ref k5, .int 0, .int 0])), (k2, eI G 30 (upd kf2 ((0 : Int32).toNatClampNeg) (-1))), (k3, eI G 30 kf3), (t0, .inr (8, [.ref sg, .int 0, .long fm, .int le]))] := hD
  refine lv_aload_n hx hb dX1_parseCommand_10 rfl (lv_at hl 0 rfl) ?_
  refine va_get (D := G.1) (ci := 3) (v := .ref k3) (C := RX1) (T := TX1) (N := 7) hx hb hts hiX1 hown hK hP 0 rfl rfl 2 (by decide) (hts (.fieldLink RX1 18 "DialectDictionary$Commands" "others" "[I") (by decide +kernel)) (fun _ h9 => h9) rfl dX1_parseCommand_11 ?_
  refine lv_aload_n hx hb dX1_parseCommand_14 rfl (lv_at hl 0 rfl) ?_
  refine va_get (D := G.1) (ci := 3) (v := .int 0) (C := RX1) (T := TX1) (N := 7) hx hb hts hiX1 hown hK hP 0 rfl rfl 5 (by decide) (hts (.fieldLink RX1 27 "DialectDictionary$Commands" "count" "I") (by decide +kernel)) (fun _ h9 => h9) rfl dX1_parseCommand_15 ?_
  refine lv_iconst (v := -1) hx hb dX1_parseCommand_18 (by decide) ?_
  refine va_iast hx hb hK hP hD hS 2 0 rfl rfl (n_in (by decide)) dX1_parseCommand_19 (fun H locs hP hD hS => ?_)
  have hP : va_P G.1 vwCl [(h0, .inr (3, [.ref k1, .ref k2, .ref k3, .ref k4, .ref k5, .int 0, .int 0])), (k2, eI G 30 (upd kf2 ((0 : Int32).toNatClampNeg) (-1))), (k3, eI G 30 (upd kf3 ((0 : Int32).toNatClampNeg) (-1))), (t0, .inr (8, [.ref sg, .int 0, .long fm, .int le]))] H := hP
  have hD : va_D A [(h0, .inr (3, [.ref k1, .ref k2, .ref k3, .ref k4, .ref k5, .int 0, .int 0])), (k2, eI G 30 (upd kf2 ((0 : Int32).toNatClampNeg) (-1))), (k3, eI G 30 (upd kf3 ((0 : Int32).toNatClampNeg) (-1))), (t0, .inr (8, [.ref sg, .int 0, .long fm, .int le]))] := hD
  refine lv_aload_n hx hb dX1_parseCommand_20 rfl (lv_at hl 0 rfl) ?_
  refine lv_bipush (v := 43) hx hb dX1_parseCommand_21 (by decide) ?_
  refine lv_aload_n hx hb dX1_parseCommand_23 rfl (lv_at hl 1 rfl) ?_
  refine n_ci (wr := [(k2, eI G 30 (upd kf2 ((0 : Int32).toNatClampNeg) (-1))), (k3, eI G 30 (upd kf3 ((0 : Int32).toNatClampNeg) (-1)))]) (va_runV (As := [.int 43, .ref t0]) (rest := []) ⟨hx, hb, hml, hown, hts⟩ (mX1_take l G h0 k1 k2 k3 k4 k5 t0 sg fm le H.size) (cwV 2 hts gX1_parseCommand_X1_take rfl rfl rfl (by decide +kernel) ⟨(Nat.le_of_ble_eq_true rfl), (Nat.le_of_ble_eq_true rfl)⟩) (n_prV (ci := 3) (q0 := 0) hK hP hD [0, 3] rfl (by decide) rfl rfl) rfl rfl hl.1 rfl (lv_room (Nat.le_of_ble_eq_true rfl)) dX1_parseCommand_24 ⟨(Nat.le_of_ble_eq_true rfl), (Nat.le_of_ble_eq_true rfl)⟩) hP hD hS hA [0, 3] [1, 2] rfl rfl (by decide) (by decide) (fun r_1 u_2 H locs hP hD hS hw => ?_)
  have hP : va_P G.1 vwCl [(k2, eI G 30 (upd kf2 ((0 : Int32).toNatClampNeg) (-1))), (k3, eI G 30 (upd kf3 ((0 : Int32).toNatClampNeg) (-1))), (h0, .inr (3, [.ref k1, .ref k2, .ref k3, .ref k4, .ref k5, .int 0, .int 0])), (t0, .inr (8, [.ref sg, .int 0, .long fm, .int le]))] H := hP
  have hD : va_D A [(k2, eI G 30 (upd kf2 ((0 : Int32).toNatClampNeg) (-1))), (k3, eI G 30 (upd kf3 ((0 : Int32).toNatClampNeg) (-1))), (h0, .inr (3, [.ref k1, .ref k2, .ref k3, .ref k4, .ref k5, .int 0, .int 0])), (t0, .inr (8, [.ref sg, .int 0, .long fm, .int le]))] := hD
  have hw : r_1 = 0 := hw
  subst hw
  refine lv_if_eq (tgt := 46) hx hb dX1_parseCommand_27 (by decide) (fun _ => ?_) (fun h9 => absurd (by decide) h9)
  refine lv_aload_n hx hb dX1_parseCommand_46 rfl (lv_at hl 0 rfl) ?_
  refine va_get (D := G.1) (ci := 3) (v := .ref k2) (C := RX1) (T := TX1) (N := 7) hx hb hts hiX1 hown hK hP 2 rfl rfl 1 (by decide) (hts (.fieldLink RX1 15 "DialectDictionary$Commands" "headwords" "[I") (by decide +kernel)) (fun _ h9 => h9) rfl dX1_parseCommand_47 ?_
  refine lv_aload_n hx hb dX1_parseCommand_50 rfl (lv_at hl 0 rfl) ?_
  refine va_get (D := G.1) (ci := 3) (v := .int 0) (C := RX1) (T := TX1) (N := 7) hx hb hts hiX1 hown hK hP 2 rfl rfl 5 (by decide) (hts (.fieldLink RX1 27 "DialectDictionary$Commands" "count" "I") (by decide +kernel)) (fun _ h9 => h9) rfl dX1_parseCommand_51 ?_
  refine lv_aload_n hx hb dX1_parseCommand_54 rfl (lv_at hl 0 rfl) ?_
  refine lv_aload_n hx hb dX1_parseCommand_55 rfl (lv_at hl 1 rfl) ?_
  refine n_ci (wr := [(k2, eI G 30 (upd kf2 ((0 : Int32).toNatClampNeg) (-1))), (k3, eI G 30 (upd kf3 ((0 : Int32).toNatClampNeg) (-1)))]) (va_runV (As := [.ref t0]) (rest := [.int 0, .ref k2]) ⟨hx, hb, hml, hown, hts⟩ (mX1_parseNumber l G h0 k1 k2 k3 k4 k5 t0 sg fm le H.size) (cwV 1 hts gX1_parseCommand_X1_parseNumber rfl rfl rfl (by decide +kernel) ⟨(Nat.le_of_ble_eq_true rfl), (Nat.le_of_ble_eq_true rfl)⟩) (n_prV (ci := 3) (q0 := 2) hK hP hD [2, 3] rfl (by decide) rfl rfl) rfl rfl hl.1 rfl (lv_room (Nat.le_of_ble_eq_true rfl)) dX1_parseCommand_56 ⟨(Nat.le_of_ble_eq_true rfl), (Nat.le_of_ble_eq_true rfl)⟩) hP hD hS hA [2, 3] [0, 1] rfl rfl (by decide) (by decide) (fun r_3 u_4 H locs hP hD hS hw => ?_)
  have hP : va_P G.1 vwCl [(k2, eI G 30 (upd kf2 ((0 : Int32).toNatClampNeg) (-1))), (k3, eI G 30 (upd kf3 ((0 : Int32).toNatClampNeg) (-1))), (h0, .inr (3, [.ref k1, .ref k2, .ref k3, .ref k4, .ref k5, .int 0, .int 0])), (t0, .inr (8, [.ref sg, .int 0, .long fm, .int le]))] H := hP
  have hD : va_D A [(k2, eI G 30 (upd kf2 ((0 : Int32).toNatClampNeg) (-1))), (k3, eI G 30 (upd kf3 ((0 : Int32).toNatClampNeg) (-1))), (h0, .inr (3, [.ref k1, .ref k2, .ref k3, .ref k4, .ref k5, .int 0, .int 0])), (t0, .inr (8, [.ref sg, .int 0, .long fm, .int le]))] := hD
  have hw : r_3 = (-1) := hw
  subst hw
  refine va_iast hx hb hK hP hD hS 0 0 rfl rfl (n_in (by decide)) dX1_parseCommand_59 (fun H locs hP hD hS => ?_)
  have hP : va_P G.1 vwCl [(k2, eI G 30 (upd (upd kf2 ((0 : Int32).toNatClampNeg) (-1)) ((0 : Int32).toNatClampNeg) (-1))), (k3, eI G 30 (upd kf3 ((0 : Int32).toNatClampNeg) (-1))), (h0, .inr (3, [.ref k1, .ref k2, .ref k3, .ref k4, .ref k5, .int 0, .int 0])), (t0, .inr (8, [.ref sg, .int 0, .long fm, .int le]))] H := hP
  have hD : va_D A [(k2, eI G 30 (upd (upd kf2 ((0 : Int32).toNatClampNeg) (-1)) ((0 : Int32).toNatClampNeg) (-1))), (k3, eI G 30 (upd kf3 ((0 : Int32).toNatClampNeg) (-1))), (h0, .inr (3, [.ref k1, .ref k2, .ref k3, .ref k4, .ref k5, .int 0, .int 0])), (t0, .inr (8, [.ref sg, .int 0, .long fm, .int le]))] := hD
  refine lv_aload_n hx hb dX1_parseCommand_60 rfl (lv_at hl 0 rfl) ?_
  refine va_get (D := G.1) (ci := 3) (v := .ref k2) (C := RX1) (T := TX1) (N := 7) hx hb hts hiX1 hown hK hP 2 rfl rfl 1 (by decide) (hts (.fieldLink RX1 15 "DialectDictionary$Commands" "headwords" "[I") (by decide +kernel)) (fun _ h9 => h9) rfl dX1_parseCommand_61 ?_
  refine lv_aload_n hx hb dX1_parseCommand_64 rfl (lv_at hl 0 rfl) ?_
  refine va_get (D := G.1) (ci := 3) (v := .int 0) (C := RX1) (T := TX1) (N := 7) hx hb hts hiX1 hown hK hP 2 rfl rfl 5 (by decide) (hts (.fieldLink RX1 27 "DialectDictionary$Commands" "count" "I") (by decide +kernel)) (fun _ h9 => h9) rfl dX1_parseCommand_65 ?_
  refine va_iald hx hb hK hP 0 0 rfl rfl (n_in (by decide)) dX1_parseCommand_68 ?_
  refine n_eqi (y := (-1)) pk_us ?_
  refine lv_iconst (v := -1) hx hb dX1_parseCommand_69 (by decide) ?_
  refine lv_icmp_ne (tgt := 75) hx hb dX1_parseCommand_70 (by decide) (fun h9 => absurd (by decide) h9) (fun _ => ?_)
  refine lv_iconst (v := 0) hx hb dX1_parseCommand_73 (by decide) ?_
  have hP9 := n_Psub (wc := [(h0, .inr (3, [.ref k1, .ref k2, .ref k3, .ref k4, .ref k5, .int 0, .int 0])), (t0, .inr (8, [.ref sg, .int 0, .long fm, .int le]))]) hP [2, 3] rfl
  have hD9 := hD.sub (ws' := [(h0, .inr (3, [.ref k1, .ref k2, .ref k3, .ref k4, .ref k5, .int 0, .int 0])), (t0, .inr (8, [.ref sg, .int 0, .long fm, .int le]))]) [2, 3] (by decide) rfl
  refine W.widen (k := 0) (n := 0) (Nat.le_of_ble_eq_true rfl) (Nat.le_of_ble_eq_true rfl) ?_
  exact W.zret (v := 0) (ty := .boolean) hx hb hr rfl (fun t ht hW => ⟨⟨0, (), rfl, rfl, by rw [ht]; exact hP9, va_K.moved hW.alike hK, hD9⟩, hS.F ht⟩) hS.2.2 dX1_parseCommand_74

set_option maxHeartbeats 4000000 in
set_option maxRecDepth 100000 in
theorem mX1_parse (l : Launch) (G : nG) (h0 : Nat) (k1 : Nat) (k2 : Nat) (k3 : Nat) (k4 : Nat) (k5 : Nat) (kf2 : Nat → Int32) (kf3 : Nat → Int32) (t0 : Nat) (sg : Nat) (fm : Int64) (le : Int32) (sz : Nat) : Met l yX1_parse wsX1_parse ({ frames := 3, cells := 0, slots := 0, locals := 64 }) (va_Pc [.ref h0, .ref t0] (n_pp G [(h0, .inr (3, [.ref k1, .ref k2, .ref k3, .ref k4, .ref k5, .int 0, .int 0])), (k2, eI G 30 kf2), (k3, eI G 30 kf3), (t0, .inr (8, [.ref sg, .int 0, .long fm, .int le]))] sz)) (va_Qi (fun (r : Int32) (_ : Unit) => r = 0) (fun (_ : Unit) (t : State) => n_po G (va_A [(h0, .inr (3, [.ref k1, .ref k2, .ref k3, .ref k4, .ref k5, .int 0, .int 0])), (k2, eI G 30 kf2), (k3, eI G 30 kf3), (t0, .inr (8, [.ref sg, .int 0, .long fm, .int le]))] sz) [(h0, .inr (3, [.ref k1, .ref k2, .ref k3, .ref k4, .ref k5, .int 0, .int 0])), (t0, .inr (8, [.ref sg, .int 0, .long fm, .int le]))] t) (va_A [(h0, .inr (3, [.ref k1, .ref k2, .ref k3, .ref k4, .ref k5, .int 0, .int 0])), (k2, eI G 30 kf2), (k3, eI G 30 kf3), (t0, .inr (8, [.ref sg, .int 0, .long fm, .int le]))] sz)) 0 0 (va_A [(h0, .inr (3, [.ref k1, .ref k2, .ref k3, .ref k4, .ref k5, .int 0, .int 0])), (k2, eI G 30 kf2), (k3, eI G 30 kf3), (t0, .inr (8, [.ref sg, .int 0, .long fm, .int le]))] sz) := by
  refine Met.ofW (cc := cX1_parse) (maxL := 3) (ret := (some .boolean)) (by decide) rfl ?_
  intro p e s m args below meth c s₁ B hml hv
  obtain ⟨rfl, hsz, hP, hK, hD0⟩ := hv
  have hx := B.exec
  have hb := B.bytes
  have hr := B.returns
  have hts := atoms_spec (ws := wsX1_parse) B.pre
  have hown : s.vm.findClass RX1 = some m.cls := findClass_of_methodNamed B.named
  have hlocks := B.notSynchronized
  subst hsz
  have hD := hD0.self (sz := s.heap.size)
  generalize hAe : va_A [(h0, .inr (3, [.ref k1, .ref k2, .ref k3, .ref k4, .ref k5, .int 0, .int 0])), (k2, eI G 30 kf2), (k3, eI G 30 kf3), (t0, .inr (8, [.ref sg, .int 0, .long fm, .int le]))] s.heap.size = A at hD ⊢
  have hA : ∀ q : Nat, s.heap.size ≤ q → A q := fun q h => by rw [← hAe]; exact Or.inr h
  have hS : va_S A s.heap s.heap [] := va_S.rf
  have hP : va_P G.1 vwCl [(h0, .inr (3, [.ref k1, .ref k2, .ref k3, .ref k4, .ref k5, .int 0, .int 0])), (k2, eI G 30 kf2), (k3, eI G 30 kf3), (t0, .inr (8, [.ref sg, .int 0, .long fm, .int le]))] s.heap := hP
  have hl := lv_entry ([.ref h0, .ref t0]) (n := 3) (Nat.le_of_ble_eq_true rfl)
  rw [lg_entry_eq]
  generalize (lg_sl ([.ref h0, .ref t0]) ++ List.replicate (3 - (lg_sl ([.ref h0, .ref t0])).length) Slot.unset).toArray = ls at hl ⊢
  have hl : lv_has ls 3 [(0, .ref h0), (1, .ref t0)] := hl
  obtain ⟨H, hH⟩ : ∃ z, z = s.heap := ⟨_, rfl⟩
  have hS : va_S A s.heap H [] := by rw [hH]; exact hS
  have hP : va_P G.1 vwCl [(h0, .inr (3, [.ref k1, .ref k2, .ref k3, .ref k4, .ref k5, .int 0, .int 0])), (k2, eI G 30 kf2), (k3, eI G 30 kf3), (t0, .inr (8, [.ref sg, .int 0, .long fm, .int le]))] H := by rw [hH]; exact hP
  refine n_heap hH ?_
  generalize ([] : List Loc) = locs at hS ⊢
  have hiX1 : ∀ w ∈ u_ws RX1 TX1 7, w ∈ wsX1_parse := by decide +kernel
  refine lv_aload_n hx hb dX1_parse_0 rfl (lv_at hl 0 rfl) ?_
  refine lv_iconst (v := 0) hx hb dX1_parse_1 (by decide) ?_
  refine va_put (D := G.1) (ci := 3) (v := .int 0) (ty := .int) (C := RX1) (T := TX1) (N := 7) hx hb hts hiX1 tyX1 tyX1_ok nmX1 hown hK hP hD hS 0 rfl rfl 5 (by decide) (hts (.fieldLink RX1 27 "DialectDictionary$Commands" "count" "I") (by decide +kernel)) (fun _ h9 => h9) rfl (by decide +kernel) rfl rfl (Nat.le_of_ble_eq_true rfl) dX1_parse_2 (fun H locs hP hD hS => ?_)
  have hP : va_P G.1 vwCl [(h0, .inr (3, [.ref k1, .ref k2, .ref k3, .ref k4, .ref k5, .int 0, .int 0])), (k2, eI G 30 kf2), (k3, eI G 30 kf3), (t0, .inr (8, [.ref sg, .int 0, .long fm, .int le]))] H := hP
  have hD : va_D A [(h0, .inr (3, [.ref k1, .ref k2, .ref k3, .ref k4, .ref k5, .int 0, .int 0])), (k2, eI G 30 kf2), (k3, eI G 30 kf3), (t0, .inr (8, [.ref sg, .int 0, .long fm, .int le]))] := hD
  refine lv_aload_n hx hb dX1_parse_5 rfl (lv_at hl 0 rfl) ?_
  refine lv_iconst (v := 0) hx hb dX1_parse_6 (by decide) ?_
  refine va_put (D := G.1) (ci := 3) (v := .int 0) (ty := .int) (C := RX1) (T := TX1) (N := 7) hx hb hts hiX1 tyX1 tyX1_ok nmX1 hown hK hP hD hS 0 rfl rfl 6 (by decide) (hts (.fieldLink RX1 31 "DialectDictionary$Commands" "cursor" "I") (by decide +kernel)) (fun _ h9 => h9) rfl (by decide +kernel) rfl rfl (Nat.le_of_ble_eq_true rfl) dX1_parse_7 (fun H locs hP hD hS => ?_)
  have hP : va_P G.1 vwCl [(h0, .inr (3, [.ref k1, .ref k2, .ref k3, .ref k4, .ref k5, .int 0, .int 0])), (k2, eI G 30 kf2), (k3, eI G 30 kf3), (t0, .inr (8, [.ref sg, .int 0, .long fm, .int le]))] H := hP
  have hD : va_D A [(h0, .inr (3, [.ref k1, .ref k2, .ref k3, .ref k4, .ref k5, .int 0, .int 0])), (k2, eI G 30 kf2), (k3, eI G 30 kf3), (t0, .inr (8, [.ref sg, .int 0, .long fm, .int le]))] := hD
  refine lv_iconst (v := 1) hx hb dX1_parse_10 (by decide) ?_
  refine lv_istore_n (lv' := [(2, .int 1), (0, .ref h0), (1, .ref t0)]) hx hb dX1_parse_11 rfl hl (by decide) rfl (fun ls hl => ?_)
  refine lv_iload_n hx hb dX1_parse_12 rfl (lv_at hl 0 rfl) ?_
  refine lv_if_eq (tgt := 56) hx hb dX1_parse_13 (by decide) (fun h9 => absurd h9 (by decide)) (fun _ => ?_)
  refine lv_aload_n hx hb dX1_parse_16 rfl (lv_at hl 1 rfl) ?_
  refine va_get (D := G.1) (ci := 3) (v := .int 0) (C := RX1) (T := TX1) (N := 7) hx hb hts hiX1 hown hK hP 0 rfl rfl 5 (by decide) (hts (.fieldLink RX1 27 "DialectDictionary$Commands" "count" "I") (by decide +kernel)) (fun _ h9 => h9) rfl dX1_parse_17 ?_
  refine lv_bipush (v := 30) hx hb dX1_parse_20 (by decide) ?_
  refine lv_icmp_ge (tgt := 56) hx hb dX1_parse_22 (by decide) (fun h9 => absurd h9 (by decide)) (fun _ => ?_)
  refine lv_aload_n hx hb dX1_parse_25 rfl (lv_at hl 1 rfl) ?_
  refine lv_aload_n hx hb dX1_parse_26 rfl (lv_at hl 2 rfl) ?_
  refine n_ci (wr := []) (va_runV (As := [.ref t0]) (rest := []) ⟨hx, hb, hml, hown, hts⟩ (mX1_parseCommand l G h0 k1 k2 k3 k4 k5 kf2 kf3 t0 sg fm le H.size) (cwV 1 hts gX1_parse_X1_parseCommand rfl rfl rfl (by decide +kernel) ⟨(Nat.le_of_ble_eq_true rfl), (Nat.le_of_ble_eq_true rfl)⟩) (n_prV (ci := 3) (q0 := 0) hK hP hD [0, 1, 2, 3] rfl (by decide) rfl rfl) rfl rfl hl.1 rfl (lv_room (Nat.le_of_ble_eq_true rfl)) dX1_parse_27 ⟨(Nat.le_of_ble_eq_true rfl), (Nat.le_of_ble_eq_true rfl)⟩) hP hD hS hA [0, 1, 2, 3] [] rfl rfl (by decide) (by decide) (fun r_1 u_2 H locs hP hD hS hw => ?_)
  have hP : va_P G.1 vwCl [(h0, .inr (3, [.ref k1, .ref k2, .ref k3, .ref k4, .ref k5, .int 0, .int 0])), (t0, .inr (8, [.ref sg, .int 0, .long fm, .int le]))] H := hP
  have hD : va_D A [(h0, .inr (3, [.ref k1, .ref k2, .ref k3, .ref k4, .ref k5, .int 0, .int 0])), (t0, .inr (8, [.ref sg, .int 0, .long fm, .int le]))] := hD
  have hw : r_1 = 0 := hw
  subst hw
  refine lv_if_ne (tgt := 35) hx hb dX1_parse_30 (by decide) (fun h9 => absurd (by decide) h9) (fun _ => ?_)
  refine lv_iconst (v := 0) hx hb dX1_parse_33 (by decide) ?_
  have hP9 := n_Psub (wc := [(h0, .inr (3, [.ref k1, .ref k2, .ref k3, .ref k4, .ref k5, .int 0, .int 0])), (t0, .inr (8, [.ref sg, .int 0, .long fm, .int le]))]) hP [0, 1] rfl
  have hD9 := hD.sub (ws' := [(h0, .inr (3, [.ref k1, .ref k2, .ref k3, .ref k4, .ref k5, .int 0, .int 0])), (t0, .inr (8, [.ref sg, .int 0, .long fm, .int le]))]) [0, 1] (by decide) rfl
  refine W.widen (k := 0) (n := 0) (Nat.le_of_ble_eq_true rfl) (Nat.le_of_ble_eq_true rfl) ?_
  exact W.zret (v := 0) (ty := .boolean) hx hb hr rfl (fun t ht hW => ⟨⟨0, (), rfl, rfl, by rw [ht]; exact hP9, va_K.moved hW.alike hK, hD9⟩, hS.F ht⟩) hS.2.2 dX1_parse_34
