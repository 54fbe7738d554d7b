abbrev vwCl : List vw_C := [(RJ0, TJ0, 2), (RJx00060, TJx00060, 6), (RX0, TX0, 4), (RX1, TX1, 7), (RX2, TX2, 3), (RX3, TX3, 3), (RX5, TX5, 3), (RX6, TX6, 3), (RX7, TX7, 4), (RX8, TX8, 2), (RX9, TX9, 3), (RX10, TX10, 5), (RX11, TX11, 9), (RX12, TX12, 27)]
/-! one call on fresh objects: the world's words, and calls by them -/
abbrev nG : Type := va_G × (Nat → ClassId)
abbrev n_ty (G : nG) : List (ClassId × FieldType) := [(G.2 0, .int), (G.2 1, .char), (G.2 2, .long), (G.2 3, .double), (G.2 4, .object RX3), (G.2 5, .object RX5)]
abbrev eI (G : nG) (n : Nat) (f : Nat → Int32) : va_E := .inl (G.2 0, n, .inl f)
abbrev eC (G : nG) (n : Nat) (f : Nat → Int32) : va_E := .inl (G.2 1, n, .inl f)
abbrev eJ (G : nG) (n : Nat) (f : Nat → Int64) : va_E := .inl (G.2 2, n, .inr (.inl f))
abbrev eW (G : nG) (n : Nat) (f : Nat → UInt64) : va_E := .inl (G.2 3, n, .inr (.inr (.inr (.inl f))))
abbrev eR (G : nG) (n : Nat) (f : Nat → Option Nat) : va_E := .inl (G.2 4, n, .inr (.inr (.inr (.inr f))))
abbrev eH (G : nG) (n : Nat) (f : Nat → Option Nat) : va_E := .inl (G.2 5, n, .inr (.inr (.inr (.inr f))))
abbrev n_pp (G : nG) (ws : va_W) (sz : Nat) (U : State) : Prop := U.heap.size = sz ∧ va_P G.1 vwCl ws U.heap ∧ va_K G.1 vwCl (n_ty G) U ∧ va_D (fun _ => True) ws
abbrev n_po (G : nG) (A : Nat → Prop) (ws : va_W) (t : State) : Prop := va_P G.1 vwCl ws t.heap ∧ va_K G.1 vwCl (n_ty G) t ∧ va_D A ws
def nStr : List (Nat × String) := [(68, "the input buffer is full"), (97, "no new letter of two characters from a to z"), (105, "no such place for a letter"), (109, "all letters of two characters were added"), (165, "making the headword is refused"), (179, "adding the variant is refused"), (203, "renaming the headword is refused"), (224, "joining the headwords is refused"), (237, "no headword has this form"), (256, "a headword has no such number"), (272, "no such place in the order"), (281, "the reference is refused"), (287, "one does not arrive at the other headword"), (295, "no such condition"), (302, "there are all rules that can be"), (339, "a rule has no such number"), (345, "no such place in the derivation"), (348, "no such place behind the first in the derivation"), (356, "the second form does not come from the first one"), (361, "no such level of a report"), (382, "no such account"), (386, "there are no forms"), (389, "there are no headwords"), (408, "a command is refused"), (412, "there is no change to take back"), (417, "nothing was saved"), (421, "no such place in the alphabet"), (426, "no such headword"), (431, "the headword has no such form"), (433, "the main form is no variant"), (438, "no such rule"), (445, "the form has no such letter")]
def nExc : List String := ["java/lang/IllegalStateException", "java/lang/IllegalArgumentException", "java/lang/IndexOutOfBoundsException", "java/lang/UnsupportedOperationException", "java/util/NoSuchElementException", "java/lang/ArithmeticException"]
def nNot : List (String × String) := [("java/lang/IndexOutOfBoundsException", "java/lang/IllegalArgumentException"), ("java/lang/IllegalArgumentException", "java/lang/IndexOutOfBoundsException")]
/-- what the tables say of texts, of exceptions, of rows of objects -/
def nDcl : List MethodName := [Bundle.initS "java/lang/RuntimeException", Bundle.initS "java/lang/Exception", Bundle.initS Bundle.tN]
def n_ev (U : State) : Prop := (∀ q ∈ nStr, ∃ sa, vk_R RX11 q.1 q.2 sa U) ∧ (∀ E ∈ nExc, va_Nw (.castable E E) U) ∧ (∀ q ∈ nNot, va_Nc q.1 q.2 U) ∧ va_AO RX3 U ∧ va_AO RX5 U ∧ ∀ y ∈ nDcl, va_Nw (.declares y) U
theorem n_dcl {y : MethodName} {s U : State} (hW : s.WarmedH U.vm) (hZ : va_Nw (.declares y) s) : va_Nw (.declares y) U := va_tabs rfl (rfl : (s.setVm U.vm).vm = U.vm) (by rw [Cond.declares_setVm hW.alike]; exact hZ)
theorem n_ev.warm {s U : State} (hW : s.WarmedH U.vm) (h : n_ev s) : n_ev U := by
  obtain ⟨h1, h2, h3, h4, h5, h6⟩ := h
  refine ⟨fun q hq => ?_, fun E hE => va_Nw.warmC hW (h2 E hE), fun q hq => ?_, va_AO.moved hW.alike h4, va_AO.moved hW.alike h5, fun y hy => n_dcl hW (h6 y hy)⟩
  · obtain ⟨sa, h⟩ := h1 q hq
    exact ⟨sa, vk_R.warm hW h⟩
  · exact va_Nc.moved hW.alike (h3 q hq)
/-- .. and where Throwable's two statics lie -/
def n_ex (A : Nat → Prop) (U : State) (H : Heap) : Prop := n_ev U ∧ vx_Zq Bundle.tN "UNASSIGNED_STACK" Bundle.steD A U H ∧ vx_Zq Bundle.tN "SUPPRESSED_SENTINEL" Bundle.listD A U H
theorem n_ex.on {A B : Nat → Prop} {s U : State} {H : Heap} {locs : List Loc} (h : n_ex A s s.heap) (hS : va_S A s.heap H locs) (hAB : ∀ q, B q → A q) (hW : s.WarmedH U.vm) (hU : U.heap = H) : n_ex B U U.heap := by
  obtain ⟨h1, h2, h3⟩ := h
  rw [hU]
  exact ⟨n_ev.warm hW h1, vx_Zq.moved hW.alike ((h2.kept hS.2.1).narrow hAB), vx_Zq.moved hW.alike ((h3.kept hS.2.1).narrow hAB)⟩
abbrev n_px (G : nG) (ws : va_W) (sz : Nat) (U : State) : Prop := n_pp G ws sz U ∧ n_ex (va_A ws sz) U U.heap
abbrev n_pe (G : nG) (ws : va_W) (sz : Nat) (U : State) : Prop := n_pp G ws sz U ∧ n_ev U
theorem n_bl {G : nG} {ws : va_W} {sz : Nat} {av : List Value} : FrameBlind (va_Pc av (n_pp G ws sz)) := fun a U g mk q => by
  obtain ⟨q0, q1, qP, qK, qD⟩ := q
  exact ⟨q0, q1, qP, va_K.moved (u := U) (U := U.calling g mk a) (Vm.Alike.refl U.vm) qK, qD⟩
theorem n_ble {G : nG} {ws : va_W} {sz : Nat} {av : List Value} : FrameBlind (va_Pc av (n_pe G ws sz)) := fun a U g mk q => by
  obtain ⟨q0, ⟨q1, qP, qK, qD⟩, qe⟩ := q
  exact ⟨q0, ⟨q1, qP, va_K.moved (u := U) (U := U.calling g mk a) (Vm.Alike.refl U.vm) qK, qD⟩, n_ev.warm (s := U) (U := U.calling g mk a) (State.WarmedH.refl U) qe⟩
theorem n_blx {G : nG} {ws : va_W} {sz : Nat} {av : List Value} : FrameBlind (va_Pc av (n_px G ws sz)) := fun a U g mk q => by
  obtain ⟨q0, ⟨q1, qP, qK, qD⟩, qe, qU, qN⟩ := q
  exact ⟨q0, ⟨q1, qP, va_K.moved (u := U) (U := U.calling g mk a) (Vm.Alike.refl U.vm) qK, qD⟩, n_ev.warm (s := U) (U := U.calling g mk a) (State.WarmedH.refl U) qe, vx_Zq.moved (u := U) (U := U.calling g mk a) (Vm.Alike.refl U.vm) qU, vx_Zq.moved (u := U) (U := U.calling g mk a) (Vm.Alike.refl U.vm) qN⟩
theorem n_at {ws wc : va_W} {is : List Nat} (hs : is.map (fun i => ws[i]?) = wc.map some) (k : Nat) (q : Nat × va_E) (hq : wc[k]? = some q) : ∃ i, is[k]? = some i ∧ ws[i]? = some q := by
  have h1 : (is.map (fun i => ws[i]?))[k]? = some (some q) := by rw [hs, List.getElem?_map, hq]; rfl
  rw [List.getElem?_map] at h1
  cases hi : is[k]? with
  | none => rw [hi] at h1; cases h1
  | some i => rw [hi] at h1; exact ⟨i, rfl, Option.some.inj h1⟩
theorem n_Psub {D : va_G} {cl : List vw_C} {ws wc : va_W} {H : Heap} (h : va_P D cl ws H) (is : List Nat) (hs : is.map (fun i => ws[i]?) = wc.map some) : va_P D cl wc H := fun k q hq => by
  obtain ⟨i, -, h2⟩ := n_at hs k q hq
  exact h i q h2
section NP
variable {s : State} {G : nG} {ws wc : va_W} {H : Heap} {A : Nat → Prop} {locs : List Loc}
theorem n_prS {As : List Value} (hK : va_K G.1 vwCl (n_ty G) s) (hP : va_P G.1 vwCl ws H) (hD : va_D A ws) (is : List Nat) (hs : is.map (fun i => ws[i]?) = wc.map some) (hn : va_nd is = true) : PreS s H (va_Pc As (n_pp G wc H.size)) As :=
  ⟨n_bl, fun U hU hW => ⟨rfl, by rw [hU], by rw [hU]; exact n_Psub hP is hs, va_K.moved hW.alike hK, (hD.sub is hn hs).weaken (fun _ _ _ _ => trivial)⟩⟩
theorem n_prE {As : List Value} (hK : va_K G.1 vwCl (n_ty G) s) (hP : va_P G.1 vwCl ws H) (hD : va_D A ws) (is : List Nat) (hs : is.map (fun i => ws[i]?) = wc.map some) (hn : va_nd is = true) (he : n_ev s) : PreS s H (va_Pc As (n_pe G wc H.size)) As :=
  ⟨n_ble, fun U hU hW => ⟨rfl, ⟨by rw [hU], by rw [hU]; exact n_Psub hP is hs, va_K.moved hW.alike hK, (hD.sub is hn hs).weaken (fun _ _ _ _ => trivial)⟩, n_ev.warm hW he⟩⟩
theorem n_prX {As : List Value} (hK : va_K G.1 vwCl (n_ty G) s) (hP : va_P G.1 vwCl ws H) (hD : va_D A ws) (hS : va_S A s.heap H locs) (hA : ∀ q, s.heap.size ≤ q → A q) (is : List Nat) (hs : is.map (fun i => ws[i]?) = wc.map some) (hn : va_nd is = true) (he : n_ex A s s.heap) : PreS s H (va_Pc As (n_px G wc H.size)) As :=
  ⟨n_blx, fun U hU hW => ⟨rfl, ⟨by rw [hU], by rw [hU]; exact n_Psub hP is hs, va_K.moved hW.alike hK, (hD.sub is hn hs).weaken (fun _ _ _ _ => trivial)⟩, he.on hS (va_free hD hS hA is hs) hW hU⟩⟩
theorem n_prV {As : List Value} {b ci q0 : Nat} {q : vw_C} {fs : List Value} (hK : va_K G.1 vwCl (n_ty G) s) (hP : va_P G.1 vwCl ws H) (hD : va_D A ws) (is : List Nat) (hs : is.map (fun i => ws[i]?) = wc.map some) (hn : va_nd is = true) (hc : vwCl[ci]? = some q) (h0 : ws[q0]? = some (b, .inr (ci, fs))) : PreV s H q.1 b (va_Pc (.ref b :: As) (n_pp G wc H.size)) As :=
  ⟨n_bl, va_recv hK hP hc h0, (n_prS (As := .ref b :: As) hK hP hD is hs hn).2⟩
theorem n_prVX {As : List Value} {b ci q0 : Nat} {q : vw_C} {fs : List Value} (hK : va_K G.1 vwCl (n_ty G) s) (hP : va_P G.1 vwCl ws H) (hD : va_D A ws) (hS : va_S A s.heap H locs) (hA : ∀ q, s.heap.size ≤ q → A q) (is : List Nat) (hs : is.map (fun i => ws[i]?) = wc.map some) (hn : va_nd is = true) (hc : vwCl[ci]? = some q) (h0 : ws[q0]? = some (b, .inr (ci, fs))) (he : n_ex A s s.heap) : PreV s H q.1 b (va_Pc (.ref b :: As) (n_px G wc H.size)) As :=
  ⟨n_blx, va_recv hK hP hc h0, (n_prX (As := .ref b :: As) hK hP hD hS hA is hs hn he).2⟩
end NP
section NC
variable {p : Program} {l : Launch} {e : Env} {R : Room} {s : State} {m : MethodId} {args : Array Value} {below : List Frame} {meth : Method} {c : Code} {H : Heap} {locs : List Loc} {cells slots : Nat} {Q : State → Prop}
variable {pc : Nat} {ls : Array Slot} {rest st0 : List Value} {a : Array Value} {A : Nat → Prop} {H0 : Heap} {mc ms : Nat} {G : nG} {ws wc wr : va_W}
theorem n_ci {S : Type} {post : Int32 → S → Prop} {wq : S → va_W} (hr : va_Run p l e R s m args below meth c H locs cells slots mc ms (F0 m pc ls st0) rest (va_Qi post (fun u t => n_po G (va_A wc H.size) (wq u) t) (va_A wc H.size) a) (va_A wc H.size)) (hP : va_P G.1 vwCl ws H) (hD : va_D A ws) (hS : va_S A H0 H locs) (hA : ∀ q, H0.size ≤ q → A q) (isC isR : List Nat) (hC : isC.map (fun i => ws[i]?) = wc.map some) (hR : isR.map (fun i => ws[i]?) = wr.map some) (hn : va_nd isR = true) (hdis : ∀ i ∈ isR, i ∉ isC)
    (kk : ∀ (r : Int32) (u : S) (H1 : Heap) (locs1 : List Loc), va_P G.1 vwCl (wr ++ wq u) H1 → va_D A (wr ++ wq u) → va_S A H0 H1 locs1 → post r u → W p l e R s m args below meth c H1 locs1 (cells + mc) (slots + ms) Q (F0 m (pc + 3) ls (.int r :: rest))) : W p l e R s m args below meth c H locs cells slots Q (F0 m pc ls st0) := by
  have hFc := va_free (wc := wc) hD hS hA isC hC
  refine va_calli hr hS (fun q _ h => hFc q h) hFc (fun r u t H1 locs1 ht hvm hw hB hz1 hk1 hS1 => ?_)
  obtain ⟨hP1, hK1, hD1⟩ := hB
  rw [ht] at hP1
  obtain ⟨hP2, hD2⟩ := va_join hP hD isC isR hC hR hn hdis hk1 hFc hP1 hD1
  exact kk r u H1 locs1 hP2 hD2 hS1 hw
theorem n_xi {S : Type} {post : Int32 → S → Prop} {wq : S → va_W} {px : String → Prop} (hr : vx_Run p l e R s m args below meth c H locs cells slots mc ms (F0 m pc ls st0) rest (va_Qi post (fun u t => n_po G (va_A wc H.size) (wq u) t) (va_A wc H.size) a) (vx_X (fun _ : Unit => True) (fun E _ _ => px E) (va_A wc H.size)) (va_A wc H.size)) (hP : va_P G.1 vwCl ws H) (hD : va_D A ws) (hS : va_S A H0 H locs) (hA : ∀ q, H0.size ≤ q → A q) (isC isR : List Nat) (hC : isC.map (fun i => ws[i]?) = wc.map some) (hR : isR.map (fun i => ws[i]?) = wr.map some) (hn : va_nd isR = true) (hdis : ∀ i ∈ isR, i ∉ isC)
    (kx : ∀ (E : String) (ce : Cell) (q9 : Addr) (H1 : Heap) (locs1 : List Loc), va_P G.1 vwCl wr H1 → va_D A wr → va_S A H0 H1 locs1 → px E → H1[q9]? = some ce → ce.vm = .none → s.vm.findClass E = some ce.cls → vx_W p l e R s m args below meth c H1 locs1 (cells + mc) (slots + ms) Q (F0 m pc ls rest) q9)
    (kk : ∀ (r : Int32) (u : S) (H1 : Heap) (locs1 : List Loc), va_P G.1 vwCl (wr ++ wq u) H1 → va_D A (wr ++ wq u) → va_S A H0 H1 locs1 → post r u → W p l e R s m args below meth c H1 locs1 (cells + mc) (slots + ms) Q (F0 m (pc + 3) ls (.int r :: rest))) : W p l e R s m args below meth c H locs cells slots Q (F0 m pc ls st0) := by
  have hFc := va_free (wc := wc) hD hS hA isC hC
  refine vx_calli hr hS (fun q _ h => hFc q h) hFc (fun q _ h => hFc q h) (fun E ce q9 u t H1 locs1 ht hvm hp hB hz1 hk1 hS1 hce hcv hcl => ?_) (fun r u t H1 locs1 ht hvm hw hB hz1 hk1 hS1 => ?_)
  · have hP0 : va_P G.1 vwCl ([] : va_W) H1 := fun k q h => by simp at h
    have hD0 : va_D (va_A wc H.size) ([] : va_W) := ⟨fun i j p q h => by simp at h, fun k q h => by simp at h⟩
    obtain ⟨hP2, hD2⟩ := va_join hP hD isC isR hC hR hn hdis hk1 hFc hP0 hD0
    rw [List.append_nil] at hP2 hD2
    exact kx E ce q9 H1 locs1 hP2 hD2 hS1 hB hce hcv hcl
  · obtain ⟨hP1, hK1, hD1⟩ := hB
    rw [ht] at hP1
    obtain ⟨hP2, hD2⟩ := va_join hP hD isC isR hC hR hn hdis hk1 hFc hP1 hD1
    exact kk r u H1 locs1 hP2 hD2 hS1 hw
theorem n_cl {S : Type} {post : Int64 → S → Prop} {wq : S → va_W} (hr : va_Run p l e R s m args below meth c H locs cells slots mc ms (F0 m pc ls st0) rest (va_Ql post (fun u t => n_po G (va_A wc H.size) (wq u) t) (va_A wc H.size) a) (va_A wc H.size)) (hP : va_P G.1 vwCl ws H) (hD : va_D A ws) (hS : va_S A H0 H locs) (hA : ∀ q, H0.size ≤ q → A q) (isC isR : List Nat) (hC : isC.map (fun i => ws[i]?) = wc.map some) (hR : isR.map (fun i => ws[i]?) = wr.map some) (hn : va_nd isR = true) (hdis : ∀ i ∈ isR, i ∉ isC)
    (kk : ∀ (r : Int64) (u : S) (H1 : Heap) (locs1 : List Loc), va_P G.1 vwCl (wr ++ wq u) H1 → va_D A (wr ++ wq u) → va_S A H0 H1 locs1 → post r u → W p l e R s m args below meth c H1 locs1 (cells + mc) (slots + ms) Q (F0 m (pc + 3) ls (.long r :: rest))) : W p l e R s m args below meth c H locs cells slots Q (F0 m pc ls st0) := by
  have hFc := va_free (wc := wc) hD hS hA isC hC
  refine va_calll hr hS (fun q _ h => hFc q h) hFc (fun r u t H1 locs1 ht hvm hw hB hz1 hk1 hS1 => ?_)
  obtain ⟨hP1, hK1, hD1⟩ := hB
  rw [ht] at hP1
  obtain ⟨hP2, hD2⟩ := va_join hP hD isC isR hC hR hn hdis hk1 hFc hP1 hD1
  exact kk r u H1 locs1 hP2 hD2 hS1 hw
theorem n_xl {S : Type} {post : Int64 → S → Prop} {wq : S → va_W} {px : String → Prop} (hr : vx_Run p l e R s m args below meth c H locs cells slots mc ms (F0 m pc ls st0) rest (va_Ql post (fun u t => n_po G (va_A wc H.size) (wq u) t) (va_A wc H.size) a) (vx_X (fun _ : Unit => True) (fun E _ _ => px E) (va_A wc H.size)) (va_A wc H.size)) (hP : va_P G.1 vwCl ws H) (hD : va_D A ws) (hS : va_S A H0 H locs) (hA : ∀ q, H0.size ≤ q → A q) (isC isR : List Nat) (hC : isC.map (fun i => ws[i]?) = wc.map some) (hR : isR.map (fun i => ws[i]?) = wr.map some) (hn : va_nd isR = true) (hdis : ∀ i ∈ isR, i ∉ isC)
    (kx : ∀ (E : String) (ce : Cell) (q9 : Addr) (H1 : Heap) (locs1 : List Loc), va_P G.1 vwCl wr H1 → va_D A wr → va_S A H0 H1 locs1 → px E → H1[q9]? = some ce → ce.vm = .none → s.vm.findClass E = some ce.cls → vx_W p l e R s m args below meth c H1 locs1 (cells + mc) (slots + ms) Q (F0 m pc ls rest) q9)
    (kk : ∀ (r : Int64) (u : S) (H1 : Heap) (locs1 : List Loc), va_P G.1 vwCl (wr ++ wq u) H1 → va_D A (wr ++ wq u) → va_S A H0 H1 locs1 → post r u → W p l e R s m args below meth c H1 locs1 (cells + mc) (slots + ms) Q (F0 m (pc + 3) ls (.long r :: rest))) : W p l e R s m args below meth c H locs cells slots Q (F0 m pc ls st0) := by
  have hFc := va_free (wc := wc) hD hS hA isC hC
  refine vx_calll hr hS (fun q _ h => hFc q h) hFc (fun q _ h => hFc q h) (fun E ce q9 u t H1 locs1 ht hvm hp hB hz1 hk1 hS1 hce hcv hcl => ?_) (fun r u t H1 locs1 ht hvm hw hB hz1 hk1 hS1 => ?_)
  · have hP0 : va_P G.1 vwCl ([] : va_W) H1 := fun k q h => by simp at h
    have hD0 : va_D (va_A wc H.size) ([] : va_W) := ⟨fun i j p q h => by simp at h, fun k q h => by simp at h⟩
    obtain ⟨hP2, hD2⟩ := va_join hP hD isC isR hC hR hn hdis hk1 hFc hP0 hD0
    rw [List.append_nil] at hP2 hD2
    exact kx E ce q9 H1 locs1 hP2 hD2 hS1 hB hce hcv hcl
  · obtain ⟨hP1, hK1, hD1⟩ := hB
    rw [ht] at hP1
    obtain ⟨hP2, hD2⟩ := va_join hP hD isC isR hC hR hn hdis hk1 hFc hP1 hD1
    exact kk r u H1 locs1 hP2 hD2 hS1 hw
theorem n_cd {S : Type} {post : UInt64 → S → Prop} {wq : S → va_W} (hr : va_Run p l e R s m args below meth c H locs cells slots mc ms (F0 m pc ls st0) rest (va_Qd post (fun u t => n_po G (va_A wc H.size) (wq u) t) (va_A wc H.size) a) (va_A wc H.size)) (hP : va_P G.1 vwCl ws H) (hD : va_D A ws) (hS : va_S A H0 H locs) (hA : ∀ q, H0.size ≤ q → A q) (isC isR : List Nat) (hC : isC.map (fun i => ws[i]?) = wc.map some) (hR : isR.map (fun i => ws[i]?) = wr.map some) (hn : va_nd isR = true) (hdis : ∀ i ∈ isR, i ∉ isC)
    (kk : ∀ (r : UInt64) (u : S) (H1 : Heap) (locs1 : List Loc), va_P G.1 vwCl (wr ++ wq u) H1 → va_D A (wr ++ wq u) → va_S A H0 H1 locs1 → post r u → W p l e R s m args below meth c H1 locs1 (cells + mc) (slots + ms) Q (F0 m (pc + 3) ls (.double r :: rest))) : W p l e R s m args below meth c H locs cells slots Q (F0 m pc ls st0) := by
  have hFc := va_free (wc := wc) hD hS hA isC hC
  refine va_calld hr hS (fun q _ h => hFc q h) hFc (fun r u t H1 locs1 ht hvm hw hB hz1 hk1 hS1 => ?_)
  obtain ⟨hP1, hK1, hD1⟩ := hB
  rw [ht] at hP1
  obtain ⟨hP2, hD2⟩ := va_join hP hD isC isR hC hR hn hdis hk1 hFc hP1 hD1
  exact kk r u H1 locs1 hP2 hD2 hS1 hw
theorem n_xd {S : Type} {post : UInt64 → S → Prop} {wq : S → va_W} {px : String → Prop} (hr : vx_Run p l e R s m args below meth c H locs cells slots mc ms (F0 m pc ls st0) rest (va_Qd post (fun u t => n_po G (va_A wc H.size) (wq u) t) (va_A wc H.size) a) (vx_X (fun _ : Unit => True) (fun E _ _ => px E) (va_A wc H.size)) (va_A wc H.size)) (hP : va_P G.1 vwCl ws H) (hD : va_D A ws) (hS : va_S A H0 H locs) (hA : ∀ q, H0.size ≤ q → A q) (isC isR : List Nat) (hC : isC.map (fun i => ws[i]?) = wc.map some) (hR : isR.map (fun i => ws[i]?) = wr.map some) (hn : va_nd isR = true) (hdis : ∀ i ∈ isR, i ∉ isC)
    (kx : ∀ (E : String) (ce : Cell) (q9 : Addr) (H1 : Heap) (locs1 : List Loc), va_P G.1 vwCl wr H1 → va_D A wr → va_S A H0 H1 locs1 → px E → H1[q9]? = some ce → ce.vm = .none → s.vm.findClass E = some ce.cls → vx_W p l e R s m args below meth c H1 locs1 (cells + mc) (slots + ms) Q (F0 m pc ls rest) q9)
    (kk : ∀ (r : UInt64) (u : S) (H1 : Heap) (locs1 : List Loc), va_P G.1 vwCl (wr ++ wq u) H1 → va_D A (wr ++ wq u) → va_S A H0 H1 locs1 → post r u → W p l e R s m args below meth c H1 locs1 (cells + mc) (slots + ms) Q (F0 m (pc + 3) ls (.double r :: rest))) : W p l e R s m args below meth c H locs cells slots Q (F0 m pc ls st0) := by
  have hFc := va_free (wc := wc) hD hS hA isC hC
  refine vx_calld hr hS (fun q _ h => hFc q h) hFc (fun q _ h => hFc q h) (fun E ce q9 u t H1 locs1 ht hvm hp hB hz1 hk1 hS1 hce hcv hcl => ?_) (fun r u t H1 locs1 ht hvm hw hB hz1 hk1 hS1 => ?_)
  · have hP0 : va_P G.1 vwCl ([] : va_W) H1 := fun k q h => by simp at h
    have hD0 : va_D (va_A wc H.size) ([] : va_W) := ⟨fun i j p q h => by simp at h, fun k q h => by simp at h⟩
    obtain ⟨hP2, hD2⟩ := va_join hP hD isC isR hC hR hn hdis hk1 hFc hP0 hD0
    rw [List.append_nil] at hP2 hD2
    exact kx E ce q9 H1 locs1 hP2 hD2 hS1 hB hce hcv hcl
  · obtain ⟨hP1, hK1, hD1⟩ := hB
    rw [ht] at hP1
    obtain ⟨hP2, hD2⟩ := va_join hP hD isC isR hC hR hn hdis hk1 hFc hP1 hD1
    exact kk r u H1 locs1 hP2 hD2 hS1 hw
theorem n_cf {S : Type} {post : UInt32 → S → Prop} {wq : S → va_W} (hr : va_Run p l e R s m args below meth c H locs cells slots mc ms (F0 m pc ls st0) rest (va_Qf post (fun u t => n_po G (va_A wc H.size) (wq u) t) (va_A wc H.size) a) (va_A wc H.size)) (hP : va_P G.1 vwCl ws H) (hD : va_D A ws) (hS : va_S A H0 H locs) (hA : ∀ q, H0.size ≤ q → A q) (isC isR : List Nat) (hC : isC.map (fun i => ws[i]?) = wc.map some) (hR : isR.map (fun i => ws[i]?) = wr.map some) (hn : va_nd isR = true) (hdis : ∀ i ∈ isR, i ∉ isC)
    (kk : ∀ (r : UInt32) (u : S) (H1 : Heap) (locs1 : List Loc), va_P G.1 vwCl (wr ++ wq u) H1 → va_D A (wr ++ wq u) → va_S A H0 H1 locs1 → post r u → W p l e R s m args below meth c H1 locs1 (cells + mc) (slots + ms) Q (F0 m (pc + 3) ls (.float r :: rest))) : W p l e R s m args below meth c H locs cells slots Q (F0 m pc ls st0) := by
  have hFc := va_free (wc := wc) hD hS hA isC hC
  refine va_callf hr hS (fun q _ h => hFc q h) hFc (fun r u t H1 locs1 ht hvm hw hB hz1 hk1 hS1 => ?_)
  obtain ⟨hP1, hK1, hD1⟩ := hB
  rw [ht] at hP1
  obtain ⟨hP2, hD2⟩ := va_join hP hD isC isR hC hR hn hdis hk1 hFc hP1 hD1
  exact kk r u H1 locs1 hP2 hD2 hS1 hw
theorem n_xf {S : Type} {post : UInt32 → S → Prop} {wq : S → va_W} {px : String → Prop} (hr : vx_Run p l e R s m args below meth c H locs cells slots mc ms (F0 m pc ls st0) rest (va_Qf post (fun u t => n_po G (va_A wc H.size) (wq u) t) (va_A wc H.size) a) (vx_X (fun _ : Unit => True) (fun E _ _ => px E) (va_A wc H.size)) (va_A wc H.size)) (hP : va_P G.1 vwCl ws H) (hD : va_D A ws) (hS : va_S A H0 H locs) (hA : ∀ q, H0.size ≤ q → A q) (isC isR : List Nat) (hC : isC.map (fun i => ws[i]?) = wc.map some) (hR : isR.map (fun i => ws[i]?) = wr.map some) (hn : va_nd isR = true) (hdis : ∀ i ∈ isR, i ∉ isC)
    (kx : ∀ (E : String) (ce : Cell) (q9 : Addr) (H1 : Heap) (locs1 : List Loc), va_P G.1 vwCl wr H1 → va_D A wr → va_S A H0 H1 locs1 → px E → H1[q9]? = some ce → ce.vm = .none → s.vm.findClass E = some ce.cls → vx_W p l e R s m args below meth c H1 locs1 (cells + mc) (slots + ms) Q (F0 m pc ls rest) q9)
    (kk : ∀ (r : UInt32) (u : S) (H1 : Heap) (locs1 : List Loc), va_P G.1 vwCl (wr ++ wq u) H1 → va_D A (wr ++ wq u) → va_S A H0 H1 locs1 → post r u → W p l e R s m args below meth c H1 locs1 (cells + mc) (slots + ms) Q (F0 m (pc + 3) ls (.float r :: rest))) : W p l e R s m args below meth c H locs cells slots Q (F0 m pc ls st0) := by
  have hFc := va_free (wc := wc) hD hS hA isC hC
  refine vx_callf hr hS (fun q _ h => hFc q h) hFc (fun q _ h => hFc q h) (fun E ce q9 u t H1 locs1 ht hvm hp hB hz1 hk1 hS1 hce hcv hcl => ?_) (fun r u t H1 locs1 ht hvm hw hB hz1 hk1 hS1 => ?_)
  · have hP0 : va_P G.1 vwCl ([] : va_W) H1 := fun k q h => by simp at h
    have hD0 : va_D (va_A wc H.size) ([] : va_W) := ⟨fun i j p q h => by simp at h, fun k q h => by simp at h⟩
    obtain ⟨hP2, hD2⟩ := va_join hP hD isC isR hC hR hn hdis hk1 hFc hP0 hD0
    rw [List.append_nil] at hP2 hD2
    exact kx E ce q9 H1 locs1 hP2 hD2 hS1 hB hce hcv hcl
  · obtain ⟨hP1, hK1, hD1⟩ := hB
    rw [ht] at hP1
    obtain ⟨hP2, hD2⟩ := va_join hP hD isC isR hC hR hn hdis hk1 hFc hP1 hD1
    exact kk r u H1 locs1 hP2 hD2 hS1 hw
theorem n_cv {S : Type} {post : S → Prop} {wq : S → va_W} (hr : va_Run p l e R s m args below meth c H locs cells slots mc ms (F0 m pc ls st0) rest (va_Qv post (fun u t => n_po G (va_A wc H.size) (wq u) t) (va_A wc H.size) a) (va_A wc H.size)) (hP : va_P G.1 vwCl ws H) (hD : va_D A ws) (hS : va_S A H0 H locs) (hA : ∀ q, H0.size ≤ q → A q) (isC isR : List Nat) (hC : isC.map (fun i => ws[i]?) = wc.map some) (hR : isR.map (fun i => ws[i]?) = wr.map some) (hn : va_nd isR = true) (hdis : ∀ i ∈ isR, i ∉ isC)
    (kk : ∀ (u : S) (H1 : Heap) (locs1 : List Loc), va_P G.1 vwCl (wr ++ wq u) H1 → va_D A (wr ++ wq u) → va_S A H0 H1 locs1 → post u → W p l e R s m args below meth c H1 locs1 (cells + mc) (slots + ms) Q (F0 m (pc + 3) ls (rest))) : W p l e R s m args below meth c H locs cells slots Q (F0 m pc ls st0) := by
  have hFc := va_free (wc := wc) hD hS hA isC hC
  refine va_callv hr hS (fun q _ h => hFc q h) hFc (fun u t H1 locs1 ht hvm hw hB hz1 hk1 hS1 => ?_)
  obtain ⟨hP1, hK1, hD1⟩ := hB
  rw [ht] at hP1
  obtain ⟨hP2, hD2⟩ := va_join hP hD isC isR hC hR hn hdis hk1 hFc hP1 hD1
  exact kk u H1 locs1 hP2 hD2 hS1 hw
theorem n_xv {S : Type} {post : S → Prop} {wq : S → va_W} {px : String → Prop} (hr : vx_Run p l e R s m args below meth c H locs cells slots mc ms (F0 m pc ls st0) rest (va_Qv post (fun u t => n_po G (va_A wc H.size) (wq u) t) (va_A wc H.size) a) (vx_X (fun _ : Unit => True) (fun E _ _ => px E) (va_A wc H.size)) (va_A wc H.size)) (hP : va_P G.1 vwCl ws H) (hD : va_D A ws) (hS : va_S A H0 H locs) (hA : ∀ q, H0.size ≤ q → A q) (isC isR : List Nat) (hC : isC.map (fun i => ws[i]?) = wc.map some) (hR : isR.map (fun i => ws[i]?) = wr.map some) (hn : va_nd isR = true) (hdis : ∀ i ∈ isR, i ∉ isC)
    (kx : ∀ (E : String) (ce : Cell) (q9 : Addr) (H1 : Heap) (locs1 : List Loc), va_P G.1 vwCl wr H1 → va_D A wr → va_S A H0 H1 locs1 → px E → H1[q9]? = some ce → ce.vm = .none → s.vm.findClass E = some ce.cls → vx_W p l e R s m args below meth c H1 locs1 (cells + mc) (slots + ms) Q (F0 m pc ls rest) q9)
    (kk : ∀ (u : S) (H1 : Heap) (locs1 : List Loc), va_P G.1 vwCl (wr ++ wq u) H1 → va_D A (wr ++ wq u) → va_S A H0 H1 locs1 → post u → W p l e R s m args below meth c H1 locs1 (cells + mc) (slots + ms) Q (F0 m (pc + 3) ls (rest))) : W p l e R s m args below meth c H locs cells slots Q (F0 m pc ls st0) := by
  have hFc := va_free (wc := wc) hD hS hA isC hC
  refine vx_callv hr hS (fun q _ h => hFc q h) hFc (fun q _ h => hFc q h) (fun E ce q9 u t H1 locs1 ht hvm hp hB hz1 hk1 hS1 hce hcv hcl => ?_) (fun u t H1 locs1 ht hvm hw hB hz1 hk1 hS1 => ?_)
  · have hP0 : va_P G.1 vwCl ([] : va_W) H1 := fun k q h => by simp at h
    have hD0 : va_D (va_A wc H.size) ([] : va_W) := ⟨fun i j p q h => by simp at h, fun k q h => by simp at h⟩
    obtain ⟨hP2, hD2⟩ := va_join hP hD isC isR hC hR hn hdis hk1 hFc hP0 hD0
    rw [List.append_nil] at hP2 hD2
    exact kx E ce q9 H1 locs1 hP2 hD2 hS1 hB hce hcv hcl
  · obtain ⟨hP1, hK1, hD1⟩ := hB
    rw [ht] at hP1
    obtain ⟨hP2, hD2⟩ := va_join hP hD isC isR hC hR hn hdis hk1 hFc hP1 hD1
    exact kk u H1 locs1 hP2 hD2 hS1 hw
theorem n_cr {S : Type} {post : S → Prop} {wq : S → va_W} {b0 : Nat} (hr : va_Run p l e R s m args below meth c H locs cells slots mc ms (F0 m pc ls st0) rest (va_Qr post (fun u b t => b = b0 ∧ n_po G (va_A wc H.size) (wq u) t) (va_A wc H.size) a) (va_A wc H.size)) (hP : va_P G.1 vwCl ws H) (hD : va_D A ws) (hS : va_S A H0 H locs) (hA : ∀ q, H0.size ≤ q → A q) (isC isR : List Nat) (hC : isC.map (fun i => ws[i]?) = wc.map some) (hR : isR.map (fun i => ws[i]?) = wr.map some) (hn : va_nd isR = true) (hdis : ∀ i ∈ isR, i ∉ isC)
    (kk : ∀ (u : S) (H1 : Heap) (locs1 : List Loc), va_P G.1 vwCl (wr ++ wq u) H1 → va_D A (wr ++ wq u) → va_S A H0 H1 locs1 → post u → W p l e R s m args below meth c H1 locs1 (cells + mc) (slots + ms) Q (F0 m (pc + 3) ls (.ref b0 :: rest))) : W p l e R s m args below meth c H locs cells slots Q (F0 m pc ls st0) := by
  have hFc := va_free (wc := wc) hD hS hA isC hC
  refine va_callr hr hS (fun q _ h => hFc q h) hFc (fun u ra t H1 locs1 ht hvm hw hB hz1 hk1 hS1 => ?_)
  obtain ⟨hb0, hP1, hK1, hD1⟩ := hB
  subst hb0
  rw [ht] at hP1
  obtain ⟨hP2, hD2⟩ := va_join hP hD isC isR hC hR hn hdis hk1 hFc hP1 hD1
  exact kk u H1 locs1 hP2 hD2 hS1 hw
theorem n_nm {cA cB : ClassId} {ty : FieldType} (h1 : va_RA s cA ty) (h2 : va_RA s cB ty) : cA = cB := by
  have g : ∀ {cX : ClassId}, va_RA s cX ty → s.vm.findClass ("[" ++ ty.toString) = some cX := by
    intro cX h
    cases ty with
    | object C => obtain ⟨kA, comp, -, -, -, h4⟩ := h; exact h4
    | _ => exact h
  exact Option.some.inj ((g h1).symm.trans (g h2))
theorem n_newa {cc : ByteArray} {n0 : Int32} (hexec : p.tables.exec = Jvm.exec) (hb : c.code = cc) {atype : ArrayType} (harr : (Cond.arrayClass (newarray.typeOf atype)).before args s = true) {ty : FieldType} (hty : newarray.typeOf atype = ty) (hK : va_K G.1 vwCl (n_ty G) s) (hP : va_P G.1 vwCl ws H) (hD : va_D A ws) (hS : va_S A H0 H locs) (hA : ∀ q, H0.size ≤ q → A q) (t0 : Nat) {cI : ClassId} (ht0 : (n_ty G)[t0]? = some (cI, ty))
    {N' : Nat} {a0 : vp_A} (ha : ∀ cA : ClassId, vp_cell cA a0 = arrV cA N' (fun _ => defaultValue ty)) (hn : ¬ n0 < 0) (hN : n0.toNatClampNeg = N') (hbytes : N' * componentBytes ty ≤ 536870912) (hcells : cells + 1 ≤ R.cells) (hslots : slots + N' ≤ R.slots) (hdg : decode cc pc = .ok (.newarray atype, 2))
    (kk : ∀ (q : Nat) (H1 : Heap), va_P G.1 vwCl (ws ++ [(q, .inl (cI, a0))]) H1 → va_D A (ws ++ [(q, .inl (cI, a0))]) → va_S A H0 H1 locs →
      W p l e R s m args below meth c H1 locs (cells + 1) (slots + N') Q (F0 m (pc + 2) ls (.ref q :: rest))) : W p l e R s m args below meth c H locs cells slots Q (F0 m pc ls (.int n0 :: rest)) := by
  refine va_newa hexec hb harr hty hK hP hD hS hA ha hn hN hbytes hcells hslots hdg (fun q cA H1 hK1 hP1 hD1 hS1 => ?_)
  have h9 := (hK1.2 (n_ty G).length (cA, ty) (by simp)).2
  have e : cA = cI := n_nm h9 (hK.2 t0 _ ht0).2
  subst e
  exact kk q H1 hP1 hD1 hS1
theorem n_newq {cc : ByteArray} {n0 : Int32} (hexec : p.tables.exec = Jvm.exec) (hb : c.code = cc) {own C : String} {index : Nat} (hown : s.vm.findClass own = some m.cls) (hclink : (Cond.classLink own index C).before args s = true) (hover : va_AO C s) (hK : va_K G.1 vwCl (n_ty G) s) (hP : va_P G.1 vwCl ws H) (hD : va_D A ws) (hS : va_S A H0 H locs) (hA : ∀ q, H0.size ≤ q → A q) (t0 : Nat) {cI : ClassId} (ht0 : (n_ty G)[t0]? = some (cI, .object C))
    {N' : Nat} (hn : ¬ n0 < 0) (hN : n0.toNatClampNeg = N') (hbytes : N' * 4 ≤ 536870912) (hcells : cells + 1 ≤ R.cells) (hslots : slots + N' ≤ R.slots) (hdg : decode cc pc = .ok (.anewarray index, 3))
    (kk : ∀ (q : Nat) (H1 : Heap), va_P G.1 vwCl (ws ++ [(q, .inl (cI, N', .inr (.inr (.inr (.inr (fun _ => none))))))]) H1 → va_D A (ws ++ [(q, .inl (cI, N', .inr (.inr (.inr (.inr (fun _ => none))))))]) → va_S A H0 H1 locs →
      W p l e R s m args below meth c H1 locs (cells + 1) (slots + N') Q (F0 m (pc + 3) ls (.ref q :: rest))) : W p l e R s m args below meth c H locs cells slots Q (F0 m pc ls (.int n0 :: rest)) := by
  refine va_newq hexec hb hown hclink hover hK hP hD hS hA hn hN hbytes hcells hslots hdg (fun q cA H1 hK1 hP1 hD1 hS1 => ?_)
  have h9 := (hK1.2 (n_ty G).length (cA, .object C) (by simp)).2
  have e : cA = cI := n_nm h9 (hK.2 t0 _ ht0).2
  subst e
  exact kk q H1 hP1 hD1 hS1
theorem n_eqi {x y : Int32} (h : x = y) (k : W p l e R s m args below meth c H locs cells slots Q (F0 m pc ls (.int y :: rest))) : W p l e R s m args below meth c H locs cells slots Q (F0 m pc ls (.int x :: rest)) := by rw [h]; exact k
theorem n_eql {x y : Int64} (h : x = y) (k : W p l e R s m args below meth c H locs cells slots Q (F0 m pc ls (.long y :: rest))) : W p l e R s m args below meth c H locs cells slots Q (F0 m pc ls (.long x :: rest)) := by rw [h]; exact k
theorem n_eqq {x y : Value} (h : x = y) (k : W p l e R s m args below meth c H locs cells slots Q (F0 m pc ls (y :: rest))) : W p l e R s m args below meth c H locs cells slots Q (F0 m pc ls (x :: rest)) := by rw [h]; exact k
theorem n_heap {g : JFrame} {Ls : List Loc} (h : H = s.heap) (k : W p l e R s m args below meth c H Ls cells slots Q g) : W p l e R s m args below meth c s.heap Ls cells slots Q g := by rw [← h]; exact k
theorem n_in {x : Int32} {n : Nat} (h : ¬ (x < 0 ∨ n ≤ x.toNatClampNeg)) : vp_in x n := h
section NT
variable {cc : ByteArray} {own E text : String} {names : List String} {ik is ic : Nat} {Qc : Array Value → State → Outcome → State → Prop} {px : String → Prop}
theorem n_hat (hE : n_ev s) (hin : E ∈ nExc) (hg : ∀ w ∈ (vx_atS own ic E names).filter goodWord, w.before args s = true) (hng : ∀ w ∈ (vx_atS own ic E names).filter (fun w => !goodWord w), w ∈ Cond.castable E E :: nDcl.map (fun y => Cond.declares y)) : ∀ w ∈ vx_atS own ic E names, w.before args s = true :=
  vx_hat hg hng (vx_c (va_Nw.use rfl (hE.2.1 E hin)) (fun w hw => by
    obtain ⟨y, hy, rfl⟩ := List.mem_map.mp hw
    exact va_Nw.use rfl (hE.2.2.2.2.2 y hy)))
theorem n_throw (hstr : ∃ sa, vk_R own is text sa s) (hx : p.tables.exec = Jvm.exec) (hb : c.code = cc) (hl : l.stackTraces = false) (hown : s.vm.findClass own = some m.cls) (hfit : Bundle.fit E = true ∧ ∀ n ∈ names, Bundle.fit n = true)
    (hk : (Cond.classLink own ik E).before args s = true) (hini : (Cond.initialized E).before args s = true) (hE : n_ex A s s.heap) (hg : ∀ w ∈ (vx_atS own ic E names).filter goodWord, w.before args s = true) (hng : ∀ w ∈ (vx_atS own ic E names).filter (fun w => !goodWord w), w ∈ Cond.castable E E :: nDcl.map (fun y => Cond.declares y)) (hin : E ∈ nExc)
    (hgd : ∀ w ∈ vx_atS own ic E names, vx_ot w = true) (hS : va_S A s.heap H locs) (hsize : ls.size = c.maxLocals)
    (d0 : decode cc pc = .ok (.new ik, 3)) (d3 : decode cc (pc + 3) = .ok (.dup, 1)) (d4 : decode cc (pc + 4) = .ok (.ldc is, 2)) (d6 : decode cc (pc + 6) = .ok (.invokespecial ic, 3)) (d9 : decode cc (pc + 9) = .ok (.athrow, 1))
    (hout : ∀ x ∈ c.exceptionTable.toList, covers x (pc + 9) = false) (hRf : names.length + 3 < R.frames) (hRl : (rest.map fun v => v.category).sum + (13 * (names.length + 1) + 43) ≤ R.locals) (hRc : cells + 1 ≤ R.cells) (hRs : slots + 6 ≤ R.slots) (hlocks : meth.locks = false) (hpx : px E) (hc : cells + 1 ≤ mc) (hs : slots + 6 ≤ ms) :
    W p l e R s m args below meth c H locs cells slots (vx_MQ below Qc (vx_X (fun _ : Unit => True) (fun E _ _ => px E) A) args s mc ms A) (F0 m pc ls rest) := by
  obtain ⟨sa, hsa⟩ := hstr
  exact vx_throwS hx hb hl hown hfit.1 hfit.2 hk hini hsa (n_hat hE.1 hin hg hng) (fun w h => (List.mem_cons.mp h).elim (fun e => by rw [e]; rfl) (fun h => (List.mem_cons.mp h).elim (fun e => by rw [e]; rfl) (hgd w))) hE.2.1 hE.2.2 hS hsize d0 d3 d4 d6 d9 hout hRf hRl hRc hRs hlocks (fun t _ hz hq => ⟨(), trivial, hpx, ⟨Nat.le_trans hS.1 hz, fun q h1 h2 => (hq q (Nat.lt_of_lt_of_le h1 hS.1)).trans (hS.2.1 q h1 h2)⟩⟩) hS.2.2 hc hs
theorem n_throwW (hstr : ∃ sa, vk_R own is text sa s) (hx : p.tables.exec = Jvm.exec) (hb : c.code = cc) (hl : l.stackTraces = false) (hown : s.vm.findClass own = some m.cls) (hfit : Bundle.fit E = true ∧ ∀ n ∈ names, Bundle.fit n = true)
    (hk : (Cond.classLink own ik E).before args s = true) (hini : (Cond.initialized E).before args s = true) (hE : n_ex A s s.heap) (hg : ∀ w ∈ (vx_atS own ic E names).filter goodWord, w.before args s = true) (hng : ∀ w ∈ (vx_atS own ic E names).filter (fun w => !goodWord w), w ∈ Cond.castable E E :: nDcl.map (fun y => Cond.declares y)) (hin : E ∈ nExc)
    (hgd : ∀ w ∈ vx_atS own ic E names, vx_ot w = true) (hS : va_S A s.heap H locs) (hsize : ls.size = c.maxLocals)
    (d0 : decode cc pc = .ok (.new ik, 3)) (d3 : decode cc (pc + 3) = .ok (.dup, 1)) (d4 : decode cc (pc + 4) = .ok (.ldc_w is, 3)) (d7 : decode cc (pc + 7) = .ok (.invokespecial ic, 3)) (d10 : decode cc (pc + 10) = .ok (.athrow, 1))
    (hout : ∀ x ∈ c.exceptionTable.toList, covers x (pc + 10) = false) (hRf : names.length + 3 < R.frames) (hRl : (rest.map fun v => v.category).sum + (13 * (names.length + 1) + 43) ≤ R.locals) (hRc : cells + 1 ≤ R.cells) (hRs : slots + 6 ≤ R.slots) (hlocks : meth.locks = false) (hpx : px E) (hc : cells + 1 ≤ mc) (hs : slots + 6 ≤ ms) :
    W p l e R s m args below meth c H locs cells slots (vx_MQ below Qc (vx_X (fun _ : Unit => True) (fun E _ _ => px E) A) args s mc ms A) (F0 m pc ls rest) := by
  obtain ⟨sa, hsa⟩ := hstr
  exact vx_throwSW hx hb hl hown hfit.1 hfit.2 hk hini hsa (n_hat hE.1 hin hg hng) (fun w h => (List.mem_cons.mp h).elim (fun e => by rw [e]; rfl) (fun h => (List.mem_cons.mp h).elim (fun e => by rw [e]; rfl) (hgd w))) hE.2.1 hE.2.2 hS hsize d0 d3 d4 d7 d10 hout hRf hRl hRc hRs hlocks (fun t _ hz hq => ⟨(), trivial, hpx, ⟨Nat.le_trans hS.1 hz, fun q h1 h2 => (hq q (Nat.lt_of_lt_of_le h1 hS.1)).trans (hS.2.1 q h1 h2)⟩⟩) hS.2.2 hc hs
end NT
end NC
theorem n_ofWH {l : Launch} {y : MethodName} {ws ws' : List Cond} {rm : Room} {Pc : Array Value → State → Prop} {Qc : Array Value → State → Outcome → State → Prop} {mc ms : Nat} {free : Addr → Prop} {cc : ByteArray} {maxL : Nat} {ret : Option FieldType} {hh : List (Nat × Nat × Nat × Nat)}
    (hy : plainName y.cls = true) (hw : ws = Cond.codeWith y cc maxL ret hh :: ws')
    (body : ∀ p e s m args below meth c s₁, BodyLoose p l y (headSpec ws rm) cc maxL ret e s m args below meth c s₁ → c.maxLocals = maxL → Pc args s →
      W p l e (headSpec ws rm).room s m args below meth c s.heap [] 0 0 (MQ below Qc args s mc ms free) (entryFrame m args maxL)) : Met l y ws rm Pc Qc mc ms free := by
  refine MetFree.of_bodyS (code := cc) (maxLocals := maxL) (ret := ret) hy ?_ ?_
  · intro args s m h hn
    obtain ⟨m9, meth, c, hn9, h1, h2, h3, h4, -, h5, h6, -⟩ := Cond.codeWith_spec (atoms_spec (ws := ws) h _ (by rw [hw]; exact List.mem_cons_self))
    cases hn.symm.trans hn9
    exact ⟨meth, c, h1, h2, h3, h4, h5, h6⟩
  · intro p e s m args below meth c s₁ B hml hP _
    have hh0 : s₁.heap = s.heap := by rw [B.state]; rfl
    obtain ⟨t, a1, o, b1, b2, b3⟩ := body p e s m args below meth c s₁ B hml hP s₁ hh0 (Stand.of_body B)
    exact ⟨t, o, a1, b1, b2, ⟨b3.1, b3.2⟩⟩
/-! numbers -/
def nhp (z q : Int32) : Int32 := if q < 0 then 0 else if z ≤ q then 0 else 1
def nsm (q : Int32) : Int32 := if q < 97 then 0 else if 122 < q then 0 else 1
def ncd (q : Int32) : Int32 := if q < 0 then 0 else if 3 < q then 0 else 1
def nRow (f : Nat → Int32) : Prop := ∀ j, j < 26 → f j = nI j
def nFst (f : Nat → Int32) : Prop := ∀ j, j < 26 → f j = nI (97 + j)
def nSnd (f : Nat → Int32) : Prop := ∀ j, j < 26 → f j = 32
def nFit (f : Nat → Int32) : Prop := ∀ j, fits .char (.int (f j)) = true
theorem nhp_no {z q : Int32} (h : nhp z q = 0) : ¬ nhp z q = 1 := by rw [h]; decide
theorem nhp_01 (z q : Int32) : nhp z q = 0 ∨ nhp z q = 1 := by
  unfold nhp
  by_cases h1 : q < 0
  · exact Or.inl (if_pos h1)
  · rw [if_neg h1]
    by_cases h2 : z ≤ q
    · exact Or.inl (if_pos h2)
    · exact Or.inr (if_neg h2)
theorem nhp_of {n : Nat} (hn : n < 2 ^ 31) {q : Int32} (h : nhp (nI n) q = 1) : ∃ j, j < n ∧ q = nI j := by
  unfold nhp at h
  by_cases h1 : q < 0
  · rw [if_pos h1] at h; exact absurd h (by decide)
  · rw [if_neg h1] at h
    obtain ⟨j, hj, e⟩ := nI_of h1
    subst e
    by_cases h2 : nI n ≤ nI j
    · rw [if_pos h2] at h; exact absurd h (by decide)
    · refine ⟨j, ?_, rfl⟩
      rcases Nat.lt_or_ge j n with g | g
      · exact g
      · exact absurd (nI_le g (by omega)) h2
theorem nhp_in {n j : Nat} (h : j < n) (hn : n < 2 ^ 31) : nhp (nI n) (nI j) = 1 := by
  unfold nhp
  rw [if_neg (nI_pos (by omega)), if_neg (nI_ge h hn)]
theorem nhp_z {q : Int32} : nhp 0 q = 0 := by
  unfold nhp
  by_cases h1 : q < 0
  · exact if_pos h1
  · rw [if_neg h1, if_pos (Int32.not_lt.mp h1)]
/-! the words of the throws out of RX11 -/
theorem n_ng_70 : ∀ w ∈ (vx_atS RX11 70 "java/lang/IllegalStateException" ["java/lang/RuntimeException", "java/lang/Exception"]).filter (fun w => !goodWord w), w ∈ Cond.castable "java/lang/IllegalStateException" "java/lang/IllegalStateException" :: nDcl.map (fun y => Cond.declares y) := by decide +kernel
theorem n_gd_70 : ∀ w ∈ vx_atS RX11 70 "java/lang/IllegalStateException" ["java/lang/RuntimeException", "java/lang/Exception"], vx_ot w = true := by decide +kernel
theorem n_ng_99 : ∀ w ∈ (vx_atS RX11 99 "java/lang/IllegalArgumentException" ["java/lang/RuntimeException", "java/lang/Exception"]).filter (fun w => !goodWord w), w ∈ Cond.castable "java/lang/IllegalArgumentException" "java/lang/IllegalArgumentException" :: nDcl.map (fun y => Cond.declares y) := by decide +kernel
theorem n_gd_99 : ∀ w ∈ vx_atS RX11 99 "java/lang/IllegalArgumentException" ["java/lang/RuntimeException", "java/lang/Exception"], vx_ot w = true := by decide +kernel
theorem n_ng_107 : ∀ w ∈ (vx_atS RX11 107 "java/lang/IndexOutOfBoundsException" ["java/lang/RuntimeException", "java/lang/Exception"]).filter (fun w => !goodWord w), w ∈ Cond.castable "java/lang/IndexOutOfBoundsException" "java/lang/IndexOutOfBoundsException" :: nDcl.map (fun y => Cond.declares y) := by decide +kernel
theorem n_gd_107 : ∀ w ∈ vx_atS RX11 107 "java/lang/IndexOutOfBoundsException" ["java/lang/RuntimeException", "java/lang/Exception"], vx_ot w = true := by decide +kernel
theorem n_ng_167 : ∀ w ∈ (vx_atS RX11 167 "java/lang/UnsupportedOperationException" ["java/lang/RuntimeException", "java/lang/Exception"]).filter (fun w => !goodWord w), w ∈ Cond.castable "java/lang/UnsupportedOperationException" "java/lang/UnsupportedOperationException" :: nDcl.map (fun y => Cond.declares y) := by decide +kernel
theorem n_gd_167 : ∀ w ∈ vx_atS RX11 167 "java/lang/UnsupportedOperationException" ["java/lang/RuntimeException", "java/lang/Exception"], vx_ot w = true := by decide +kernel
theorem n_ng_388 : ∀ w ∈ (vx_atS RX11 388 "java/lang/ArithmeticException" ["java/lang/RuntimeException", "java/lang/Exception"]).filter (fun w => !goodWord w), w ∈ Cond.castable "java/lang/ArithmeticException" "java/lang/ArithmeticException" :: nDcl.map (fun y => Cond.declares y) := by decide +kernel
theorem n_gd_388 : ∀ w ∈ vx_atS RX11 388 "java/lang/ArithmeticException" ["java/lang/RuntimeException", "java/lang/Exception"], vx_ot w = true := by decide +kernel
def nPre (v f : Nat → Int32) (i : Nat) : Prop := ∀ j, j < i → f j = v j
theorem nPre_0 {v f : Nat → Int32} : nPre v f 0 := fun _ h => absurd h (Nat.not_lt_zero _)
theorem nPre_s {v f : Nat → Int32} {i : Nat} {x : Int32} (h : nPre v f i) (hi : i < 2 ^ 31) (hx : x = v i) : nPre v (upd f (nI i).toNatClampNeg x) (i + 1) := by
  intro j hj
  rw [nI_clamp hi]
  by_cases e : j = i
  · subst e; rw [hx]; exact pk_us
  · rw [pk_un e]; exact h j (by omega)
theorem nFit_s {f : Nat → Int32} {k : Nat} {x : Int32} (h : nFit f) (hx : fits .char (.int x) = true) : nFit (upd f k x) := by
  intro j
  by_cases e : j = k
  · subst e; rw [pk_us]; exact hx
  · rw [pk_un e]; exact h j
theorem nFit_0 : nFit (fun _ => 0) := fun _ => (by decide : fits .char (.int 0) = true)
theorem n_fst : ∀ i, i < 26 → vp_nar .char (((97 + nI i).toUInt32 % 65536).toInt32) = nI (97 + i) := by decide +kernel
theorem n_fsf : ∀ i, i < 26 → fits .char (.int (vp_nar .char (((97 + nI i).toUInt32 % 65536).toInt32))) = true := by decide +kernel
theorem n_el {f : Nat → Option Nat} {d : Nat} (h : f 0 = some d) : va_rf (f ((0 : Int32).toNatClampNeg)) = .ref d := by
  show va_rf (f 0) = _
  rw [h]; rfl
theorem n_up0 {f : Nat → Option Nat} {i : Nat} {q : Option Nat} {d : Nat} (h : f 0 = some d) (h0 : 0 < i) (hi : i < 2 ^ 31) : (va_up f ((nI i).toNatClampNeg) q) 0 = some d := by
  rw [nI_clamp hi]
  show (if 0 = i then q else f 0) = some d
  rw [if_neg (by omega)]; exact h
