theorem nTI (a b : Int32) : a < b ↔ a.toInt < b.toInt := Int32.lt_iff_toInt_lt
theorem nTE (a b : Int32) : a ≤ b ↔ a.toInt ≤ b.toInt := Int32.le_iff_toInt_le
theorem n_m1 {q : Int32} (h : ¬ q < 0) : (-1 : Int32) < q := by
  rw [nTI] at h ⊢
  have e0 : (0 : Int32).toInt = 0 := by decide
  have e1 : (-1 : Int32).toInt = -1 := by decide
  omega
theorem nhp25 {q : Int32} : nhp 26 q = if q < 0 then 0 else if 25 < q then 0 else 1 := by
  unfold nhp
  have h : (26 : Int32) ≤ q ↔ (25 : Int32) < q := by
    rw [nTI, nTE]
    have e0 : (26 : Int32).toInt = 26 := by decide
    have e1 : (25 : Int32).toInt = 25 := by decide
    omega
  simp only [h]
def npl (q : Int32) : Int32 := if q < 0 then 0 else if 26 < q then 0 else 1
theorem n26 {q : Int32} : (26 : Int32) < q ↔ ¬ q ≤ 26 := by
  rw [nTI, nTE]
  omega
theorem npl_of {q : Int32} (h : ¬ npl q = 0) : ∃ j, j < 27 ∧ q = nI j := by
  unfold npl at h
  by_cases h1 : q < 0
  · rw [if_pos h1] at h; exact absurd rfl h
  · rw [if_neg h1] at h
    by_cases h2 : 26 < q
    · rw [if_pos h2] at h; exact absurd rfl h
    · obtain ⟨j, hj, e⟩ := nI_of2 (M := 26) (n := 26) (by decide) h1 (Classical.not_not.mp (fun h3 => h2 (n26.mpr h3)))
      exact ⟨j, Nat.lt_succ_of_le hj, e⟩
theorem npl_2 {q : Int32} (h : npl q = 0) : (2 : Int32) = if q < 0 then 2 else if q ≤ 26 then 0 else 2 := by
  unfold npl at h
  by_cases h1 : q < 0
  · rw [if_pos h1]
  · rw [if_neg h1] at h ⊢
    by_cases h2 : 26 < q
    · rw [if_neg (n26.mp h2)]
    · rw [if_neg h2] at h; exact absurd h (by decide)
theorem npl_0 {j : Nat} (h : j < 27) : (0 : Int32) = if nI j < 0 then 2 else if nI j ≤ 26 then 0 else 2 := by
  rw [if_neg (nI_pos (by omega)), if_pos (show nI j ≤ 26 from nI_le (b := 26) (by omega) (by decide))]
theorem n_i2c {n : Nat} (h : n < 65536) : (((nI n)).toUInt32 % 65536).toInt32 = nI n := by
  rw [pk_char, pk_tn (by omega), Nat.mod_eq_of_lt h]
def nMod (f : Nat → Int32) : Prop := f 0 = 26 ∧ (∀ k, k < 26 → f (1 + k) = nI (97 + k)) ∧ f 37 = 0 ∧ f 1158 = 0
theorem n_ml {f : Nat → Int32} {j : Nat} (h : nMod f) (hj : j < 26) : f ((nI (1 + j)).toNatClampNeg) = nI (97 + j) := by
  rw [nI_clamp (by omega)]; exact h.2.1 j hj
def nModN (f : Nat → Int32) (i : Nat) : Prop := f 0 = 26 ∧ (∀ k, k < i → f (1 + k) = nI (97 + k)) ∧ ∀ k, 27 ≤ k → f k = 0
theorem nModN_to {f : Nat → Int32} (h : nModN f 26) : nMod f := ⟨h.1, h.2.1, h.2.2 37 (by decide), h.2.2 1158 (by decide)⟩
theorem nModN_0 : nModN (upd (fun _ => 0) ((0 : Int32).toNatClampNeg) 26) 0 :=
  ⟨pk_us, fun _ h => absurd h (Nat.not_lt_zero _), fun k hk => by
    rw [pk_un (show k ≠ (0 : Int32).toNatClampNeg from Nat.ne_of_gt (Nat.lt_of_lt_of_le (by decide) hk))]⟩
theorem nModN_s {f : Nat → Int32} {i : Nat} (h : nModN f i) (hi : i < 26) : nModN (upd f ((nI (1 + i)).toNatClampNeg) (nI (97 + i))) (i + 1) := by
  rw [nI_clamp (by omega)]
  refine ⟨by rw [pk_un (by omega)]; exact h.1, fun k hk => ?_, fun k hk => by rw [pk_un (by omega)]; exact h.2.2 k hk⟩
  by_cases e : k = i
  · subst e; exact pk_us
  · rw [pk_un (by omega)]; exact h.2.1 k (by omega)
theorem n_u0 {f : Nat → Int32} {k : Nat} {x : Int32} (h : f 0 = 26) (hk : k < 2 ^ 30) : (upd f ((nI (1 + k)).toNatClampNeg) x) 0 = 26 := by
  rw [nI_clamp (by omega), pk_un (by omega)]; exact h
theorem n_sw8 (w : Int32) (h1 : ¬ w.toInt < 0) (h2 : ¬ 8 < w.toInt) : w = 0 ∨ w = 1 ∨ w = 2 ∨ w = 3 ∨ w = 4 ∨ w = 5 ∨ w = 6 ∨ w = 7 ∨ w = 8 := by
  have key : ∀ v : Int32, w.toInt = v.toInt → w = v := fun v h => Int32.toInt_inj.mp h
  have e0 : (0 : Int32).toInt = 0 := by decide
  have e1 : (1 : Int32).toInt = 1 := by decide
  have e2 : (2 : Int32).toInt = 2 := by decide
  have e3 : (3 : Int32).toInt = 3 := by decide
  have e4 : (4 : Int32).toInt = 4 := by decide
  have e5 : (5 : Int32).toInt = 5 := by decide
  have e6 : (6 : Int32).toInt = 6 := by decide
  have e7 : (7 : Int32).toInt = 7 := by decide
  have e8 : (8 : Int32).toInt = 8 := by decide
  have c : w.toInt = 0 ∨ w.toInt = 1 ∨ w.toInt = 2 ∨ w.toInt = 3 ∨ w.toInt = 4 ∨ w.toInt = 5 ∨ w.toInt = 6 ∨ w.toInt = 7 ∨ w.toInt = 8 := by omega
  rcases c with h | h | h | h | h | h | h | h | h
  · exact Or.inl (key _ (by rw [h, e0]))
  · exact Or.inr (Or.inl (key _ (by rw [h, e1])))
  · exact Or.inr (Or.inr (Or.inl (key _ (by rw [h, e2]))))
  · exact Or.inr (Or.inr (Or.inr (Or.inl (key _ (by rw [h, e3])))))
  · exact Or.inr (Or.inr (Or.inr (Or.inr (Or.inl (key _ (by rw [h, e4]))))))
  · exact Or.inr (Or.inr (Or.inr (Or.inr (Or.inr (Or.inl (key _ (by rw [h, e5])))))))
  · exact Or.inr (Or.inr (Or.inr (Or.inr (Or.inr (Or.inr (Or.inl (key _ (by rw [h, e6]))))))))
  · exact Or.inr (Or.inr (Or.inr (Or.inr (Or.inr (Or.inr (Or.inr (Or.inl (key _ (by rw [h, e7])))))))))
  · exact Or.inr (Or.inr (Or.inr (Or.inr (Or.inr (Or.inr (Or.inr (Or.inr (key _ (by rw [h, e8])))))))))
theorem nkC_lo {w : Int32} (h : w.toInt < 0) : nkC w = 1 := by
  unfold nkC
  rw [if_pos ((nTI w 0).mpr (by have e0 : (0 : Int32).toInt = 0 := by decide
                                omega))]
theorem nkC_hi {w : Int32} (h : 8 < w.toInt) : nkC w = 1 := by
  unfold nkC
  have e0 : (0 : Int32).toInt = 0 := by decide
  have e8 : (8 : Int32).toInt = 8 := by decide
  rw [if_neg (fun h9 => by rw [nTI] at h9; omega), if_pos ((nTI 8 w).mpr (by omega))]
def nNo (q : Int32) : Prop := ∀ k, k < 26 → ¬ nI (97 + k) = q
theorem nsm_of {q : Int32} (h : ¬ nsm q = 0) : ∃ j, 97 ≤ j ∧ j ≤ 122 ∧ q = nI j := by
  unfold nsm at h
  by_cases h1 : q < 97
  · rw [if_pos h1] at h; exact absurd rfl h
  · rw [if_neg h1] at h
    by_cases h2 : 122 < q
    · rw [if_pos h2] at h; exact absurd rfl h
    · have e97 : (97 : Int32).toInt = 97 := by decide
      have e122 : (122 : Int32).toInt = 122 := by decide
      have e0 : (0 : Int32).toInt = 0 := by decide
      rw [nTI] at h1 h2
      obtain ⟨j, hj, e⟩ := nI_of (x := q) (fun h9 => by rw [nTI] at h9; omega)
      subst e
      rw [nI_toInt hj] at h1 h2
      exact ⟨j, by omega, by omega, rfl⟩
theorem n_pair {c d : Int32} (hc : ¬ nsm c = 0) (hd : ¬ nsm d = 0) : nNo (128 * c + d) := by
  obtain ⟨a, ha, ha2, rfl⟩ := nsm_of hc
  obtain ⟨b, hb, hb2, rfl⟩ := nsm_of hd
  intro k hk h
  have e : (128 : Int32) * nI a + nI b = nI (128 * a + b) := by
    rw [show (128 : Int32) * nI a = nI (128 * a) from pk_mul 128 a, nI_add]
  rw [e, nI_eq (by omega) (by omega)] at h
  omega
