theorem nhp_in26 {j : Nat} (h : j < 26) : nhp 26 (nI j) = 1 := nhp_in (n := 26) h (by decide)
theorem nhp_nz26 {j : Nat} (h : j < 26) : ¬ nhp 26 (nI j) = 0 := by rw [nhp_in26 h]; decide
theorem nhp_of26 {q : Int32} (h : nhp 26 q = 1) : ∃ j, j < 26 ∧ q = nI j := nhp_of (n := 26) (by decide) h
theorem nhp_1 {z q : Int32} (h : ¬ nhp z q = 0) : nhp z q = 1 := (nhp_01 z q).resolve_left h
theorem n_ld {v f : Nat → Int32} {N j : Nat} (h : ∀ j, j < N → f j = v j) (hj : j < N) (hN : N < 2 ^ 31) : f ((nI j).toNatClampNeg) = v j := by
  rw [nI_clamp (by omega)]; exact h j hj
theorem nsm_32 {q : Int32} (h : ¬ nsm q = 0) : ¬ 32 = q := by
  intro e
  subst e
  exact h (by decide)
/-! what the calls that look at their numbers answer: whether they throw, and the number -/
def nkP (q : Int32) : Int32 := if nhp 26 q = 1 then 0 else 1
def nkM (a b : Int32) : Int32 := if nhp 26 a = 1 then (if nhp 26 b = 1 then 0 else 1) else 1
def nvM (a b : Int32) : Int32 := if 0 ≤ a - b then a - b else 0 - (a - b)
def nvL (q s : Int32) : Int32 := if s = 0 then 97 + q else 32
def nkA (c d q : Int32) : Int32 := if nsm c = 0 then 1 else if nsm d = 0 then 1 else if q < 0 then 2 else if q ≤ 26 then 0 else 2
def nkR (f t a b : Int32) : Int32 := if nhp 26 f = 1 then (if t = -1 then (if ncd a = 0 then 2 else if ncd b = 0 then 2 else 0) else if nhp 26 t = 1 then (if ncd a = 0 then 2 else if ncd b = 0 then 2 else 0) else 1) else 1
def nkC (w : Int32) : Int32 := if w < 0 then 1 else if 8 < w then 1 else 0
def nvC (w : Int32) : Int32 := if w = 4 then 26 else 0
