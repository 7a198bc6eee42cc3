/-! THE RELATION between the class's state and the reference's, and what follows of it -/
def tq_F (f : Nat → Int64) : Nat → Int64 := fun j => tq_leaf (f j)
def tq_R (n k : Nat) (f g f2 g2 : Nat → Int64) : Prop := n ≤ 600 ∧ k ≤ 40 ∧ (∀ j, j < n → f j = tq_leaf (f2 j)) ∧ ∀ j, j < k → g j = g2 j
theorem tq_ok1 {q : Int32} {n : Nat} (hn : n < 2 ^ 31) (h : ¬ (q < 0 ∨ nI n < q)) : ∃ j : Nat, j ≤ n ∧ q = nI j := by
  obtain ⟨j, hj, rfl⟩ := nI_of (fun h1 => h (Or.inl h1))
  exact ⟨j, Nat.le_of_not_lt (fun h1 => h (Or.inr (nI_lt h1 hj))), rfl⟩
theorem tq_ok2 {q : Int32} {n : Nat} (hn : n < 2 ^ 31) (h : ¬ (q < 0 ∨ nI n ≤ q)) : ∃ j : Nat, j < n ∧ q = nI j := by
  obtain ⟨j, hj, rfl⟩ := nI_of (fun h1 => h (Or.inl h1))
  exact ⟨j, Nat.lt_of_not_le (fun h1 => h (Or.inr (nI_le h1 hj))), rfl⟩
theorem tq_nlt0 {q : Int32} (h : ¬ q < nI 1) : ¬ q < 0 := fun h1 => h (by
  rw [Int32.lt_iff_toInt_lt] at h1 ⊢
  have e0 : (0 : Int32).toInt = 0 := by decide
  have e1 : (nI 1).toInt = 1 := by decide +kernel
  omega)
theorem tq_ok3 {pm pn : Int32} {n : Nat} (hn : n < 2 ^ 31) (h : ¬ (pm < 0 ∨ pn < pm ∨ nI n < pn)) : ∃ i j : Nat, i ≤ j ∧ j ≤ n ∧ pm = nI i ∧ pn = nI j := by
  obtain ⟨i, hi, rfl⟩ := nI_of (fun h1 => h (Or.inl h1))
  have h0 : ¬ pn < 0 := fun h1 => h (Or.inr (Or.inl (by
    have h2 := nI_pos' hi
    rw [Int32.lt_iff_toInt_lt] at h1 ⊢
    rw [Int32.le_iff_toInt_le] at h2
    omega)))
  obtain ⟨j, hj, rfl⟩ := nI_of h0
  exact ⟨i, j, Nat.le_of_not_lt (fun h1 => h (Or.inr (Or.inl (nI_lt h1 hi)))), Nat.le_of_not_lt (fun h1 => h (Or.inr (Or.inr (nI_lt h1 hj)))), rfl, rfl⟩
theorem tq_ok4 {pm pn : Int32} {n : Nat} (hn : n < 2 ^ 31) (h : ¬ (pm < 0 ∨ pn ≤ pm ∨ nI n < pn)) : ∃ i j : Nat, i < j ∧ j ≤ n ∧ pm = nI i ∧ pn = nI j := by
  have h3 : ¬ (pm < 0 ∨ pn < pm ∨ nI n < pn) := fun h1 => h (h1.elim Or.inl (fun h2 => h2.elim (fun h4 => Or.inr (Or.inl (Int32.le_of_lt h4))) (fun h4 => Or.inr (Or.inr h4))))
  obtain ⟨i, j, h1, h2, rfl, rfl⟩ := tq_ok3 hn h3
  refine ⟨i, j, Nat.lt_of_not_le (fun h5 => h (Or.inr (Or.inl ?_))), h2, rfl, rfl⟩
  have : i = j := by omega
  rw [this]
  exact Int32.le_refl _
theorem tq_ok5 {pm pn : Int32} {n : Nat} (hn : n < 2 ^ 31) (h : ¬ (pm < nI 1 ∨ pn < pm ∨ nI n < pn)) : ∃ i j : Nat, 1 ≤ i ∧ i ≤ j ∧ j ≤ n ∧ pm = nI i ∧ pn = nI j := by
  have h3 : ¬ (pm < 0 ∨ pn < pm ∨ nI n < pn) := fun h1 => h1.elim (fun h2 => tq_nlt0 (fun h4 => h (Or.inl h4)) h2) (fun h2 => h (Or.inr h2))
  obtain ⟨i, j, h1, h2, rfl, rfl⟩ := tq_ok3 hn h3
  exact ⟨i, j, Nat.le_of_not_lt (fun h5 => h (Or.inl (nI_lt h5 (by decide)))), h1, h2, rfl, rfl⟩
theorem tq_ok6 {q : Int32} (h : ¬ (q < nI 1 ∨ nI 200 < q)) : ∃ j : Nat, 1 ≤ j ∧ j ≤ 200 ∧ q = nI j := by
  obtain ⟨j, hj, rfl⟩ := tq_ok1 (n := 200) (by decide) (q := q) (fun h1 => h1.elim (fun h2 => tq_nlt0 (fun h4 => h (Or.inl h4)) h2) (fun h2 => h (Or.inr h2)))
  exact ⟨j, Nat.le_of_not_lt (fun h5 => h (Or.inl (nI_lt h5 (by decide)))), hj, rfl⟩
section TQREL
variable {n k : Nat} {f g f2 g2 : Nat → Int64}
theorem tq_R.add (h : tq_R n k f g f2 g2) (hn : n < 600) (v : Int64) : tq_R (n + 1) k (vp_updL f n (tq_leaf v)) g (vp_updL f2 n v) g2 := by
  refine ⟨by omega, h.2.1, fun j hj => ?_, h.2.2.2⟩
  simp only [vp_updL]
  by_cases e : j = n
  · rw [if_pos e, if_pos e]
  · rw [if_neg e, if_neg e]; exact h.2.2.1 j (by omega)
theorem tq_R.fill (h : tq_R n k f g f2 g2) {c : Nat} (hn : n + c ≤ 600) (w : Nat → Int64) : tq_R (n + c) k (tq_fl f n c (fun i => tq_leaf (w i))) g (tq_fl f2 n c w) g2 := by
  refine ⟨hn, h.2.1, fun j hj => ?_, h.2.2.2⟩
  simp only [tq_fl]
  by_cases e : n ≤ j ∧ j < n + c
  · rw [if_pos e, if_pos e]
  · rw [if_neg e, if_neg e]; exact h.2.2.1 j (by omega)
theorem tq_R.cut (h : tq_R n k f g f2 g2) {j : Nat} (hj : j ≤ n) : tq_R j k f g f2 g2 := ⟨Nat.le_trans hj h.1, h.2.1, fun q hq => h.2.2.1 q (by omega), h.2.2.2⟩
theorem tq_R.alter (h : tq_R n k f g f2 g2) (j : Nat) (v : Int64) : tq_R n k f (vp_updL g j v) f2 (vp_updL g2 j v) := by
  refine ⟨h.1, h.2.1, h.2.2.1, fun q hq => ?_⟩
  simp only [vp_updL]
  by_cases e : q = j
  · rw [if_pos e, if_pos e]
  · rw [if_neg e, if_neg e]; exact h.2.2.2 q hq
theorem tq_R.len (h : tq_R n k f g f2 g2) {j : Nat} (hj : j ≤ 40) : tq_R n j f (tq_fl g k (j - k) (fun _ => 0)) f2 (tq_fl g2 k (j - k) (fun _ => 0)) := by
  refine ⟨h.1, hj, h.2.2.1, fun q hq => ?_⟩
  simp only [tq_fl]
  by_cases e : k ≤ q ∧ q < k + (j - k)
  · rw [if_pos e, if_pos e]
  · rw [if_neg e, if_neg e]; exact h.2.2.2 q (by omega)
theorem tq_R.hd (h : tq_R n k f g f2 g2) {i c : Nat} (hc : i + c ≤ n) : tq_hd f i c = tq_hd (fun j => tq_leaf (f2 j)) i c := tq_hd_congr c i (fun j _ hj => h.2.2.1 j (by omega))
theorem tq_R.put (h : tq_R n k f g f2 g2) {u : Nat → Int64} {L L2 : List Int64} {c : Nat} (hc : c ≤ 40) (hl : L.length = c) (e : L = L2) (hu : ∀ q, q < L.length → u q = L.getD q 0) : tq_R n c f u f2 (tq_wr g2 0 L2) := by
  subst e
  refine ⟨h.1, hc, h.2.2.1, fun q hq => ?_⟩
  rw [hu q (by omega), tq_wr_get, if_pos ⟨Nat.zero_le q, by omega⟩, Nat.sub_zero]
theorem tq_R.path (h : tq_R n k f g f2 g2) {u : Nat → Int64} {y z : Nat} (hy : y < z) (hz : z ≤ n) (hu : ∀ q, q < (tq_pt f 0 y z).length → u q = (tq_pt f 0 y z).getD q 0) : tq_R n (tq_pl y z) f u f2 (tq_wr g2 0 (tq_pt (fun j => tq_leaf (f2 j)) 0 y z)) := by
  have h1 := h.1
  have hp := tq_pl_le 10 y z (by omega)
  exact h.put (by omega) (tq_pt_len z 0 y) (tq_pt_congr z 0 y (fun j _ hj => h.2.2.1 j (by omega))) hu
theorem tq_R.steps (h : tq_R n k f g f2 g2) {u : Nat → Int64} {y z : Nat} (hz : z ≤ n) (hu : ∀ q, q < (tq_st f true 0 y z).length → u q = (tq_st f true 0 y z).getD q 0) : tq_R n (tq_sl true y z) f u f2 (tq_wr g2 0 (tq_st (fun j => tq_leaf (f2 j)) true 0 y z)) := by
  have h1 := h.1
  have hp := tq_sl_le 10 true y z (by omega)
  exact h.put (by omega) (tq_st_len z true 0 y) (tq_st_congr z true 0 y (fun j _ hj => h.2.2.1 j (by omega))) hu
theorem tq_fd_congr {F : Nat → Int64} {v : Int64} : ∀ (t i : Nat), (∀ j, i ≤ j → j < i + t → f j = F j) → tq_fd f v t i = tq_fd F v t i
  | 0, _, _ => rfl
  | t + 1, i, h => by
    show (if f i = v then nI i else tq_fd f v t (i + 1)) = (if F i = v then nI i else tq_fd F v t (i + 1))
    rw [h i (Nat.le_refl i) (by omega), tq_fd_congr t (i + 1) (fun j a b => h j (by omega) (by omega))]
theorem tq_R.find (h : tq_R n k f g f2 g2) {c : Nat} (hc : c ≤ n) (v : Int64) : tq_fd f (tq_leaf v) c 0 = tq_fd (fun j => tq_leaf (f2 j)) (tq_leaf v) c 0 := tq_fd_congr c 0 (fun j _ hj => h.2.2.1 j (by omega))
theorem tq_R.qq (h : tq_R n k f g f2 g2) : ∀ q, q < k → g q = tq_q g2 k (0 + q) := fun q hq => by
  rw [Nat.zero_add]
  unfold tq_q
  rw [if_pos hq]
  exact h.2.2.2 q hq
theorem tq_R.shows (h : tq_R n k f g f2 g2) (y z : Nat) (v hd : Int64) : (decide (k = tq_pl y z) && decide (tq_rt g y z v = hd)) = (decide (0 + tq_pl y z = k) && decide (tq_rt (fun q => tq_q g2 k (0 + q)) y z v = hd)) := by
  by_cases e : k = tq_pl y z
  · rw [tq_rt_congr (q := g) (r := fun q => tq_q g2 k (0 + q)) z y (fun j hj => h.qq j (by omega)), decide_eq_true e, decide_eq_true (by omega : 0 + tq_pl y z = k)]
  · rw [decide_eq_false e, decide_eq_false (by omega : ¬ 0 + tq_pl y z = k), Bool.false_and, Bool.false_and]
theorem tq_R.grew (h : tq_R n k f g f2 g2) (y z : Nat) (v hd : Int64) : (decide (k = tq_sl true y z) && (decide (tq_od g true y z v = v) && decide (tq_nw g true y z v = hd))) = (decide (0 + tq_sl true y z = k) && (decide (tq_od (fun q => tq_q g2 k (0 + q)) true y z v = v) && decide (tq_nw (fun q => tq_q g2 k (0 + q)) true y z v = hd))) := by
  by_cases e : k = tq_sl true y z
  · obtain ⟨e1, e2⟩ := tq_on_congr (q := g) (r := fun q => tq_q g2 k (0 + q)) (v := v) z true y (fun j hj => h.qq j (by omega))
    rw [e1, e2, decide_eq_true e, decide_eq_true (by omega : 0 + tq_sl true y z = k)]
  · rw [decide_eq_false e, decide_eq_false (by omega : ¬ 0 + tq_sl true y z = k), Bool.false_and, Bool.false_and]
end TQREL
def tq_lg (a b : Int32) : Int64 := (a.toInt64 <<< ((nI 32).toInt64 &&& 63)) ||| (b.toInt64 &&& 4294967295)
