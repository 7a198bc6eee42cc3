/-! NUMBERS: what the class and the reference both compute, as functions of numbers -/
def tq_sh (x : Int64) (k : Int32) : Int64 := (x.toUInt64 >>> (k.toInt64.toUInt64 &&& Int64.toUInt64 63)).toInt64
def tq_m1 (h x : Int64) : Int64 := (h ^^^ x) * (-7046029254386353131)
def tq_m2 (y : Int64) : Int64 := (y ^^^ tq_sh y 29) * (-4658895280553007687)
def tq_mix (h x : Int64) : Int64 := tq_m2 (tq_m1 h x) ^^^ tq_sh (tq_m2 (tq_m1 h x)) 32
def tq_leaf (v : Int64) : Int64 := tq_mix 1 v
def tq_node (a b : Int64) : Int64 := tq_mix (tq_mix 2 a) b
def tq_pb (n : Nat) : Nat := 2 ^ (n - 1).log2
theorem tq_pb_pos (n : Nat) : 0 < tq_pb n := Nat.two_pow_pos _
theorem tq_pb_lt {n : Nat} (h : 2 ≤ n) : tq_pb n < n := by
  have := Nat.log2_self_le (n := n - 1) (by omega)
  unfold tq_pb; omega
theorem tq_pb_ge (n : Nat) : n ≤ 2 * tq_pb n := by
  have h := Nat.lt_log2_self (n := n - 1)
  rw [Nat.pow_succ] at h
  unfold tq_pb; omega
theorem tq_pb_of {n j : Nat} (h1 : 2 ^ j < n) (h2 : n ≤ 2 * 2 ^ j) : tq_pb n = 2 ^ j := by
  have hp := Nat.two_pow_pos j
  have h : (n - 1).log2 = j := (Nat.log2_eq_iff (by omega)).mpr ⟨by omega, by rw [Nat.pow_succ]; omega⟩
  unfold tq_pb; rw [h]
theorem tq_pb_1 : tq_pb 1 = 1 := by decide +kernel
theorem tq_pb_half {n d : Nat} (h : n ≤ 2 ^ (d + 1)) (h2 : 2 ≤ n) : tq_pb n ≤ 2 ^ d := by
  unfold tq_pb
  apply Nat.pow_le_pow_right (by decide)
  have : (n - 1).log2 < d + 1 := (Nat.log2_lt (by omega)).mpr (by omega)
  omega
theorem tq_pb_rest {n d : Nat} (h : n ≤ 2 ^ (d + 1)) (h2 : 2 ≤ n) : n - tq_pb n ≤ 2 ^ d := by
  have := tq_pb_half h h2
  have := tq_pb_ge n
  omega
def tq_hd (f : Nat → Int64) (i n : Nat) : Int64 :=
  if h : n < 2 then (if n = 0 then 0 else f i)
  else tq_node (tq_hd f i (tq_pb n)) (tq_hd f (i + tq_pb n) (n - tq_pb n))
termination_by n
decreasing_by
  · exact tq_pb_lt (by omega)
  · have := tq_pb_pos n; omega
theorem tq_hd_0 (f : Nat → Int64) (i : Nat) : tq_hd f i 0 = 0 := by rw [tq_hd]; simp
theorem tq_hd_1 (f : Nat → Int64) (i : Nat) : tq_hd f i 1 = f i := by rw [tq_hd]; simp
theorem tq_hd_n {f : Nat → Int64} {i n : Nat} (h : 2 ≤ n) : tq_hd f i n = tq_node (tq_hd f i (tq_pb n)) (tq_hd f (i + tq_pb n) (n - tq_pb n)) := by
  rw [tq_hd, dif_neg (by omega)]
theorem tq_hd_congr {f g : Nat → Int64} (n : Nat) : ∀ i : Nat, (∀ j, i ≤ j → j < i + n → f j = g j) → tq_hd f i n = tq_hd g i n := by
  induction n using Nat.strongRecOn with
  | ind n ih =>
    intro i h
    by_cases h2 : 2 ≤ n
    · have hp := tq_pb_pos n
      have hl := tq_pb_lt h2
      rw [tq_hd_n h2, tq_hd_n h2, ih _ hl i (fun j a b => h j a (by omega)), ih (n - tq_pb n) (by omega) (i + tq_pb n) (fun j a b => h j (by omega) (by omega))]
    · rcases (by omega : n = 0 ∨ n = 1) with rfl | rfl
      · rw [tq_hd_0, tq_hd_0]
      · rw [tq_hd_1, tq_hd_1]; exact h i (Nat.le_refl i) (by omega)
def tq_pl (m n : Nat) : Nat :=
  if h : n < 2 then 0 else if m < tq_pb n then tq_pl m (tq_pb n) + 1 else tq_pl (m - tq_pb n) (n - tq_pb n) + 1
termination_by n
decreasing_by
  · exact tq_pb_lt (by omega)
  · have := tq_pb_pos n; omega
theorem tq_pl_0 {m n : Nat} (h : n < 2) : tq_pl m n = 0 := by rw [tq_pl, dif_pos h]
theorem tq_pl_l {m n : Nat} (h : 2 ≤ n) (hm : m < tq_pb n) : tq_pl m n = tq_pl m (tq_pb n) + 1 := by rw [tq_pl, dif_neg (by omega), if_pos hm]
theorem tq_pl_r {m n : Nat} (h : 2 ≤ n) (hm : tq_pb n ≤ m) : tq_pl m n = tq_pl (m - tq_pb n) (n - tq_pb n) + 1 := by rw [tq_pl, dif_neg (by omega), if_neg (by omega)]
theorem tq_pl_le (d : Nat) : ∀ m n : Nat, n ≤ 2 ^ d → tq_pl m n ≤ d := by
  induction d with
  | zero => intro m n h; rw [tq_pl_0 (by omega)]; exact Nat.le_refl 0
  | succ d ih =>
    intro m n h
    by_cases h2 : 2 ≤ n
    · by_cases hm : m < tq_pb n
      · rw [tq_pl_l h2 hm]; have := ih m _ (tq_pb_half h h2); omega
      · rw [tq_pl_r h2 (by omega)]; have := ih (m - tq_pb n) _ (tq_pb_rest h h2); omega
    · rw [tq_pl_0 (by omega)]; omega
theorem tq_pl_pos {m n : Nat} (h : 2 ≤ n) : 0 < tq_pl m n := by
  by_cases hm : m < tq_pb n
  · rw [tq_pl_l h hm]; omega
  · rw [tq_pl_r h (by omega)]; omega
def tq_pt (f : Nat → Int64) (i m n : Nat) : List Int64 :=
  if h : n < 2 then [] else if m < tq_pb n then tq_pt f i m (tq_pb n) ++ [tq_hd f (i + tq_pb n) (n - tq_pb n)] else tq_pt f (i + tq_pb n) (m - tq_pb n) (n - tq_pb n) ++ [tq_hd f i (tq_pb n)]
termination_by n
decreasing_by
  · exact tq_pb_lt (by omega)
  · have := tq_pb_pos n; omega
theorem tq_pt_0 {f : Nat → Int64} {i m n : Nat} (h : n < 2) : tq_pt f i m n = [] := by rw [tq_pt, dif_pos h]
theorem tq_pt_l {f : Nat → Int64} {i m n : Nat} (h : 2 ≤ n) (hm : m < tq_pb n) : tq_pt f i m n = tq_pt f i m (tq_pb n) ++ [tq_hd f (i + tq_pb n) (n - tq_pb n)] := by rw [tq_pt, dif_neg (by omega), if_pos hm]
theorem tq_pt_r {f : Nat → Int64} {i m n : Nat} (h : 2 ≤ n) (hm : tq_pb n ≤ m) : tq_pt f i m n = tq_pt f (i + tq_pb n) (m - tq_pb n) (n - tq_pb n) ++ [tq_hd f i (tq_pb n)] := by rw [tq_pt, dif_neg (by omega), if_neg (by omega)]
theorem tq_pt_len {f : Nat → Int64} (n : Nat) : ∀ i m : Nat, (tq_pt f i m n).length = tq_pl m n := by
  induction n using Nat.strongRecOn with
  | ind n ih =>
    intro i m
    by_cases h2 : 2 ≤ n
    · have hp := tq_pb_pos n
      have hl := tq_pb_lt h2
      by_cases hm : m < tq_pb n
      · rw [tq_pt_l h2 hm, tq_pl_l h2 hm, List.length_append, ih _ hl]; rfl
      · rw [tq_pt_r h2 (by omega), tq_pl_r h2 (by omega), List.length_append, ih _ (by omega)]; rfl
    · rw [tq_pt_0 (by omega), tq_pl_0 (by omega)]; rfl
theorem tq_pt_congr {f g : Nat → Int64} (n : Nat) : ∀ i m : Nat, (∀ j, i ≤ j → j < i + n → f j = g j) → tq_pt f i m n = tq_pt g i m n := by
  induction n using Nat.strongRecOn with
  | ind n ih =>
    intro i m h
    by_cases h2 : 2 ≤ n
    · have hp := tq_pb_pos n
      have hl := tq_pb_lt h2
      by_cases hm : m < tq_pb n
      · rw [tq_pt_l h2 hm, tq_pt_l h2 hm, ih _ hl i m (fun j a b => h j a (by omega)), tq_hd_congr (n - tq_pb n) (i + tq_pb n) (fun j a b => h j (by omega) (by omega))]
      · rw [tq_pt_r h2 (by omega), tq_pt_r h2 (by omega), ih (n - tq_pb n) (by omega) (i + tq_pb n) (m - tq_pb n) (fun j a b => h j (by omega) (by omega)), tq_hd_congr (tq_pb n) i (fun j a b => h j a (by omega))]
    · rw [tq_pt_0 (by omega), tq_pt_0 (by omega)]
def tq_sl (b : Bool) (m n : Nat) : Nat :=
  if m = n then (if b then 0 else 1) else if h : n < 2 then 0 else if m ≤ tq_pb n then tq_sl b m (tq_pb n) + 1 else tq_sl false (m - tq_pb n) (n - tq_pb n) + 1
termination_by n
decreasing_by
  · exact tq_pb_lt (by omega)
  · have := tq_pb_pos n; omega
theorem tq_sl_e (b : Bool) (n : Nat) : tq_sl b n n = if b then 0 else 1 := by rw [tq_sl, if_pos rfl]
theorem tq_sl_l {b : Bool} {m n : Nat} (h : 2 ≤ n) (hm : m ≤ tq_pb n) : tq_sl b m n = tq_sl b m (tq_pb n) + 1 := by
  have := tq_pb_lt h
  rw [tq_sl, if_neg (by omega), dif_neg (by omega), if_pos hm]
theorem tq_sl_r {b : Bool} {m n : Nat} (h : 2 ≤ n) (hm : tq_pb n < m) (hn : m ≠ n) : tq_sl b m n = tq_sl false (m - tq_pb n) (n - tq_pb n) + 1 := by rw [tq_sl, if_neg hn, dif_neg (by omega), if_neg (by omega)]
theorem tq_sl_le (d : Nat) : ∀ (b : Bool) (m n : Nat), n ≤ 2 ^ d → tq_sl b m n ≤ d + 1 := by
  induction d with
  | zero =>
    intro b m n h
    by_cases hn : m = n
    · subst hn; rw [tq_sl_e]; split <;> omega
    · rw [tq_sl, if_neg hn, dif_pos (by omega)]; omega
  | succ d ih =>
    intro b m n h
    by_cases hn : m = n
    · subst hn; rw [tq_sl_e]; split <;> omega
    · by_cases h2 : 2 ≤ n
      · by_cases hm : m ≤ tq_pb n
        · rw [tq_sl_l h2 hm]; have := ih b m _ (tq_pb_half h h2); omega
        · rw [tq_sl_r h2 (by omega) hn]; have := ih false (m - tq_pb n) _ (tq_pb_rest h h2); omega
      · rw [tq_sl, if_neg hn, dif_pos (by omega)]; omega
def tq_st (f : Nat → Int64) (b : Bool) (i m n : Nat) : List Int64 :=
  if m = n then (if b then [] else [tq_hd f i n]) else if h : n < 2 then [] else if m ≤ tq_pb n then tq_st f b i m (tq_pb n) ++ [tq_hd f (i + tq_pb n) (n - tq_pb n)] else tq_st f false (i + tq_pb n) (m - tq_pb n) (n - tq_pb n) ++ [tq_hd f i (tq_pb n)]
termination_by n
decreasing_by
  · exact tq_pb_lt (by omega)
  · have := tq_pb_pos n; omega
theorem tq_st_e (f : Nat → Int64) (b : Bool) (i n : Nat) : tq_st f b i n n = if b then [] else [tq_hd f i n] := by rw [tq_st, if_pos rfl]
theorem tq_st_l {f : Nat → Int64} {b : Bool} {i m n : Nat} (h : 2 ≤ n) (hm : m ≤ tq_pb n) : tq_st f b i m n = tq_st f b i m (tq_pb n) ++ [tq_hd f (i + tq_pb n) (n - tq_pb n)] := by
  have := tq_pb_lt h
  rw [tq_st, if_neg (by omega), dif_neg (by omega), if_pos hm]
theorem tq_st_r {f : Nat → Int64} {b : Bool} {i m n : Nat} (h : 2 ≤ n) (hm : tq_pb n < m) (hn : m ≠ n) : tq_st f b i m n = tq_st f false (i + tq_pb n) (m - tq_pb n) (n - tq_pb n) ++ [tq_hd f i (tq_pb n)] := by rw [tq_st, if_neg hn, dif_neg (by omega), if_neg (by omega)]
theorem tq_st_j {f : Nat → Int64} {b : Bool} {i m n : Nat} (h : n < 2) (hn : m ≠ n) : tq_st f b i m n = [] := by rw [tq_st, if_neg hn, dif_pos h]
theorem tq_sl_j {b : Bool} {m n : Nat} (h : n < 2) (hn : m ≠ n) : tq_sl b m n = 0 := by rw [tq_sl, if_neg hn, dif_pos h]
theorem tq_st_len {f : Nat → Int64} (n : Nat) : ∀ (b : Bool) (i m : Nat), (tq_st f b i m n).length = tq_sl b m n := by
  induction n using Nat.strongRecOn with
  | ind n ih =>
    intro b i m
    by_cases hn : m = n
    · subst hn; rw [tq_st_e, tq_sl_e]; cases b <;> rfl
    · by_cases h2 : 2 ≤ n
      · have hp := tq_pb_pos n
        have hl := tq_pb_lt h2
        by_cases hm : m ≤ tq_pb n
        · rw [tq_st_l h2 hm, tq_sl_l h2 hm, List.length_append, ih _ hl]; rfl
        · rw [tq_st_r h2 (by omega) hn, tq_sl_r h2 (by omega) hn, List.length_append, ih _ (by omega)]; rfl
      · rw [tq_st_j (by omega) hn, tq_sl_j (by omega) hn]; rfl
theorem tq_st_congr {f g : Nat → Int64} (n : Nat) : ∀ (b : Bool) (i m : Nat), (∀ j, i ≤ j → j < i + n → f j = g j) → tq_st f b i m n = tq_st g b i m n := by
  induction n using Nat.strongRecOn with
  | ind n ih =>
    intro b i m h
    by_cases hn : m = n
    · subst hn; rw [tq_st_e, tq_st_e, tq_hd_congr m i h]
    · by_cases h2 : 2 ≤ n
      · have hp := tq_pb_pos n
        have hl := tq_pb_lt h2
        by_cases hm : m ≤ tq_pb n
        · rw [tq_st_l h2 hm, tq_st_l h2 hm, ih _ hl b i m (fun j a b => h j a (by omega)), tq_hd_congr (n - tq_pb n) (i + tq_pb n) (fun j a b => h j (by omega) (by omega))]
        · rw [tq_st_r h2 (by omega) hn, tq_st_r h2 (by omega) hn, ih (n - tq_pb n) (by omega) false (i + tq_pb n) (m - tq_pb n) (fun j a b => h j (by omega) (by omega)), tq_hd_congr (tq_pb n) i (fun j a b => h j a (by omega))]
      · rw [tq_st_j (by omega) hn, tq_st_j (by omega) hn]
def tq_rt (q : Nat → Int64) (m n : Nat) (v : Int64) : Int64 :=
  if h : n < 2 then v else if m < tq_pb n then tq_node (tq_rt q m (tq_pb n) v) (q (tq_pl m (tq_pb n))) else tq_node (q (tq_pl (m - tq_pb n) (n - tq_pb n))) (tq_rt q (m - tq_pb n) (n - tq_pb n) v)
termination_by n
decreasing_by
  · exact tq_pb_lt (by omega)
  · have := tq_pb_pos n; omega
theorem tq_rt_0 {q : Nat → Int64} {m n : Nat} {v : Int64} (h : n < 2) : tq_rt q m n v = v := by rw [tq_rt, dif_pos h]
theorem tq_rt_l {q : Nat → Int64} {m n : Nat} {v : Int64} (h : 2 ≤ n) (hm : m < tq_pb n) : tq_rt q m n v = tq_node (tq_rt q m (tq_pb n) v) (q (tq_pl m (tq_pb n))) := by rw [tq_rt, dif_neg (by omega), if_pos hm]
theorem tq_rt_r {q : Nat → Int64} {m n : Nat} {v : Int64} (h : 2 ≤ n) (hm : tq_pb n ≤ m) : tq_rt q m n v = tq_node (q (tq_pl (m - tq_pb n) (n - tq_pb n))) (tq_rt q (m - tq_pb n) (n - tq_pb n) v) := by rw [tq_rt, dif_neg (by omega), if_neg (by omega)]
theorem tq_rt_congr {q r : Nat → Int64} {v : Int64} (n : Nat) : ∀ m : Nat, (∀ j, j < tq_pl m n → q j = r j) → tq_rt q m n v = tq_rt r m n v := by
  induction n using Nat.strongRecOn with
  | ind n ih =>
    intro m h
    by_cases h2 : 2 ≤ n
    · have hp := tq_pb_pos n
      have hl := tq_pb_lt h2
      by_cases hm : m < tq_pb n
      · have e := tq_pl_l h2 hm
        rw [tq_rt_l h2 hm, tq_rt_l h2 hm, ih _ hl m (fun j a => h j (by omega)), h _ (by omega)]
      · have e := tq_pl_r (m := m) h2 (by omega)
        rw [tq_rt_r h2 (by omega), tq_rt_r h2 (by omega), ih (n - tq_pb n) (by omega) (m - tq_pb n) (fun j a => h j (by omega)), h _ (by omega)]
    · rw [tq_rt_0 (by omega), tq_rt_0 (by omega)]
def tq_od (q : Nat → Int64) (b : Bool) (m n : Nat) (v : Int64) : Int64 :=
  if m = n then (if b then v else q 0) else if h : n < 2 then v else if m ≤ tq_pb n then tq_od q b m (tq_pb n) v else tq_node (q (tq_sl false (m - tq_pb n) (n - tq_pb n))) (tq_od q false (m - tq_pb n) (n - tq_pb n) v)
termination_by n
decreasing_by
  · exact tq_pb_lt (by omega)
  · have := tq_pb_pos n; omega
def tq_nw (q : Nat → Int64) (b : Bool) (m n : Nat) (v : Int64) : Int64 :=
  if m = n then (if b then v else q 0) else if h : n < 2 then v else if m ≤ tq_pb n then tq_node (tq_nw q b m (tq_pb n) v) (q (tq_sl b m (tq_pb n))) else tq_node (q (tq_sl false (m - tq_pb n) (n - tq_pb n))) (tq_nw q false (m - tq_pb n) (n - tq_pb n) v)
termination_by n
decreasing_by
  · exact tq_pb_lt (by omega)
  · have := tq_pb_pos n; omega
theorem tq_od_e (q : Nat → Int64) (b : Bool) (n : Nat) (v : Int64) : tq_od q b n n v = if b then v else q 0 := by rw [tq_od, if_pos rfl]
theorem tq_od_j {q : Nat → Int64} {b : Bool} {m n : Nat} {v : Int64} (h : n < 2) (hn : m ≠ n) : tq_od q b m n v = v := by rw [tq_od, if_neg hn, dif_pos h]
theorem tq_od_l {q : Nat → Int64} {b : Bool} {m n : Nat} {v : Int64} (h : 2 ≤ n) (hm : m ≤ tq_pb n) : tq_od q b m n v = tq_od q b m (tq_pb n) v := by
  have := tq_pb_lt h
  rw [tq_od, if_neg (by omega), dif_neg (by omega), if_pos hm]
theorem tq_od_r {q : Nat → Int64} {b : Bool} {m n : Nat} {v : Int64} (h : 2 ≤ n) (hm : tq_pb n < m) (hn : m ≠ n) : tq_od q b m n v = tq_node (q (tq_sl false (m - tq_pb n) (n - tq_pb n))) (tq_od q false (m - tq_pb n) (n - tq_pb n) v) := by rw [tq_od, if_neg hn, dif_neg (by omega), if_neg (by omega)]
theorem tq_nw_e (q : Nat → Int64) (b : Bool) (n : Nat) (v : Int64) : tq_nw q b n n v = if b then v else q 0 := by rw [tq_nw, if_pos rfl]
theorem tq_nw_j {q : Nat → Int64} {b : Bool} {m n : Nat} {v : Int64} (h : n < 2) (hn : m ≠ n) : tq_nw q b m n v = v := by rw [tq_nw, if_neg hn, dif_pos h]
theorem tq_nw_l {q : Nat → Int64} {b : Bool} {m n : Nat} {v : Int64} (h : 2 ≤ n) (hm : m ≤ tq_pb n) : tq_nw q b m n v = tq_node (tq_nw q b m (tq_pb n) v) (q (tq_sl b m (tq_pb n))) := by
  have := tq_pb_lt h
  rw [tq_nw, if_neg (by omega), dif_neg (by omega), if_pos hm]
theorem tq_nw_r {q : Nat → Int64} {b : Bool} {m n : Nat} {v : Int64} (h : 2 ≤ n) (hm : tq_pb n < m) (hn : m ≠ n) : tq_nw q b m n v = tq_node (q (tq_sl false (m - tq_pb n) (n - tq_pb n))) (tq_nw q false (m - tq_pb n) (n - tq_pb n) v) := by rw [tq_nw, if_neg hn, dif_neg (by omega), if_neg (by omega)]
theorem tq_on_congr {q r : Nat → Int64} {v : Int64} (n : Nat) : ∀ (b : Bool) (m : Nat), (∀ j, j < tq_sl b m n → q j = r j) → tq_od q b m n v = tq_od r b m n v ∧ tq_nw q b m n v = tq_nw r b m n v := by
  induction n using Nat.strongRecOn with
  | ind n ih =>
    intro b m h
    by_cases hn : m = n
    · subst hn
      rw [tq_od_e, tq_od_e, tq_nw_e, tq_nw_e]
      cases b with
      | true => exact ⟨rfl, rfl⟩
      | false =>
        have := h 0 (by rw [tq_sl_e]; exact Nat.one_pos)
        rw [this]; exact ⟨rfl, rfl⟩
    · by_cases h2 : 2 ≤ n
      · have hp := tq_pb_pos n
        have hl := tq_pb_lt h2
        by_cases hm : m ≤ tq_pb n
        · have e := tq_sl_l (b := b) h2 hm
          obtain ⟨i1, i2⟩ := ih _ hl b m (fun j a => h j (by omega))
          rw [tq_od_l h2 hm, tq_od_l h2 hm, tq_nw_l h2 hm, tq_nw_l h2 hm, i1, i2, h _ (by omega)]
          exact ⟨rfl, rfl⟩
        · have e := tq_sl_r (b := b) h2 (by omega) hn
          obtain ⟨i1, i2⟩ := ih (n - tq_pb n) (by omega) false (m - tq_pb n) (fun j a => h j (by omega))
          rw [tq_od_r h2 (by omega) hn, tq_od_r h2 (by omega) hn, tq_nw_r h2 (by omega) hn, tq_nw_r h2 (by omega) hn, i1, i2, h _ (by omega)]
          exact ⟨rfl, rfl⟩
      · rw [tq_od_j (by omega) hn, tq_od_j (by omega) hn, tq_nw_j (by omega) hn, tq_nw_j (by omega) hn]
        exact ⟨rfl, rfl⟩
def tq_pf : Nat → Nat → Nat
  | 0, _ => 0
  | d + 1, n => n % 2 + tq_pf d (n / 2)
def tq_pop (n : Nat) : Nat := tq_pf 10 n
def tq_wr (g : Nat → Int64) (p : Nat) : List Int64 → (Nat → Int64)
  | [] => g
  | x :: xs => tq_wr (vp_updL g p x) (p + 1) xs
theorem tq_wr_snoc (x : Int64) : ∀ (L : List Int64) (g : Nat → Int64) (p : Nat), tq_wr g p (L ++ [x]) = vp_updL (tq_wr g p L) (p + L.length) x
  | [], g, p => rfl
  | y :: L, g, p => by
    show tq_wr (vp_updL g p y) (p + 1) (L ++ [x]) = vp_updL (tq_wr (vp_updL g p y) (p + 1) L) (p + (L.length + 1)) x
    rw [tq_wr_snoc x L, show p + 1 + L.length = p + (L.length + 1) by omega]
theorem tq_wr_get : ∀ (L : List Int64) (g : Nat → Int64) (p j : Nat), tq_wr g p L j = if p ≤ j ∧ j < p + L.length then L.getD (j - p) 0 else g j
  | [], g, p, j => by rw [if_neg (by simp only [List.length_nil]; omega)]; rfl
  | y :: L, g, p, j => by
    show tq_wr (vp_updL g p y) (p + 1) L j = _
    rw [tq_wr_get L]
    by_cases h1 : j = p
    · subst h1
      rw [if_neg (by omega), if_pos (by simp), Nat.sub_self]
      simp [vp_updL]
    · by_cases h2 : p + 1 ≤ j ∧ j < p + 1 + L.length
      · rw [if_pos h2, if_pos (by simp; omega), show j - p = (j - (p + 1)) + 1 by omega]
        simp
      · rw [if_neg h2, if_neg (by simp; omega)]
        simp [vp_updL, h1]
def tq_fl (f : Nat → Int64) (n c : Nat) (h : Nat → Int64) : Nat → Int64 := fun j => if n ≤ j ∧ j < n + c then h (j - n) else f j
theorem tq_fl_0 (f : Nat → Int64) (n : Nat) (h : Nat → Int64) : tq_fl f n 0 h = f := by
  funext j
  simp only [tq_fl]
  rw [if_neg (by omega)]
theorem tq_fl_s (f : Nat → Int64) (n c : Nat) (h : Nat → Int64) : vp_updL (tq_fl f n c h) (n + c) (h c) = tq_fl f n (c + 1) h := by
  funext j
  simp only [tq_fl, vp_updL]
  by_cases h1 : j = n + c
  · subst h1
    rw [if_pos rfl, if_pos (by omega), Nat.add_sub_cancel_left]
  · rw [if_neg h1]
    by_cases h2 : n ≤ j ∧ j < n + c
    · rw [if_pos h2, if_pos (by omega)]
    · rw [if_neg h2, if_neg (by omega)]
