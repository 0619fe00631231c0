/-! the cells -/
/-- forest, search, depth, free, count, latest, begun, last answer -/
abbrev zX : Type := zF × zC × (Nat → Int32) × (Nat → Int32) × Int32 × Int32 × Int32 × Int32
def x_F (X : zX) : zF := X.1
def x_c (X : zX) : zC := X.2.1
def x_d (X : zX) : Nat → Int32 := X.2.2.1
def x_f (X : zX) : Nat → Int32 := X.2.2.2.1
def x_n (X : zX) : Int32 := X.2.2.2.2.1
def x_l (X : zX) : Int32 := X.2.2.2.2.2.1
def x_b (X : zX) : Int32 := X.2.2.2.2.2.2.1
def x_a (X : zX) : Int32 := X.2.2.2.2.2.2.2
def X_c (X : zX) (s : zC) : zX := (X.1, s, X.2.2)
/-- cells: GoalSearch, Search, Forest, seven rows of the forest, five of the search; a: addresses, k: the rows' array sorts -/
def wX (a : Nat → Nat) (k : Nat → ClassId) (X : zX) : va_W := [(a 0, .inr (2, [.ref (a 1), .ref (a 2)])),
  (a 1, .inr (1, [.ref (a 2), .ref (a 10), .ref (a 11), .ref (a 12), .ref (a 13), .ref (a 14), .int (g_wc (c_g (x_c X))), .int (g_sp (c_g (x_c X))), .int (x_l X), .int (f_f (x_F X)), .int (x_b X), .int (x_a X)])),
  (a 2, .inr (0, [.ref (a 3), .ref (a 4), .ref (a 5), .ref (a 6), .ref (a 7), .ref (a 8), .ref (a 9), .int (x_n X)])),
  (a 3, .inl (k 3, 60, .inl (f_k (x_F X)))), (a 4, .inl (k 4, 60, .inl (f_n (x_F X)))), (a 5, .inl (k 5, 60, .inl (f_x (x_F X)))), (a 6, .inl (k 6, 60, .inl (f_y (x_F X)))), (a 7, .inl (k 7, 60, .inl (f_z (x_F X)))), (a 8, .inl (k 8, 60, .inl (x_d X))), (a 9, .inl (k 9, 60, .inl (x_f X))),
  (a 10, .inl (k 10, 60, .inl (c_st (x_c X)))), (a 11, .inl (k 11, 60, .inl (c_rs (x_c X)))), (a 12, .inl (k 12, 60, .inr (.inl (c_ct (x_c X))))), (a 13, .inl (k 13, 8, .inl (g_va (c_g (x_c X))))), (a 14, .inl (k 14, 32, .inl (g_wr (c_g (x_c X)))))]
def yX (k : Nat → ClassId) : List (ClassId × FieldType) := [(k 3, .int), (k 4, .int), (k 5, .int), (k 6, .int), (k 7, .int), (k 8, .int), (k 9, .boolean), (k 10, .int), (k 11, .int), (k 12, .long), (k 13, .int), (k 14, .int)]
def wS (a : Nat → Nat) (k : Nat → ClassId) (X : zX) (s : zC) : va_W := wX a k (X_c X s)
/-- the written count is in range -/
def Wk (s : zC) : Prop := ∃ n : Nat, n ≤ 32 ∧ g_wc (c_g s) = nI n
theorem wk_in {s : zC} (h : Wk s) (hc : g_wc (c_g s) < 32) : vp_in (g_wc (c_g s)) 32 := by
  obtain ⟨n, hn, e⟩ := h
  rw [e] at hc ⊢
  exact vp_in_nI ((nI_ltI (b := 32) (by omega) (by decide)).mp hc) (by decide)
theorem wk_up {s : zC} {i v : Int32} (h : Wk s) (hc : g_wc (c_g s) < 32) : Wk (s_g (s_g s (h_w0 (c_g s) i v)) (h_w1 (c_g (s_g s (h_w0 (c_g s) i v))))) := by
  obtain ⟨n, hn, e⟩ := h
  rw [e] at hc
  have h32 := (nI_ltI (b := 32) (by omega) (by decide)).mp hc
  refine ⟨n + 1, h32, ?_⟩
  show g_wc (c_g s) + 1 = nI (n + 1)
  rw [e, nI_succ]
theorem wr_eq (s : zC) (v : Int32) : s_g (s_g s (h_w0 (c_g s) (g_wc (c_g s)) v)) (h_w1 (c_g (s_g s (h_w0 (c_g s) (g_wc (c_g s)) v)))) = s_g s (h_wr (c_g s) v) := rfl
theorem tn_lt {n : Nat} (h : n < 1000000) : nI n < 1000000 := nI_lt h (by decide)
theorem tn_ge {n : Nat} (h : nI n < 1000000) (hn : n = 1000000) : False := by
  subst hn
  exact absurd h (by decide)
theorem i64_nle {x y : Int64} (h : ¬ x ≤ y) : y < x := by
  rw [Int64.le_iff_toInt_le] at h; rw [Int64.lt_iff_toInt_lt]; omega
theorem i64_nlt {x y : Int64} (h : x ≤ y) : ¬ y < x := by
  rw [Int64.le_iff_toInt_le] at h; rw [Int64.lt_iff_toInt_lt]; omega
theorem br_tr {F : zF} {T : zT} {d : Nat} {e : Int32} {s : zC} (hy : Tr F T d (f_y F (ix e))) (hz : Tr F T d (f_z F (ix e))) : Tr F T d (p_branch F e s) := by
  unfold p_branch; split
  · exact hy
  · exact hz
/-! The whole objects: pure pictures of the calls, one a method, on both sides. -/
abbrev mx (x y : Int32) : Int32 := if x < y then y else x
def h_c (g : zG) (v : Int32) : zG := (g.1, g.2.1, g.2.2.1, v)
def h_wc (g : zG) (v : Int32) : zG := (g.1, g.2.1, v, g.2.2.2)
def X_q (X : zX) (f : zC → zC) : zX := (X.1, f X.2.1, X.2.2)
def X_k (X : zX) (i v : Int32) : zX := ((upd X.1.1 (ix i) v, X.1.2), X.2)
def X_m (X : zX) (i v : Int32) : zX := ((X.1.1, upd X.1.2.1 (ix i) v, X.1.2.2), X.2)
def X_x (X : zX) (i v : Int32) : zX := ((X.1.1, X.1.2.1, upd X.1.2.2.1 (ix i) v, X.1.2.2.2), X.2)
def X_y (X : zX) (i v : Int32) : zX := ((X.1.1, X.1.2.1, X.1.2.2.1, upd X.1.2.2.2.1 (ix i) v, X.1.2.2.2.2), X.2)
def X_z (X : zX) (i v : Int32) : zX := ((X.1.1, X.1.2.1, X.1.2.2.1, X.1.2.2.2.1, upd X.1.2.2.2.2.1 (ix i) v, X.1.2.2.2.2.2), X.2)
def X_u (X : zX) (v : Int32) : zX := ((X.1.1, X.1.2.1, X.1.2.2.1, X.1.2.2.2.1, X.1.2.2.2.2.1, v), X.2)
def X_d (X : zX) (i v : Int32) : zX := (X.1, X.2.1, upd X.2.2.1 (ix i) v, X.2.2.2)
def X_f (X : zX) (i v : Int32) : zX := (X.1, X.2.1, X.2.2.1, upd X.2.2.2.1 (ix i) v, X.2.2.2.2)
def X_n (X : zX) (v : Int32) : zX := (X.1, X.2.1, X.2.2.1, X.2.2.2.1, v, X.2.2.2.2.2)
def X_l (X : zX) (v : Int32) : zX := (X.1, X.2.1, X.2.2.1, X.2.2.2.1, X.2.2.2.2.1, v, X.2.2.2.2.2.2)
def X_b (X : zX) (v : Int32) : zX := (X.1, X.2.1, X.2.2.1, X.2.2.2.1, X.2.2.2.2.1, X.2.2.2.2.2.1, v, X.2.2.2.2.2.2.2)
def X_a (X : zX) (v : Int32) : zX := (X.1, X.2.1, X.2.2.1, X.2.2.2.1, X.2.2.2.2.1, X.2.2.2.2.2.1, X.2.2.2.2.2.2.1, v)
def p_bel (x y : Int32) : Bool := if x < 0 then false else if x < y then true else false
def p_full (X : zX) : Bool := if x_n X < 60 then false else true
def p_over (X : zX) (x y z : Int32) : Int32 := 1 + mx (x_d X (ix x)) (mx (x_d X (ix y)) (x_d X (ix z)))
def p_leafX (X : zX) (kd v : Int32) : Int32 × zX := (x_n X, X_n (X_f (X_d (X_m (X_k X (x_n X) kd) (x_n X) v) (x_n X) 1) (x_n X) 1) (x_n X + 1))
def p_overX (X : zX) (kd v x y z : Int32) : Int32 × zX :=
  let q := p_leafX X kd v
  let U := X_z (X_y (X_x q.2 q.1 x) q.1 y) q.1 z
  (q.1, X_f (X_f (X_f (X_d U q.1 (p_over U x y z)) x 0) y 0) z 0)
def p_gleaf (X : zX) (kd v : Int32) : Int32 × zX :=
  if p_bel kd 2 = true then
    if 0 + kd = 1 then
      if p_bel v 8 = true then if p_full X = true then (-4, X) else p_leafX X (0 + kd) v else (-1, X)
    else if p_full X = true then (-4, X) else p_leafX X (0 + kd) v
  else (-1, X)
def p_join (X : zX) (kd v x y z tw : Int32) : Int32 × zX :=
  if p_bel x (x_n X) = true then
    if p_bel y (x_n X) = true then
      if p_bel z (x_n X) = true then
        if tw = 0 then
          if x_f X (ix x) = 0 then (-3, X)
          else if x_f X (ix y) = 0 then (-3, X)
          else if x_f X (ix z) = 0 then (-3, X)
          else if p_full X = true then (-4, X)
          else if 12 < p_over X x y z then (-5, X)
          else p_overX X kd v x y z
        else (-3, X)
      else (-2, X)
    else (-2, X)
  else (-2, X)
def p_gun (X : zX) (kd v x : Int32) : Int32 × zX :=
  if p_bel kd 4 = true then
    if 2 + kd = 2 then if p_bel v 8 = true then p_join X (2 + kd) v x x x 0 else (-1, X)
    else p_join X (2 + kd) v x x x 0
  else (-1, X)
def p_gbin (X : zX) (kd x y : Int32) : Int32 × zX := if p_bel kd 12 = true then if x = y then p_join X (6 + kd) 0 x y y 1 else p_join X (6 + kd) 0 x y y 0 else (-1, X)
def p_gter (X : zX) (kd x y z : Int32) : Int32 × zX :=
  if p_bel kd 2 = true then
    if x = y then p_join X (18 + kd) 0 x y z 1 else if y = z then p_join X (18 + kd) 0 x y z 1 else if x = z then p_join X (18 + kd) 0 x y z 1 else p_join X (18 + kd) 0 x y z 0
  else (-1, X)
def p_about (X : zX) (x : Int32) : Int32 := if p_bel x (x_n X) = true then if x_f X (ix x) = 0 then x_d X (ix x) + 0 else x_d X (ix x) + 32 else -2
def p_set (X : zX) (x v : Int32) : Int32 × zX := if p_bel x 8 = true then (g_va (c_g (x_c X)) (ix x), X_q X (fun s => s_g s (h_va (c_g s) x v))) else (0, X)
def p_var (X : zX) (x : Int32) : Int32 := if p_bel x 8 = true then g_va (c_g (x_c X)) (ix x) else 0
def p_open (X : zX) (x v : Int32) : zX := X_a (X_l (X_q (X_q (X_u (X_b (X_c X (s_st (x_c X) x 0)) x) v) (fun s => s_g s (h_c (c_g s) 0))) (fun s => s_g s (h_wc (c_g s) 0))) 0) 1
def p_begin (X : zX) (x v : Int32) : Int32 × zX :=
  if p_bel x (x_n X) = true then if x_f X (ix x) = 0 then (-3, X) else if p_bel v 2001 = true then (0, p_open X x v) else (-1, X) else (-2, X)
def p_proc (M : Nat) (X : zX) : Int32 × zX :=
  if x_a X = 1 then
    let q := p_all (x_F X) M 12 (x_b X) (x_c X)
    if q.1 = 1 then (q.1, X_l (X_a (X_c X q.2) q.1) (c_rs q.2 (ix (x_b X)))) else (q.1, X_a (X_c X q.2) q.1)
  else (x_a X, X)
def p_written (X : zX) (x : Int32) : Int64 := if p_bel x (g_wc (c_g (x_c X))) = true then (g_wr (c_g (x_c X)) (ix x)).toInt64 else 4294967296
/-- what the calls of the class rest on -/
def VX (X : zX) : Prop := (∃ n : Nat, n ≤ 60 ∧ x_n X = nI n) ∧ Wk (x_c X)
def VT (T : zT) (X : zX) : Prop := (∃ n : Nat, n ≤ 60 ∧ x_n X = nI n) ∧ Wk (x_c X) ∧ (x_a X = 1 → Tr (x_F X) T 12 (x_b X))
theorem bel_of {x y : Int32} {n : Nat} (h : p_bel x y = true) (hy : y = nI n) (hn : n < 2 ^ 31) : ∃ j : Nat, j < n ∧ x = nI j := by
  unfold p_bel at h
  by_cases h0 : x < 0
  · rw [if_pos h0] at h; exact absurd h (by decide)
  rw [if_neg h0] at h
  by_cases h1 : x < y
  · obtain ⟨j, hj, rfl⟩ := nI_of h0
    rw [hy] at h1
    exact ⟨j, (nI_ltI hj hn).mp h1, rfl⟩
  · rw [if_neg h1] at h; exact absurd h (by decide)
theorem bel_8 {x : Int32} (h : p_bel x 8 = true) : vp_in x 8 := by
  obtain ⟨j, hj, rfl⟩ := bel_of (n := 8) h rfl (by decide)
  exact vp_in_nI hj (by decide)
theorem bel_n {x y : Int32} (hn : ∃ n : Nat, n ≤ 60 ∧ y = nI n) (h : p_bel x y = true) : vp_in x 60 := by
  obtain ⟨n, hn, e⟩ := hn
  obtain ⟨j, hj, rfl⟩ := bel_of h e (by omega)
  exact vp_in_nI (by omega) (by decide)
theorem bel_w {x : Int32} {s : zC} (hw : Wk s) (h : p_bel x (g_wc (c_g s)) = true) : vp_in x 32 := by
  obtain ⟨n, hn, e⟩ := hw
  obtain ⟨j, hj, rfl⟩ := bel_of h e (by omega)
  exact vp_in_nI (by omega) (by decide)
theorem full_n {X : zX} (hn : ∃ n : Nat, n ≤ 60 ∧ x_n X = nI n) (h : p_full X = false) : vp_in (x_n X) 60 := by
  obtain ⟨n, hn, e⟩ := hn
  unfold p_full at h
  by_cases h1 : x_n X < 60
  · rw [e] at h1 ⊢
    exact vp_in_nI ((nI_ltI (b := 60) (by omega) (by decide)).mp h1) (by decide)
  · rw [if_neg h1] at h; exact absurd h (by decide)
theorem lf_in {X u : zX} {kd v r : Int32} (h : p_leafX X kd v = (r, u)) (hn : vp_in (x_n X) 60) : vp_in r 60 := by
  have : x_n X = r := congrArg Prod.fst h
  rw [← this]; exact hn
/-! the other side -/
/-- tables, step state, depth, used, count, begun, end, latest -/
abbrev zY : Type := zT × zR × (Nat → Int32) × (Nat → Int32) × Int32 × Int32 × Int32 × Int32
def y_T (Y : zY) : zT := Y.1
def y_r (Y : zY) : zR := Y.2.1
def y_d (Y : zY) : Nat → Int32 := Y.2.2.1
def y_u (Y : zY) : Nat → Int32 := Y.2.2.2.1
def y_n (Y : zY) : Int32 := Y.2.2.2.2.1
def y_b (Y : zY) : Int32 := Y.2.2.2.2.2.1
def y_e (Y : zY) : Int32 := Y.2.2.2.2.2.2.1
def y_l (Y : zY) : Int32 := Y.2.2.2.2.2.2.2
def Y_r (Y : zY) (r : zR) : zY := (Y.1, r, Y.2.2)
def Y_q (Y : zY) (f : zR → zR) : zY := (Y.1, f Y.2.1, Y.2.2)
def Y_k (Y : zY) (i v : Int32) : zY := ((upd Y.1.1 (ix i) v, Y.1.2), Y.2)
def Y_p (Y : zY) (i v : Int32) : zY := ((Y.1.1, upd Y.1.2.1 (ix i) v, Y.1.2.2), Y.2)
def Y_f (Y : zY) (v : Int32) : zY := ((Y.1.1, Y.1.2.1, v), Y.2)
def Y_d (Y : zY) (i v : Int32) : zY := (Y.1, Y.2.1, upd Y.2.2.1 (ix i) v, Y.2.2.2)
def Y_u (Y : zY) (i v : Int32) : zY := (Y.1, Y.2.1, Y.2.2.1, upd Y.2.2.2.1 (ix i) v, Y.2.2.2.2)
def Y_n (Y : zY) (v : Int32) : zY := (Y.1, Y.2.1, Y.2.2.1, Y.2.2.2.1, v, Y.2.2.2.2.2)
def Y_b (Y : zY) (v : Int32) : zY := (Y.1, Y.2.1, Y.2.2.1, Y.2.2.2.1, Y.2.2.2.2.1, v, Y.2.2.2.2.2.2)
def Y_e (Y : zY) (v : Int32) : zY := (Y.1, Y.2.1, Y.2.2.1, Y.2.2.2.1, Y.2.2.2.2.1, Y.2.2.2.2.2.1, v, Y.2.2.2.2.2.2.2)
def Y_l (Y : zY) (v : Int32) : zY := (Y.1, Y.2.1, Y.2.2.1, Y.2.2.2.1, Y.2.2.2.2.1, Y.2.2.2.2.2.1, Y.2.2.2.2.2.2.1, v)
def wY (b : Nat → Nat) (h : Nat → ClassId) (Y : zY) : va_W := [(b 0, .inr (3, [.int (y_n Y), .ref (b 1), .ref (b 2), .ref (b 3), .ref (b 4), .ref (b 5), .ref (b 6), .ref (b 7), .ref (b 8), .ref (b 9), .int (g_wc (r_g (y_r Y))), .int (y_b Y), .int (y_e Y), .int (t_f (y_T Y)), .int (g_sp (r_g (y_r Y))), .int (y_l Y), .ref (b 10), .int (r_tp (y_r Y)), .int (r_gv (y_r Y)), .int (r_er (y_r Y))])),
  (b 1, .inl (h 1, 60, .inl (t_k (y_T Y)))), (b 2, .inl (h 2, 60, .inl (r_nm (y_r Y)))), (b 3, .inl (h 3, 180, .inl (t_p (y_T Y)))), (b 4, .inl (h 4, 60, .inl (y_d Y))), (b 5, .inl (h 5, 60, .inl (y_u Y))),
  (b 6, .inl (h 6, 60, .inl (r_ph (y_r Y)))), (b 7, .inl (h 7, 180, .inr (.inl (r_kp (y_r Y))))), (b 8, .inl (h 8, 8, .inl (g_va (r_g (y_r Y))))), (b 9, .inl (h 9, 32, .inl (g_wr (r_g (y_r Y))))), (b 10, .inl (h 10, 16, .inl (r_sk (y_r Y))))]
def yY (h : Nat → ClassId) : List (ClassId × FieldType) := [(h 1, .int), (h 2, .int), (h 3, .int), (h 4, .int), (h 5, .boolean), (h 6, .int), (h 7, .long), (h 8, .int), (h 9, .int), (h 10, .int)]
def wR (b : Nat → Nat) (h : Nat → ClassId) (Y : zY) (r : zR) : va_W := wY b h (Y_r Y r)
def Tp (r : zR) : Prop := ∃ t : Nat, t < 15 ∧ r_tp r = nI (t + 1)
theorem tp_in {r : zR} (h : Tp r) : vp_in (r_tp r) 16 := by
  obtain ⟨t, ht, e⟩ := h
  rw [e]; exact vp_in_nI (by omega) (by decide)
theorem in_03 : vp_in (0 : Int32) 3 := vp_in_nI (n := 0) (by decide) (by decide)
theorem in_13 : vp_in (1 : Int32) 3 := vp_in_nI (n := 1) (by decide) (by decide)
theorem in_23 : vp_in (2 : Int32) 3 := vp_in_nI (n := 2) (by decide) (by decide)
theorem in3 {e i : Int32} (he : vp_in e 60) (hi : vp_in i 3) : vp_in (3 * e + i) 180 := by
  obtain ⟨a, ha, rfl⟩ := vp_in_of he (by decide)
  obtain ⟨c, hc, rfl⟩ := vp_in_of hi (by decide)
  have h3 : (3 : Int32) = nI 3 := rfl
  rw [h3, pk_mul, nI_add]
  exact vp_in_nI (by omega) (by decide)
theorem in3_0 {e : Int32} (he : vp_in e 60) : vp_in (3 * e) 180 := by
  obtain ⟨a, ha, rfl⟩ := vp_in_of he (by decide)
  have h3 : (3 : Int32) = nI 3 := rfl
  rw [h3, pk_mul]
  exact vp_in_nI (by omega) (by decide)
theorem in3_p {e i : Int32} (he : vp_in e 60) (hi : i = 1 ∨ i = 2 ∨ i = 3) : vp_in (3 * e + i - 1) 180 := by
  obtain ⟨a, ha, rfl⟩ := vp_in_of he (by decide)
  have h3 : (3 : Int32) = nI 3 := rfl
  have h1 : (1 : Int32) = nI 1 := rfl
  have h2 : (2 : Int32) = nI 2 := rfl
  rcases hi with rfl | rfl | rfl
  · rw [h3, pk_mul, h1, nI_add, pk_sub (by omega)]; exact vp_in_nI (by omega) (by decide)
  · rw [h3, pk_mul, h2, nI_add, h1, pk_sub (by omega)]; exact vp_in_nI (by omega) (by decide)
  · rw [h3, pk_mul, nI_add, h1, pk_sub (by omega)]; exact vp_in_nI (by omega) (by decide)
theorem ph_1 {v : Int32} (h : v = 0 ∨ v = 1 ∨ v = 2 ∨ v = 3) (h0 : ¬ v = 0) : vp_in (v - 1) 3 := by
  rcases h with h | h | h | h
  · exact absurd h h0
  · rw [h]; exact in_03
  · rw [h]; exact in_13
  · rw [h]; exact in_23
theorem ph_2 {v : Int32} (h : v = 1 ∨ v = 2 ∨ v = 3) (h0 : ¬ v = 1) : vp_in (v - 2) 3 := by
  rcases h with h | h | h
  · exact absurd h h0
  · rw [h]; exact in_03
  · rw [h]; exact in_13
theorem wr_in {c : Int32} (h : ∃ n : Nat, n ≤ 32 ∧ c = nI n) (h0 : ¬ c = 32) : vp_in c 32 := by
  obtain ⟨n, hn, rfl⟩ := h
  have : n ≠ 32 := fun q => h0 (by rw [q]; rfl)
  exact vp_in_nI (by omega) (by decide)
theorem neg_in : ¬ (-1 : Int32) < 0 → vp_in (-1) 60 := fun h => absurd (by decide) h
def p_with (x lo hi : Int32) : Bool := if x < lo then false else if hi < x then false else true
theorem with_of {x hi : Int32} {n : Nat} (h : p_with x 0 hi = true) (hh : hi = nI n) (hn : n < 2 ^ 31) : ∃ j : Nat, j ≤ n ∧ x = nI j := by
  unfold p_with at h
  by_cases h0 : x < 0
  · rw [if_pos h0] at h; exact absurd h (by decide)
  rw [if_neg h0] at h
  by_cases h1 : hi < x
  · rw [if_pos h1] at h; exact absurd h (by decide)
  · obtain ⟨j, hj, rfl⟩ := nI_of h0
    rw [hh] at h1
    refine ⟨j, ?_, rfl⟩
    exact Nat.not_lt.mp fun q => h1 ((nI_ltI hn hj).mpr q)
theorem with_8 {x : Int32} (h : p_with x 0 7 = true) : vp_in x 8 := by
  obtain ⟨j, hj, rfl⟩ := with_of (n := 7) h rfl (by decide)
  exact vp_in_nI (by omega) (by decide)
theorem with_lt {x y : Int32} {n : Nat} (h : p_with x 0 (y - 1) = true) (hy : y = nI n) (hn : n < 2 ^ 31) : ∃ j : Nat, j < n ∧ x = nI j := by
  cases n with
  | zero =>
    exfalso
    have e : y - 1 = -1 := by rw [hy]; decide
    rw [e] at h
    unfold p_with at h
    by_cases h0 : x < 0
    · rw [if_pos h0] at h; exact absurd h (by decide)
    rw [if_neg h0] at h
    by_cases h1 : -1 < x
    · rw [if_pos h1] at h; exact absurd h (by decide)
    · obtain ⟨j, hj, rfl⟩ := nI_of h0
      apply h1
      rw [Int32.lt_iff_toInt_lt, nI_toInt hj]
      have : (-1 : Int32).toInt = -1 := by decide
      omega
  | succ n =>
    rw [hy, nI_pred] at h
    obtain ⟨j, hj, e⟩ := with_of h rfl (by omega)
    exact ⟨j, by omega, e⟩
theorem with_n {x y : Int32} (hn : ∃ n : Nat, n ≤ 60 ∧ y = nI n) (h : p_with x 0 (y - 1) = true) : vp_in x 60 := by
  obtain ⟨n, hn, e⟩ := hn
  obtain ⟨j, hj, rfl⟩ := with_lt h e (by omega)
  exact vp_in_nI (by omega) (by decide)
theorem with_w {x y : Int32} (hn : ∃ n : Nat, n ≤ 32 ∧ y = nI n) (h : p_with x 0 (y - 1) = true) : vp_in x 32 := by
  obtain ⟨n, hn, e⟩ := hn
  obtain ⟨j, hj, rfl⟩ := with_lt h e (by omega)
  exact vp_in_nI (by omega) (by decide)
theorem cnt_in {y : Int32} (hn : ∃ n : Nat, n ≤ 60 ∧ y = nI n) (h : ¬ y = 60) : vp_in y 60 := by
  obtain ⟨n, hn, rfl⟩ := hn
  have : n ≠ 60 := fun q => h (by rw [q]; rfl)
  exact vp_in_nI (by omega) (by decide)
def VY (Y : zY) : Prop := (∃ n : Nat, n ≤ 60 ∧ y_n Y = nI n) ∧ ∃ n : Nat, n ≤ 32 ∧ g_wc (r_g (y_r Y)) = nI n
def m_make (Y : zY) (kd v x y z dp : Int32) : Int32 × zY :=
  let e := y_n Y
  let Y1 := Y_u (Y_d (Y_p (Y_p (Y_p (Y_q (Y_k (Y_n Y (e + 1)) e kd) (fun r => u_nm r e v)) (3 * e) x) (3 * e + 1) y) (3 * e + 2) z) e dp) e 0
  let Y2 := if x < 0 then Y1 else Y_u Y1 x 1
  let Y3 := if y < 0 then Y2 else Y_u Y2 y 1
  (e, if z < 0 then Y3 else Y_u Y3 z 1)
def m_leaf (Y : zY) (kd v : Int32) : Int32 × zY :=
  if p_with kd 0 1 = true then
    if kd = 1 then if p_with v 0 7 = true then if y_n Y = 60 then (-4, Y) else m_make Y kd v (-1) (-1) (-1) 1 else (-1, Y)
    else if y_n Y = 60 then (-4, Y) else m_make Y kd v (-1) (-1) (-1) 1
  else (-1, Y)
def m_un1 (Y : zY) (kd v x : Int32) : Int32 × zY :=
  if p_with x 0 (y_n Y - 1) = true then
    if y_u Y (ix x) = 0 then if y_n Y = 60 then (-4, Y) else if y_d Y (ix x) = 12 then (-5, Y) else m_make Y (10 + kd) v x (-1) (-1) (y_d Y (ix x) + 1)
    else (-3, Y)
  else (-2, Y)
def m_unary (Y : zY) (kd v x : Int32) : Int32 × zY :=
  if p_with kd 0 3 = true then if kd = 0 then if p_with v 0 7 = true then m_un1 Y kd v x else (-1, Y) else m_un1 Y kd v x
  else (-1, Y)
def m_binary (Y : zY) (kd x y : Int32) : Int32 × zY :=
  if p_with kd 0 11 = true then
    if p_with x 0 (y_n Y - 1) = true then
      if p_with y 0 (y_n Y - 1) = true then
        if y_u Y (ix x) = 0 then
          if y_u Y (ix y) = 0 then
            if x = y then (-3, Y)
            else if y_n Y = 60 then (-4, Y)
            else if y_d Y (ix y) < y_d Y (ix x) then if y_d Y (ix x) = 12 then (-5, Y) else m_make Y (20 + kd) 0 x y (-1) (y_d Y (ix x) + 1)
            else if y_d Y (ix y) = 12 then (-5, Y) else m_make Y (20 + kd) 0 x y (-1) (y_d Y (ix y) + 1)
          else (-3, Y)
        else (-3, Y)
      else (-2, Y)
    else (-2, Y)
  else (-1, Y)
def m_ter1 (Y : zY) (kd x y z d : Int32) : Int32 × zY := if d = 12 then (-5, Y) else m_make Y (40 + kd) 0 x y z (d + 1)
def m_ter2 (Y : zY) (kd x y z d : Int32) : Int32 × zY := if d < y_d Y (ix z) then m_ter1 Y kd x y z (y_d Y (ix z)) else m_ter1 Y kd x y z d
def m_ternary (Y : zY) (kd x y z : Int32) : Int32 × zY :=
  if p_with kd 0 1 = true then
    if p_with x 0 (y_n Y - 1) = true then
      if p_with y 0 (y_n Y - 1) = true then
        if p_with z 0 (y_n Y - 1) = true then
          if y_u Y (ix x) = 0 then
            if y_u Y (ix y) = 0 then
              if y_u Y (ix z) = 0 then
                if x = y then (-3, Y) else if x = z then (-3, Y) else if y = z then (-3, Y)
                else if y_n Y = 60 then (-4, Y)
                else if y_d Y (ix y) < y_d Y (ix x) then m_ter2 Y kd x y z (y_d Y (ix x)) else m_ter2 Y kd x y z (y_d Y (ix y))
              else (-3, Y)
            else (-3, Y)
          else (-3, Y)
        else (-2, Y)
      else (-2, Y)
    else (-2, Y)
  else (-1, Y)
def m_about (Y : zY) (x : Int32) : Int32 := if p_with x 0 (y_n Y - 1) = true then if y_u Y (ix x) = 0 then y_d Y (ix x) + 32 else y_d Y (ix x) + 0 else -2
def m_set (Y : zY) (x v : Int32) : Int32 × zY := if p_with x 0 7 = true then (g_va (r_g (y_r Y)) (ix x), Y_q Y (fun r => u_g r (h_va (r_g r) x v))) else (0, Y)
def m_var (Y : zY) (x : Int32) : Int32 := if p_with x 0 7 = true then g_va (r_g (y_r Y)) (ix x) else 0
def m_open (Y : zY) (x v : Int32) : zY := Y_q (Y_l (Y_q (Y_f (Y_e (Y_q (Y_b Y x) (fun r => u_ph r x 0)) 2) v) (fun r => u_g r (h_c (r_g r) 0))) 0) (fun r => u_g r (h_wc (r_g r) 0))
def m_begin (Y : zY) (x v : Int32) : Int32 × zY :=
  if p_with x 0 (y_n Y - 1) = true then if y_u Y (ix x) = 0 then if p_with v 0 2000 = true then (0, m_open Y x v) else (-1, Y) else (-3, Y) else (-2, Y)
def m_written (Y : zY) (x : Int32) : Int64 := if p_with x 0 (g_wc (r_g (y_r Y)) - 1) = true then (g_wr (r_g (y_r Y)) (ix x)).toInt64 else 4294967296
