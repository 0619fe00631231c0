/-! Both objects side by side. -/
def Kd (F : zF) (T : zT) : Prop := ∀ j, (∃ k : Nat, k < 20 ∧ f_k F j = nI k) ∧ t_k T j = t_kc (f_k F j)
def zRun (F : zF) (c : zC) (r : zR) (n q : Nat) (a b yb ye : Int32) : Prop :=
  (a = -1 ∧ yb = -1) ∨ ∃ i, i < n ∧ b = nI i ∧ yb = nI i ∧ ((a = 1 ∧ ye = 2 ∧ ∃ p, Idl F 12 (nI i) c r p ∧ p ≤ zK 12 q) ∨ (¬ a = 1 ∧ ye = a ∧ ¬ ye = 2))
def Jn (X : zX) (Y : zY) (n f q : Nat) : Prop := n ≤ 60 ∧ x_n X = nI n ∧ y_n Y = nI n ∧ Fo (x_F X) (y_T Y) n (x_d X) (x_f X) (y_d Y) (y_u Y) ∧ Kd (x_F X) (y_T Y) ∧ Nm (x_F X) (y_r Y) ∧ r_g (y_r Y) = c_g (x_c X) ∧ Ok (x_F X) (y_T Y) 1000000 f ∧ Gk f (c_g (x_c X)) q ∧ x_l X = y_l Y ∧ zRun (x_F X) (x_c X) (y_r Y) n q (x_a X) (x_b X) (y_b Y) (y_e Y)
def zJ (X : zX) (Y : zY) : Prop := ∃ n f q : Nat, Jn X Y n f q
theorem bel_iff {x y : Int32} {n : Nat} (hy : y = nI n) (hn : n < 2 ^ 31) : p_bel x y = true ↔ ∃ j : Nat, j < n ∧ x = nI j := by
  refine ⟨fun h => bel_of h hy hn, ?_⟩
  rintro ⟨j, hj, rfl⟩
  unfold p_bel
  rw [if_neg (nI_pos (by omega)), if_pos (by rw [hy]; exact nI_lt hj hn)]
theorem with_iff {x y : Int32} {n : Nat} (hy : y = nI n) (hn : n < 2 ^ 31) : p_with x 0 (y - 1) = true ↔ ∃ j : Nat, j < n ∧ x = nI j := by
  refine ⟨fun h => with_lt h hy hn, ?_⟩
  rintro ⟨j, hj, rfl⟩
  unfold p_with
  obtain ⟨k, rfl⟩ : ∃ k, n = k + 1 := ⟨n - 1, by omega⟩
  rw [if_neg (nI_pos (by omega)), hy, nI_pred, if_neg (nI_nlt (by omega) (by omega))]
theorem with_bel {x y : Int32} {n : Nat} (hy : y = nI n) (hn : n < 2 ^ 31) : p_with x 0 (y - 1) = p_bel x y := by
  have h1 := with_iff (x := x) hy hn
  have h2 := bel_iff (x := x) hy hn
  exact Bool.eq_iff_iff.mpr (h1.trans h2.symm)
theorem with_c1 (x : Int32) : p_with x 0 1 = p_bel x 2 := with_bel (x := x) (y := 2) (n := 2) rfl (by decide)
theorem with_c3 (x : Int32) : p_with x 0 3 = p_bel x 4 := with_bel (x := x) (y := 4) (n := 4) rfl (by decide)
theorem with_c7 (x : Int32) : p_with x 0 7 = p_bel x 8 := with_bel (x := x) (y := 8) (n := 8) rfl (by decide)
theorem with_c11 (x : Int32) : p_with x 0 11 = p_bel x 12 := with_bel (x := x) (y := 12) (n := 12) rfl (by decide)
theorem with_c2000 (x : Int32) : p_with x 0 2000 = p_bel x 2001 := with_bel (x := x) (y := 2001) (n := 2001) rfl (by decide)
/-- the index of a node that is there or is not -/
theorem full_iff {X : zX} {n : Nat} (hn : x_n X = nI n) (h : n ≤ 60) : p_full X = true ↔ n = 60 := by
  unfold p_full
  rw [hn]
  by_cases h6 : n = 60
  · subst h6
    rw [if_neg (show ¬ nI 60 < 60 from nI_nlt (a := 60) (b := 60) (by omega) (by omega))]
    simp
  · rw [if_pos (show nI n < 60 from nI_lt (b := 60) (by omega) (by omega))]
    simp [h6]
theorem y60_iff {y : Int32} {n : Nat} (hn : y = nI n) (h : n ≤ 60) : y = 60 ↔ n = 60 := by
  rw [hn]; exact nI_eq (b := 60) (by omega) (by decide)
theorem id_cong {F F' : zF} {T T' : zT} {e : Int32} {c c' : zC} {r r' : zR} {p : Nat} (h : Idl F 12 e c r p) (hA : AgF (Sb F 12 e) F F' T T') (hs : Sb F 12 e (ix e)) (hR : Ag (Sb F 12 e) c c' r r') : Idl F' 12 e c' r' p := by
  rcases h with ⟨h1, h2, h3⟩ | h
  · exact Or.inl ⟨((hR _ hs).1).trans h1, ((hR _ hs).2.2.2.1).trans h2, h3⟩
  · exact Or.inr (Lv_congF 12 e p hA (Lv_cong 12 e p hR h))
theorem id_congF {F F' : zF} {T T' : zT} {e : Int32} {c : zC} {r : zR} {p : Nat} (h : Idl F 12 e c r p) (hA : AgF (Sb F 12 e) F F' T T') : Idl F' 12 e c r p := by
  rcases h with h | h
  · exact Or.inl h
  · exact Or.inr (Lv_congF 12 e p hA h)
/-- a node is added on both sides -/
theorem j_add {X X' : zX} {Y Y' : zY} {n f q d : Nat} {kd v : Int32} (hJ : Jn X Y n f q) (h60 : n < 60) (hd : d ≤ 11)
    (a1 : f_k (x_F X') = upd (f_k (x_F X)) n kd) (a2 : f_n (x_F X') = upd (f_n (x_F X)) n v) (a3 : ∀ j, j ≠ n → f_x (x_F X') j = f_x (x_F X) j ∧ f_y (x_F X') j = f_y (x_F X) j ∧ f_z (x_F X') j = f_z (x_F X) j) (a4 : f_f (x_F X') = f_f (x_F X)) (a5 : x_c X' = x_c X) (a6 : x_n X' = nI (n + 1)) (a7 : x_l X' = x_l X) (a8 : x_b X' = x_b X) (a9 : x_a X' = x_a X)
    (b1 : t_k (y_T Y') = upd (t_k (y_T Y)) n (t_kc kd)) (b2 : y_r Y' = u_nm (y_r Y) (nI n) v) (b3 : ∀ j, j ≠ n → t_p (y_T Y') (3 * j) = t_p (y_T Y) (3 * j) ∧ t_p (y_T Y') (3 * j + 1) = t_p (y_T Y) (3 * j + 1) ∧ t_p (y_T Y') (3 * j + 2) = t_p (y_T Y) (3 * j + 2)) (b4 : t_f (y_T Y') = t_f (y_T Y)) (b6 : y_n Y' = nI (n + 1)) (b7 : y_l Y' = y_l Y) (b8 : y_b Y' = y_b Y) (b9 : y_e Y' = y_e Y)
    (hk : ∃ k : Nat, k < 20 ∧ kd = nI k) (hnm : kd = 1 ∨ kd = 2 → vp_in v 8)
    (hx : 1 ≤ f_a (x_F X') (nI n) → Prp n d (x_f X) (x_d X) (f_x (x_F X') n) (t_p (y_T Y') (3 * n))) (hy : 2 ≤ f_a (x_F X') (nI n) → Prp n d (x_f X) (x_d X) (f_y (x_F X') n) (t_p (y_T Y') (3 * n + 1)) ∧ f_x (x_F X') n ≠ f_y (x_F X') n)
    (hz : 3 ≤ f_a (x_F X') (nI n) → Prp n d (x_f X) (x_d X) (f_z (x_F X') n) (t_p (y_T Y') (3 * n + 2)) ∧ f_x (x_F X') n ≠ f_z (x_F X') n ∧ f_y (x_F X') n ≠ f_z (x_F X') n)
    (hdp : ∀ i, i < n → x_d X' i = x_d X i ∧ y_d Y' i = y_d Y i) (hdn : x_d X' n = nI (d + 1) ∧ y_d Y' n = nI (d + 1)) (hfn : x_f X' n = 1 ∧ y_u Y' n = 0)
    (hfr : ∀ i, i < n → (x_f X' i = x_f X i ∧ y_u Y' i = y_u Y i) ∨ (x_f X' i = 0 ∧ y_u Y' i = 1)) (hpx : 1 ≤ f_a (x_F X') (nI n) → x_f X' (ix (f_x (x_F X') n)) = 0) (hpy : 2 ≤ f_a (x_F X') (nI n) → x_f X' (ix (f_y (x_F X') n)) = 0) (hpz : 3 ≤ f_a (x_F X') (nI n) → x_f X' (ix (f_z (x_F X') n)) = 0) : zJ X' Y' := by
  obtain ⟨j1, j2, j3, jF, jK, jN, jg, jO, jG, jl, jR⟩ := hJ
  have ek : f_k (x_F X') n = kd := by rw [a1]; exact pk_us
  have ev : f_n (x_F X') n = v := by rw [a2]; exact pk_us
  have etk : t_k (y_T Y') n = t_kc kd := by rw [b1]; exact pk_us
  have hA : AgF (fun j => j ≠ n) (x_F X) (x_F X') (y_T Y) (y_T Y') := fun j hj => ⟨by rw [a1]; exact pk_un hj, by rw [a2]; exact pk_un hj, (a3 j hj).1, (a3 j hj).2.1, (a3 j hj).2.2, by rw [b1]; exact pk_un hj, (b3 j hj).1, (b3 j hj).2.1, (b3 j hj).2.2⟩
  have hA1 : AgF (fun j => j < n) (x_F X) (x_F X') (y_T Y) (y_T Y') := hA.wk fun j hj => by omega
  have hFo := fo_new jF hA1 h60 hd (by rw [ek]; exact hk) (by rw [etk, ek]) (by rw [ek, ev]; exact hnm) hx hy hz hdp hdn hfn hfr hpx hpy hpz
  have enm : r_nm (y_r Y') = upd (r_nm (y_r Y)) n v := by
    rw [b2]
    show upd _ (ix (nI n)) v = _
    rw [ix_nI (by omega)]
    rfl
  refine ⟨n + 1, f, q, by omega, a6, b6, hFo, fun j => ?_, fun j hj => ?_, ?_, ?_, ?_, by rw [a7, b7]; exact jl, ?_⟩
  · by_cases h : j = n
    · subst h; rw [ek, etk]; exact ⟨hk, rfl⟩
    · rw [(hA j h).1, (hA j h).2.2.2.2.2.1]; exact jK j
  · by_cases h : j = n
    · subst h; rw [enm, ev]; exact pk_us
    · rw [enm, pk_un h, (hA j h).2.1]
      rw [(hA j h).1] at hj
      exact jN j hj
  · rw [b2, a5]; exact jg
  · exact ⟨a4.trans jO.1, b4.trans jO.2.1, jO.2.2⟩
  · rw [a5]; exact jG
  · rw [a5, a8, a9, b8, b9]
    rcases jR with h | ⟨i, hi, hb, hyb, h⟩
    · exact Or.inl h
    · refine Or.inr ⟨i, by omega, hb, hyb, ?_⟩
      rcases h with ⟨h1, h2, p, hI, hp⟩ | h
      · refine Or.inl ⟨h1, h2, p, ?_, hp⟩
        obtain ⟨⟨d', d1, d2, -, -, d5⟩, hlow, -⟩ := jF.1 i hi
        have hself : Sb (x_F X) 12 (nI i) (ix (nI i)) := Sb_m d2 (Tr_self d5)
        have hlt : ∀ j, Sb (x_F X) 12 (nI i) j → j ≠ n := fun j hj => by have := hlow j hj; omega
        refine id_cong hI (hA.wk hlt) hself fun j hj => ⟨rfl, rfl, rfl, ?_, ?_, ?_, ?_, ?_⟩
        · rw [b2]; rfl
        · rw [enm]; exact pk_un (hlt j hj)
        · rw [b2]; rfl
        · rw [b2]; rfl
        · rw [b2]; rfl
      · exact Or.inr h
theorem kd_split {kd : Int32} {n m : Nat} (h : p_bel kd (nI n) = true) (hn : n < 2 ^ 31) : ∃ k : Nat, k < n ∧ kd = nI k ∧ nI m + kd = nI (m + k) := by
  obtain ⟨k, hk, rfl⟩ := bel_of h rfl hn
  exact ⟨k, hk, rfl, nI_add m k⟩
theorem mx_nI {a b : Nat} (ha : a < 2 ^ 31) (hb : b < 2 ^ 31) : mx (nI a) (nI b) = nI (max a b) := by
  unfold mx
  by_cases h : a < b
  · rw [if_pos (nI_lt h hb), Nat.max_eq_right (by omega)]
  · rw [if_neg (nI_nlt (by omega) ha), Nat.max_eq_left (by omega)]
theorem ifd_nI {a b : Nat} (ha : a < 2 ^ 31) (hb : b < 2 ^ 31) : (if nI a < nI b then nI b else nI a) = nI (max a b) := mx_nI ha hb
/-- what making leaves on the other side -/
theorem mk_rows (Y : zY) (kd v x y z dp : Int32) : (m_make Y kd v x y z dp).1 = y_n Y ∧ t_k (y_T (m_make Y kd v x y z dp).2) = upd (t_k (y_T Y)) (ix (y_n Y)) kd ∧ y_r (m_make Y kd v x y z dp).2 = u_nm (y_r Y) (y_n Y) v ∧
    t_p (y_T (m_make Y kd v x y z dp).2) = upd (upd (upd (t_p (y_T Y)) (ix (3 * y_n Y)) x) (ix (3 * y_n Y + 1)) y) (ix (3 * y_n Y + 2)) z ∧ t_f (y_T (m_make Y kd v x y z dp).2) = t_f (y_T Y) ∧ y_n (m_make Y kd v x y z dp).2 = y_n Y + 1 ∧ y_l (m_make Y kd v x y z dp).2 = y_l Y ∧ y_b (m_make Y kd v x y z dp).2 = y_b Y ∧ y_e (m_make Y kd v x y z dp).2 = y_e Y ∧
    y_d (m_make Y kd v x y z dp).2 = upd (y_d Y) (ix (y_n Y)) dp ∧
    y_u (m_make Y kd v x y z dp).2 = (let u0 := upd (y_u Y) (ix (y_n Y)) 0; let u1 := if x < 0 then u0 else upd u0 (ix x) 1; let u2 := if y < 0 then u1 else upd u1 (ix y) 1; if z < 0 then u2 else upd u2 (ix z) 1) := by
  unfold m_make
  by_cases hx : x < 0 <;> by_cases hy : y < 0 <;> by_cases hz : z < 0 <;> refine ⟨?_, ?_, ?_, ?_, ?_, ?_, ?_, ?_, ?_, ?_, ?_⟩ <;> first | rfl | (simp only [hx, hy, hz, if_true, if_false]; done) | (simp only [hx, hy, hz, if_true, if_false]; rfl)
theorem p3_out {n j : Nat} {f : Nat → Int32} {x y z : Int32} (hn : n < 60) (hj : j ≠ n) : (∀ b, b < 3 → upd (upd (upd f (ix (3 * nI n)) x) (ix (3 * nI n + 1)) y) (ix (3 * nI n + 2)) z (3 * j + b) = f (3 * j + b)) := fun b hb => by
  have hv : vp_in (nI n) 60 := vp_in_nI hn (by decide)
  rw [ix_30 hv, ix_31 hv, ix_32 hv, ix_nI (by omega), pk_un (by omega), pk_un (by omega), pk_un (by omega)]
theorem p3_in {n : Nat} {f : Nat → Int32} {x y z : Int32} (hn : n < 60) : upd (upd (upd f (ix (3 * nI n)) x) (ix (3 * nI n + 1)) y) (ix (3 * nI n + 2)) z (3 * n) = x ∧ upd (upd (upd f (ix (3 * nI n)) x) (ix (3 * nI n + 1)) y) (ix (3 * nI n + 2)) z (3 * n + 1) = y ∧ upd (upd (upd f (ix (3 * nI n)) x) (ix (3 * nI n + 1)) y) (ix (3 * nI n + 2)) z (3 * n + 2) = z := by
  have hv : vp_in (nI n) 60 := vp_in_nI hn (by decide)
  rw [ix_30 hv, ix_31 hv, ix_32 hv, ix_nI (by omega)]
  refine ⟨?_, ?_, ?_⟩
  · rw [pk_un (by omega), pk_un (by omega)]; exact pk_us
  · rw [pk_un (by omega)]; exact pk_us
  · exact pk_us
/-- a leaf -/
theorem j_leaf {X : zX} {Y : zY} (hJ : zJ X Y) (kd v : Int32) : ∃ w X' Y', p_gleaf X kd v = (w, X') ∧ m_leaf Y kd v = (w, Y') ∧ zJ X' Y' := by
  obtain ⟨n, f, q, hJn⟩ := hJ
  have hJ' : zJ X Y := ⟨n, f, q, hJn⟩
  obtain ⟨j1, j2, j3, jF, -⟩ := id hJn
  have h0 : (0 : Int32) + kd = kd := by simp
  unfold p_gleaf m_leaf
  rw [with_c1, with_c7, h0]
  by_cases hk : p_bel kd 2 = true
  rotate_left
  · rw [if_neg hk, if_neg hk]; exact ⟨_, _, _, rfl, rfl, hJ'⟩
  rw [if_pos hk, if_pos hk]
  have main : (kd = 1 → p_bel v 8 = true) → ∃ w X' Y', (if p_full X = true then ((-4 : Int32), X) else p_leafX X kd v) = (w, X') ∧ (if y_n Y = 60 then ((-4 : Int32), Y) else m_make Y kd v (-1) (-1) (-1) 1) = (w, Y') ∧ zJ X' Y' := by
    intro hv
    by_cases h6 : n = 60
    · rw [if_pos ((full_iff j2 j1).mpr h6), if_pos ((y60_iff j3 j1).mpr h6)]; exact ⟨_, _, _, rfl, rfl, hJ'⟩
    rw [if_neg (fun h => h6 ((full_iff j2 j1).mp h)), if_neg (fun h => h6 ((y60_iff j3 j1).mp h))]
    have h60 : n < 60 := by omega
    obtain ⟨k, hk2, rfl⟩ := bel_of (n := 2) hk rfl (by decide)
    have hin : ix (nI n) = n := ix_nI (by omega)
    have hkc : t_kc (nI k) = nI k := by
      have : k = 0 ∨ k = 1 := by omega
      rcases this with rfl | rfl <;> rfl
    obtain ⟨m1, m2, m3, m4, m5, m6, m7, m8, m9, m10, m11⟩ := mk_rows Y (nI k) v (-1) (-1) (-1) 1
    rw [j3] at m1 m2 m3 m4 m6 m10 m11
    rw [hin] at m2 m10 m11
    have e1 : p_leafX X (nI k) v = (nI n, (p_leafX X (nI k) v).2) := by rw [← j2]; rfl
    have e2 : m_make Y (nI k) v (-1) (-1) (-1) 1 = (nI n, (m_make Y (nI k) v (-1) (-1) (-1) 1).2) := by rw [← m1]
    refine ⟨_, _, _, e1, e2, ?_⟩
    have c1 : f_k (x_F (p_leafX X (nI k) v).2) = upd (f_k (x_F X)) n (nI k) := by show upd (f_k (x_F X)) (ix (x_n X)) _ = _; rw [j2, hin]
    have c2 : f_n (x_F (p_leafX X (nI k) v).2) = upd (f_n (x_F X)) n v := by show upd (f_n (x_F X)) (ix (x_n X)) _ = _; rw [j2, hin]
    have c3 : x_d (p_leafX X (nI k) v).2 = upd (x_d X) n 1 := by show upd (x_d X) (ix (x_n X)) _ = _; rw [j2, hin]
    have c4 : x_f (p_leafX X (nI k) v).2 = upd (x_f X) n 1 := by show upd (x_f X) (ix (x_n X)) _ = _; rw [j2, hin]
    have c5 : x_n (p_leafX X (nI k) v).2 = nI (n + 1) := by show x_n X + 1 = _; rw [j2, nI_succ]
    have fa : f_a (x_F (p_leafX X (nI k) v).2) (nI n) = 0 := by
      unfold f_a
      rw [hin, c1, pk_us, if_pos (show nI k < 2 from nI_lt (b := 2) hk2 (by decide))]
    refine j_add (n := n) (f := f) (q := q) (d := 0) (kd := nI k) (v := v) hJn h60 (by omega) c1 c2 (fun j _ => ⟨rfl, rfl, rfl⟩) rfl rfl c5 rfl rfl rfl (by rw [m2, hkc]) m3 (fun j hj => ?_) m5 (by rw [m6, nI_succ]) m7 m8 m9 ⟨k, by omega, rfl⟩ (fun h => ?_) (fun h => ?_) (fun h => ?_) (fun h => ?_) (fun i hi => ?_) ⟨by rw [c3]; exact pk_us, by rw [m10]; exact pk_us⟩ ⟨by rw [c4]; exact pk_us, ?_⟩ (fun i hi => ?_) (fun h => ?_) (fun h => ?_) (fun h => ?_)
    · rw [m4]; exact ⟨p3_out h60 hj 0 (by decide), p3_out h60 hj 1 (by decide), p3_out h60 hj 2 (by decide)⟩
    · rcases h with h | h
      · exact bel_8 (hv h)
      · have : k = 2 := (nI_eq (b := 2) (by omega) (by decide)).mp h
        omega
    · omega
    · omega
    · omega
    · rw [c3, m10]; exact ⟨pk_un (by omega), pk_un (by omega)⟩
    · rw [m11]; exact pk_us
    · rw [c4, m11]; exact Or.inl ⟨pk_un (by omega), pk_un (by omega)⟩
    · omega
    · omega
    · omega
  by_cases h1 : kd = 1
  · rw [if_pos h1, if_pos h1]
    by_cases hv : p_bel v 8 = true
    · rw [if_pos hv, if_pos hv]; exact main fun _ => hv
    · rw [if_neg hv, if_neg hv]; exact ⟨_, _, _, rfl, rfl, hJ'⟩
  · rw [if_neg h1, if_neg h1]; exact main fun h => absurd h h1
def ka (k : Int32) : Nat := if k < 2 then 0 else if k < 6 then 1 else if k < 18 then 2 else 3
/-- a node over parts -/
theorem j_over {X : zX} {Y Y' : zY} {n f q D i1 i2 i3 d1 d2 d3 : Nat} {kd v dp : Int32} (hJ : Jn X Y n f q) (h60 : n < 60) (hk : ∃ k : Nat, k < 20 ∧ kd = nI k) (hnm : kd = 1 ∨ kd = 2 → vp_in v 8) (h1 : i1 < n) (h2 : i2 < n) (h3 : i3 < n) (f1 : x_f X i1 = 1) (f2 : x_f X i2 = 1) (f3 : x_f X i3 = 1) (e1 : x_d X i1 = nI d1) (e2 : x_d X i2 = nI d2) (e3 : x_d X i3 = nI d3)
    (hD : D = max d1 (max d2 d3)) (hD1 : D ≤ 11) (hd : dp = nI (D + 1)) (b1 : t_k (y_T Y') = upd (t_k (y_T Y)) n (t_kc kd)) (b2 : y_r Y' = u_nm (y_r Y) (nI n) v) (b3 : ∀ j, j ≠ n → ∀ b, b < 3 → t_p (y_T Y') (3 * j + b) = t_p (y_T Y) (3 * j + b)) (b4 : t_f (y_T Y') = t_f (y_T Y)) (b6 : y_n Y' = nI (n + 1)) (b7 : y_l Y' = y_l Y) (b8 : y_b Y' = y_b Y) (b9 : y_e Y' = y_e Y) (b10 : y_d Y' = upd (y_d Y) n dp)
    (p1 : t_p (y_T Y') (3 * n) = nI i1) (p2 : 2 ≤ ka kd → t_p (y_T Y') (3 * n + 1) = nI i2 ∧ i1 ≠ i2) (p3 : 3 ≤ ka kd → t_p (y_T Y') (3 * n + 2) = nI i3 ∧ i1 ≠ i3 ∧ i2 ≠ i3)
    (hu : y_u Y' n = 0 ∧ ∀ i, i < n → ((i = i1 ∨ i = i2 ∨ i = i3) → y_u Y' i = 1) ∧ (¬ (i = i1 ∨ i = i2 ∨ i = i3) → y_u Y' i = y_u Y i)) : (p_overX X kd v (nI i1) (nI i2) (nI i3)).1 = nI n ∧ zJ (p_overX X kd v (nI i1) (nI i2) (nI i3)).2 Y' := by
  obtain ⟨j1, j2, j3, jF, -⟩ := id hJ
  have hin : ix (nI n) = n := ix_nI (by omega)
  have x1 : ix (nI i1) = i1 := ix_nI (by omega)
  have x2 : ix (nI i2) = i2 := ix_nI (by omega)
  have x3 : ix (nI i3) = i3 := ix_nI (by omega)
  have c0 : (p_overX X kd v (nI i1) (nI i2) (nI i3)).1 = nI n := j2
  refine ⟨c0, ?_⟩
  have c1 : f_k (x_F (p_overX X kd v (nI i1) (nI i2) (nI i3)).2) = upd (f_k (x_F X)) n kd := by show upd (f_k (x_F X)) (ix (x_n X)) _ = _; rw [j2, hin]
  have c2 : f_n (x_F (p_overX X kd v (nI i1) (nI i2) (nI i3)).2) = upd (f_n (x_F X)) n v := by show upd (f_n (x_F X)) (ix (x_n X)) _ = _; rw [j2, hin]
  have cx : f_x (x_F (p_overX X kd v (nI i1) (nI i2) (nI i3)).2) = upd (f_x (x_F X)) n (nI i1) := by show upd (f_x (x_F X)) (ix (x_n X)) _ = _; rw [j2, hin]
  have cy : f_y (x_F (p_overX X kd v (nI i1) (nI i2) (nI i3)).2) = upd (f_y (x_F X)) n (nI i2) := by show upd (f_y (x_F X)) (ix (x_n X)) _ = _; rw [j2, hin]
  have cz : f_z (x_F (p_overX X kd v (nI i1) (nI i2) (nI i3)).2) = upd (f_z (x_F X)) n (nI i3) := by show upd (f_z (x_F X)) (ix (x_n X)) _ = _; rw [j2, hin]
  have c5 : x_n (p_overX X kd v (nI i1) (nI i2) (nI i3)).2 = nI (n + 1) := by show x_n X + 1 = _; rw [j2, nI_succ]
  have c4 : x_f (p_overX X kd v (nI i1) (nI i2) (nI i3)).2 = upd (upd (upd (upd (x_f X) n 1) i1 0) i2 0) i3 0 := by
    show upd (upd (upd (upd (x_f X) (ix (x_n X)) 1) (ix (nI i1)) 0) (ix (nI i2)) 0) (ix (nI i3)) 0 = _
    rw [j2, hin, x1, x2, x3]
  have c3 : x_d (p_overX X kd v (nI i1) (nI i2) (nI i3)).2 = upd (upd (x_d X) n 1) n (nI (D + 1)) := by
    show upd (upd (x_d X) (ix (x_n X)) 1) (ix (x_n X)) (1 + mx (upd (x_d X) (ix (x_n X)) 1 (ix (nI i1))) (mx (upd (x_d X) (ix (x_n X)) 1 (ix (nI i2))) (upd (x_d X) (ix (x_n X)) 1 (ix (nI i3))))) = _
    rw [j2, hin, x1, x2, x3, pk_un (by omega), pk_un (by omega), pk_un (by omega), e1, e2, e3, mx_nI (by omega) (by omega), mx_nI (by omega) (by omega), ← hD]
    rw [show (1 : Int32) + nI D = nI (D + 1) by rw [Nat.add_comm D 1]; exact nI_add 1 D]
  have fa : f_a (x_F (p_overX X kd v (nI i1) (nI i2) (nI i3)).2) (nI n) = ka kd := by
    unfold f_a ka
    rw [hin, c1, pk_us]
  have pp : ∀ (i d : Nat), i < n → x_f X i = 1 → x_d X i = nI d → d ≤ D → ∀ tx : Int32, tx = nI i → Prp n D (x_f X) (x_d X) (nI i) tx := fun i d hi hf he hd tx ht => ⟨i, hi, rfl, ht, hf, d, hd, he⟩
  have vx : f_x (x_F (p_overX X kd v (nI i1) (nI i2) (nI i3)).2) n = nI i1 := by rw [cx]; exact pk_us
  have vy : f_y (x_F (p_overX X kd v (nI i1) (nI i2) (nI i3)).2) n = nI i2 := by rw [cy]; exact pk_us
  have vz : f_z (x_F (p_overX X kd v (nI i1) (nI i2) (nI i3)).2) n = nI i3 := by rw [cz]; exact pk_us
  have ne : ∀ a b : Nat, a < n → b < n → a ≠ b → nI a ≠ nI b := fun a b ha hb h q => h ((nI_eq (by omega) (by omega)).mp q)
  have z1 : x_f (p_overX X kd v (nI i1) (nI i2) (nI i3)).2 i1 = 0 := by
    rw [c4]
    unfold upd
    split
    · rfl
    split
    · rfl
    · exact if_pos rfl
  have z2 : x_f (p_overX X kd v (nI i1) (nI i2) (nI i3)).2 i2 = 0 := by
    rw [c4]
    unfold upd
    split
    · rfl
    · exact if_pos rfl
  have z3 : x_f (p_overX X kd v (nI i1) (nI i2) (nI i3)).2 i3 = 0 := by rw [c4]; exact pk_us
  refine j_add (n := n) (f := f) (q := q) (d := D) (kd := kd) (v := v) hJ h60 hD1 c1 c2 (fun j hj => ⟨by rw [cx]; exact pk_un hj, by rw [cy]; exact pk_un hj, by rw [cz]; exact pk_un hj⟩) rfl rfl c5 rfl rfl rfl b1 b2 (fun j hj => ⟨b3 j hj 0 (by decide), b3 j hj 1 (by decide), b3 j hj 2 (by decide)⟩) b4 b6 b7 b8 b9 hk hnm (fun h => ?_) (fun h => ?_) (fun h => ?_) (fun i hi => ?_) ⟨by rw [c3]; exact pk_us, by rw [b10, hd]; exact pk_us⟩ ⟨?_, hu.1⟩ (fun i hi => ?_) (fun _ => by rw [vx, x1]; exact z1) (fun _ => by rw [vy, x2]; exact z2) (fun _ => by rw [vz, x3]; exact z3)
  · rw [vx]; exact pp i1 d1 h1 f1 e1 (by omega) _ p1
  · rw [fa] at h
    rw [vy, vx]
    exact ⟨pp i2 d2 h2 f2 e2 (by omega) _ (p2 h).1, ne _ _ h1 h2 (p2 h).2⟩
  · rw [fa] at h
    rw [vz, vx, vy]
    exact ⟨pp i3 d3 h3 f3 e3 (by omega) _ (p3 h).1, ne _ _ h1 h3 (p3 h).2.1, ne _ _ h2 h3 (p3 h).2.2⟩
  · rw [c3, b10]
    exact ⟨(pk_un (by omega)).trans (pk_un (by omega)), pk_un (by omega)⟩
  · rw [c4, pk_un (by omega), pk_un (by omega), pk_un (by omega)]; exact pk_us
  · by_cases hp : i = i1 ∨ i = i2 ∨ i = i3
    · refine Or.inr ⟨?_, (hu.2 i hi).1 hp⟩
      rcases hp with rfl | rfl | rfl
      · exact z1
      · exact z2
      · exact z3
    · refine Or.inl ⟨?_, (hu.2 i hi).2 hp⟩
      rw [c4, pk_un (fun h => hp (Or.inr (Or.inr h))), pk_un (fun h => hp (Or.inr (Or.inl h))), pk_un (fun h => hp (Or.inl h)), pk_un (by omega)]
/-- a part, on both sides: it is there, and free or not -/
theorem j_part {X : zX} {Y : zY} {n f q : Nat} (hJ : Jn X Y n f q) {x : Int32} (h : p_bel x (x_n X) = true) : ∃ i d, i < n ∧ x = nI i ∧ ix x = i ∧ 1 ≤ d ∧ d ≤ 12 ∧ x_d X i = nI d ∧ y_d Y i = nI d ∧ (x_f X i = 1 ∧ y_u Y i = 0 ∨ x_f X i = 0 ∧ y_u Y i = 1) := by
  obtain ⟨j1, j2, j3, jF, -⟩ := hJ
  obtain ⟨i, hi, rfl⟩ := bel_of h j2 (by omega)
  obtain ⟨⟨d, d1, d2, d3, d4, d5⟩, -, h3⟩ := jF.1 i hi
  exact ⟨i, d, hi, rfl, ix_nI (by omega), d1, d2, d3, d4, h3⟩
theorem over_12 {a : Nat} (h : a ≤ 12) : (12 < (1 : Int32) + nI a) ↔ a = 12 := by
  rw [show (1 : Int32) + nI a = nI (1 + a) from nI_add 1 a]
  rw [show (12 : Int32) = nI 12 from rfl, nI_ltI (by decide) (by omega)]
  omega
theorem eq_12 {a : Nat} (h : a ≤ 12) : nI a = 12 ↔ a = 12 := nI_eq (b := 12) (by omega) (by decide)
theorem j_un {X : zX} {Y : zY} (hJ : zJ X Y) (kd v x : Int32) (hk : p_bel kd 4 = true) (hv : kd = 0 → p_bel v 8 = true) : ∃ w X' Y', p_join X (2 + kd) v x x x 0 = (w, X') ∧ m_un1 Y kd v x = (w, Y') ∧ zJ X' Y' := by
  obtain ⟨n, f, q, hJn⟩ := hJ
  have hJ' : zJ X Y := ⟨n, f, q, hJn⟩
  obtain ⟨j1, j2, j3, jF, -⟩ := id hJn
  unfold p_join m_un1
  rw [with_bel j3 (by omega), show p_bel x (y_n Y) = p_bel x (x_n X) by rw [j2, j3]]
  by_cases h : p_bel x (x_n X) = true
  rotate_left
  · rw [if_neg h, if_neg h]; exact ⟨_, _, _, rfl, rfl, hJ'⟩
  rw [if_pos h, if_pos h, if_pos h, if_pos h, if_pos rfl]
  obtain ⟨i, d, hi, rfl, hix, hd1, hd2, hxd, hyd, hfu⟩ := j_part hJn h
  rw [hix]
  rcases hfu with ⟨hf, hu⟩ | ⟨hf, hu⟩
  rotate_left
  · rw [if_pos hf, if_neg (by rw [hu]; decide)]; exact ⟨_, _, _, rfl, rfl, hJ'⟩
  have hf0 : ¬ x_f X i = 0 := by rw [hf]; decide
  rw [if_neg hf0, if_neg hf0, if_neg hf0, if_pos hu]
  by_cases h6 : n = 60
  · rw [if_pos ((full_iff j2 j1).mpr h6), if_pos ((y60_iff j3 j1).mpr h6)]; exact ⟨_, _, _, rfl, rfl, hJ'⟩
  rw [if_neg (fun h => h6 ((full_iff j2 j1).mp h)), if_neg (fun h => h6 ((y60_iff j3 j1).mp h))]
  have ho : p_over X (nI i) (nI i) (nI i) = 1 + nI d := by
    unfold p_over
    rw [hix, hxd, mx_nI (by omega) (by omega), mx_nI (by omega) (by omega), Nat.max_self, Nat.max_self]
  rw [ho, hyd]
  by_cases h12 : d = 12
  · rw [if_pos ((over_12 hd2).mpr h12), if_pos ((eq_12 hd2).mpr h12)]; exact ⟨_, _, _, rfl, rfl, hJ'⟩
  rw [if_neg (fun h => h12 ((over_12 hd2).mp h)), if_neg (fun h => h12 ((eq_12 hd2).mp h))]
  obtain ⟨k, hk4, rfl⟩ := bel_of (n := 4) hk rfl (by decide)
  have e2 : (2 : Int32) + nI k = nI (2 + k) := nI_add 2 k
  have e10 : (10 : Int32) + nI k = nI (10 + k) := nI_add 10 k
  have hk' : k = 0 ∨ k = 1 ∨ k = 2 ∨ k = 3 := by omega
  have hkc : t_kc (nI (2 + k)) = nI (10 + k) := by rcases hk' with rfl | rfl | rfl | rfl <;> rfl
  have hka : ka (nI (2 + k)) = 1 := by rcases hk' with rfl | rfl | rfl | rfl <;> rfl
  rw [e2, e10, show nI d + 1 = nI (d + 1) from (nI_succ d).symm]
  have h60 : n < 60 := by omega
  have hin : ix (nI n) = n := ix_nI (by omega)
  obtain ⟨m1, m2, m3, m4, m5, m6, m7, m8, m9, m10, m11⟩ := mk_rows Y (nI (10 + k)) v (nI i) (-1) (-1) (nI (d + 1))
  rw [j3] at m1 m2 m3 m4 m6 m10 m11
  rw [hin] at m2 m10 m11
  have hni : ¬ nI i < 0 := nI_pos (by omega)
  simp only [if_neg hni, hix] at m11
  have m11 : y_u (m_make Y (nI (10 + k)) v (nI i) (-1) (-1) (nI (d + 1))).2 = upd (upd (y_u Y) n 0) i 1 := m11
  have hnm9 : nI (2 + k) = 1 ∨ nI (2 + k) = 2 → vp_in v 8 := fun h => by
    rcases h with h | h
    · have : 2 + k = 1 := (nI_eq (b := 1) (by omega) (by decide)).mp h
      omega
    · have : 2 + k = 2 := (nI_eq (b := 2) (by omega) (by decide)).mp h
      exact bel_8 (hv (by rw [show k = 0 by omega]; rfl))
  have hu9 : y_u (m_make Y (nI (10 + k)) v (nI i) (-1) (-1) (nI (d + 1))).2 n = 0 ∧ ∀ a, a < n → ((a = i ∨ a = i ∨ a = i) → y_u (m_make Y (nI (10 + k)) v (nI i) (-1) (-1) (nI (d + 1))).2 a = 1) ∧ (¬ (a = i ∨ a = i ∨ a = i) → y_u (m_make Y (nI (10 + k)) v (nI i) (-1) (-1) (nI (d + 1))).2 a = y_u Y a) := by
    refine ⟨by rw [m11, pk_un (by omega)]; exact pk_us, fun a ha => ⟨fun h => ?_, fun h => ?_⟩⟩
    · have : a = i := by rcases h with h | h | h <;> exact h
      rw [m11, this]; exact pk_us
    · rw [m11, pk_un (fun q => h (Or.inl q)), pk_un (by omega)]
  obtain ⟨r1, r2⟩ := j_over (D := d) (Y' := (m_make Y (nI (10 + k)) v (nI i) (-1) (-1) (nI (d + 1))).2) (kd := nI (2 + k)) (v := v) hJn h60 ⟨2 + k, by omega, rfl⟩ hnm9 hi hi hi hf hf hf hxd hxd hxd (by rw [Nat.max_self, Nat.max_self]) (by omega) rfl (by rw [m2, hkc]) m3 (fun j hj b hb => by rw [m4]; exact p3_out h60 hj b hb) m5 (by rw [m6, nI_succ]) m7 m8 m9 m10 (by rw [m4]; exact (p3_in h60).1) (fun h => by rw [hka] at h; omega) (fun h => by rw [hka] at h; omega) hu9
  exact ⟨nI n, _, _, by rw [← r1], by rw [← m1], r2⟩
theorem j_unary {X : zX} {Y : zY} (hJ : zJ X Y) (kd v x : Int32) : ∃ w X' Y', p_gun X kd v x = (w, X') ∧ m_unary Y kd v x = (w, Y') ∧ zJ X' Y' := by
  unfold p_gun m_unary
  rw [with_c3, with_c7]
  by_cases hk : p_bel kd 4 = true
  rotate_left
  · rw [if_neg hk, if_neg hk]; exact ⟨_, _, _, rfl, rfl, hJ⟩
  rw [if_pos hk, if_pos hk]
  have h2 : (2 : Int32) + kd = 2 ↔ kd = 0 := by
    obtain ⟨k, hk4, rfl⟩ := bel_of (n := 4) hk rfl (by decide)
    rw [show (2 : Int32) + nI k = nI (2 + k) from nI_add 2 k, show (2 : Int32) = nI 2 from rfl, show (0 : Int32) = nI 0 from rfl, nI_eq (by omega) (by decide), nI_eq (by omega) (by decide)]
    omega
  by_cases h0 : kd = 0
  · rw [if_pos (h2.mpr h0), if_pos h0]
    by_cases hv : p_bel v 8 = true
    · rw [if_pos hv, if_pos hv]; exact j_un hJ kd v x hk fun _ => hv
    · rw [if_neg hv, if_neg hv]; exact ⟨_, _, _, rfl, rfl, hJ⟩
  · rw [if_neg (fun h => h0 (h2.mp h)), if_neg h0]; exact j_un hJ kd v x hk fun h => absurd h h0
theorem j_binary {X : zX} {Y : zY} (hJ : zJ X Y) (kd x y : Int32) : ∃ w X' Y', p_gbin X kd x y = (w, X') ∧ m_binary Y kd x y = (w, Y') ∧ zJ X' Y' := by
  obtain ⟨n, f, q, hJn⟩ := hJ
  have hJ' : zJ X Y := ⟨n, f, q, hJn⟩
  obtain ⟨j1, j2, j3, jF, -⟩ := id hJn
  unfold p_gbin m_binary
  rw [with_c11, with_bel j3 (by omega), with_bel j3 (by omega), show y_n Y = x_n X by rw [j2, j3]]
  by_cases hk : p_bel kd 12 = true
  rotate_left
  · rw [if_neg hk, if_neg hk]; exact ⟨_, _, _, rfl, rfl, hJ'⟩
  rw [if_pos hk, if_pos hk]
  unfold p_join
  by_cases hx : p_bel x (x_n X) = true
  rotate_left
  · simp only [if_neg hx, ite_self]; exact ⟨_, _, _, rfl, rfl, hJ'⟩
  by_cases hy : p_bel y (x_n X) = true
  rotate_left
  · simp only [if_pos hx, if_neg hy, ite_self]; exact ⟨_, _, _, rfl, rfl, hJ'⟩
  simp only [if_pos hx, if_pos hy, if_true]
  obtain ⟨i, d, hi, rfl, hix, hd1, hd2, hxd, hyd, hfu⟩ := j_part hJn hx
  obtain ⟨i', d', hi', rfl, hix', hd1', hd2', hxd', hyd', hfu'⟩ := j_part hJn hy
  simp only [hix, hix']
  by_cases hxy : nI i = nI i'
  · rw [if_pos hxy, if_neg (show ¬ (1 : Int32) = 0 by decide)]
    have : i = i' := (nI_eq (by omega) (by omega)).mp hxy
    subst this
    simp only [if_true, ite_self]
    exact ⟨_, _, _, rfl, rfl, hJ'⟩
  rw [if_neg hxy, if_neg hxy]
  have hne : i ≠ i' := fun q => hxy (by rw [q])
  rcases hfu with ⟨hf, hu⟩ | ⟨hf, hu⟩
  rotate_left
  · rw [if_pos hf, if_neg (by rw [hu]; decide)]; exact ⟨_, _, _, rfl, rfl, hJ'⟩
  have hf0 : ¬ x_f X i = 0 := by rw [hf]; decide
  rw [if_neg hf0, if_pos hu]
  rcases hfu' with ⟨hf', hu'⟩ | ⟨hf', hu'⟩
  rotate_left
  · rw [if_pos hf', if_neg (by rw [hu']; decide)]; exact ⟨_, _, _, rfl, rfl, hJ'⟩
  have hf0' : ¬ x_f X i' = 0 := by rw [hf']; decide
  rw [if_neg hf0', if_neg hf0', if_pos hu']
  by_cases h6 : n = 60
  · rw [if_pos ((full_iff j2 j1).mpr h6), if_pos ((y60_iff j2 j1).mpr h6)]; exact ⟨_, _, _, rfl, rfl, hJ'⟩
  rw [if_neg (fun h => h6 ((full_iff j2 j1).mp h)), if_neg (fun h => h6 ((y60_iff j2 j1).mp h))]
  have ho : p_over X (nI i) (nI i') (nI i') = 1 + nI (max d d') := by
    unfold p_over
    rw [hix, hix', hxd, hxd', mx_nI (by omega) (by omega), Nat.max_self, mx_nI (by omega) (by omega)]
  have hm : (if y_d Y i' < y_d Y i then if y_d Y i = 12 then ((-5 : Int32), Y) else m_make Y (20 + kd) 0 (nI i) (nI i') (-1) (y_d Y i + 1) else if y_d Y i' = 12 then (-5, Y) else m_make Y (20 + kd) 0 (nI i) (nI i') (-1) (y_d Y i' + 1)) = if max d d' = 12 then ((-5 : Int32), Y) else m_make Y (20 + kd) 0 (nI i) (nI i') (-1) (nI (max d d' + 1)) := by
    rw [hyd, hyd']
    by_cases hlt : d' < d
    · rw [if_pos (nI_lt hlt (by omega)), Nat.max_eq_left (by omega), ← nI_succ]
      simp only [eq_12 hd2]
    · rw [if_neg (nI_nlt (by omega) (by omega)), Nat.max_eq_right (by omega), ← nI_succ]
      simp only [eq_12 hd2']
  rw [ho, hm]
  have hmx : max d d' ≤ 12 := by omega
  by_cases h12 : max d d' = 12
  · rw [if_pos ((over_12 hmx).mpr h12), if_pos h12]; exact ⟨_, _, _, rfl, rfl, hJ'⟩
  rw [if_neg (fun h => h12 ((over_12 hmx).mp h)), if_neg h12]
  obtain ⟨k, hk12, rfl⟩ := bel_of (n := 12) hk rfl (by decide)
  have e6 : (6 : Int32) + nI k = nI (6 + k) := nI_add 6 k
  have e20 : (20 : Int32) + nI k = nI (20 + k) := nI_add 20 k
  have hk' : k = 0 ∨ k = 1 ∨ k = 2 ∨ k = 3 ∨ k = 4 ∨ k = 5 ∨ k = 6 ∨ k = 7 ∨ k = 8 ∨ k = 9 ∨ k = 10 ∨ k = 11 := by omega
  have hkc : t_kc (nI (6 + k)) = nI (20 + k) := by rcases hk' with rfl | rfl | rfl | rfl | rfl | rfl | rfl | rfl | rfl | rfl | rfl | rfl <;> rfl
  have hka : ka (nI (6 + k)) = 2 := by rcases hk' with rfl | rfl | rfl | rfl | rfl | rfl | rfl | rfl | rfl | rfl | rfl | rfl <;> rfl
  rw [e6, e20]
  have h60 : n < 60 := by omega
  have hin : ix (nI n) = n := ix_nI (by omega)
  obtain ⟨m1, m2, m3, m4, m5, m6, m7, m8, m9, m10, m11⟩ := mk_rows Y (nI (20 + k)) 0 (nI i) (nI i') (-1) (nI (max d d' + 1))
  rw [j3] at m1 m2 m3 m4 m6 m10 m11
  rw [hin] at m2 m10 m11
  simp only [if_neg (nI_pos (n := i) (by omega)), if_neg (nI_pos (n := i') (by omega)), hix, hix'] at m11
  have m11 : y_u (m_make Y (nI (20 + k)) 0 (nI i) (nI i') (-1) (nI (max d d' + 1))).2 = upd (upd (upd (y_u Y) n 0) i 1) i' 1 := m11
  have hnm9 : nI (6 + k) = 1 ∨ nI (6 + k) = 2 → vp_in 0 8 := fun h => by
    rcases h with h | h
    · have : 6 + k = 1 := (nI_eq (b := 1) (by omega) (by decide)).mp h
      omega
    · have : 6 + k = 2 := (nI_eq (b := 2) (by omega) (by decide)).mp h
      omega
  have hu9 : y_u (m_make Y (nI (20 + k)) 0 (nI i) (nI i') (-1) (nI (max d d' + 1))).2 n = 0 ∧ ∀ a, a < n → ((a = i ∨ a = i' ∨ a = i') → y_u (m_make Y (nI (20 + k)) 0 (nI i) (nI i') (-1) (nI (max d d' + 1))).2 a = 1) ∧ (¬ (a = i ∨ a = i' ∨ a = i') → y_u (m_make Y (nI (20 + k)) 0 (nI i) (nI i') (-1) (nI (max d d' + 1))).2 a = y_u Y a) := by
    refine ⟨by rw [m11, pk_un (by omega), pk_un (by omega)]; exact pk_us, fun a ha => ⟨fun h => ?_, fun h => ?_⟩⟩
    · rw [m11]
      by_cases ha' : a = i'
      · rw [ha']; exact pk_us
      · have : a = i := by rcases h with h | h | h <;> first | exact h | exact absurd h ha'
        rw [pk_un ha', this]; exact pk_us
    · rw [m11, pk_un (fun q => h (Or.inr (Or.inl q))), pk_un (fun q => h (Or.inl q)), pk_un (by omega)]
  obtain ⟨r1, r2⟩ := j_over (D := max d d') (Y' := (m_make Y (nI (20 + k)) 0 (nI i) (nI i') (-1) (nI (max d d' + 1))).2) (kd := nI (6 + k)) (v := 0) hJn h60 ⟨6 + k, by omega, rfl⟩ hnm9 hi hi' hi' hf hf' hf' hxd hxd' hxd' (by rw [Nat.max_self]) (by omega) rfl (by rw [m2, hkc]) m3 (fun j hj b hb => by rw [m4]; exact p3_out h60 hj b hb) m5 (by rw [m6, nI_succ]) m7 m8 m9 m10 (by rw [m4]; exact (p3_in h60).1) (fun _ => ⟨by rw [m4]; exact (p3_in h60).2.1, hne⟩) (fun h => by rw [hka] at h; omega) hu9
  exact ⟨nI n, _, _, by rw [← r1], by rw [← m1], r2⟩
theorem j_ternary {X : zX} {Y : zY} (hJ : zJ X Y) (kd x y z : Int32) : ∃ w X' Y', p_gter X kd x y z = (w, X') ∧ m_ternary Y kd x y z = (w, Y') ∧ zJ X' Y' := by
  obtain ⟨n, f, q, hJn⟩ := hJ
  have hJ' : zJ X Y := ⟨n, f, q, hJn⟩
  obtain ⟨j1, j2, j3, jF, -⟩ := id hJn
  unfold p_gter m_ternary
  rw [with_c1, with_bel j3 (by omega), with_bel j3 (by omega), with_bel j3 (by omega), show y_n Y = x_n X by rw [j2, j3]]
  by_cases hk : p_bel kd 2 = true
  rotate_left
  · rw [if_neg hk, if_neg hk]; exact ⟨_, _, _, rfl, rfl, hJ'⟩
  rw [if_pos hk, if_pos hk]
  unfold p_join
  by_cases hx : p_bel x (x_n X) = true
  rotate_left
  · simp only [if_neg hx, ite_self]; exact ⟨_, _, _, rfl, rfl, hJ'⟩
  by_cases hy : p_bel y (x_n X) = true
  rotate_left
  · simp only [if_pos hx, if_neg hy, ite_self]; exact ⟨_, _, _, rfl, rfl, hJ'⟩
  by_cases hz : p_bel z (x_n X) = true
  rotate_left
  · simp only [if_pos hx, if_pos hy, if_neg hz, ite_self]; exact ⟨_, _, _, rfl, rfl, hJ'⟩
  simp only [if_pos hx, if_pos hy, if_pos hz, if_neg (show ¬ (1 : Int32) = 0 by decide), if_true]
  obtain ⟨i, d, hi, rfl, hix, hd1, hd2, hxd, hyd, hfu⟩ := j_part hJn hx
  obtain ⟨i', d', hi', rfl, hix', hd1', hd2', hxd', hyd', hfu'⟩ := j_part hJn hy
  obtain ⟨i3, d3, hi3, rfl, hix3, hd13, hd23, hxd3, hyd3, hfu3⟩ := j_part hJn hz
  simp only [hix, hix', hix3]
  by_cases hxy : nI i = nI i'
  · simp only [if_pos hxy, ite_self]; exact ⟨_, _, _, rfl, rfl, hJ'⟩
  by_cases hyz : nI i' = nI i3
  · simp only [if_neg hxy, if_pos hyz, ite_self]; exact ⟨_, _, _, rfl, rfl, hJ'⟩
  by_cases hxz : nI i = nI i3
  · simp only [if_neg hxy, if_neg hyz, if_pos hxz, ite_self]; exact ⟨_, _, _, rfl, rfl, hJ'⟩
  simp only [if_neg hxy, if_neg hyz, if_neg hxz]
  have hne : i ≠ i' := fun q => hxy (by rw [q])
  have hne2 : i' ≠ i3 := fun q => hyz (by rw [q])
  have hne3 : i ≠ i3 := fun q => hxz (by rw [q])
  rcases hfu with ⟨hf, hu⟩ | ⟨hf, hu⟩
  rotate_left
  · rw [if_pos hf, if_neg (by rw [hu]; decide)]; exact ⟨_, _, _, rfl, rfl, hJ'⟩
  rw [if_neg (by rw [hf]; decide), if_pos hu]
  rcases hfu' with ⟨hf', hu'⟩ | ⟨hf', hu'⟩
  rotate_left
  · rw [if_pos hf', if_neg (by rw [hu']; decide)]; exact ⟨_, _, _, rfl, rfl, hJ'⟩
  rw [if_neg (by rw [hf']; decide), if_pos hu']
  rcases hfu3 with ⟨hf3, hu3⟩ | ⟨hf3, hu3⟩
  rotate_left
  · rw [if_pos hf3, if_neg (by rw [hu3]; decide)]; exact ⟨_, _, _, rfl, rfl, hJ'⟩
  rw [if_neg (by rw [hf3]; decide), if_pos hu3]
  by_cases h6 : n = 60
  · rw [if_pos ((full_iff j2 j1).mpr h6), if_pos ((y60_iff j2 j1).mpr h6)]; exact ⟨_, _, _, rfl, rfl, hJ'⟩
  rw [if_neg (fun h => h6 ((full_iff j2 j1).mp h)), if_neg (fun h => h6 ((y60_iff j2 j1).mp h))]
  have ho : p_over X (nI i) (nI i') (nI i3) = 1 + nI (max d (max d' d3)) := by
    unfold p_over
    rw [hix, hix', hix3, hxd, hxd', hxd3, mx_nI (by omega) (by omega), mx_nI (by omega) (by omega)]
  have ht1 : ∀ a : Nat, a ≤ 12 → m_ter1 Y kd (nI i) (nI i') (nI i3) (nI a) = if a = 12 then ((-5 : Int32), Y) else m_make Y (40 + kd) 0 (nI i) (nI i') (nI i3) (nI (a + 1)) := fun a ha => by
    unfold m_ter1
    rw [← nI_succ]
    simp only [eq_12 ha]
  have ht2 : ∀ a : Nat, a ≤ 12 → m_ter2 Y kd (nI i) (nI i') (nI i3) (nI a) = m_ter1 Y kd (nI i) (nI i') (nI i3) (nI (max a d3)) := fun a ha => by
    unfold m_ter2
    rw [hix3, hyd3]
    by_cases hlt : a < d3
    · rw [if_pos (nI_lt hlt (by omega)), Nat.max_eq_right (by omega)]
    · rw [if_neg (nI_nlt (by omega) (by omega)), Nat.max_eq_left (by omega)]
  have hm : (if y_d Y i' < y_d Y i then m_ter2 Y kd (nI i) (nI i') (nI i3) (y_d Y i) else m_ter2 Y kd (nI i) (nI i') (nI i3) (y_d Y i')) = if max d (max d' d3) = 12 then ((-5 : Int32), Y) else m_make Y (40 + kd) 0 (nI i) (nI i') (nI i3) (nI (max d (max d' d3) + 1)) := by
    rw [hyd, hyd']
    by_cases hlt : d' < d
    · rw [if_pos (nI_lt hlt (by omega)), ht2 d hd2, ht1 _ (by omega), show max d d3 = max d (max d' d3) by omega]
    · rw [if_neg (nI_nlt (by omega) (by omega)), ht2 d' hd2', ht1 _ (by omega), show max d (max d' d3) = max d' d3 by omega]
  rw [ho, hm]
  have hmx : max d (max d' d3) ≤ 12 := by omega
  by_cases h12 : max d (max d' d3) = 12
  · rw [if_pos ((over_12 hmx).mpr h12), if_pos h12]; exact ⟨_, _, _, rfl, rfl, hJ'⟩
  rw [if_neg (fun h => h12 ((over_12 hmx).mp h)), if_neg h12]
  obtain ⟨k, hk2, rfl⟩ := bel_of (n := 2) hk rfl (by decide)
  have e6 : (18 : Int32) + nI k = nI (18 + k) := nI_add 18 k
  have e20 : (40 : Int32) + nI k = nI (40 + k) := nI_add 40 k
  have hk' : k = 0 ∨ k = 1 := by omega
  have hkc : t_kc (nI (18 + k)) = nI (40 + k) := by rcases hk' with rfl | rfl <;> rfl
  have hka : ka (nI (18 + k)) = 3 := by rcases hk' with rfl | rfl <;> rfl
  rw [e6, e20]
  have h60 : n < 60 := by omega
  have hin : ix (nI n) = n := ix_nI (by omega)
  obtain ⟨m1, m2, m3, m4, m5, m6, m7, m8, m9, m10, m11⟩ := mk_rows Y (nI (40 + k)) 0 (nI i) (nI i') (nI i3) (nI (max d (max d' d3) + 1))
  rw [j3] at m1 m2 m3 m4 m6 m10 m11
  rw [hin] at m2 m10 m11
  simp only [if_neg (nI_pos (n := i) (by omega)), if_neg (nI_pos (n := i') (by omega)), if_neg (nI_pos (n := i3) (by omega)), hix, hix', hix3] at m11
  have hnm9 : nI (18 + k) = 1 ∨ nI (18 + k) = 2 → vp_in 0 8 := fun h => by
    rcases h with h | h
    · have : 18 + k = 1 := (nI_eq (b := 1) (by omega) (by decide)).mp h
      omega
    · have : 18 + k = 2 := (nI_eq (b := 2) (by omega) (by decide)).mp h
      omega
  have hu9 : y_u (m_make Y (nI (40 + k)) 0 (nI i) (nI i') (nI i3) (nI (max d (max d' d3) + 1))).2 n = 0 ∧ ∀ a, a < n → ((a = i ∨ a = i' ∨ a = i3) → y_u (m_make Y (nI (40 + k)) 0 (nI i) (nI i') (nI i3) (nI (max d (max d' d3) + 1))).2 a = 1) ∧ (¬ (a = i ∨ a = i' ∨ a = i3) → y_u (m_make Y (nI (40 + k)) 0 (nI i) (nI i') (nI i3) (nI (max d (max d' d3) + 1))).2 a = y_u Y a) := by
    refine ⟨by rw [m11, pk_un (by omega), pk_un (by omega), pk_un (by omega)]; exact pk_us, fun a ha => ⟨fun h => ?_, fun h => ?_⟩⟩
    · rw [m11]
      by_cases ha3 : a = i3
      · rw [ha3]; exact pk_us
      rw [pk_un ha3]
      by_cases ha' : a = i'
      · rw [ha']; exact pk_us
      · have : a = i := by rcases h with h | h | h <;> first | exact h | exact absurd h ha' | exact absurd h ha3
        rw [pk_un ha', this]; exact pk_us
    · rw [m11, pk_un (fun q => h (Or.inr (Or.inr q))), pk_un (fun q => h (Or.inr (Or.inl q))), pk_un (fun q => h (Or.inl q)), pk_un (by omega)]
  obtain ⟨r1, r2⟩ := j_over (D := max d (max d' d3)) (Y' := (m_make Y (nI (40 + k)) 0 (nI i) (nI i') (nI i3) (nI (max d (max d' d3) + 1))).2) (kd := nI (18 + k)) (v := 0) hJn h60 ⟨18 + k, by omega, rfl⟩ hnm9 hi hi' hi3 hf hf' hf3 hxd hxd' hxd3 rfl (by omega) rfl (by rw [m2, hkc]) m3 (fun j hj b hb => by rw [m4]; exact p3_out h60 hj b hb) m5 (by rw [m6, nI_succ]) m7 m8 m9 m10 (by rw [m4]; exact (p3_in h60).1) (fun _ => ⟨by rw [m4]; exact (p3_in h60).2.1, hne⟩) (fun _ => ⟨by rw [m4]; exact (p3_in h60).2.2, hne3, hne2⟩) hu9
  exact ⟨nI n, _, _, by rw [← r1], by rw [← m1], r2⟩
