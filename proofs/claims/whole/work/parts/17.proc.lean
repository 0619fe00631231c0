/-! One call of `next` on both sides; the reading calls; set and begin. -/
theorem nm_step (T : zT) (e w : Int32) (s : zR) (j : Nat) (hj : ¬ t_k T j = 40) : r_nm (q_step T e w s).2 j = r_nm s j := by
  have ask : ∀ (e i th : Int32) (s : zR), r_nm (q_ask T e i th s).2 = r_nm s := fun _ _ _ _ => rfl
  have first : ∀ (e i th : Int32) (s : zR), r_nm (q_first T e i th s).2 = r_nm s := fun _ _ _ _ => rfl
  have paid : ∀ (v : Int32) (s : zR), r_nm (q_paid T v s).2 = r_nm s := fun v s => by unfold q_paid; split <;> rfl
  have on : ∀ (e : Int32) (s : zR), r_nm (q_on T e s).2 = r_nm s := fun e s => by
    unfold q_on
    dsimp only
    by_cases hc : (if 0 < r_kp s (ix (3 * e + 2)) then decide (r_kp s (ix (3 * e + 1)) < r_kp s (ix (3 * e))) else decide (r_kp s (ix (3 * e)) < r_kp s (ix (3 * e + 1)))) = true
    · rw [if_pos hc]; exact ask _ _ _ _
    · rw [if_neg hc]; exact (paid _ _).trans rfl
  have leaf : ∀ (e : Int32) (s : zR), r_nm (q_leaf T e s).2 = r_nm s := fun e s => by
    unfold q_leaf
    split
    · rfl
    · exact (paid _ _).trans rfl
  have unary : ∀ (e w : Int32) (s : zR), r_nm (q_unary T e w s).2 = r_nm s := fun e w s => by
    unfold q_unary
    simp only []
    repeat' split
    all_goals rfl
  have pair : ∀ (e w : Int32) (s : zR), r_nm (q_pair T e w s).2 = r_nm s := fun e w s => by
    unfold q_pair
    simp only []
    repeat' split
    all_goals rfl
  have limit : ∀ (e w : Int32) (s : zR), r_nm (q_limit T e w s).2 = r_nm s := fun e w s => by
    unfold q_limit
    simp only []
    repeat' split
    all_goals rfl
  have binary : ∀ (e w : Int32) (s : zR), r_nm (q_binary T e w s).2 = r_nm s := fun e w s => by
    unfold q_binary
    simp only []
    repeat' split
    all_goals first | exact limit _ _ _ | rfl
  have iff : ∀ (e w : Int32) (s : zR), r_nm (q_if T e w s).2 = r_nm s := fun e w s => by
    unfold q_if
    simp only []
    repeat' split
    all_goals rfl
  unfold q_step
  simp only []
  split
  · rw [leaf]
  split
  · rw [unary]
  split
  · rw [pair]
  split
  · rw [binary]
  split
  · rename_i hk
    have hne : j ≠ ix e := fun q => hj (by rw [q]; exact hk)
    unfold q_to
    simp only []
    split
    · split
      · rfl
      · rw [on]
    split
    · split <;> rfl
    split
    · exact pk_un hne
    split
    · rfl
    split
    · rfl
    · rw [on]; rfl
  · rw [iff]
theorem nm_turn (T : zT) (a : zR × Int32) (j : Nat) (hj : ¬ t_k T j = 40) : r_nm (q_turn T a).1 j = r_nm a.1 j := by
  unfold q_turn
  simp only []
  split
  · exact nm_step T _ _ _ j hj
  · exact nm_step T _ _ _ j hj
theorem nm_go {T : zT} : ∀ (m : Nat) (a b : zR × Int32), Go T m a b → ∀ j, ¬ t_k T j = 40 → r_nm b.1 j = r_nm a.1 j
  | 0, a, b, h, j, _ => by have h : a = b := h; rw [h]
  | m + 1, a, b, h, j, hj => (nm_go m _ b h.2.2 j hj).trans (nm_turn T a j hj)
theorem kc_40 {k : Nat} (hk : k < 20) (h : t_kc (nI k) = 40) : nI k = 18 := by
  have : k = 0 ∨ k = 1 ∨ k = 2 ∨ k = 3 ∨ k = 4 ∨ k = 5 ∨ k = 6 ∨ k = 7 ∨ k = 8 ∨ k = 9 ∨ k = 10 ∨ k = 11 ∨ k = 12 ∨ k = 13 ∨ k = 14 ∨ k = 15 ∨ k = 16 ∨ k = 17 ∨ k = 18 ∨ k = 19 := by omega
  rcases this with rfl | rfl | rfl | rfl | rfl | rfl | rfl | rfl | rfl | rfl | rfl | rfl | rfl | rfl | rfl | rfl | rfl | rfl | rfl | rfl <;> first | rfl | exact absurd h (by decide)
theorem nm_keep {F : zF} {T : zT} {r r' : zR} (hK : Kd F T) (hN : Nm F r) (h : ∀ j, ¬ t_k T j = 40 → r_nm r' j = r_nm r j) : Nm F r' := fun j hj => by
  rw [h j, hN j hj]
  intro q
  obtain ⟨⟨k, hk, e⟩, e2⟩ := hK j
  rw [e2, e] at q
  exact hj (e.trans (kc_40 hk q))
theorem j_vx {X : zX} {Y : zY} (h : zJ X Y) : VX X := by
  obtain ⟨n, f, q, j1, j2, j3, jF, jK, jN, jg, jO, ⟨g1, g2, w, hw, g3⟩, -⟩ := h
  exact ⟨⟨n, j1, j2⟩, w, hw, g3⟩
theorem j_vt {X : zX} {Y : zY} (h : zJ X Y) : VT (y_T Y) X := by
  obtain ⟨n, f, q, j1, j2, j3, jF, jK, jN, jg, jO, ⟨g1, g2, w, hw, g3⟩, jl, jR⟩ := h
  refine ⟨⟨n, j1, j2⟩, ⟨w, hw, g3⟩, fun h1 => ?_⟩
  rcases jR with ⟨h, -⟩ | ⟨i, hi, hb, -, -⟩
  · rw [h] at h1; exact absurd h1 (by decide)
  · obtain ⟨⟨d, d1, d2, -, -, d5⟩, -, -⟩ := jF.1 i hi
    rw [hb]
    exact Tr_m d2 d5
theorem j_vy {X : zX} {Y : zY} (h : zJ X Y) : VY Y := by
  obtain ⟨n, f, q, j1, j2, j3, jF, jK, jN, jg, jO, ⟨g1, g2, w, hw, g3⟩, -⟩ := h
  exact ⟨⟨n, j1, j3⟩, w, hw, by rw [jg]; exact g3⟩
theorem zK_12 {n : Nat} (h : n ≤ 2000) : zK 12 n ≤ 480000 := by unfold zK; omega
theorem j_proc {X : zX} {Y : zY} (hJ : zJ X Y) : ∃ v X' Y', p_proc 1000000 X = (v, X') ∧ NxtY Y v Y' ∧ zJ X' Y' := by
  obtain ⟨n, f, q, hJn⟩ := hJ
  have hJ' : zJ X Y := ⟨n, f, q, hJn⟩
  obtain ⟨j1, j2, j3, jF, jK, jN, jg, jO, jG, jl, jR⟩ := hJn
  rcases jR with ⟨ha, hb⟩ | ⟨i, hi, hb, hyb, ⟨ha, he, p, hI, hp⟩ | ⟨ha, he, h2⟩⟩
  · refine ⟨-1, X, Y, ?_, Or.inl ⟨by rw [hb]; decide, rfl, rfl⟩, hJ'⟩
    unfold p_proc
    rw [if_neg (by rw [ha]; decide), ha]
  · have hn0 : ¬ y_b Y < 0 := by rw [hyb]; exact nI_pos (by omega)
    obtain ⟨⟨d, d1, d2, -, -, d5⟩, -, -⟩ := jF.1 i hi
    have hT : Tr (x_F X) (y_T Y) 12 (nI i) := Tr_m d2 d5
    have hU : zUp (x_F X) f 0 (nI i) (x_c X) (r_0 Y) q := ⟨jN, jg, jG, rfl, rfl, hyb⟩
    have hI0 : Idl (x_F X) 12 (nI i) (x_c X) (r_0 Y) p := by
      rcases hI with h | h
      · exact Or.inl h
      · exact Or.inr (Lv_cong (c := x_c X) (r := y_r Y) 12 (nI i) p (fun j _ => ⟨rfl, rfl, rfl, rfl, rfl, rfl, rfl, rfl⟩) h)
    obtain ⟨q', hq, hF, hout⟩ := sim_all jO 12 0 (nI i) (x_c X) (r_0 Y) p q hT (by decide) hU hI0
    have hpe : p_proc 1000000 X = (let z := p_all (x_F X) 1000000 12 (nI i) (x_c X); if z.1 = 1 then (z.1, X_l (X_a (X_c X z.2) z.1) (c_rs z.2 (ix (nI i)))) else (z.1, X_a (X_c X z.2) z.1)) := by
      unfold p_proc
      rw [if_pos ha, hb]
    generalize p_all (x_F X) 1000000 12 (nI i) (x_c X) = z at hF hout hpe
    obtain ⟨v, c'⟩ := z
    have hf := jO.2.2.1
    rcases hout with ⟨hv, hn, m, r', p', hGo, ⟨k1, k2, k3, k4, k5, k6⟩, hR, hgv, hL, hm⟩ | ⟨hv, -, m, r', hGo, ⟨k1, k2, k3, k4, k5, k6⟩, hR, hm⟩ | ⟨hv, hG', m, r', w, hGo, ⟨b1, b2, b3⟩, hm⟩
    · have hv : v = 1 := hv
      subst hv
      have hz := zK_12 (n := q') (by have := k3.2.1; omega)
      refine ⟨1, X_l (X_a (X_c X c') 1) (c_rs c' (ix (nI i))), Y_l (Y_r Y r') (r_gv r'), by rw [hpe]; rfl, Or.inr (Or.inr ⟨hn0, he, m, r', 1, by omega, hGo, Or.inl ⟨k5, Or.inr ⟨by decide, rfl, rfl⟩⟩⟩), n, f, q', j1, j2, j3, jF, jK, k1, k2, jO, k3, hgv.symm, Or.inr ⟨i, hi, hb, hyb, Or.inl ⟨rfl, he, p', Or.inr hL, by omega⟩⟩⟩
    · have hv : v = 0 := hv
      subst hv
      have hz := zK_12 (n := q') (by have := k3.2.1; omega)
      refine ⟨0, X_a (X_c X c') 0, Y_e (Y_r Y r') 0, by rw [hpe]; rfl, Or.inr (Or.inr ⟨hn0, he, m, r', 2, by omega, hGo, Or.inl ⟨k5, Or.inl ⟨rfl, rfl, rfl⟩⟩⟩), n, f, q', j1, j2, j3, jF, jK, k1, k2, jO, k3, jl, Or.inr ⟨i, hi, hb, hyb, Or.inr ⟨by show ¬ (0 : Int32) = 1; decide, rfl, by show ¬ (0 : Int32) = 2; decide⟩⟩⟩
    · have hv : v < 0 := hv
      have hz := zK_12 (n := q') (by have := hG'.2.1; omega)
      have hb2 : r_er (q_step (y_T Y) (r_sk r' (ix (r_tp r' - 1))) w r').2 = v := b2
      have hb3 : r_g (q_step (y_T Y) (r_sk r' (ix (r_tp r' - 1))) w r').2 = c_g c' := b3
      have hne : ¬ v = 2 := fun q => by rw [q] at hv; exact absurd hv (by decide)
      refine ⟨v, X_a (X_c X c') v, Y_e (Y_r Y (q_step (y_T Y) (r_sk r' (ix (r_tp r' - 1))) w r').2) v, by rw [hpe]; simp only [if_neg (neg1 hv)], Or.inr (Or.inr ⟨hn0, he, m, r', w, by omega, hGo, Or.inr ⟨b1, neg0 hv, hb2, rfl⟩⟩), n, f, q', j1, j2, j3, jF, jK, ?_, hb3, jO, hG', jl, Or.inr ⟨i, hi, hb, hyb, Or.inr ⟨neg1 hv, rfl, hne⟩⟩⟩
      exact nm_keep jK jN fun j hj => (nm_step _ _ _ _ j hj).trans (nm_go m _ _ hGo j hj)
  · refine ⟨x_a X, X, Y, ?_, Or.inr (Or.inl ⟨by rw [hyb]; exact nI_pos (by omega), h2, he.symm, rfl⟩), hJ'⟩
    unfold p_proc
    rw [if_neg ha]
theorem lv_same {F : zF} {e : Int32} {c c' : zC} {r r' : zR} {p : Nat} (h : Idl F 12 e c r p) (hA : ∀ D : Nat → Prop, Ag D c c' r r') : Idl F 12 e c' r' p := by
  rcases h with ⟨h1, h2, h3⟩ | h
  · obtain ⟨e1, -, -, e4, -⟩ := hA (fun _ => True) (ix e) trivial
    exact Or.inl ⟨e1.trans h1, e4.trans h2, h3⟩
  · exact Or.inr (Lv_cong 12 _ _ (hA _) h)
theorem j_set {X : zX} {Y : zY} (hJ : zJ X Y) (x v : Int32) : ∃ w X' Y', p_set X x v = (w, X') ∧ m_set Y x v = (w, Y') ∧ zJ X' Y' := by
  have hJ' := hJ
  obtain ⟨n, f, q, j1, j2, j3, jF, jK, jN, jg, jO, jG, jl, jR⟩ := hJ
  unfold p_set m_set
  rw [with_c7]
  by_cases h : p_bel x 8 = true
  · rw [if_pos h, if_pos h]
    refine ⟨_, _, Y_q Y (fun r => u_g r (h_va (r_g r) x v)), rfl, by rw [jg], n, f, q, j1, j2, j3, jF, jK, jN, ?_, jO, jG, jl, ?_⟩
    · show h_va (r_g (y_r Y)) x v = h_va (c_g (x_c X)) x v
      rw [jg]
    · rcases jR with h | ⟨i, hi, hb, hyb, ⟨ha, he, p, hI, hp⟩ | h⟩
      · exact Or.inl h
      · exact Or.inr ⟨i, hi, hb, hyb, Or.inl ⟨ha, he, p, lv_same hI fun D j _ => ⟨rfl, rfl, rfl, rfl, rfl, rfl, rfl, rfl⟩, hp⟩⟩
      · exact Or.inr ⟨i, hi, hb, hyb, Or.inr h⟩
  · rw [if_neg h, if_neg h]
    exact ⟨_, _, _, rfl, rfl, hJ'⟩
theorem fo_cong {F F' : zF} {T T' : zT} {n : Nat} {dp fr yd yu : Nat → Int32} (h : Fo F T n dp fr yd yu) (hA : ∀ D : Nat → Prop, AgF D F F' T T') : Fo F' T' n dp fr yd yu := by
  obtain ⟨h1, h2⟩ := h
  have hc : ∀ e j, Sb F' 12 e j ↔ Sb F 12 e j := fun e j => Sb_cong 12 e j (hA _)
  refine ⟨fun i hi => ?_, fun i i' hi hi' hne hf hf' j hj hj' => h2 i i' hi hi' hne hf hf' j ((hc _ _).mp hj) ((hc _ _).mp hj')⟩
  obtain ⟨⟨d, d1, d2, d3, d4, d5⟩, g2, g3⟩ := h1 i hi
  exact ⟨⟨d, d1, d2, d3, d4, Tr_cong d _ (hA _) d5⟩, fun j hj => g2 j ((hc _ _).mp hj), g3⟩
theorem j_begin {X : zX} {Y : zY} (hJ : zJ X Y) (x v : Int32) : ∃ w X' Y', p_begin X x v = (w, X') ∧ m_begin Y x v = (w, Y') ∧ zJ X' Y' := by
  have hJ' := hJ
  obtain ⟨n, f, q, j1, j2, j3, jF, jK, jN, jg, jO, jG, jl, jR⟩ := hJ
  unfold p_begin m_begin
  rw [with_bel j3 (by omega), with_c2000, show p_bel x (y_n Y) = p_bel x (x_n X) by rw [j2, j3]]
  by_cases h : p_bel x (x_n X) = true
  rotate_left
  · rw [if_neg h, if_neg h]; exact ⟨_, _, _, rfl, rfl, hJ'⟩
  rw [if_pos h, if_pos h]
  obtain ⟨i, hi, rfl⟩ := bel_of h j2 (by omega)
  have hix : ix (nI i) = i := ix_nI (by omega)
  rw [hix]
  rcases (jF.1 i hi).2.2 with ⟨hf, hu⟩ | ⟨hf, hu⟩
  rotate_left
  · rw [if_pos hf, if_neg (by rw [hu]; decide)]; exact ⟨_, _, _, rfl, rfl, hJ'⟩
  rw [if_neg (by rw [hf]; decide), if_pos hu]
  by_cases hv : p_bel v 2001 = true
  rotate_left
  · rw [if_neg hv, if_neg hv]; exact ⟨_, _, _, rfl, rfl, hJ'⟩
  rw [if_pos hv, if_pos hv]
  obtain ⟨k, hk, rfl⟩ := bel_of (n := 2001) hv rfl (by decide)
  refine ⟨_, _, _, rfl, rfl, n, k, 0, j1, j2, j3, ?_, jK, jN, ?_, ⟨rfl, rfl, by omega, jO.2.2.2⟩, ⟨rfl, Nat.zero_le _, 0, by omega, rfl⟩, rfl, Or.inr ⟨i, hi, rfl, rfl, Or.inl ⟨rfl, rfl, 0, Or.inl ⟨?_, ?_, rfl⟩, Nat.zero_le _⟩⟩⟩
  · exact fo_cong jF fun D j _ => ⟨rfl, rfl, rfl, rfl, rfl, rfl, rfl, rfl, rfl⟩
  · show h_wc (h_c (r_g (y_r Y)) 0) 0 = h_wc (h_c (c_g (x_c X)) 0) 0
    rw [jg]
  · exact pk_us
  · exact pk_us
theorem j_about {X : zX} {Y : zY} (hJ : zJ X Y) (x : Int32) : p_about X x = m_about Y x := by
  obtain ⟨n, f, q, j1, j2, j3, jF, -⟩ := hJ
  unfold p_about m_about
  rw [with_bel j3 (by omega), show p_bel x (y_n Y) = p_bel x (x_n X) by rw [j2, j3]]
  by_cases h : p_bel x (x_n X) = true
  rotate_left
  · rw [if_neg h, if_neg h]
  rw [if_pos h, if_pos h]
  obtain ⟨i, hi, rfl⟩ := bel_of h j2 (by omega)
  rw [ix_nI (by omega)]
  obtain ⟨⟨d, d1, d2, d3, d4, d5⟩, -, h3⟩ := jF.1 i hi
  rw [d3, d4]
  rcases h3 with ⟨hf, hu⟩ | ⟨hf, hu⟩
  · rw [if_neg (by rw [hf]; decide), if_pos hu]
  · rw [if_pos hf, if_neg (by rw [hu]; decide)]
theorem j_count {X : zX} {Y : zY} (hJ : zJ X Y) : x_n X = y_n Y := by
  obtain ⟨n, f, q, j1, j2, j3, -⟩ := hJ
  rw [j2, j3]
theorem j_g {X : zX} {Y : zY} (hJ : zJ X Y) : r_g (y_r Y) = c_g (x_c X) := by
  obtain ⟨n, f, q, j1, j2, j3, jF, jK, jN, jg, -⟩ := hJ
  exact jg
theorem j_l {X : zX} {Y : zY} (hJ : zJ X Y) : x_l X = y_l Y := by
  obtain ⟨n, f, q, j1, j2, j3, jF, jK, jN, jg, jO, jG, jl, -⟩ := hJ
  exact jl
theorem j_var {X : zX} {Y : zY} (hJ : zJ X Y) (x : Int32) : p_var X x = m_var Y x := by
  unfold p_var m_var
  rw [with_c7, j_g hJ]
theorem j_written {X : zX} {Y : zY} (hJ : zJ X Y) (x : Int32) : p_written X x = m_written Y x := by
  obtain ⟨n, f, q, j1, j2, j3, jF, jK, jN, jg, jO, ⟨g1, g2, w, hw, g3⟩, -⟩ := hJ
  unfold p_written m_written
  rw [jg, with_bel g3 (by omega)]
/-- two rows of calls that agree stop alike -/
theorem sk_same {S S' : Type} {sq : Nat → S} {sq' : Nat → S'} {an : Nat → Int32} {n r r' : Int32} {u : S} {u' : S'} (h : Sk sq an n r u) (h' : Sk sq' an n r' u') : r = r' ∧ ∃ j, u = sq j ∧ u' = sq' j := by
  obtain ⟨j, rfl, hl, he⟩ := h
  obtain ⟨j', rfl, hl', he'⟩ := h'
  have hjj : j = j' := by
    rcases Nat.lt_trichotomy j j' with h | h | h
    · obtain ⟨a, b⟩ := hl' j h
      rcases he with ⟨c, -⟩ | ⟨-, c, -⟩
      · exact absurd b c
      · exact absurd a c
    · exact h
    · obtain ⟨a, b⟩ := hl j' h
      rcases he' with ⟨c, -⟩ | ⟨-, c, -⟩
      · exact absurd b c
      · exact absurd a c
  subst hjj
  refine ⟨rfl, ?_⟩
  rcases he with ⟨c, hu⟩ | ⟨c, -, hu⟩ <;> rcases he' with ⟨c', hu'⟩ | ⟨c', -, hu'⟩
  · exact ⟨j, hu, hu'⟩
  · exact absurd c' c
  · exact absurd c c'
  · exact ⟨j + 1, hu, hu'⟩
