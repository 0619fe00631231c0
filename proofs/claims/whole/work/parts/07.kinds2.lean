/-! Kinds of one part. -/
theorem un_enter {F : zF} {T : zT} {f d t n p : Nat} {e : Int32} {c : zC} {r : zR} (hT : Tr F T (d + 1) e) (hk : f_k F (ix e) = 2 ∨ f_k F (ix e) = 3 ∨ f_k F (ix e) = 5) (hU : zUp F f t e c r n) (hI : Idl F (d + 1) e c r p) :
    ∃ r0 p1 p2, q_step T e 0 r = q_ask T e 0 1 r0 ∧ Ro r r0 ∧ Nm F r0 ∧ FrR (fun j => j = ix e ∨ Sb F d (f_x F (ix e)) j) r r0 ∧ Idl F d (f_x F (ix e)) (s_st (if c_st c (ix e) = 0 then s_st c (f_x F (ix e)) 0 else c) e 1) (pu r0 e 1 t (f_x F (ix e))) p1 ∧ p = p1 + p2 ∧
      (c_st c (ix e) = 0 ∧ p2 = 0 ∧ r_kp r0 (3 * ix e) = 0 ∨ ¬ c_st c (ix e) = 0 ∧ p2 = 4 ∧ (f_k F (ix e) = 5 → r_kp r0 (3 * ix e) = 1)) := by
  have hst : q_step T e 0 r = (if r_ph r (ix e) = 1 then q_ask T e 0 1 r else q_first T e 0 1 (u_kp r (3 * e) 0)) := by
    rcases hk with h | h | h <;> simp [q_step, q_unary, hT.2.2.1, h, t_kc]
  have a1 : 1 ≤ f_a F e := by rcases hk with h | h | h <;> simp [f_a, h]
  obtain ⟨hx, hpx, hne⟩ := hT.2.2.2.2.1 a1
  have hxe : ix (f_x F (ix e)) ≠ ix e := ne_of hx hne
  rcases hI with ⟨h1, h2, rfl⟩ | hL
  · refine ⟨u_ph (u_kp r (3 * e) 0) (f_x F (ix e)) 0, 0, 0, ?_, ⟨rfl, rfl, rfl, rfl⟩, hU.1, (fr_kp (k := ix e) (b := 0) (Or.inl rfl) (by decide) (ix_30 hT.1)).tr (fr_ph (Or.inr (Tr_self hx))), id_fresh hx hne ?_, rfl, Or.inl ⟨h1, rfl, ?_⟩⟩
    · rw [hst, if_neg (by rw [h2]; decide), q_first_eq hpx]
    · rw [if_pos h1]
      exact (pk_un hxe).trans pk_us
    · show vp_updL (r_kp r) (ix (3 * e)) 0 (3 * ix e) = 0
      rw [ix_30 hT.1]; exact pk_uLs
  · have hL' : c_st c (ix e) = 1 ∧ r_ph r (ix e) = 1 ∧ (f_k F (ix e) = 5 → r_kp r (3 * ix e) = 1) ∧ ∃ p1, Lv F d (f_x F (ix e)) c r p1 ∧ p = p1 + 4 := by
      rcases hk with h | h | h
      · obtain ⟨g1, g2, g3⟩ := (Lv_2 h).mp hL
        exact ⟨g1, g2, fun q => absurd (h.symm.trans q) (by decide), g3⟩
      · obtain ⟨g1, g2, g3⟩ := (Lv_3 h).mp hL
        exact ⟨g1, g2, fun q => absurd (h.symm.trans q) (by decide), g3⟩
      · obtain ⟨g1, g2, g4, g3⟩ := (Lv_5 h).mp hL
        exact ⟨g1, g2, fun _ => g4, g3⟩
    obtain ⟨h1, h2, h5, p1, hL1, rfl⟩ := hL'
    have h10 : ¬ c_st c (ix e) = 0 := by rw [h1]; decide
    refine ⟨r, p1, 4, by rw [hst, if_pos h2], ⟨rfl, rfl, rfl, rfl⟩, hU.1, FrR.rf, ?_, rfl, Or.inr ⟨h10, rfl, h5⟩⟩
    rw [if_neg h10]
    exact id_live hne hL1 (fc_st (D := fun j => j = ix e) rfl)
/-- the state from which askX asks -/
def p_x1 (F : zF) (e : Int32) (c : zC) : zC := s_st (if c_st c (ix e) = 0 then s_st c (f_x F (ix e)) 0 else c) e 1
theorem p_x_eq (F : zF) (A : Int32 → zC → Int32 × zC) (e : Int32) (c : zC) : p_x F A e c = A (f_x F (ix e)) (p_x1 F e c) := rfl
theorem x1_g (F : zF) (e : Int32) (c : zC) : c_g (p_x1 F e c) = c_g c := by
  unfold p_x1; show c_g (if _ then _ else _) = _; split <;> rfl
theorem x1_F {F : zF} {e : Int32} {c : zC} {D : Nat → Prop} (h1 : D (ix e)) (h2 : D (ix (f_x F (ix e)))) : FrC D c (p_x1 F e c) := by
  unfold p_x1
  refine FrC.tr ?_ (fc_st h1)
  split
  · exact fc_st h2
  · exact FrC.rf
theorem x1_st (F : zF) (e : Int32) (c : zC) : c_st (p_x1 F e c) (ix e) = 1 := pk_us
theorem x1_f {F : zF} {e : Int32} {c : zC} (hxe : ix (f_x F (ix e)) ≠ ix e) (h : c_st c (ix e) = 0) : c_st (p_x1 F e c) (ix (f_x F (ix e))) = 0 := by
  unfold p_x1; rw [if_pos h]; exact (pk_un hxe).trans pk_us
theorem sm_assign {F : zF} {T : zT} {M f d t n p : Nat} {e : Int32} {c : zC} {r : zR} (hS : zSim F T M f d) (hT : Tr F T (d + 1) e) (hk : f_k F (ix e) = 2) (ht : t + (d + 1) < 16) (hU : zUp F f t e c r n) (hI : Idl F (d + 1) e c r p) : Out F T f (d + 1) t e c r p n (p_assign F (p_all F M d) e c) := by
  have a1 : 1 ≤ f_a F e := by simp [f_a, hk]
  obtain ⟨hx, hpx, hne⟩ := hT.2.2.2.2.1 a1
  have hxe : ix (f_x F (ix e)) ≠ ix e := ne_of hx hne
  have hsub : ∀ j, Sb F d (f_x F (ix e)) j → Sb F (d + 1) e j := fun j h => Or.inr (Or.inl ⟨a1, h⟩)
  have hs : ∀ {c : zC} {r : zR} {n : Nat} {w : Int32}, zUp F f t e c r n → q_safe T (r, w) := fun hU => safe_of hT (by omega) hU (fun h => by rw [hk] at h; simp at h) (fun h => by rw [hk] at h; simp at h)
  obtain ⟨r0, p1, p2, hq0, hR0, hN0, hF0, hI0, rfl, hp2⟩ := un_enter hT (Or.inl hk) hU hI
  have hp4 : p2 ≤ 4 := by rcases hp2 with h | h <;> omega
  have hA := mid_ask (p := p1 + p2) r0 hS ht (mid_c (mid_0 (T := T) (d := d) hU) (x1_F (Or.inl rfl) (hsub _ (Tr_self hx))) (x1_g F e c)) (hs hU) hx hne hsub hq0 hpx hR0 hN0 hF0 hI0
  have hpe := p_x_eq F (p_all F M d) e c
  generalize p_all F M d (f_x F (ix e)) (p_x1 F e c) = q at hA hpe
  obtain ⟨v, c2⟩ := q
  obtain ⟨hFc, ⟨hv, n2, m2, r2, p3, hn, hM, hph, -, -, -, -, hFr, hgv, hL, hb⟩ | ⟨hv, n2, m2, r2, hn, hfr, hM, hph, -, -, -, -, hFr, hb⟩ | ⟨hv, n2, hn, herr⟩⟩ := hA
  · dsimp only at hv; subst hv
    have hp : p_assign F (p_all F M d) e c = (1, s_g (s_rs c2 e (c_rs c2 (ix (f_x F (ix e))))) (h_va (c_g c2) (f_n F (ix e)) (c_rs c2 (ix (f_x F (ix e)))))) := by
      simp only [p_assign, hpe, p_up, p_give, if_true]
      rw [show c_rs (s_rs c2 e (c_rs c2 (ix (f_x F (ix e))))) (ix e) = c_rs c2 (ix (f_x F (ix e))) from pk_us]
      rfl
    have hq1 : q_step T e 1 r2 = (1, u_g (u_kp r2 (3 * e) 1) (h_va (r_g r2) (r_nm r2 (ix e)) (r_gv r2))) := by
      simp [q_step, q_unary, hT.2.2.1, hk, t_kc] <;> rfl
    have hUm := hM.2.1
    rw [hp]
    refine mid_one _ ht hM (hs hUm) hq1 ⟨rfl, rfl, rfl⟩ hUm.1 ?_ ⟨hUm.2.2.1.1, hUm.2.2.1.2.1, hUm.2.2.1.2.2⟩ ((fr_kp (k := ix e) (b := 0) (Or.inl rfl) (by decide) (ix_30 hT.1)).tr fr_g) ((fc_rs (Or.inl rfl)).tr fc_g) (hgv.trans (pk_us (f := c_rs c2)).symm) ((Lv_2 hk).mpr ⟨(hFc _ hne).1.trans (x1_st F e c), hph, p3, ?_, rfl⟩) (by omega) ?_
    · show h_va (r_g r2) (r_nm r2 (ix e)) (r_gv r2) = h_va (c_g c2) (f_n F (ix e)) (c_rs c2 (ix (f_x F (ix e))))
      rw [hUm.2.1, hUm.1 _ (by rw [hk]; decide), hgv]
    · exact Lv_cong d _ _ (Ag.of (D := fun j => j = ix e) (E := fun j => j = ix e) ((fc_rs (D := fun j => j = ix e) rfl).tr fc_g) ((fr_kp (D := fun j => j = ix e) (k := ix e) (b := 0) rfl (by decide) (ix_30 hT.1)).tr (fr_g.tr fr_tp)) (fun _ h q => hne (q ▸ h)) (fun _ h q => hne (q ▸ h))) hL
    · rw [zK_s, zK_s]; omega
  · dsimp only at hv; subst hv
    have hp : p_assign F (p_all F M d) e c = (0, c2) := by simp [p_assign, hpe, p_up]
    have hq1 : q_step T e 2 r2 = (0, r2) := by simp [q_step, q_unary, hT.2.2.1, hk, t_kc]
    have hfr' : c_st c (ix e) = 0 → n < n2 := fun h0 => hfr (x1_f hxe h0)
    rw [hp]
    refine mid_zero _ ht hM (hs hM.2.1) hq1 ⟨rfl, rfl, rfl, rfl⟩ hM.2.1.1 FrR.rf FrC.rf rfl hfr' ?_
    rw [zK_s, zK_s]
    rcases hp2 with ⟨h0, h2, -⟩ | ⟨h0, h2, -⟩
    · have := hfr' h0; omega
    · omega
  · have hp : p_assign F (p_all F M d) e c = (v, c2) := by simp [p_assign, hpe, p_up, neg1 hv]
    rw [hp]
    exact herr c2 v rfl rfl ((x1_F (Or.inl rfl) (hsub _ (Tr_self hx))).tr (hFc.wk hsub)) (by omega)
theorem sm_write {F : zF} {T : zT} {M f d t n p : Nat} {e : Int32} {c : zC} {r : zR} (hS : zSim F T M f d) (hT : Tr F T (d + 1) e) (hk : f_k F (ix e) = 3) (ht : t + (d + 1) < 16) (hU : zUp F f t e c r n) (hI : Idl F (d + 1) e c r p) : Out F T f (d + 1) t e c r p n (p_write F (p_all F M d) e c) := by
  have a1 : 1 ≤ f_a F e := by simp [f_a, hk]
  obtain ⟨hx, hpx, hne⟩ := hT.2.2.2.2.1 a1
  have hxe : ix (f_x F (ix e)) ≠ ix e := ne_of hx hne
  have hsub : ∀ j, Sb F d (f_x F (ix e)) j → Sb F (d + 1) e j := fun j h => Or.inr (Or.inl ⟨a1, h⟩)
  have hs : ∀ {c : zC} {r : zR} {n : Nat} {w : Int32}, zUp F f t e c r n → q_safe T (r, w) := fun hU => safe_of hT (by omega) hU (fun h => by rw [hk] at h; simp at h) (fun h => by rw [hk] at h; simp at h)
  obtain ⟨r0, p1, p2, hq0, hR0, hN0, hF0, hI0, rfl, hp2⟩ := un_enter hT (Or.inr (Or.inl hk)) hU hI
  have hp4 : p2 ≤ 4 := by rcases hp2 with h | h <;> omega
  have hA := mid_ask (p := p1 + p2) r0 hS ht (mid_c (mid_0 (T := T) (d := d) hU) (x1_F (Or.inl rfl) (hsub _ (Tr_self hx))) (x1_g F e c)) (hs hU) hx hne hsub hq0 hpx hR0 hN0 hF0 hI0
  have hpe := p_x_eq F (p_all F M d) e c
  generalize p_all F M d (f_x F (ix e)) (p_x1 F e c) = q at hA hpe
  obtain ⟨v, c2⟩ := q
  obtain ⟨hFc, ⟨hv, n2, m2, r2, p3, hn, hM, hph, -, -, -, -, hFr, hgv, hL, hb⟩ | ⟨hv, n2, m2, r2, hn, hfr, hM, hph, -, -, -, -, hFr, hb⟩ | ⟨hv, n2, hn, herr⟩⟩ := hA
  · dsimp only at hv; subst hv
    have hUm := hM.2.1
    obtain ⟨gsp, gnf, w0, gw, gwc⟩ := hUm.2.2.1
    have hq1 : q_step T e 1 r2 = if g_wc (r_g r2) = 32 then (0, u_er (u_kp r2 (3 * e) 1) (-6)) else (1, u_g (u_kp r2 (3 * e) 1) (h_wr (r_g r2) (r_gv r2))) := by
      simp [q_step, q_unary, hT.2.2.1, hk, t_kc] <;> rfl
    by_cases h32 : w0 = 32
    · have hp : p_write F (p_all F M d) e c = (-6, s_rs c2 e (c_rs c2 (ix (f_x F (ix e))))) := by
        simp only [p_write, hpe, p_up, p_give, if_true]
        rw [if_neg]
        show ¬ g_wc (c_g c2) < 32
        rw [gwc, h32]; decide
      rw [if_pos (by rw [hUm.2.1, gwc, h32]; rfl)] at hq1
      rw [hp]
      refine mid_bad ht hM (hs hUm) hq1 rfl (by decide) hUm.2.1 hUm.2.2.1 (fc_rs (Or.inl rfl)) ?_
      rw [zK_s, zK_s]; omega
    · have hp : p_write F (p_all F M d) e c = (1, s_g (s_rs c2 e (c_rs c2 (ix (f_x F (ix e))))) (h_wr (c_g c2) (c_rs c2 (ix (f_x F (ix e)))))) := by
        simp only [p_write, hpe, p_up, p_give, if_true]
        rw [if_pos]
        · rw [show c_rs (s_rs c2 e (c_rs c2 (ix (f_x F (ix e))))) (ix e) = c_rs c2 (ix (f_x F (ix e))) from pk_us]
          rfl
        · show g_wc (c_g c2) < 32
          rw [gwc]
          exact nI_lt (b := 32) (by omega) (by decide)
      rw [if_neg (by rw [hUm.2.1, gwc]; exact fun q => h32 ((nI_eq (by omega) (by decide)).mp q))] at hq1
      rw [hp]
      refine mid_one _ ht hM (hs hUm) hq1 ⟨rfl, rfl, rfl⟩ hUm.1 ?_ ⟨gsp, gnf, w0 + 1, by omega, ?_⟩ ((fr_kp (k := ix e) (b := 0) (Or.inl rfl) (by decide) (ix_30 hT.1)).tr fr_g) ((fc_rs (Or.inl rfl)).tr fc_g) (hgv.trans (pk_us (f := c_rs c2)).symm) ((Lv_3 hk).mpr ⟨(hFc _ hne).1.trans (x1_st F e c), hph, p3, ?_, rfl⟩) (by omega) ?_
      · show h_wr (r_g r2) (r_gv r2) = h_wr (c_g c2) (c_rs c2 (ix (f_x F (ix e))))
        rw [hUm.2.1, hgv]
      · show g_wc (c_g c2) + 1 = nI (w0 + 1)
        rw [gwc, nI_succ]
      · exact Lv_cong d _ _ (Ag.of (D := fun j => j = ix e) (E := fun j => j = ix e) ((fc_rs (D := fun j => j = ix e) rfl).tr fc_g) ((fr_kp (D := fun j => j = ix e) (k := ix e) (b := 0) rfl (by decide) (ix_30 hT.1)).tr (fr_g.tr fr_tp)) (fun _ h q => hne (q ▸ h)) (fun _ h q => hne (q ▸ h))) hL
      · rw [zK_s, zK_s]; omega
  · dsimp only at hv; subst hv
    have hp : p_write F (p_all F M d) e c = (0, c2) := by simp [p_write, hpe, p_up]
    have hq1 : q_step T e 2 r2 = (0, r2) := by simp [q_step, q_unary, hT.2.2.1, hk, t_kc]
    have hfr' : c_st c (ix e) = 0 → n < n2 := fun h0 => hfr (x1_f hxe h0)
    rw [hp]
    refine mid_zero _ ht hM (hs hM.2.1) hq1 ⟨rfl, rfl, rfl, rfl⟩ hM.2.1.1 FrR.rf FrC.rf rfl hfr' ?_
    rw [zK_s, zK_s]
    rcases hp2 with ⟨h0, h2, -⟩ | ⟨h0, h2, -⟩
    · have := hfr' h0; omega
    · omega
  · have hp : p_write F (p_all F M d) e c = (v, c2) := by simp [p_write, hpe, p_up, neg1 hv]
    rw [hp]
    exact herr c2 v rfl rfl ((x1_F (Or.inl rfl) (hsub _ (Tr_self hx))).tr (hFc.wk hsub)) (by omega)
theorem sm_not {F : zF} {T : zT} {M f d t n p : Nat} {e : Int32} {c : zC} {r : zR} (hS : zSim F T M f d) (hT : Tr F T (d + 1) e) (hk : f_k F (ix e) = 4) (ht : t + (d + 1) < 16) (hU : zUp F f t e c r n) (hI : Idl F (d + 1) e c r p) : Out F T f (d + 1) t e c r p n (p_not F (p_all F M d) e c) := by
  have a1 : 1 ≤ f_a F e := by simp [f_a, hk]
  obtain ⟨hx, hpx, hne⟩ := hT.2.2.2.2.1 a1
  have hxe : ix (f_x F (ix e)) ≠ ix e := ne_of hx hne
  have hsub : ∀ j, Sb F d (f_x F (ix e)) j → Sb F (d + 1) e j := fun j h => Or.inr (Or.inl ⟨a1, h⟩)
  have hs : ∀ {c : zC} {r : zR} {n : Nat} {w : Int32}, zUp F f t e c r n → q_safe T (r, w) := fun hU => safe_of hT (by omega) hU (fun h => by rw [hk] at h; simp at h) (fun h => by rw [hk] at h; simp at h)
  rcases hI with ⟨h1, h2, rfl⟩ | hL
  · have hq0 : q_step T e 0 r = q_ask T e 0 1 (u_ph r (f_x F (ix e)) 0) := by
      rw [← q_first_eq hpx]
      simp [q_step, q_unary, hT.2.2.1, hk, t_kc, h2]
    have hst : c_st (s_st (s_st c e 5) (f_x F (ix e)) 0) (ix e) = 5 := (pk_un (Ne.symm hxe)).trans pk_us
    have hst0 : c_st (s_st (s_st c e 5) (f_x F (ix e)) 0) (ix (f_x F (ix e))) = 0 := pk_us
    have hF1 : FrC (Sb F (d + 1) e) c (s_st (s_st c e 5) (f_x F (ix e)) 0) := (fc_st (Or.inl rfl)).tr (fc_st (hsub _ (Tr_self hx)))
    have hA := mid_ask (p := 0) (u_ph r (f_x F (ix e)) 0) hS ht (mid_c (mid_0 (T := T) (d := d) hU) hF1 rfl) (hs hU) hx hne hsub hq0 hpx ⟨rfl, rfl, rfl, rfl⟩ hU.1 (fr_ph (Or.inr (Tr_self hx))) (id_fresh hx hne hst0)
    have hpe : p_not F (p_all F M d) e c = (let q := p_all F M d (f_x F (ix e)) (s_st (s_st c e 5) (f_x F (ix e)) 0); if q.1 = 1 then (0, q.2) else if q.1 = 0 then p_give e 0 q.2 else q) := by
      unfold p_not; rw [if_pos h1]; rfl
    generalize p_all F M d (f_x F (ix e)) (s_st (s_st c e 5) (f_x F (ix e)) 0) = q at hA hpe
    obtain ⟨v, c2⟩ := q
    obtain ⟨hFc, ⟨hv, n2, m2, r2, p3, hn, hM, hph, -, -, -, -, hFr, hgv, hL, hb⟩ | ⟨hv, n2, m2, r2, hn, hfr, hM, hph, -, -, -, -, hFr, hb⟩ | ⟨hv, n2, hn, herr⟩⟩ := hA
    · dsimp only at hv; subst hv
      have hq1 : q_step T e 1 r2 = (0, u_ph r2 e 2) := by simp [q_step, q_unary, hT.2.2.1, hk, t_kc, hph]
      rw [hpe]
      simp only [if_true]
      refine mid_zero _ ht hM (hs hM.2.1) hq1 ⟨rfl, rfl, rfl, rfl⟩ hM.2.1.1 (fr_ph (Or.inl rfl)) FrC.rf rfl (fun _ => hn) ?_
      rw [zK_s, zK_s]; omega
    · dsimp only at hv; subst hv
      have hn' : n < n2 := hfr hst0
      have hq1 : q_step T e 2 r2 = (1, u_gv (u_ph r2 e 2) 0) := by simp [q_step, q_unary, hT.2.2.1, hk, t_kc, hph, q_give]
      have hp : p_not F (p_all F M d) e c = (1, s_rs c2 e 0) := by rw [hpe]; simp [p_give]
      rw [hp]
      refine mid_one _ ht hM (hs hM.2.1) hq1 ⟨rfl, rfl, rfl⟩ hM.2.1.1 hM.2.1.2.1 hM.2.1.2.2.1 ((fr_ph (Or.inl rfl)).tr fr_gv) (fc_rs (Or.inl rfl)) (pk_us (f := c_rs c2)).symm ((Lv_4 hk).mpr ⟨(hFc _ hne).1.trans hst, pk_us, rfl⟩) hn' ?_
      rw [zK_s, zK_s]; omega
    · have hp : p_not F (p_all F M d) e c = (v, c2) := by rw [hpe]; simp [neg1 hv, neg0 hv]
      rw [hp]
      exact herr c2 v rfl rfl (hF1.tr (hFc.wk hsub)) (by omega)
  · obtain ⟨h1, h2, rfl⟩ := (Lv_4 hk).mp hL
    have hp : p_not F (p_all F M d) e c = (0, c) := by unfold p_not; rw [if_neg (by rw [h1]; decide)]
    have hq1 : q_step T e 0 r = (0, r) := by simp [q_step, q_unary, hT.2.2.1, hk, t_kc, h2]
    rw [hp]
    exact mid_zero _ ht (mid_0 hU) (hs hU) hq1 ⟨rfl, rfl, rfl, rfl⟩ hU.1 FrR.rf FrC.rf rfl (fun h => absurd (h.symm.trans h1) (by decide)) (by omega)
theorem sm_again {F : zF} {T : zT} {M f d t n p : Nat} {e : Int32} {c : zC} {r : zR} (hS : zSim F T M f d) (hT : Tr F T (d + 1) e) (hk : f_k F (ix e) = 5) (ht : t + (d + 1) < 16) (hU : zUp F f t e c r n) (hI : Idl F (d + 1) e c r p) : Out F T f (d + 1) t e c r p n (p_again F (p_all F M d) e c) := by
  have a1 : 1 ≤ f_a F e := by simp [f_a, hk]
  obtain ⟨hx, hpx, hne⟩ := hT.2.2.2.2.1 a1
  have hxe : ix (f_x F (ix e)) ≠ ix e := ne_of hx hne
  have hsub : ∀ j, Sb F d (f_x F (ix e)) j → Sb F (d + 1) e j := fun j h => Or.inr (Or.inl ⟨a1, h⟩)
  have hs : ∀ {c : zC} {r : zR} {n : Nat} {w : Int32}, zUp F f t e c r n → q_safe T (r, w) := fun hU => safe_of hT (by omega) hU (fun h => by rw [hk] at h; simp at h) (fun h => by rw [hk] at h; simp at h)
  have hq1 : ∀ r2 : zR, q_step T e 1 r2 = (1, u_kp r2 (3 * e) 1) := fun r2 => by simp [q_step, q_unary, hT.2.2.1, hk, t_kc]
  have hq2 : ∀ r2 : zR, q_step T e 2 r2 = if r_kp r2 (ix (3 * e)) = 0 then (0, r2) else q_first T e 0 1 (u_kp r2 (3 * e) 0) := fun r2 => by simp [q_step, q_unary, hT.2.2.1, hk, t_kc]
  obtain ⟨r0, p1, p2, hq0, hR0, hN0, hF0, hI0, rfl, hp2⟩ := un_enter hT (Or.inr (Or.inr hk)) hU hI
  have hp4 : p2 ≤ 4 := by rcases hp2 with h | h <;> omega
  -- a result of the part is one of e
  have fin : ∀ (c1 c2 : zC) (r2 : zR) (n2 m p3 : Nat), Mid F T f d t e c r n c2 r2 1 n2 m → n < n2 → r_gv r2 = c_rs c2 (ix (f_x F (ix e))) → Lv F d (f_x F (ix e)) c2 r2 p3 → c_st c2 (ix e) = 1 → r_ph r2 (ix e) = 1 → m + 1 + (p3 + 4) + zK (d + 1) n ≤ p1 + p2 + zK (d + 1) n2 → Out F T f (d + 1) t e c r (p1 + p2) n (1, s_rs c2 e (c_rs c2 (ix (f_x F (ix e))))) := by
    intro c1 c2 r2 n2 m p3 hM hn hgv hL hst hph hb
    refine mid_one _ ht hM (hs hM.2.1) (hq1 r2) ⟨rfl, rfl, rfl⟩ hM.2.1.1 hM.2.1.2.1 hM.2.1.2.2.1 (fr_kp (k := ix e) (b := 0) (Or.inl rfl) (by decide) (ix_30 hT.1)) (fc_rs (Or.inl rfl)) (hgv.trans (pk_us (f := c_rs c2)).symm) ((Lv_5 hk).mpr ⟨hst, hph, ?_, p3, ?_, rfl⟩) hn hb
    · show vp_updL (r_kp r2) (ix (3 * e)) 1 (3 * ix e) = 1
      rw [ix_30 hT.1]; exact pk_uLs
    · exact Lv_cong d _ _ (Ag.of (D := fun j => j = ix e) (E := fun j => j = ix e) (fc_rs (D := fun j => j = ix e) rfl) ((fr_kp (D := fun j => j = ix e) (k := ix e) (b := 0) rfl (by decide) (ix_30 hT.1)).tr fr_tp) (fun _ h q => hne (q ▸ h)) (fun _ h q => hne (q ▸ h))) hL
  have hA := mid_ask (p := p1 + p2) r0 hS ht (mid_c (mid_0 (T := T) (d := d) hU) (x1_F (Or.inl rfl) (hsub _ (Tr_self hx))) (x1_g F e c)) (hs hU) hx hne hsub hq0 hpx hR0 hN0 hF0 hI0
  have hpe := p_x_eq F (p_all F M d) e c
  generalize p_all F M d (f_x F (ix e)) (p_x1 F e c) = q at hA hpe
  obtain ⟨v, c2⟩ := q
  obtain ⟨hFc, ⟨hv, n2, m2, r2, p3, hn, hM, hph, -, -, -, -, hFr, hgv, hL, hb⟩ | ⟨hv, n2, m2, r2, hn, hfr, hM, hph, -, hk0, -, -, hFr, hb⟩ | ⟨hv, n2, hn, herr⟩⟩ := hA
  · dsimp only at hv; subst hv
    have hp : p_again F (p_all F M d) e c = (1, s_rs c2 e (c_rs c2 (ix (f_x F (ix e))))) := by simp [p_again, hpe, p_up, p_give]
    rw [hp]
    exact fin c c2 r2 n2 _ p3 hM hn hgv hL ((hFc _ hne).1.trans (x1_st F e c)) hph (by rw [zK_s, zK_s]; omega)
  · dsimp only at hv; subst hv
    have hfr' : c_st c (ix e) = 0 → n < n2 := fun h0 => hfr (x1_f hxe h0)
    have hst2 : c_st c2 (ix e) = 1 := (hFc _ hne).1.trans (x1_st F e c)
    rcases hp2 with ⟨h0, h2, h3⟩ | ⟨h0, h2, h3⟩
    · have hp : p_again F (p_all F M d) e c = (0, c2) := by simp [p_again, hpe, p_up, h0]
      have hq3 : q_step T e 2 r2 = (0, r2) := by rw [hq2, ix_30 hT.1, hk0, h3]; rfl
      have := hfr' h0
      rw [hp]
      refine mid_zero _ ht hM (hs hM.2.1) hq3 ⟨rfl, rfl, rfl, rfl⟩ hM.2.1.1 FrR.rf FrC.rf rfl hfr' ?_
      rw [zK_s, zK_s]; omega
    · -- once more
      have hq3 : q_step T e 2 r2 = q_ask T e 0 1 (u_ph (u_kp r2 (3 * e) 0) (f_x F (ix e)) 0) := by
        rw [hq2, ix_30 hT.1, hk0, h3 hk, if_neg (by decide), q_first_eq hpx]
      have hF3 : FrC (Sb F (d + 1) e) c2 (s_st c2 (f_x F (ix e)) 0) := fc_st (hsub _ (Tr_self hx))
      have hst0 : c_st (s_st c2 (f_x F (ix e)) 0) (ix (f_x F (ix e))) = 0 := pk_us
      have hst3 : c_st (s_st c2 (f_x F (ix e)) 0) (ix e) = 1 := (pk_un (Ne.symm hxe)).trans hst2
      have hB := mid_ask (p := p1 + p2) (u_ph (u_kp r2 (3 * e) 0) (f_x F (ix e)) 0) hS ht (mid_c hM hF3 rfl) (hs hM.2.1) hx hne hsub hq3 hpx ⟨rfl, rfl, rfl, rfl⟩ hM.2.1.1 ((fr_kp (k := ix e) (b := 0) (Or.inl rfl) (by decide) (ix_30 hT.1)).tr (fr_ph (Or.inr (Tr_self hx)))) (id_fresh hx hne hst0)
      have hpe2 : p_again F (p_all F M d) e c = p_up e (f_x F (ix e)) (p_all F M d (f_x F (ix e)) (s_st c2 (f_x F (ix e)) 0)) := by simp [p_again, hpe, h0, p_try]
      generalize p_all F M d (f_x F (ix e)) (s_st c2 (f_x F (ix e)) 0) = q at hB hpe2
      obtain ⟨v, c3⟩ := q
      have hk00 : r_kp (u_ph (u_kp r2 (3 * e) 0) (f_x F (ix e)) 0) (3 * ix e) = 0 := by
        show vp_updL (r_kp r2) (ix (3 * e)) 0 (3 * ix e) = 0
        rw [ix_30 hT.1]; exact pk_uLs
      obtain ⟨hFd, ⟨hv, n3, m3, r3, p4, hn3, hM3, hph3, -, hk3, -, -, hFr3, hgv3, hL3, hb3⟩ | ⟨hv, n3, m3, r3, hn3, hfr3, hM3, hph3, -, hk3, -, -, hFr3, hb3⟩ | ⟨hv, n3, hn3, herr⟩⟩ := hB
      · dsimp only at hv; subst hv
        have hp : p_again F (p_all F M d) e c = (1, s_rs c3 e (c_rs c3 (ix (f_x F (ix e))))) := by rw [hpe2]; simp [p_up, p_give]
        rw [hp]
        exact fin c c3 r3 n3 _ p4 hM3 (by omega) hgv3 hL3 ((hFd _ hne).1.trans hst3) hph3 (by rw [zK_s, zK_s]; omega)
      · dsimp only at hv; subst hv
        have := hfr3 hst0
        have hp : p_again F (p_all F M d) e c = (0, c3) := by rw [hpe2]; simp [p_up]
        have hq4 : q_step T e 2 r3 = (0, r3) := by rw [hq2, ix_30 hT.1, hk3, hk00]; rfl
        rw [hp]
        refine mid_zero _ ht hM3 (hs hM3.2.1) hq4 ⟨rfl, rfl, rfl, rfl⟩ hM3.2.1.1 FrR.rf FrC.rf rfl (fun h => absurd h h0) ?_
        rw [zK_s, zK_s]; omega
      · have hp : p_again F (p_all F M d) e c = (v, c3) := by rw [hpe2]; simp [p_up, neg1 hv]
        rw [hp]
        exact herr c3 v rfl rfl (((x1_F (Or.inl rfl) (hsub _ (Tr_self hx))).tr (hFc.wk hsub)).tr (hF3.tr (hFd.wk hsub))) (by omega)
  · have hp : p_again F (p_all F M d) e c = (v, c2) := by simp [p_again, hpe, p_up, neg1 hv, neg0 hv]
    rw [hp]
    exact herr c2 v rfl rfl ((x1_F (Or.inl rfl) (hsub _ (Tr_self hx))).tr (hFc.wk hsub)) (by omega)
