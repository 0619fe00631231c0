/-! Kinds that hand one part's results up: EITHER, THEN, IF. -/
theorem mid_tail {F : zF} {T : zT} {M f d t n n1 m p p1 : Nat} {e y w i th st : Int32} {c c1 : zC} {r r1 : zR} (r0 : zR) (hS : zSim F T M f d) (ht : t + (d + 1) < 16) (hs : ∀ (c : zC) (r : zR) (n : Nat) (w : Int32), zUp F f t e c r n → ¬ w = 0 → q_safe T (r, w)) (hy : Tr F T d y) (hne : ¬ Sb F d y (ix e)) (hsub : ∀ j, Sb F d y j → Sb F (d + 1) e j) (hpy : t_p T (ix (3 * e + i)) = y)
    (hq1 : ∀ r2 : zR, r_ph r2 (ix e) = th → q_step T e 1 r2 = (1, r2)) (hq2 : ∀ r2 : zR, r_ph r2 (ix e) = th → q_step T e 2 r2 = (0, r2)) (hLv : ∀ (c : zC) (r : zR) (p : Nat), c_st c (ix e) = st → r_ph r (ix e) = th → Lv F d y c r p → Lv F (d + 1) e c r (p + 4))
    (hM : Mid F T f d t e c r n c1 r1 w n1 m) (hs1 : q_safe T (r1, w)) (hq : q_step T e w r1 = q_ask T e i th r0) (hR : Ro r1 r0) (hN : Nm F r0) (hF : FrR (fun j => j = ix e ∨ Sb F d y j) r1 r0) (hI : Idl F d y c1 (pu r0 e th t y) p1) (hst : c_st c1 (ix e) = st) (hfr : c_st c (ix e) = 0 → c_st c1 (ix y) = 0)
    (hb1 : m + p1 + zK d n + 20 * n ≤ p + zK d n1 + 20 * n1 + 3) (hb2 : c_st c1 (ix y) = 0 ∨ m + p1 + 2 + zK d n + 20 * n ≤ p + zK d n1 + 20 * n1) : Out F T f (d + 1) t e c r p n (p_up e y (p_all F M d y c1)) := by
  have hF1 := hM.2.2.2.1
  have hA := mid_ask (p := p) r0 hS ht hM hs1 hy hne hsub hq hpy hR hN hF hI
  generalize p_all F M d y c1 = q at hA
  obtain ⟨v, c2⟩ := q
  obtain ⟨hFc, ⟨hv, n2, m2, r2, p3, hn, hM2, hph, -, -, -, -, hFr, hgv, hL, hb⟩ | ⟨hv, n2, m2, r2, hn, hfr2, hM2, hph, -, -, -, -, hFr, hb⟩ | ⟨hv, n2, hn, herr⟩⟩ := hA
  · dsimp only at hv; subst hv
    have hn0 := hM.2.2.2.2.2
    have hp : p_up e y ((1 : Int32), c2) = (1, s_rs c2 e (c_rs c2 (ix y))) := by simp [p_up, p_give]
    rw [hp]
    refine mid_one _ ht hM2 (hs _ _ _ _ hM2.2.1 (by decide)) (hq1 r2 hph) ⟨rfl, rfl, rfl⟩ hM2.2.1.1 hM2.2.1.2.1 hM2.2.1.2.2.1 FrR.rf (fc_rs (Or.inl rfl)) (hgv.trans (pk_us (f := c_rs c2)).symm) (hLv _ _ p3 ((hFc _ hne).1.trans hst) hph ?_) (by omega) ?_
    · exact Lv_cong d _ _ (Ag.of (D := fun j => j = ix e) (E := fun j => j = ix e) (fc_rs (D := fun j => j = ix e) rfl) fr_tp (fun _ h q => hne (q ▸ h)) (fun _ h q => hne (q ▸ h))) hL
    · rw [zK_s, zK_s]; omega
  · dsimp only at hv; subst hv
    have hn0 := hM.2.2.2.2.2
    have hp : p_up e y ((0 : Int32), c2) = (0, c2) := by simp [p_up]
    rw [hp]
    refine mid_zero _ ht hM2 (hs _ _ _ _ hM2.2.1 (by decide)) (hq2 r2 hph) ⟨rfl, rfl, rfl, rfl⟩ hM2.2.1.1 FrR.rf FrC.rf rfl (fun h => by have := hfr2 (hfr h); omega) ?_
    rw [zK_s, zK_s]
    rcases hb2 with h | h
    · have := hfr2 h; omega
    · omega
  · have hp : p_up e y (v, c2) = (v, c2) := by simp [p_up, neg1 hv]
    rw [hp]
    exact herr c2 v rfl rfl (hF1.tr (hFc.wk hsub)) hb1
theorem sm_either {F : zF} {T : zT} {M f d t n p : Nat} {e : Int32} {c : zC} {r : zR} (hS : zSim F T M f d) (hT : Tr F T (d + 1) e) (hk : f_k F (ix e) = 6) (ht : t + (d + 1) < 16) (hU : zUp F f t e c r n) (hI : Idl F (d + 1) e c r p) : Out F T f (d + 1) t e c r p n (p_either F (p_all F M d) e c) := by
  have a1 : 1 ≤ f_a F e := by simp [f_a, hk]
  have a2 : 2 ≤ f_a F e := by simp [f_a, hk]
  obtain ⟨hx, hpx, hne⟩ := hT.2.2.2.2.1 a1
  obtain ⟨hy, hpy, hney, -⟩ := hT.2.2.2.2.2.1 a2
  have hxe : ix (f_x F (ix e)) ≠ ix e := ne_of hx hne
  have hye : ix (f_y F (ix e)) ≠ ix e := ne_of hy hney
  have hsub : ∀ j, Sb F d (f_x F (ix e)) j → Sb F (d + 1) e j := fun j h => Or.inr (Or.inl ⟨a1, h⟩)
  have hsuby : ∀ j, Sb F d (f_y F (ix e)) j → Sb F (d + 1) e j := fun j h => Or.inr (Or.inr (Or.inl ⟨a2, h⟩))
  have hs : ∀ (c : zC) (r : zR) (n : Nat) (w : Int32), zUp F f t e c r n → ¬ w = 0 → q_safe T (r, w) := fun c r n w hU hw => safe_of hT (by omega) hU (fun _ h => absurd h hw) (fun h => by rw [hk] at h; simp at h)
  have hq1 : ∀ r2 : zR, q_step T e 1 r2 = (1, r2) := fun r2 => by simp [q_step, q_binary, hT.2.2.1, hk, t_kc]
  have hq2 : ∀ r2 : zR, q_step T e 2 r2 = if r_ph r2 (ix e) = 1 then q_first T e 1 2 r2 else (0, r2) := fun r2 => by simp [q_step, q_binary, hT.2.2.1, hk, t_kc]
  have hq0 : q_step T e 0 r = if r_ph r (ix e) = 0 then q_first T e 0 1 r else q_ask T e (r_ph r (ix e) - 1) (r_ph r (ix e)) r := by simp [q_step, q_binary, hT.2.2.1, hk, t_kc]
  have hLx : ∀ (c : zC) (r : zR) (p : Nat), c_st c (ix e) = 1 → r_ph r (ix e) = 1 → Lv F d (f_x F (ix e)) c r p → Lv F (d + 1) e c r (p + 4) := fun c r p h1 h2 h3 => (Lv_6 hk).mpr (Or.inl ⟨h1, h2, p, h3, rfl⟩)
  have hLy : ∀ (c : zC) (r : zR) (p : Nat), c_st c (ix e) = 2 → r_ph r (ix e) = 2 → Lv F d (f_y F (ix e)) c r p → Lv F (d + 1) e c r (p + 4) := fun c r p h1 h2 h3 => (Lv_6 hk).mpr (Or.inr ⟨h1, h2, p, h3, rfl⟩)
  have hqy2 : ∀ r2 : zR, r_ph r2 (ix e) = 2 → q_step T e 2 r2 = (0, r2) := fun r2 h => by rw [hq2, h]; rfl
  -- the way by x
  have goX : ∀ (r0 : zR) (p1 p2 : Nat), ¬ c_st c (ix e) = 2 → q_safe T (r, 0) → q_step T e 0 r = q_ask T e 0 1 r0 → Ro r r0 → Nm F r0 → FrR (fun j => j = ix e ∨ Sb F d (f_x F (ix e)) j) r r0 → Idl F d (f_x F (ix e)) (p_x1 F e c) (pu r0 e 1 t (f_x F (ix e))) p1 → p = p1 + p2 → p2 ≤ 4 → Out F T f (d + 1) t e c r p n (p_either F (p_all F M d) e c) := by
    intro r0 p1 p2 hst hs0 hq hR hN hF hI9 hp2 hp4
    subst hp2
    have hA := mid_ask (p := p1 + p2) r0 hS ht (mid_c (mid_0 (T := T) (d := d) hU) (x1_F (Or.inl rfl) (hsub _ (Tr_self hx))) (x1_g F e c)) hs0 hx hne hsub hq hpx hR hN hF hI9
    have hpe := p_x_eq F (p_all F M d) e c
    generalize p_all F M d (f_x F (ix e)) (p_x1 F e c) = q at hA hpe
    obtain ⟨v, c2⟩ := q
    obtain ⟨hFc, ⟨hv, n2, m2, r2, p3, hn, hM, hph, -, -, -, -, hFr, hgv, hL, hb⟩ | ⟨hv, n2, m2, r2, hn, hfr, hM, hph, -, -, -, -, hFr, hb⟩ | ⟨hv, n2, hn, herr⟩⟩ := hA
    · dsimp only at hv; subst hv
      have hp : p_either F (p_all F M d) e c = (1, s_rs c2 e (c_rs c2 (ix (f_x F (ix e))))) := by simp [p_either, hpe, p_up, p_give, hst]
      rw [hp]
      refine mid_one _ ht hM (hs _ _ _ _ hM.2.1 (by decide)) (hq1 r2) ⟨rfl, rfl, rfl⟩ hM.2.1.1 hM.2.1.2.1 hM.2.1.2.2.1 FrR.rf (fc_rs (Or.inl rfl)) (hgv.trans (pk_us (f := c_rs c2)).symm) (hLx _ _ p3 ((hFc _ hne).1.trans (x1_st F e c)) hph ?_) hn ?_
      · exact Lv_cong d _ _ (Ag.of (D := fun j => j = ix e) (E := fun j => j = ix e) (fc_rs (D := fun j => j = ix e) rfl) fr_tp (fun _ h q => hne (q ▸ h)) (fun _ h q => hne (q ▸ h))) hL
      · rw [zK_s, zK_s]; omega
    · dsimp only at hv; subst hv
      have hp : p_either F (p_all F M d) e c = p_up e (f_y F (ix e)) (p_all F M d (f_y F (ix e)) (s_st (s_st c2 e 2) (f_y F (ix e)) 0)) := by simp [p_either, hpe, hst]
      rw [hp]
      have hq3 : q_step T e 2 r2 = q_ask T e 1 2 (u_ph r2 (f_y F (ix e)) 0) := by rw [hq2, if_pos hph, q_first_eq hpy]
      have hst0 : c_st (s_st (s_st c2 e 2) (f_y F (ix e)) 0) (ix (f_y F (ix e))) = 0 := pk_us
      exact mid_tail (p1 := 0) (st := 2) (u_ph r2 (f_y F (ix e)) 0) hS ht hs hy hney hsuby hpy (fun r2 _ => hq1 r2) hqy2 hLy (mid_c hM ((fc_st (Or.inl rfl)).tr (fc_st (hsuby _ (Tr_self hy)))) rfl) (hs _ _ _ _ hM.2.1 (by decide)) hq3 ⟨rfl, rfl, rfl, rfl⟩ hM.2.1.1 (fr_ph (Or.inr (Tr_self hy))) (id_fresh hy hney hst0) ((pk_un (Ne.symm hye)).trans pk_us) (fun _ => hst0) (by omega) (Or.inl hst0)
    · have hp : p_either F (p_all F M d) e c = (v, c2) := by simp [p_either, hpe, p_up, hst, neg1 hv, neg0 hv]
      rw [hp]
      exact herr c2 v rfl rfl ((x1_F (Or.inl rfl) (hsub _ (Tr_self hx))).tr (hFc.wk hsub)) (by omega)
  rcases hI with ⟨h1, h2, rfl⟩ | hL
  · have hs0 : q_safe T (r, 0) := safe_of hT (by omega) hU (fun _ _ => Or.inl h2) (fun h => by rw [hk] at h; simp at h)
    refine goX (u_ph r (f_x F (ix e)) 0) 0 0 (by rw [h1]; decide) hs0 (by rw [hq0, if_pos h2, q_first_eq hpx]) ⟨rfl, rfl, rfl, rfl⟩ hU.1 (fr_ph (Or.inr (Tr_self hx))) (id_fresh hx hne (x1_f hxe h1)) rfl (by omega)
  · rcases (Lv_6 hk).mp hL with ⟨h1, h2, p1, hL1, rfl⟩ | ⟨h1, h2, p1, hL1, rfl⟩
    · have hs0 : q_safe T (r, 0) := safe_of hT (by omega) hU (fun _ _ => Or.inr (Or.inl h2)) (fun h => by rw [hk] at h; simp at h)
      refine goX r p1 4 (by rw [h1]; decide) hs0 (by rw [hq0, h2]; rfl) ⟨rfl, rfl, rfl, rfl⟩ hU.1 FrR.rf ?_ rfl (by omega)
      unfold p_x1; rw [if_neg (by rw [h1]; decide)]
      exact id_live hne hL1 (fc_st (D := fun j => j = ix e) rfl)
    · have hs0 : q_safe T (r, 0) := safe_of hT (by omega) hU (fun _ _ => Or.inr (Or.inr (Or.inl h2))) (fun h => by rw [hk] at h; simp at h)
      have hp : p_either F (p_all F M d) e c = p_up e (f_y F (ix e)) (p_all F M d (f_y F (ix e)) c) := by simp [p_either, h1]
      rw [hp]
      exact mid_tail (st := 2) r hS ht hs hy hney hsuby hpy (fun r2 _ => hq1 r2) hqy2 hLy (mid_0 hU) hs0 (by rw [hq0, h2]; rfl) ⟨rfl, rfl, rfl, rfl⟩ hU.1 FrR.rf (id_live hney hL1 FrC.rf) h1 (fun h => absurd (h.symm.trans h1) (by decide)) (by omega) (Or.inr (by omega))
theorem sm_then {F : zF} {T : zT} {M f d t n p : Nat} {e : Int32} {c : zC} {r : zR} (hS : zSim F T M f d) (hT : Tr F T (d + 1) e) (hk : f_k F (ix e) = 17) (ht : t + (d + 1) < 16) (hU : zUp F f t e c r n) (hI : Idl F (d + 1) e c r p) : Out F T f (d + 1) t e c r p n (p_then F (p_all F M d) e c) := by
  have a1 : 1 ≤ f_a F e := by simp [f_a, hk]
  have a2 : 2 ≤ f_a F e := by simp [f_a, hk]
  obtain ⟨hx, hpx, hne⟩ := hT.2.2.2.2.1 a1
  obtain ⟨hy, hpy, hney, -⟩ := hT.2.2.2.2.2.1 a2
  have hxe : ix (f_x F (ix e)) ≠ ix e := ne_of hx hne
  have hye : ix (f_y F (ix e)) ≠ ix e := ne_of hy hney
  have hsub : ∀ j, Sb F d (f_x F (ix e)) j → Sb F (d + 1) e j := fun j h => Or.inr (Or.inl ⟨a1, h⟩)
  have hsuby : ∀ j, Sb F d (f_y F (ix e)) j → Sb F (d + 1) e j := fun j h => Or.inr (Or.inr (Or.inl ⟨a2, h⟩))
  have hs : ∀ (c : zC) (r : zR) (n : Nat) (w : Int32), zUp F f t e c r n → q_safe T (r, w) := fun c r n w hU => safe_of hT (by omega) hU (fun h => by rw [hk] at h; simp at h) (fun h => by rw [hk] at h; simp at h)
  have hq0 : q_step T e 0 r = if r_ph r (ix e) = 0 then q_first T e 0 1 r else q_ask T e 1 2 r := by simp [q_step, q_binary, hT.2.2.1, hk, t_kc]
  have hqw : ∀ (r2 : zR) (w : Int32), ¬ w = 0 → r_ph r2 (ix e) = 1 → q_step T e w r2 = q_first T e 1 2 r2 := fun r2 w hw h => by simp [q_step, q_binary, hT.2.2.1, hk, t_kc, hw, h]
  have hq1 : ∀ r2 : zR, r_ph r2 (ix e) = 2 → q_step T e 1 r2 = (1, r2) := fun r2 h => by simp [q_step, q_binary, hT.2.2.1, hk, t_kc, h]
  have hq2 : ∀ r2 : zR, r_ph r2 (ix e) = 2 → q_step T e 2 r2 = (0, r2) := fun r2 h => by simp [q_step, q_binary, hT.2.2.1, hk, t_kc, h]
  have hLy : ∀ (c : zC) (r : zR) (p : Nat), c_st c (ix e) = 2 → r_ph r (ix e) = 2 → Lv F d (f_y F (ix e)) c r p → Lv F (d + 1) e c r (p + 4) := fun c r p h1 h2 h3 => (Lv_17 hk).mpr ⟨h1, h2, p, h3, rfl⟩
  rcases hI with ⟨h1, h2, rfl⟩ | hL
  · have hF1 : FrC (Sb F (d + 1) e) c (s_st c (f_x F (ix e)) 0) := fc_st (hsub _ (Tr_self hx))
    have hA := mid_ask (p := 0) (u_ph r (f_x F (ix e)) 0) hS ht (mid_c (mid_0 (T := T) (d := d) hU) hF1 rfl) (hs _ _ _ _ hU) hx hne hsub (by rw [hq0, if_pos h2, q_first_eq hpx]) hpx ⟨rfl, rfl, rfl, rfl⟩ hU.1 (fr_ph (Or.inr (Tr_self hx))) (id_fresh hx hne pk_us)
    have hpe : p_then F (p_all F M d) e c = (let q := p_all F M d (f_x F (ix e)) (s_st c (f_x F (ix e)) 0); if q.1 < 0 then q else p_up e (f_y F (ix e)) (p_all F M d (f_y F (ix e)) (s_st (s_st q.2 e 2) (f_y F (ix e)) 0))) := by
      unfold p_then; rw [if_pos h1]; rfl
    generalize p_all F M d (f_x F (ix e)) (s_st c (f_x F (ix e)) 0) = q at hA hpe
    obtain ⟨v, c2⟩ := q
    have hst0 : c_st (s_st (s_st c2 e 2) (f_y F (ix e)) 0) (ix (f_y F (ix e))) = 0 := pk_us
    -- both ways out of x go on with y
    have goY : ∀ (r2 : zR) (w : Int32) (n2 m : Nat), ¬ w = 0 → ¬ v < 0 → Mid F T f d t e c r n c2 r2 w n2 m → r_ph r2 (ix e) = 1 → m + 0 + zK d n + 20 * n ≤ 0 + zK d n2 + 20 * n2 + 3 → Out F T f (d + 1) t e c r 0 n (p_then F (p_all F M d) e c) := by
      intro r2 w n2 m hw hv hM hph hb
      rw [hpe]
      simp only [if_neg hv]
      exact mid_tail (p1 := 0) (st := 2) (u_ph r2 (f_y F (ix e)) 0) hS ht (fun c r n w h _ => hs c r n w h) hy hney hsuby hpy hq1 hq2 hLy (mid_c hM ((fc_st (Or.inl rfl)).tr (fc_st (hsuby _ (Tr_self hy)))) rfl) (hs _ _ _ _ hM.2.1) (by rw [hqw r2 w hw hph, q_first_eq hpy]) ⟨rfl, rfl, rfl, rfl⟩ hM.2.1.1 (fr_ph (Or.inr (Tr_self hy))) (id_fresh hy hney hst0) ((pk_un (Ne.symm hye)).trans pk_us) (fun _ => hst0) hb (Or.inl hst0)
    obtain ⟨hFc, ⟨hv, n2, m2, r2, p3, hn, hM, hph, -, -, -, -, hFr, hgv, hL, hb⟩ | ⟨hv, n2, m2, r2, hn, hfr, hM, hph, -, -, -, -, hFr, hb⟩ | ⟨hv, n2, hn, herr⟩⟩ := hA
    · dsimp only at hv
      exact goY r2 1 n2 _ (by decide) (by rw [hv]; decide) hM hph (by omega)
    · dsimp only at hv
      exact goY r2 2 n2 _ (by decide) (by rw [hv]; decide) hM hph (by omega)
    · have hp : p_then F (p_all F M d) e c = (v, c2) := by rw [hpe]; simp only [if_pos hv]
      rw [hp]
      exact herr c2 v rfl rfl (hF1.tr (hFc.wk hsub)) (by omega)
  · obtain ⟨h1, h2, p1, hL1, rfl⟩ := (Lv_17 hk).mp hL
    have hp : p_then F (p_all F M d) e c = p_up e (f_y F (ix e)) (p_all F M d (f_y F (ix e)) c) := by simp [p_then, h1]
    rw [hp]
    exact mid_tail (st := 2) r hS ht (fun c r n w h _ => hs c r n w h) hy hney hsuby hpy hq1 hq2 hLy (mid_0 hU) (hs _ _ _ _ hU) (by rw [hq0, h2]; rfl) ⟨rfl, rfl, rfl, rfl⟩ hU.1 FrR.rf (id_live hney hL1 FrC.rf) h1 (fun h => absurd (h.symm.trans h1) (by decide)) (by omega) (Or.inr (by omega))
theorem sm_if {F : zF} {T : zT} {M f d t n p : Nat} {e : Int32} {c : zC} {r : zR} (hS : zSim F T M f d) (hT : Tr F T (d + 1) e) (hk : f_k F (ix e) = 19) (ht : t + (d + 1) < 16) (hU : zUp F f t e c r n) (hI : Idl F (d + 1) e c r p) : Out F T f (d + 1) t e c r p n (p_if F (p_all F M d) e c) := by
  have a1 : 1 ≤ f_a F e := by simp [f_a, hk]
  have a2 : 2 ≤ f_a F e := by simp [f_a, hk]
  have a3 : 3 ≤ f_a F e := by simp [f_a, hk]
  obtain ⟨hx, hpx, hne⟩ := hT.2.2.2.2.1 a1
  obtain ⟨hy, hpy, hney, -⟩ := hT.2.2.2.2.2.1 a2
  obtain ⟨hz, hpz, hnez, -⟩ := hT.2.2.2.2.2.2 a3
  have hxe : ix (f_x F (ix e)) ≠ ix e := ne_of hx hne
  have hye : ix (f_y F (ix e)) ≠ ix e := ne_of hy hney
  have hze : ix (f_z F (ix e)) ≠ ix e := ne_of hz hnez
  have hsub : ∀ j, Sb F d (f_x F (ix e)) j → Sb F (d + 1) e j := fun j h => Or.inr (Or.inl ⟨a1, h⟩)
  have hsuby : ∀ j, Sb F d (f_y F (ix e)) j → Sb F (d + 1) e j := fun j h => Or.inr (Or.inr (Or.inl ⟨a2, h⟩))
  have hsubz : ∀ j, Sb F d (f_z F (ix e)) j → Sb F (d + 1) e j := fun j h => Or.inr (Or.inr (Or.inr ⟨a3, h⟩))
  have hs : ∀ (c : zC) (r : zR) (n : Nat) (w : Int32), zUp F f t e c r n → ¬ w = 0 → q_safe T (r, w) := fun c r n w hU hw => safe_of hT (by omega) hU (fun _ h => absurd h hw) (fun h => by rw [hk] at h; simp at h)
  have hq0 : q_step T e 0 r = if r_ph r (ix e) = 0 then q_first T e 0 1 r else q_ask T e (r_ph r (ix e) - 1) (r_ph r (ix e)) r := by simp [q_step, q_if, hT.2.2.1, hk, t_kc]
  have hq11 : ∀ r2 : zR, r_ph r2 (ix e) = 1 → q_step T e 1 r2 = q_first T e 1 2 r2 := fun r2 h => by simp [q_step, q_if, hT.2.2.1, hk, t_kc, h]
  have hq12 : ∀ r2 : zR, r_ph r2 (ix e) = 1 → q_step T e 2 r2 = q_first T e 2 3 r2 := fun r2 h => by simp [q_step, q_if, hT.2.2.1, hk, t_kc, h]
  have hq1 : ∀ (r2 : zR) (th : Int32), ¬ th = 1 → r_ph r2 (ix e) = th → q_step T e 1 r2 = (1, r2) := fun r2 th h0 h => by simp [q_step, q_if, hT.2.2.1, hk, t_kc, h, h0]
  have hq2 : ∀ (r2 : zR) (th : Int32), ¬ th = 1 → r_ph r2 (ix e) = th → q_step T e 2 r2 = (0, r2) := fun r2 th h0 h => by simp [q_step, q_if, hT.2.2.1, hk, t_kc, h, h0]
  have hLy : ∀ (c : zC) (r : zR) (p : Nat), c_st c (ix e) = 2 → r_ph r (ix e) = 2 → Lv F d (f_y F (ix e)) c r p → Lv F (d + 1) e c r (p + 4) := fun c r p h1 h2 h3 => (Lv_19 hk).mpr (Or.inl ⟨h1, h2, p, h3, rfl⟩)
  have hLz : ∀ (c : zC) (r : zR) (p : Nat), c_st c (ix e) = 3 → r_ph r (ix e) = 3 → Lv F d (f_z F (ix e)) c r p → Lv F (d + 1) e c r (p + 4) := fun c r p h1 h2 h3 => (Lv_19 hk).mpr (Or.inr ⟨h1, h2, p, h3, rfl⟩)
  rcases hI with ⟨h1, h2, rfl⟩ | hL
  · have hs0 : q_safe T (r, 0) := safe_of hT (by omega) hU (fun _ _ => Or.inl h2) (fun h => by rw [hk] at h; simp at h)
    have hF1 : FrC (Sb F (d + 1) e) c (s_st c (f_x F (ix e)) 0) := fc_st (hsub _ (Tr_self hx))
    have hA := mid_ask (p := 0) (u_ph r (f_x F (ix e)) 0) hS ht (mid_c (mid_0 (T := T) (d := d) hU) hF1 rfl) hs0 hx hne hsub (by rw [hq0, if_pos h2, q_first_eq hpx]) hpx ⟨rfl, rfl, rfl, rfl⟩ hU.1 (fr_ph (Or.inr (Tr_self hx))) (id_fresh hx hne pk_us)
    have hpe : p_if F (p_all F M d) e c = (let q := p_all F M d (f_x F (ix e)) (s_st c (f_x F (ix e)) 0); if q.1 < 0 then q else
        let s1 := s_st q.2 e (if q.1 = 1 then 2 else 3)
        let s2 := s_st s1 (p_branch F e s1) 0
        p_up e (p_branch F e s2) (p_all F M d (p_branch F e s2) s2)) := by
      unfold p_if; rw [if_pos h1]; rfl
    generalize p_all F M d (f_x F (ix e)) (s_st c (f_x F (ix e)) 0) = q at hA hpe
    obtain ⟨v, c2⟩ := q
    obtain ⟨hFc, ⟨hv, n2, m2, r2, p3, hn, hM, hph, -, -, -, -, hFr, hgv, hL, hb⟩ | ⟨hv, n2, m2, r2, hn, hfr, hM, hph, -, -, -, -, hFr, hb⟩ | ⟨hv, n2, hn, herr⟩⟩ := hA
    · dsimp only at hv; subst hv
      have b1 : p_branch F e (s_st c2 e 2) = f_y F (ix e) := if_pos pk_us
      have st2 : c_st (s_st (s_st c2 e 2) (f_y F (ix e)) 0) (ix e) = 2 := (pk_un (Ne.symm hye)).trans pk_us
      have b2 : p_branch F e (s_st (s_st c2 e 2) (f_y F (ix e)) 0) = f_y F (ix e) := if_pos st2
      have hp : p_if F (p_all F M d) e c = p_up e (f_y F (ix e)) (p_all F M d (f_y F (ix e)) (s_st (s_st c2 e 2) (f_y F (ix e)) 0)) := by
        rw [hpe]; simp only [if_true, b1, b2]; rfl
      rw [hp]
      exact mid_tail (p1 := 0) (st := 2) (u_ph r2 (f_y F (ix e)) 0) hS ht hs hy hney hsuby hpy (fun r2 h => hq1 r2 2 (by decide) h) (fun r2 h => hq2 r2 2 (by decide) h) hLy (mid_c hM ((fc_st (Or.inl rfl)).tr (fc_st (hsuby _ (Tr_self hy)))) rfl) (hs _ _ _ _ hM.2.1 (by decide)) (by rw [hq11 r2 hph, q_first_eq hpy]) ⟨rfl, rfl, rfl, rfl⟩ hM.2.1.1 (fr_ph (Or.inr (Tr_self hy))) (id_fresh hy hney pk_us) st2 (fun _ => pk_us) (by omega) (Or.inl pk_us)
    · dsimp only at hv; subst hv
      have st3 : c_st (s_st c2 e 3) (ix e) = 3 := pk_us
      have b1 : p_branch F e (s_st c2 e 3) = f_z F (ix e) := if_neg (by rw [st3]; decide)
      have st2 : c_st (s_st (s_st c2 e 3) (f_z F (ix e)) 0) (ix e) = 3 := (pk_un (Ne.symm hze)).trans pk_us
      have b2 : p_branch F e (s_st (s_st c2 e 3) (f_z F (ix e)) 0) = f_z F (ix e) := if_neg (by rw [st2]; decide)
      have hp : p_if F (p_all F M d) e c = p_up e (f_z F (ix e)) (p_all F M d (f_z F (ix e)) (s_st (s_st c2 e 3) (f_z F (ix e)) 0)) := by
        rw [hpe]
        have e1 : (if (0 : Int32) = 1 then (2 : Int32) else 3) = 3 := if_neg (by decide)
        have e2 : ¬ (0 : Int32) < 0 := by decide
        simp only [e1, if_neg e2, b1, b2]
      rw [hp]
      exact mid_tail (p1 := 0) (st := 3) (u_ph r2 (f_z F (ix e)) 0) hS ht hs hz hnez hsubz hpz (fun r2 h => hq1 r2 3 (by decide) h) (fun r2 h => hq2 r2 3 (by decide) h) hLz (mid_c hM ((fc_st (Or.inl rfl)).tr (fc_st (hsubz _ (Tr_self hz)))) rfl) (hs _ _ _ _ hM.2.1 (by decide)) (by rw [hq12 r2 hph, q_first_eq hpz]) ⟨rfl, rfl, rfl, rfl⟩ hM.2.1.1 (fr_ph (Or.inr (Tr_self hz))) (id_fresh hz hnez pk_us) st2 (fun _ => pk_us) (by omega) (Or.inl pk_us)
    · have hp : p_if F (p_all F M d) e c = (v, c2) := by rw [hpe]; simp only [if_pos hv]
      rw [hp]
      exact herr c2 v rfl rfl (hF1.tr (hFc.wk hsub)) (by omega)
  · rcases (Lv_19 hk).mp hL with ⟨h1, h2, p1, hL1, rfl⟩ | ⟨h1, h2, p1, hL1, rfl⟩
    · have hs0 : q_safe T (r, 0) := safe_of hT (by omega) hU (fun _ _ => Or.inr (Or.inr (Or.inl h2))) (fun h => by rw [hk] at h; simp at h)
      have b : p_branch F e c = f_y F (ix e) := if_pos h1
      have hp : p_if F (p_all F M d) e c = p_up e (f_y F (ix e)) (p_all F M d (f_y F (ix e)) c) := by simp [p_if, h1, b]
      rw [hp]
      exact mid_tail (st := 2) r hS ht hs hy hney hsuby hpy (fun r2 h => hq1 r2 2 (by decide) h) (fun r2 h => hq2 r2 2 (by decide) h) hLy (mid_0 hU) hs0 (by rw [hq0, h2]; rfl) ⟨rfl, rfl, rfl, rfl⟩ hU.1 FrR.rf (id_live hney hL1 FrC.rf) h1 (fun h => absurd (h.symm.trans h1) (by decide)) (by omega) (Or.inr (by omega))
    · have hs0 : q_safe T (r, 0) := safe_of hT (by omega) hU (fun _ _ => Or.inr (Or.inr (Or.inr h2))) (fun h => by rw [hk] at h; simp at h)
      have b : p_branch F e c = f_z F (ix e) := if_neg (by rw [h1]; decide)
      have hp : p_if F (p_all F M d) e c = p_up e (f_z F (ix e)) (p_all F M d (f_z F (ix e)) c) := by simp [p_if, h1, b]
      rw [hp]
      exact mid_tail (st := 3) r hS ht hs hz hnez hsubz hpz (fun r2 h => hq1 r2 3 (by decide) h) (fun r2 h => hq2 r2 3 (by decide) h) hLz (mid_0 hU) hs0 (by rw [hq0, h2]; rfl) ⟨rfl, rfl, rfl, rfl⟩ hU.1 FrR.rf (id_live hnez hL1 FrC.rf) h1 (fun h => absurd (h.symm.trans h1) (by decide)) (by omega) (Or.inr (by omega))
