/-! LIMIT, EVERY and WHILE. -/
theorem pr_g {α β γ δ : Type} (a b : α) (t : β × γ × δ) : (a, t).2.2.2 = (b, t).2.2.2 := rfl
theorem cg_st (s : zC) (e v : Int32) : c_g (s_st s e v) = c_g s := pr_g (upd s.1 (ix e) v) s.1 s.2
theorem lim_q {F : zF} {T : zT} {d : Nat} {e : Int32} (hT : Tr F T (d + 1) e) (hk : f_k F (ix e) = 14) (w : Int32) (r : zR) : q_step T e w r = q_limit T e w r := by simp [q_step, q_binary, hT.2.2.1, hk, t_kc]
/-- the limit's number is asked next -/
theorem lim_B {F : zF} {T : zT} {M f d t n p : Nat} {e : Int32} {c : zC} {r : zR} (hS : zSim F T M f d) (hT : Tr F T (d + 1) e) (hk : f_k F (ix e) = 14) (ht : t + (d + 1) < 16) :
    ∀ (τ : Nat) (c1 : zC) (r1 r0 : zR) (w : Int32) (n1 m1 p1 : Nat), Mid F T f d t e c r n c1 r1 w n1 m1 → f + 1 ≤ n1 + τ → ¬ c_st c1 (ix e) = 1 → q_step T e w r1 = q_ask T e 1 1 r0 → Ro r1 r0 → Nm F r0 → FrR (fun j => j = ix e ∨ Sb F d (f_y F (ix e)) j) r1 r0 → Idl F d (f_y F (ix e)) (if c_st c1 (ix e) = 0 then s_st c1 (f_y F (ix e)) 0 else c1) (pu r0 e 1 t (f_y F (ix e))) p1 →
      (c_st c (ix e) = 0 → n < n1 ∨ c_st c1 (ix e) = 0) → m1 + p1 + zK d n + 13 * n ≤ p + zK d n1 + 13 * n1 + 1 → n < n1 ∨ c_st c1 (ix e) = 0 ∨ m1 + p1 + 2 + zK d n + 13 * n ≤ p + zK d n1 + 13 * n1 →
      Out F T f (d + 1) t e c r p n (p_limitL F (p_all F M d) e τ c1) := by
  have a2 : 2 ≤ f_a F e := by simp [f_a, hk]
  obtain ⟨⟨hx, hpx, hne, hsub⟩, ⟨hy, hpy, hney, hsuby⟩, hD⟩ := pr_parts hT a2
  have hxe : ix (f_x F (ix e)) ≠ ix e := ne_of hx hne
  have hye : ix (f_y F (ix e)) ≠ ix e := ne_of hy hney
  have hs : ∀ (c : zC) (r : zR) (n : Nat) (w : Int32), zUp F f t e c r n → q_safe T (r, w) := fun c r n w hU => safe_of hT (by omega) hU (fun h => by rw [hk] at h; simp at h) (fun h => by rw [hk] at h; simp at h)
  intro τ
  induction τ with
  | zero =>
    intro c1 r1 r0 w n1 m1 p1 hM hτ
    have := hM.2.1.2.2.1.2.1
    omega
  | succ τ ih =>
    intro c1 r1 r0 w n1 m1 p1 hM hτ hst hq hR hN hF hI hfr1 hb1 hb2
    have hFb : FrC (Sb F (d + 1) e) c1 (if c_st c1 (ix e) = 0 then s_st c1 (f_y F (ix e)) 0 else c1) := by
      split
      · exact fc_st (hsuby _ (Tr_self hy))
      · exact FrC.rf
    have hgb : c_g (if c_st c1 (ix e) = 0 then s_st c1 (f_y F (ix e)) 0 else c1) = c_g c1 := by split <;> rfl
    have hA := mid_ask (p := p) r0 hS ht (mid_c hM hFb hgb) (hs _ _ _ _ hM.2.1) hy hney hsuby hq hpy hR hN hF hI
    have hpe : p_limitL F (p_all F M d) e (τ + 1) c1 = (let q0 := p_all F M d (f_y F (ix e)) (if c_st c1 (ix e) = 0 then s_st c1 (f_y F (ix e)) 0 else c1)
        let q : Int32 × zC := (q0.1, s_ct q0.2 e (c_rs q0.2 (ix (f_y F (ix e)))).toInt64)
        if q.1 = 1 then
          let s1 := s_st (s_st q.2 e 1) (f_x F (ix e)) 0
          if 0 < c_ct s1 (ix e) then
            let q := p_all F M d (f_x F (ix e)) (s_ct s1 e (c_ct s1 (ix e) - 1))
            if q.1 = 0 then p_limitL F (p_all F M d) e τ (s_st q.2 e 2) else p_up e (f_x F (ix e)) q
          else p_limitL F (p_all F M d) e τ (s_st s1 e 2)
        else q) := by
      show (if c_st c1 (ix e) = 1 then _ else _) = _
      rw [if_neg hst]; rfl
    have hstb : c_st c1 (ix e) = 0 → c_st (if c_st c1 (ix e) = 0 then s_st c1 (f_y F (ix e)) 0 else c1) (ix (f_y F (ix e))) = 0 := fun h => by rw [if_pos h]; exact pk_us
    generalize (if c_st c1 (ix e) = 0 then s_st c1 (f_y F (ix e)) 0 else c1) = cb at hA hpe hFb hgb hstb
    generalize p_all F M d (f_y F (ix e)) cb = q at hA hpe
    obtain ⟨v, c2⟩ := q
    have hn0 := hM.2.2.2.2.2
    obtain ⟨hFc, ⟨hv, n2, m2, r2, p3, hn, hM2, hph, -, -, -, -, hFr, hgv, hL, hb⟩ | ⟨hv, n2, m2, r2, hn, hfr, hM2, hph, -, -, -, -, hFr, hb⟩ | ⟨hv, n2, hn, herr⟩⟩ := hA
    · dsimp only at hv; subst hv
      simp only [if_true] at hpe
      -- the state behind the number
      generalize hs1 : s_st (s_st (s_ct c2 e (c_rs c2 (ix (f_y F (ix e)))).toInt64) e 1) (f_x F (ix e)) 0 = s1 at hpe
      have hct : c_ct s1 (ix e) = (c_rs c2 (ix (f_y F (ix e)))).toInt64 := by rw [← hs1]; exact pk_uLs
      have hF1 : FrC (fun j => j = ix e ∨ Sb F d (f_x F (ix e)) j) c2 s1 := by rw [← hs1]; exact ((fc_ct (Or.inl rfl)).tr (fc_st (Or.inl rfl))).tr (fc_st (Or.inr (Tr_self hx)))
      have hin : ∀ j, (j = ix e ∨ Sb F d (f_x F (ix e)) j) → Sb F (d + 1) e j := fun j h => by
        rcases h with h | h
        · exact Or.inl h
        · exact hsub j h
      have hg1 : c_g s1 = c_g c2 := by rw [← hs1]; rfl
      have hst1 : c_st s1 (ix e) = 1 := by rw [← hs1]; exact (pk_un (Ne.symm hxe)).trans pk_us
      have hst1x : c_st s1 (ix (f_x F (ix e))) = 0 := by rw [← hs1]; exact pk_us
      have houty : ∀ j, Sb F d (f_y F (ix e)) j → ¬ (j = ix e ∨ Sb F d (f_x F (ix e)) j) := fun j hj h => by
        rcases h with h | h
        · exact hney (h ▸ hj)
        · exact hD j h hj
      have hq1 : q_step T e 1 r2 = if 0 < r_gv r2 then q_first T e 0 2 (u_kp r2 (3 * e) (r_gv r2).toInt64) else q_ask T e 1 1 (u_kp r2 (3 * e) (r_gv r2).toInt64) := by
        rw [lim_q hT hk]; simp [q_limit, hph]; rfl
      have hRk : Ro r2 (u_kp r2 (3 * e) (r_gv r2).toInt64) := ⟨rfl, rfl, rfl, rfl⟩
      have hFk : FrR (fun j => j = ix e) r2 (u_kp r2 (3 * e) (r_gv r2).toInt64) := fr_kp (k := ix e) (b := 0) rfl (by decide) (ix_30 hT.1)
      by_cases hpos : 0 < c_rs c2 (ix (f_y F (ix e)))
      · have hpos' : 0 < c_ct s1 (ix e) := by rw [hct]; exact (i64_0 _).mpr hpos
        rw [if_pos hpos'] at hpe
        rw [if_pos (by rw [hgv]; exact hpos), q_first_eq hpx] at hq1
        have hFs : FrC (Sb F (d + 1) e) c2 (s_ct s1 e (c_ct s1 (ix e) - 1)) := (hF1.wk hin).tr (fc_ct (Or.inl rfl))
        have hB := mid_ask (p := p) (p1 := 0) (u_ph (u_kp r2 (3 * e) (r_gv r2).toInt64) (f_x F (ix e)) 0) hS ht (mid_c hM2 hFs hg1) (hs _ _ _ _ hM2.2.1) hx hne hsub hq1 hpx ⟨rfl, rfl, rfl, rfl⟩ hM2.2.1.1 ((hFk.wk fun _ h => Or.inl h).tr (fr_ph (Or.inr (Tr_self hx)))) (id_fresh hx hne hst1x)
        generalize hcs : s_ct s1 e (c_ct s1 (ix e) - 1) = cs at hB hpe hFs
        have hcts : c_ct cs (ix e) = (c_rs c2 (ix (f_y F (ix e)))).toInt64 - 1 := by rw [← hcs, ← hct]; exact pk_uLs
        have hsts : c_st cs (ix e) = 1 := by rw [← hcs]; exact hst1
        have hstx : c_st cs (ix (f_x F (ix e))) = 0 := by rw [← hcs]; exact hst1x
        have hFcs : FrC (fun j => j = ix e ∨ Sb F d (f_x F (ix e)) j) c2 cs := by rw [← hcs]; exact hF1.tr (fc_ct (Or.inl rfl))
        generalize p_all F M d (f_x F (ix e)) cs = q at hB hpe
        obtain ⟨v, c4⟩ := q
        have keep : ∀ r4 : zR, FrC (Sb F d (f_x F (ix e))) cs c4 → FrR (fun j => j = ix e ∨ Sb F d (f_x F (ix e)) j) r2 r4 → Lv F d (f_y F (ix e)) c4 r4 p3 := fun r4 hC hR4 =>
          Lv_cong d _ _ (Ag.of (hFcs.tr (hC.wk fun _ h => Or.inr h)) hR4 houty houty) hL
        obtain ⟨hFd, ⟨hv, n3, m3, r3, p4, hn3, hM3, hph3, -, hk3, -, -, hFr3, hgv3, hL3, hb3⟩ | ⟨hv, n3, m3, r3, hn3, hfr3, hM3, hph3, -, -, -, -, hFr3, hb3⟩ | ⟨hv, n3, hn3, herr⟩⟩ := hB
        · dsimp only at hv; subst hv
          have hp : p_limitL F (p_all F M d) e (τ + 1) c1 = (1, s_rs c4 e (c_rs c4 (ix (f_x F (ix e))))) := by rw [hpe]; simp [p_up, p_give]
          have hLy := keep r3 hFd hFr3
          have hkp : r_kp r3 (3 * ix e) = (c_rs c2 (ix (f_y F (ix e)))).toInt64 := by
            rw [hk3, ← hgv]
            show vp_updL (r_kp r2) (ix (3 * e)) _ (3 * ix e) = _
            rw [ix_30 hT.1]; exact pk_uLs
          have hq3 : q_step T e 1 r3 = (1, u_kp r3 (3 * e) (r_kp r3 (ix (3 * e)) - 1)) := by rw [lim_q hT hk]; simp [q_limit, hph3]
          have hag : ∀ x : Int32, ¬ Sb F d x (ix e) → Ag (Sb F d x) c4 (s_rs c4 e (c_rs c4 (ix (f_x F (ix e))))) r3 (u_tp (u_kp r3 (3 * e) (r_kp r3 (ix (3 * e)) - 1)) (nI t)) := fun x hx => Ag.of (D := fun j => j = ix e) (E := fun j => j = ix e) (fc_rs (D := fun j => j = ix e) rfl) ((fr_kp (D := fun j => j = ix e) (k := ix e) (b := 0) rfl (by decide) (ix_30 hT.1)).tr fr_tp) (fun _ h q => hx (q ▸ h)) (fun _ h q => hx (q ▸ h))
          rw [hp]
          refine mid_one _ ht hM3 (hs _ _ _ _ hM3.2.1) hq3 ⟨rfl, rfl, rfl⟩ hM3.2.1.1 hM3.2.1.2.1 hM3.2.1.2.2.1 (fr_kp (k := ix e) (b := 0) (Or.inl rfl) (by decide) (ix_30 hT.1)) (fc_rs (Or.inl rfl)) (hgv3.trans (pk_us (f := c_rs c4)).symm) ((Lv_14 hk).mpr ⟨(hFd _ hne).1.trans hsts, hph3, ?_, p4, p3, Lv_cong d _ _ (hag _ hne) hL3, Lv_cong d _ _ (hag _ hney) hLy, rfl⟩) (by omega) ?_
          · show vp_updL (r_kp r3) (ix (3 * e)) (r_kp r3 (ix (3 * e)) - 1) (3 * ix e) = c_ct c4 (ix e)
            rw [(hFd _ hne).2.2, hcts, ix_30 hT.1, pk_uLs, hkp]
          · rw [zK_s, zK_s]; omega
        · dsimp only at hv; subst hv
          have hn4 := hfr3 hstx
          have hp : p_limitL F (p_all F M d) e (τ + 1) c1 = p_limitL F (p_all F M d) e τ (s_st c4 e 2) := by rw [hpe]; simp
          have hLy := keep r3 hFd hFr3
          have hq3 : q_step T e 2 r3 = q_ask T e 1 1 r3 := by rw [lim_q hT hk]; simp [q_limit, hph3]
          have hst5 : c_st (s_st c4 e 2) (ix e) = 2 := pk_us
          rw [hp]
          refine ih (s_st c4 e 2) r3 r3 2 n3 _ p3 (mid_c hM3 (fc_st (Or.inl rfl)) rfl) (by omega) (by rw [hst5]; decide) hq3 ⟨rfl, rfl, rfl, rfl⟩ hM3.2.1.1 FrR.rf ?_ (fun _ => Or.inl (by omega)) (by omega) (Or.inl (by omega))
          rw [if_neg (by rw [hst5]; decide)]
          exact id_live hney hLy (fc_st (D := fun j => j = ix e) rfl)
        · have hp : p_limitL F (p_all F M d) e (τ + 1) c1 = (v, c4) := by rw [hpe]; simp [p_up, neg1 hv, neg0 hv]
          rw [hp]
          exact herr c4 v rfl rfl ((hM2.2.2.2.1.tr hFs).tr (hFd.wk hsub)) (by omega)
      · have hpos' : ¬ 0 < c_ct s1 (ix e) := by rw [hct]; exact fun h => hpos ((i64_0 _).mp h)
        rw [if_neg hpos'] at hpe
        rw [if_neg (by rw [hgv]; exact hpos)] at hq1
        have hst5 : c_st (s_st s1 e 2) (ix e) = 2 := pk_us
        rw [hpe]
        refine ih (s_st s1 e 2) r2 (u_kp r2 (3 * e) (r_gv r2).toInt64) 1 n2 _ p3 (mid_c hM2 ((hF1.wk hin).tr (fc_st (Or.inl rfl))) ((cg_st s1 e 2).trans hg1)) (by omega) (by rw [hst5]; decide) hq1 hRk hM2.2.1.1 (hFk.wk fun _ h => Or.inl h) ?_ (fun _ => Or.inl (by omega)) (by omega) (Or.inl (by omega))
        rw [if_neg (by rw [hst5]; decide)]
        refine Or.inr (Lv_cong d _ _ (Ag.of (hF1.tr (fc_st (Or.inl rfl))) ((hFk.tr (fr_pu (D := fun j => j = ix e) rfl)).wk fun _ h => Or.inl h) houty houty) hL)
    · dsimp only at hv; subst hv
      have hp : p_limitL F (p_all F M d) e (τ + 1) c1 = (0, s_ct c2 e (c_rs c2 (ix (f_y F (ix e)))).toInt64) := by rw [hpe]; simp
      have hq3 : q_step T e 2 r2 = (0, r2) := by rw [lim_q hT hk]; simp [q_limit, hph]
      rw [hp]
      refine mid_zero _ ht hM2 (hs _ _ _ _ hM2.2.1) hq3 ⟨rfl, rfl, rfl, rfl⟩ hM2.2.1.1 FrR.rf (fc_ct (Or.inl rfl)) rfl (fun h => ?_) ?_
      · rcases hfr1 h with h | h
        · omega
        · have := hfr (hstb h); omega
      · rw [zK_s, zK_s]
        rcases hb2 with h | h | h
        · omega
        · have := hfr (hstb h); omega
        · omega
    · have hp : p_limitL F (p_all F M d) e (τ + 1) c1 = (v, s_ct c2 e (c_rs c2 (ix (f_y F (ix e)))).toInt64) := by rw [hpe]; simp [neg1 hv]
      rw [hp]
      exact herr _ v rfl rfl ((hM.2.2.2.1.tr hFb).tr ((hFc.wk hsuby).tr (fc_ct (Or.inl rfl)))) (by omega)
theorem sm_limit {F : zF} {T : zT} {M f d t n p : Nat} {e : Int32} {c : zC} {r : zR} (hO : Ok F T M f) (hS : zSim F T M f d) (hT : Tr F T (d + 1) e) (hk : f_k F (ix e) = 14) (ht : t + (d + 1) < 16) (hU : zUp F f t e c r n) (hI : Idl F (d + 1) e c r p) : Out F T f (d + 1) t e c r p n (p_limitL F (p_all F M d) e M c) := by
  have a2 : 2 ≤ f_a F e := by simp [f_a, hk]
  obtain ⟨⟨hx, hpx, hne, hsub⟩, ⟨hy, hpy, hney, hsuby⟩, hD⟩ := pr_parts hT a2
  have hxe : ix (f_x F (ix e)) ≠ ix e := ne_of hx hne
  have hye : ix (f_y F (ix e)) ≠ ix e := ne_of hy hney
  obtain ⟨-, -, hf, hMM⟩ := hO
  have hs : ∀ (c : zC) (r : zR) (n : Nat) (w : Int32), zUp F f t e c r n → q_safe T (r, w) := fun c r n w hU => safe_of hT (by omega) hU (fun h => by rw [hk] at h; simp at h) (fun h => by rw [hk] at h; simp at h)
  rcases hI with ⟨h1, h2, rfl⟩ | hL
  · have hq0 : q_step T e 0 r = q_ask T e 1 1 (u_ph r (f_y F (ix e)) 0) := by rw [lim_q hT hk, ← q_first_eq hpy]; simp [q_limit, h2]
    refine lim_B hS hT hk ht M c r (u_ph r (f_y F (ix e)) 0) 0 n 0 0 (mid_0 hU) (by omega) (by rw [h1]; decide) hq0 ⟨rfl, rfl, rfl, rfl⟩ hU.1 (fr_ph (Or.inr (Tr_self hy))) ?_ (fun h => Or.inr h) (by omega) (Or.inr (Or.inl h1))
    rw [if_pos h1]
    exact id_fresh hy hney pk_us
  · obtain ⟨h1, h2, h3, px, py, hLx, hLy, rfl⟩ := (Lv_14 hk).mp hL
    obtain ⟨M', rfl⟩ : ∃ M', M = M' + 1 := ⟨M - 1, by omega⟩
    have hkp : r_kp r (ix (3 * e)) = c_ct c (ix e) := by rw [ix_30 hT.1]; exact h3
    have hq0 : q_step T e 0 r = if 0 < c_ct c (ix e) then q_ask T e 0 2 r else q_ask T e 1 1 r := by rw [lim_q hT hk]; simp [q_limit, h2, hkp]
    have hpe : p_limitL F (p_all F (M' + 1) d) e (M' + 1) c = (if 0 < c_ct c (ix e) then
            let q := p_all F (M' + 1) d (f_x F (ix e)) (s_ct c e (c_ct c (ix e) - 1))
            if q.1 = 0 then p_limitL F (p_all F (M' + 1) d) e M' (s_st q.2 e 2) else p_up e (f_x F (ix e)) q
          else p_limitL F (p_all F (M' + 1) d) e M' (s_st c e 2)) := by
      show (if c_st c (ix e) = 1 then _ else _) = _
      rw [if_pos h1]
    have houty : ∀ j, Sb F d (f_y F (ix e)) j → ¬ (j = ix e ∨ Sb F d (f_x F (ix e)) j) := fun j hj h => by
      rcases h with h | h
      · exact hney (h ▸ hj)
      · exact hD j h hj
    by_cases hpos : 0 < c_ct c (ix e)
    · rw [if_pos hpos] at hq0 hpe
      have hFs : FrC (fun j => j = ix e) c (s_ct c e (c_ct c (ix e) - 1)) := fc_ct rfl
      have hA := mid_ask (p := px + py + 4) r hS ht (mid_c (mid_0 (T := T) (d := d) hU) (hFs.wk fun j h => Or.inl h) rfl) (hs _ _ _ _ hU) hx hne hsub hq0 hpx ⟨rfl, rfl, rfl, rfl⟩ hU.1 FrR.rf (id_live hne hLx hFs)
      have hcts : c_ct (s_ct c e (c_ct c (ix e) - 1)) (ix e) = c_ct c (ix e) - 1 := pk_uLs
      have hsts : c_st (s_ct c e (c_ct c (ix e) - 1)) (ix e) = 1 := h1
      generalize s_ct c e (c_ct c (ix e) - 1) = cs at hA hpe hFs hcts hsts
      generalize p_all F (M' + 1) d (f_x F (ix e)) cs = q at hA hpe
      obtain ⟨v, c4⟩ := q
      have keep : ∀ r4 : zR, FrC (Sb F d (f_x F (ix e))) cs c4 → FrR (fun j => j = ix e ∨ Sb F d (f_x F (ix e)) j) r r4 → Lv F d (f_y F (ix e)) c4 r4 py := fun r4 hC hR4 =>
        Lv_cong d _ _ (Ag.of ((hFs.wk fun _ h => Or.inl h).tr (hC.wk fun _ h => Or.inr h)) hR4 houty houty) hLy
      obtain ⟨hFd, ⟨hv, n3, m3, r3, p4, hn3, hM3, hph3, -, hk3, -, -, hFr3, hgv3, hL3, hb3⟩ | ⟨hv, n3, m3, r3, hn3, hfr3, hM3, hph3, -, -, -, -, hFr3, hb3⟩ | ⟨hv, n3, hn3, herr⟩⟩ := hA
      · dsimp only at hv; subst hv
        have hp : p_limitL F (p_all F (M' + 1) d) e (M' + 1) c = (1, s_rs c4 e (c_rs c4 (ix (f_x F (ix e))))) := by rw [hpe]; simp [p_up, p_give]
        have hLy4 := keep r3 hFd hFr3
        have hq3 : q_step T e 1 r3 = (1, u_kp r3 (3 * e) (r_kp r3 (ix (3 * e)) - 1)) := by rw [lim_q hT hk]; simp [q_limit, hph3]
        have hag : ∀ x : Int32, ¬ Sb F d x (ix e) → Ag (Sb F d x) c4 (s_rs c4 e (c_rs c4 (ix (f_x F (ix e))))) r3 (u_tp (u_kp r3 (3 * e) (r_kp r3 (ix (3 * e)) - 1)) (nI t)) := fun x hx => Ag.of (D := fun j => j = ix e) (E := fun j => j = ix e) (fc_rs (D := fun j => j = ix e) rfl) ((fr_kp (D := fun j => j = ix e) (k := ix e) (b := 0) rfl (by decide) (ix_30 hT.1)).tr fr_tp) (fun _ h q => hx (q ▸ h)) (fun _ h q => hx (q ▸ h))
        rw [hp]
        refine mid_one _ ht hM3 (hs _ _ _ _ hM3.2.1) hq3 ⟨rfl, rfl, rfl⟩ hM3.2.1.1 hM3.2.1.2.1 hM3.2.1.2.2.1 (fr_kp (k := ix e) (b := 0) (Or.inl rfl) (by decide) (ix_30 hT.1)) (fc_rs (Or.inl rfl)) (hgv3.trans (pk_us (f := c_rs c4)).symm) ((Lv_14 hk).mpr ⟨(hFd _ hne).1.trans hsts, hph3, ?_, p4, py, Lv_cong d _ _ (hag _ hne) hL3, Lv_cong d _ _ (hag _ hney) hLy4, rfl⟩) hn3 ?_
        · show vp_updL (r_kp r3) (ix (3 * e)) (r_kp r3 (ix (3 * e)) - 1) (3 * ix e) = c_ct c4 (ix e)
          rw [(hFd _ hne).2.2, hcts, ix_30 hT.1, pk_uLs, hk3, h3]
        · rw [zK_s, zK_s]; omega
      · dsimp only at hv; subst hv
        have hp : p_limitL F (p_all F (M' + 1) d) e (M' + 1) c = p_limitL F (p_all F (M' + 1) d) e M' (s_st c4 e 2) := by rw [hpe]; simp
        have hLy4 := keep r3 hFd hFr3
        have hq3 : q_step T e 2 r3 = q_ask T e 1 1 r3 := by rw [lim_q hT hk]; simp [q_limit, hph3]
        have hst5 : c_st (s_st c4 e 2) (ix e) = 2 := pk_us
        have hm := zK_m d hn3
        rw [hp]
        refine lim_B hS hT hk ht M' (s_st c4 e 2) r3 r3 2 n3 _ py (mid_c hM3 (fc_st (Or.inl rfl)) rfl) (by omega) (by rw [hst5]; decide) hq3 ⟨rfl, rfl, rfl, rfl⟩ hM3.2.1.1 FrR.rf ?_ (fun h => absurd (h.symm.trans h1) (by decide)) (by omega) (Or.inr (Or.inr (by omega)))
        rw [if_neg (by rw [hst5]; decide)]
        exact id_live hney hLy4 (fc_st (D := fun j => j = ix e) rfl)
      · have hp : p_limitL F (p_all F (M' + 1) d) e (M' + 1) c = (v, c4) := by rw [hpe]; simp [p_up, neg1 hv, neg0 hv]
        rw [hp]
        exact herr c4 v rfl rfl ((hFs.wk fun j h => Or.inl h).tr (hFd.wk hsub)) (by omega)
    · rw [if_neg hpos] at hq0 hpe
      have hst5 : c_st (s_st c e 2) (ix e) = 2 := pk_us
      rw [hpe]
      refine lim_B hS hT hk ht M' (s_st c e 2) r r 0 n 0 py (mid_c (mid_0 hU) (fc_st (Or.inl rfl)) rfl) (by omega) (by rw [hst5]; decide) hq0 ⟨rfl, rfl, rfl, rfl⟩ hU.1 FrR.rf ?_ (fun h => absurd (h.symm.trans h1) (by decide)) (by omega) (Or.inr (Or.inr (by omega)))
      rw [if_neg (by rw [hst5]; decide)]
      exact id_live hney hLy (fc_st (D := fun j => j = ix e) rfl)
/-- the state from which EVERY and WHILE ask x -/
def p_e1 (F : zF) (e : Int32) (c : zC) : zC := if f_k F (ix e) = 16 then s_st c (f_x F (ix e)) 0 else p_x1 F e c
theorem ev_X {F : zF} {T : zT} {M f d t n p : Nat} {e : Int32} {c : zC} {r : zR} (hS : zSim F T M f d) (hT : Tr F T (d + 1) e) (hk : f_k F (ix e) = 15 ∨ f_k F (ix e) = 16) (ht : t + (d + 1) < 16) :
    ∀ (τ : Nat) (c1 : zC) (r1 r0 : zR) (w : Int32) (n1 m1 p1 : Nat), Mid F T f d t e c r n c1 r1 w n1 m1 → f + 1 ≤ n1 + τ → q_step T e w r1 = q_ask T e 0 1 r0 → Ro r1 r0 → Nm F r0 → FrR (fun j => j = ix e ∨ Sb F d (f_x F (ix e)) j) r1 r0 → Idl F d (f_x F (ix e)) (p_e1 F e c1) (pu r0 e 1 t (f_x F (ix e))) p1 →
      n < n1 ∨ c_st (p_e1 F e c1) (ix (f_x F (ix e))) = 0 → m1 + p1 + zK d n + 13 * n ≤ p + zK d n1 + 13 * n1 →
      Out F T f (d + 1) t e c r p n (p_everyL F (p_all F M d) e τ c1) := by
  have a2 : 2 ≤ f_a F e := by rcases hk with k | k <;> simp [f_a, k]
  obtain ⟨⟨hx, hpx, hne, hsub⟩, ⟨hy, hpy, hney, hsuby⟩, hD⟩ := pr_parts hT a2
  have hxe : ix (f_x F (ix e)) ≠ ix e := ne_of hx hne
  have hye : ix (f_y F (ix e)) ≠ ix e := ne_of hy hney
  have hs : ∀ (c : zC) (r : zR) (n : Nat) (w : Int32), zUp F f t e c r n → q_safe T (r, w) := fun c r n w hU => safe_of hT (by omega) hU (fun h => by rcases hk with k | k <;> rw [k] at h <;> simp at h) (fun h => by rcases hk with k | k <;> rw [k] at h <;> simp at h)
  have hq1 : ∀ r2 : zR, r_ph r2 (ix e) = 1 → q_step T e 1 r2 = q_first T e 1 2 r2 := fun r2 h => by rcases hk with k | k <;> simp [q_step, q_binary, hT.2.2.1, k, t_kc, h]
  have hq2 : ∀ r2 : zR, r_ph r2 (ix e) = 1 → q_step T e 2 r2 = (0, r2) := fun r2 h => by rcases hk with k | k <;> simp [q_step, q_binary, hT.2.2.1, k, t_kc, h]
  have hq3 : ∀ (r2 : zR) (w : Int32), ¬ w = 0 → r_ph r2 (ix e) = 2 → q_step T e w r2 = if f_k F (ix e) = 16 then q_first T e 0 1 r2 else q_ask T e 0 1 r2 := fun r2 w hw h => by rcases hk with k | k <;> simp [q_step, q_binary, hT.2.2.1, k, t_kc, h, hw]
  have hoX : ∀ j, Sb F d (f_x F (ix e)) j → ¬ (j = ix e ∨ Sb F d (f_y F (ix e)) j) := fun j hj h => by
    rcases h with h | h
    · exact hne (h ▸ hj)
    · exact hD j hj h
  intro τ
  induction τ with
  | zero =>
    intro c1 r1 r0 w n1 m1 p1 hM hτ
    have := hM.2.1.2.2.1.2.1
    omega
  | succ τ ih =>
    intro c1 r1 r0 w n1 m1 p1 hM hτ hq hR hN hF hI hfr1 hb1
    have hFe : FrC (Sb F (d + 1) e) c1 (p_e1 F e c1) := by
      unfold p_e1; split
      · exact fc_st (hsub _ (Tr_self hx))
      · exact x1_F (Or.inl rfl) (hsub _ (Tr_self hx))
    have hge : c_g (p_e1 F e c1) = c_g c1 := by
      unfold p_e1; split
      · rfl
      · exact x1_g F e c1
    have hste : ¬ f_k F (ix e) = 16 → c_st (p_e1 F e c1) (ix e) = 1 := fun h => by unfold p_e1; rw [if_neg h]; exact x1_st F e c1
    have hA := mid_ask (p := p) r0 hS ht (mid_c hM hFe hge) (hs _ _ _ _ hM.2.1) hx hne hsub hq hpx hR hN hF hI
    have hpe : p_everyL F (p_all F M d) e (τ + 1) c1 = (let q := p_all F M d (f_x F (ix e)) (p_e1 F e c1); if q.1 = 1 then
        let q2 := p_all F M d (f_y F (ix e)) (s_st q.2 (f_y F (ix e)) 0)
        if q2.1 < 0 then q2 else p_everyL F (p_all F M d) e τ q2.2
      else q) := by
      have h16 : (if f_k F (ix e) = 16 then p_try (p_all F M d) (f_x F (ix e)) c1 else p_x F (p_all F M d) e c1) = p_all F M d (f_x F (ix e)) (p_e1 F e c1) := by
        unfold p_e1
        split
        · rfl
        · exact p_x_eq F (p_all F M d) e c1
      show (let q := (if f_k F (ix e) = 16 then p_try (p_all F M d) (f_x F (ix e)) c1 else p_x F (p_all F M d) e c1); if q.1 = 1 then
        let q2 := p_try (p_all F M d) (f_y F (ix e)) q.2
        if q2.1 < 0 then q2 else p_everyL F (p_all F M d) e τ q2.2
        else q) = _
      rw [h16]
      rfl
    generalize p_e1 F e c1 = ce at hA hpe hFe hge hste hfr1
    generalize p_all F M d (f_x F (ix e)) ce = q at hA hpe
    obtain ⟨v, c2⟩ := q
    have hn0 := hM.2.2.2.2.2
    obtain ⟨hFc, ⟨hv, n2, m2, r2, p3, hn, hM2, hph, -, -, -, -, hFr, hgv, hL, hb⟩ | ⟨hv, n2, m2, r2, hn, hfr, hM2, hph, -, -, -, -, hFr, hb⟩ | ⟨hv, n2, hn, herr⟩⟩ := hA
    · dsimp only at hv; subst hv
      simp only [if_true] at hpe
      have hF3 : FrC (Sb F (d + 1) e) c2 (s_st c2 (f_y F (ix e)) 0) := fc_st (hsuby _ (Tr_self hy))
      have hst0 : c_st (s_st c2 (f_y F (ix e)) 0) (ix (f_y F (ix e))) = 0 := pk_us
      have hB := mid_ask (p := p) (p1 := 0) (u_ph r2 (f_y F (ix e)) 0) hS ht (mid_c hM2 hF3 rfl) (hs _ _ _ _ hM2.2.1) hy hney hsuby (by rw [hq1 r2 hph, q_first_eq hpy]) hpy ⟨rfl, rfl, rfl, rfl⟩ hM2.2.1.1 (fr_ph (Or.inr (Tr_self hy))) (id_fresh hy hney hst0)
      generalize p_all F M d (f_y F (ix e)) (s_st c2 (f_y F (ix e)) 0) = q at hB hpe
      obtain ⟨v, c4⟩ := q
      -- whatever came of y, x goes on
      have goX : ∀ (r3 : zR) (w3 : Int32) (n3 m3 : Nat), ¬ w3 = 0 → ¬ v < 0 → FrC (Sb F d (f_y F (ix e))) (s_st c2 (f_y F (ix e)) 0) c4 → FrR (fun j => j = ix e ∨ Sb F d (f_y F (ix e)) j) r2 r3 → Mid F T f d t e c r n c4 r3 w3 n3 m3 → r_ph r3 (ix e) = 2 → n2 < n3 → m3 + p3 + zK d n + 13 * n ≤ p + zK d n3 + 13 * n3 → Out F T f (d + 1) t e c r p n (p_everyL F (p_all F M d) e (τ + 1) c1) := by
        intro r3 w3 n3 m3 hw3 hv hFd hFr3 hM3 hph3 hn3 hb3
        have hp : p_everyL F (p_all F M d) e (τ + 1) c1 = p_everyL F (p_all F M d) e τ c4 := by rw [hpe]; simp only [if_neg hv]
        rw [hp]
        have hq4 := hq3 r3 w3 hw3 hph3
        by_cases h16 : f_k F (ix e) = 16
        · rw [if_pos h16, q_first_eq hpx] at hq4
          have hpz : p_e1 F e c4 = s_st c4 (f_x F (ix e)) 0 := if_pos h16
          exact ih c4 r3 (u_ph r3 (f_x F (ix e)) 0) w3 n3 m3 0 hM3 (by omega) hq4 ⟨rfl, rfl, rfl, rfl⟩ hM3.2.1.1 (fr_ph (Or.inr (Tr_self hx))) (by rw [hpz]; exact id_fresh hx hne pk_us) (Or.inl (by omega)) (by omega)
        · rw [if_neg h16] at hq4
          have hpz : p_e1 F e c4 = p_x1 F e c4 := if_neg h16
          have hst4 : c_st c4 (ix e) = 1 := (hFd _ hney).1.trans ((pk_un (Ne.symm hye)).trans ((hFc _ hne).1.trans (hste h16)))
          have hC' : FrC (fun j => j = ix e ∨ Sb F d (f_y F (ix e)) j) c2 c4 := (fc_st (Or.inr (Tr_self hy))).tr (hFd.wk fun _ h => Or.inr h)
          have hLx : Lv F d (f_x F (ix e)) c4 r3 p3 := Lv_cong d _ _ (Ag.of hC' hFr3 hoX hoX) hL
          refine ih c4 r3 r3 w3 n3 m3 p3 hM3 (by omega) hq4 ⟨rfl, rfl, rfl, rfl⟩ hM3.2.1.1 FrR.rf ?_ (Or.inl (by omega)) (by omega)
          rw [hpz]
          unfold p_x1; rw [if_neg (by rw [hst4]; decide)]
          exact id_live hne hLx (fc_st (D := fun j => j = ix e) rfl)
      obtain ⟨hFd, ⟨hv, n3, m3, r3, p4, hn3, hM3, hph3, -, -, -, -, hFr3, hgv3, hL3, hb3⟩ | ⟨hv, n3, m3, r3, hn3, hfr3, hM3, hph3, -, -, -, -, hFr3, hb3⟩ | ⟨hv, n3, hn3, herr⟩⟩ := hB
      · dsimp only at hv
        exact goX r3 1 n3 _ (by decide) (by rw [hv]; decide) hFd hFr3 hM3 hph3 hn3 (by omega)
      · dsimp only at hv
        have hn4 := hfr3 hst0
        exact goX r3 2 n3 _ (by decide) (by rw [hv]; decide) hFd hFr3 hM3 hph3 hn4 (by omega)
      · have hp : p_everyL F (p_all F M d) e (τ + 1) c1 = (v, c4) := by rw [hpe]; simp only [if_pos hv]
        rw [hp]
        exact herr c4 v rfl rfl ((hM2.2.2.2.1.tr hF3).tr (hFd.wk hsuby)) (by omega)
    · dsimp only at hv; subst hv
      have hp : p_everyL F (p_all F M d) e (τ + 1) c1 = (0, c2) := by rw [hpe]; simp
      have hlt : n < n2 := by
        rcases hfr1 with h | h
        · omega
        · have := hfr h; omega
      rw [hp]
      refine mid_zero _ ht hM2 (hs _ _ _ _ hM2.2.1) (hq2 r2 hph) ⟨rfl, rfl, rfl, rfl⟩ hM2.2.1.1 FrR.rf FrC.rf rfl (fun _ => hlt) ?_
      rw [zK_s, zK_s]; omega
    · have hp : p_everyL F (p_all F M d) e (τ + 1) c1 = (v, c2) := by rw [hpe]; simp [neg1 hv]
      rw [hp]
      exact herr c2 v rfl rfl ((hM.2.2.2.1.tr hFe).tr (hFc.wk hsub)) (by omega)
theorem sm_every {F : zF} {T : zT} {M f d t n p : Nat} {e : Int32} {c : zC} {r : zR} (hO : Ok F T M f) (hS : zSim F T M f d) (hT : Tr F T (d + 1) e) (hk : f_k F (ix e) = 15 ∨ f_k F (ix e) = 16) (ht : t + (d + 1) < 16) (hU : zUp F f t e c r n) (hI : Idl F (d + 1) e c r p) : Out F T f (d + 1) t e c r p n (p_everyL F (p_all F M d) e M c) := by
  have a1 : 1 ≤ f_a F e := by rcases hk with k | k <;> simp [f_a, k]
  obtain ⟨hx, hpx, hne⟩ := hT.2.2.2.2.1 a1
  have hxe : ix (f_x F (ix e)) ≠ ix e := ne_of hx hne
  obtain ⟨-, -, hf, hMM⟩ := hO
  have hq0 : q_step T e 0 r = q_ask T e 0 1 (u_ph r (f_x F (ix e)) 0) := by
    rw [← q_first_eq hpx]
    rcases hk with k | k <;> simp [q_step, q_binary, hT.2.2.1, k, t_kc]
  rcases hI with ⟨h1, h2, rfl⟩ | hL
  · have hst : c_st (p_e1 F e c) (ix (f_x F (ix e))) = 0 := by
      unfold p_e1; split
      · exact pk_us
      · exact x1_f hxe h1
    exact ev_X hS hT hk ht M c r (u_ph r (f_x F (ix e)) 0) 0 n 0 0 (mid_0 hU) (by omega) hq0 ⟨rfl, rfl, rfl, rfl⟩ hU.1 (fr_ph (Or.inr (Tr_self hx))) (id_fresh hx hne hst) (Or.inr hst) (by omega)
  · rcases hk with k | k
    · exact ((Lv_15 k).mp hL).elim
    · exact ((Lv_16 k).mp hL).elim
