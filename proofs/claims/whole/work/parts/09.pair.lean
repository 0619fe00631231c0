/-! The loop over pairs, as both sides go through it. -/
def Prt (F : zF) (T : zT) (d : Nat) (e i x : Int32) : Prop := Tr F T d x ∧ t_p T (ix (3 * e + i)) = x ∧ ¬ Sb F d x (ix e) ∧ ∀ j, Sb F d x j → Sb F (d + 1) e j
/-- how the machine keeps the result of x in mind -/
def Mem (F : zF) (T : zT) (f t : Nat) (e : Int32) (mm : zR → zR) (MO : zR → Int32 → Prop) : Prop :=
  (∀ r, Ro r (mm r) ∧ (Nm F r → Nm F (mm r)) ∧ FrR (fun j => j = ix e) r (mm r) ∧ r_gv (mm r) = r_gv r ∧ MO (mm r) (r_gv r)) ∧ (∀ r r' v, r_nm r' (ix e) = r_nm r (ix e) → r_kp r' (3 * ix e) = r_kp r (3 * ix e) → MO r v → MO r' v) ∧
  (∀ r, r_ph r (ix e) = 1 → q_step T e 1 r = q_first T e 1 2 (mm r)) ∧ (∀ r, r_ph r (ix e) = 2 → q_step T e 2 r = q_ask T e 0 1 r) ∧ ∀ c r n w, zUp F f t e c r n → ¬ w = 0 → r_ph r (ix e) = 1 ∨ r_ph r (ix e) = 2 ∨ r_ph r (ix e) = 3 → q_safe T (r, w)
/-- what the loop comes to, from the way's state at n1, m1, with p1 laid by -/
def PairedS (sl : Nat) (F : zF) (T : zT) (f d t : Nat) (e : Int32) (MO : zR → Int32 → Prop) (c : zC) (r : zR) (p n n1 m1 p1 : Nat) (fr : Prop) (q : Int32 × zC) : Prop :=
  FrC (Sb F (d + 1) e) c q.2 ∧
  ((q.1 = 1 ∧ ∃ n2 m2 r2 px py, n1 < n2 ∧ Mid F T f d t e c r n q.2 r2 1 n2 m2 ∧ r_ph r2 (ix e) = 2 ∧ c_st q.2 (ix e) = 2 ∧ MO r2 (c_rs q.2 (ix (f_x F (ix e)))) ∧ r_gv r2 = c_rs q.2 (ix (f_y F (ix e))) ∧ Lv F d (f_x F (ix e)) q.2 r2 px ∧ Lv F d (f_y F (ix e)) q.2 r2 py ∧ m2 + px + py + sl + zK d n1 + 10 * n1 ≤ m1 + p1 + zK d n2 + 10 * n2) ∨
   (q.1 = 0 ∧ ∃ n2 m2 r2, n1 ≤ n2 ∧ (fr → n1 < n2) ∧ Mid F T f d t e c r n q.2 r2 2 n2 m2 ∧ r_ph r2 (ix e) = 1 ∧ m2 + sl + zK d n1 + 10 * n1 ≤ m1 + p1 + zK d n2 + 10 * n2 + 2) ∨
   (q.1 < 0 ∧ ∀ c3, c_g c3 = c_g q.2 → FrC (Sb F (d + 1) e) c c3 → Out F T f (d + 1) t e c r p n (q.1, c3)))
def Paired (F : zF) (T : zT) (f d t : Nat) (e : Int32) (MO : zR → Int32 → Prop) (c : zC) (r : zR) (p n n1 m1 p1 : Nat) (fr : Prop) (q : Int32 × zC) : Prop := PairedS 0 F T f d t e MO c r p n n1 m1 p1 fr q
theorem pS_0 {F : zF} {T : zT} {f d t : Nat} {e : Int32} {MO : zR → Int32 → Prop} {c : zC} {r : zR} {p n n1 m1 p1 : Nat} {fr : Prop} {q : Int32 × zC} (h : PairedS 1 F T f d t e MO c r p n n1 m1 p1 fr q) : Paired F T f d t e MO c r p n n1 m1 p1 fr q := by
  obtain ⟨hF9, ⟨h1, n9, m9, r9, px, py, h2, h3, h4, h5, h6, h7, h8, h9, hb9⟩ | ⟨h1, n9, m9, r9, h2, h3, h4, h5, hb9⟩ | ⟨h1, h2⟩⟩ := h
  · exact ⟨hF9, Or.inl ⟨h1, n9, m9, r9, px, py, h2, h3, h4, h5, h6, h7, h8, h9, by omega⟩⟩
  · exact ⟨hF9, Or.inr (Or.inl ⟨h1, n9, m9, r9, h2, h3, h4, h5, by omega⟩)⟩
  · exact ⟨hF9, Or.inr (Or.inr ⟨h1, h2⟩)⟩
/-- x is asked next -/
theorem pair_X1 {F : zF} {T : zT} {M f d t n p : Nat} {e : Int32} {c : zC} {r : zR} {mm : zR → zR} {MO : zR → Int32 → Prop} (hS : zSim F T M f d) (ht : t + (d + 1) < 16) (hX : Prt F T d e 0 (f_x F (ix e))) (hY : Prt F T d e 1 (f_y F (ix e))) (hD : ∀ j, Sb F d (f_x F (ix e)) j → ¬ Sb F d (f_y F (ix e)) j) (hm : Mem F T f t e mm MO) :
    ∀ (τ : Nat) (c1 : zC) (r1 r0 : zR) (w : Int32) (n1 m1 p1 : Nat), Mid F T f d t e c r n c1 r1 w n1 m1 → f + 1 ≤ n1 + τ → ¬ c_st c1 (ix e) = 2 → q_safe T (r1, w) → q_step T e w r1 = q_ask T e 0 1 r0 → Ro r1 r0 → Nm F r0 → FrR (fun j => j = ix e ∨ Sb F d (f_x F (ix e)) j) r1 r0 → Idl F d (f_x F (ix e)) (p_x1 F e c1) (pu r0 e 1 t (f_x F (ix e))) p1 → m1 + p1 + zK d n + 20 * n ≤ p + zK d n1 + 20 * n1 + 3 →
      PairedS 1 F T f d t e MO c r p n n1 m1 p1 (c_st c1 (ix e) = 0) (p_pairL F (p_all F M d) e τ c1) := by
  intro τ
  induction τ with
  | zero =>
    intro c1 r1 r0 w n1 m1 p1 hM hτ hst hs hq hR hN hF hI hE
    have := hM.2.1.2.2.1.2.1
    omega
  | succ τ ihτ =>
    intro c1 r1 r0 w n1 m1 p1 hM hτ hst hs hq hR hN hF hI hE
    obtain ⟨hx, hpx, hne, hsub⟩ := hX
    obtain ⟨hy, hpy, hney, hsuby⟩ := hY
    have hxe : ix (f_x F (ix e)) ≠ ix e := ne_of hx hne
    have hye : ix (f_y F (ix e)) ≠ ix e := ne_of hy hney
    have hxy : ¬ Sb F d (f_y F (ix e)) (ix (f_x F (ix e))) := hD _ (Tr_self hx)
    have hM1 := mid_c hM (x1_F (D := Sb F (d + 1) e) (Or.inl rfl) (hsub _ (Tr_self hx))) (x1_g F e c1)
    have hA := mid_ask (p := p) r0 hS ht hM1 hs hx hne hsub hq hpx hR hN hF hI
    have hpe : p_pairL F (p_all F M d) e (τ + 1) c1 = (let q := p_all F M d (f_x F (ix e)) (p_x1 F e c1); if q.1 = 1 then
        let q2 := p_all F M d (f_y F (ix e)) (s_st (s_st q.2 e 2) (f_y F (ix e)) 0)
        if q2.1 = 0 then p_pairL F (p_all F M d) e τ (s_st q2.2 e 1) else q2
      else q) := by
      show (if c_st c1 (ix e) = 2 then _ else _) = _
      rw [if_neg hst]; rfl
    generalize p_all F M d (f_x F (ix e)) (p_x1 F e c1) = q at hA hpe
    obtain ⟨v, c2⟩ := q
    obtain ⟨hFc, ⟨hv, n2, m2, r2, p3, hn, hM2, hph, -, -, -, -, hFr, hgv, hL, hb⟩ | ⟨hv, n2, m2, r2, hn, hfr, hM2, hph, -, -, -, -, hFr, hb⟩ | ⟨hv, n2, hn, herr⟩⟩ := hA
    · dsimp only at hv; subst hv
      simp only [if_true] at hpe
      obtain ⟨hmr, hmn, hmf, hmg, hmo⟩ := hm.1 r2
      have hF3 : FrC (Sb F (d + 1) e) c2 (s_st (s_st c2 e 2) (f_y F (ix e)) 0) := (fc_st (Or.inl rfl)).tr (fc_st (hsuby _ (Tr_self hy)))
      have hst3 : c_st (s_st (s_st c2 e 2) (f_y F (ix e)) 0) (ix e) = 2 := (pk_un (Ne.symm hye)).trans pk_us
      have hst0 : c_st (s_st (s_st c2 e 2) (f_y F (ix e)) 0) (ix (f_y F (ix e))) = 0 := pk_us
      have hB := mid_ask (p := p) (p1 := 0) (u_ph (mm r2) (f_y F (ix e)) 0) hS ht (mid_c hM2 hF3 rfl) (hm.2.2.2.2 _ _ _ _ hM2.2.1 (by decide) (Or.inl hph)) hy hney hsuby (by rw [hm.2.2.1 r2 hph, q_first_eq hpy]) hpy hmr (hmn hM2.2.1.1) ((hmf.wk fun _ h => Or.inl h).tr (fr_ph (Or.inr (Tr_self hy)))) (id_fresh hy hney hst0)
      generalize p_all F M d (f_y F (ix e)) (s_st (s_st c2 e 2) (f_y F (ix e)) 0) = q at hB hpe
      obtain ⟨v, c4⟩ := q
      -- x keeps its state while y is asked
      have keep : ∀ r4 : zR, FrC (Sb F d (f_y F (ix e))) (s_st (s_st c2 e 2) (f_y F (ix e)) 0) c4 → FrR (fun j => j = ix e ∨ Sb F d (f_y F (ix e)) j) r2 r4 → Lv F d (f_x F (ix e)) c4 r4 p3 ∧ c_rs c4 (ix (f_x F (ix e))) = c_rs c2 (ix (f_x F (ix e))) := fun r4 hC hR4 => by
        have hC' : FrC (fun j => j = ix e ∨ Sb F d (f_y F (ix e)) j) c2 c4 := ((fc_st (Or.inl rfl)).tr (fc_st (Or.inr (Tr_self hy)))).tr (hC.wk fun _ h => Or.inr h)
        have hout : ∀ j, Sb F d (f_x F (ix e)) j → ¬ (j = ix e ∨ Sb F d (f_y F (ix e)) j) := fun j hj h => by
          rcases h with h | h
          · exact hne (h ▸ hj)
          · exact hD j hj h
        exact ⟨Lv_cong d _ _ (Ag.of hC' hR4 hout hout) hL, (hC' _ (hout _ (Tr_self hx))).2.1⟩
      obtain ⟨hFd, ⟨hv, n3, m3, r3, p4, hn3, hM3, hph3, hnm3, hk3, -, -, hFr3, hgv3, hL3, hb3⟩ | ⟨hv, n3, m3, r3, hn3, hfr3, hM3, hph3, -, -, -, -, hFr3, hb3⟩ | ⟨hv, n3, hn3, herr⟩⟩ := hB
      · dsimp only at hv; subst hv
        have hp : p_pairL F (p_all F M d) e (τ + 1) c1 = (1, c4) := by rw [hpe]; simp
        obtain ⟨hLx, hrs⟩ := keep r3 hFd hFr3
        rw [hp]
        refine ⟨hM3.2.2.2.1, Or.inl ⟨rfl, n3, _, r3, p3, p4, by omega, hM3, hph3, (hFd _ hney).1.trans hst3, ?_, hgv3, hLx, hL3, by omega⟩⟩
        rw [hrs, ← hgv]
        exact hm.2.1 (mm r2) r3 _ hnm3 hk3 hmo
      · dsimp only at hv; subst hv
        have hn4 := hfr3 hst0
        have hp : p_pairL F (p_all F M d) e (τ + 1) c1 = p_pairL F (p_all F M d) e τ (s_st c4 e 1) := by rw [hpe]; simp
        obtain ⟨hLx, -⟩ := keep r3 hFd hFr3
        have hst5 : c_st (s_st c4 e 1) (ix e) = 1 := pk_us
        have hI5 : Idl F d (f_x F (ix e)) (p_x1 F e (s_st c4 e 1)) (pu r3 e 1 t (f_x F (ix e))) p3 := by
          unfold p_x1; rw [if_neg (by rw [hst5]; decide)]
          exact id_live hne hLx ((fc_st (D := fun j => j = ix e) rfl).tr (fc_st (D := fun j => j = ix e) rfl))
        have ih := ihτ (s_st c4 e 1) r3 r3 2 n3 _ p3 (mid_c hM3 (fc_st (Or.inl rfl)) rfl) (by omega) (by rw [hst5]; decide) (hm.2.2.2.2 _ _ _ _ hM3.2.1 (by decide) (Or.inr (Or.inl hph3))) (hm.2.2.2.1 r3 hph3) ⟨rfl, rfl, rfl, rfl⟩ hM3.2.1.1 FrR.rf hI5 (by omega)
        rw [hp]
        generalize p_pairL F (p_all F M d) e τ (s_st c4 e 1) = q at ih
        obtain ⟨hF9, ⟨h1, n9, m9, r9, px, py, h2, h3, h4, h5, h6, h7, h8, h9, hb9⟩ | ⟨h1, n9, m9, r9, h2, h3, h4, h5, hb9⟩ | ⟨h1, h2⟩⟩ := ih
        · exact ⟨hF9, Or.inl ⟨h1, n9, m9, r9, px, py, by omega, h3, h4, h5, h6, h7, h8, h9, by omega⟩⟩
        · exact ⟨hF9, Or.inr (Or.inl ⟨h1, n9, m9, r9, by omega, fun _ => by omega, h4, h5, by omega⟩)⟩
        · exact ⟨hF9, Or.inr (Or.inr ⟨h1, h2⟩)⟩
      · have hp : p_pairL F (p_all F M d) e (τ + 1) c1 = (v, c4) := by rw [hpe]; simp [neg0 hv]
        rw [hp]
        exact ⟨(hM2.2.2.2.1.tr hF3).tr (hFd.wk hsuby), Or.inr (Or.inr ⟨hv, fun c3 hg hF9 => herr c3 v hg rfl hF9 (by omega)⟩)⟩
    · dsimp only at hv; subst hv
      have hp : p_pairL F (p_all F M d) e (τ + 1) c1 = (0, c2) := by rw [hpe]; simp
      rw [hp]
      exact ⟨hM2.2.2.2.1, Or.inr (Or.inl ⟨rfl, n2, _, r2, hn, fun h => hfr (x1_f hxe h), hM2, hph, by omega⟩)⟩
    · have hp : p_pairL F (p_all F M d) e (τ + 1) c1 = (v, c2) := by rw [hpe]; simp [neg1 hv]
      rw [hp]
      exact ⟨hM1.2.2.2.1.tr (hFc.wk hsub), Or.inr (Or.inr ⟨hv, fun c3 hg hF9 => herr c3 v hg rfl hF9 (by omega)⟩)⟩
theorem pair_X {F : zF} {T : zT} {M f d t n p : Nat} {e : Int32} {c : zC} {r : zR} {mm : zR → zR} {MO : zR → Int32 → Prop} (hS : zSim F T M f d) (ht : t + (d + 1) < 16) (hX : Prt F T d e 0 (f_x F (ix e))) (hY : Prt F T d e 1 (f_y F (ix e))) (hD : ∀ j, Sb F d (f_x F (ix e)) j → ¬ Sb F d (f_y F (ix e)) j) (hm : Mem F T f t e mm MO) :
    ∀ (τ : Nat) (c1 : zC) (r1 r0 : zR) (w : Int32) (n1 m1 p1 : Nat), Mid F T f d t e c r n c1 r1 w n1 m1 → f + 1 ≤ n1 + τ → ¬ c_st c1 (ix e) = 2 → q_safe T (r1, w) → q_step T e w r1 = q_ask T e 0 1 r0 → Ro r1 r0 → Nm F r0 → FrR (fun j => j = ix e ∨ Sb F d (f_x F (ix e)) j) r1 r0 → Idl F d (f_x F (ix e)) (p_x1 F e c1) (pu r0 e 1 t (f_x F (ix e))) p1 → m1 + p1 + zK d n + 20 * n ≤ p + zK d n1 + 20 * n1 + 3 →
      Paired F T f d t e MO c r p n n1 m1 p1 (c_st c1 (ix e) = 0) (p_pairL F (p_all F M d) e τ c1) :=
  fun τ c1 r1 r0 w n1 m1 p1 a1 a2 a3 a4 a5 a6 a7 a8 a9 a10 => pS_0 (pair_X1 hS ht hX hY hD hm τ c1 r1 r0 w n1 m1 p1 a1 a2 a3 a4 a5 a6 a7 a8 a9 a10)
/-- y is asked next -/
theorem pair_Y {F : zF} {T : zT} {M f d t n p : Nat} {e : Int32} {c : zC} {r : zR} {mm : zR → zR} {MO : zR → Int32 → Prop} (hS : zSim F T M f d) (ht : t + (d + 1) < 16) (hX : Prt F T d e 0 (f_x F (ix e))) (hY : Prt F T d e 1 (f_y F (ix e))) (hD : ∀ j, Sb F d (f_x F (ix e)) j → ¬ Sb F d (f_y F (ix e)) j) (hm : Mem F T f t e mm MO)
    (τ : Nat) (c1 : zC) (r1 : zR) (w : Int32) (n1 m1 px py : Nat) (hM : Mid F T f d t e c r n c1 r1 w n1 m1) (hτ : f + 1 ≤ n1 + τ) (hst : c_st c1 (ix e) = 2) (hs : q_safe T (r1, w)) (hq : q_step T e w r1 = q_ask T e 1 2 r1) (hLx : Lv F d (f_x F (ix e)) c1 r1 px) (hLy : Lv F d (f_y F (ix e)) c1 r1 py) (hmo : MO r1 (c_rs c1 (ix (f_x F (ix e))))) (hE : m1 + px + py + zK d n + 20 * n ≤ p + zK d n1 + 20 * n1 + 2) :
      Paired F T f d t e MO c r p n n1 m1 (px + py) False (p_pairL F (p_all F M d) e (τ + 1) c1) := by
  obtain ⟨hx, hpx, hne, hsub⟩ := hX
  obtain ⟨hy, hpy, hney, hsuby⟩ := hY
  have hA := mid_ask (p := p) r1 hS ht hM hs hy hney hsuby hq hpy ⟨rfl, rfl, rfl, rfl⟩ hM.2.1.1 FrR.rf (id_live hney hLy FrC.rf)
  have hpe : p_pairL F (p_all F M d) e (τ + 1) c1 = (let q := p_all F M d (f_y F (ix e)) c1; if q.1 = 0 then p_pairL F (p_all F M d) e τ (s_st q.2 e 1) else q) := by
    show (if c_st c1 (ix e) = 2 then _ else _) = _
    rw [if_pos hst]
  generalize p_all F M d (f_y F (ix e)) c1 = q at hA hpe
  obtain ⟨v, c4⟩ := q
  have keep : ∀ r4 : zR, FrC (Sb F d (f_y F (ix e))) c1 c4 → FrR (fun j => j = ix e ∨ Sb F d (f_y F (ix e)) j) r1 r4 → Lv F d (f_x F (ix e)) c4 r4 px ∧ c_rs c4 (ix (f_x F (ix e))) = c_rs c1 (ix (f_x F (ix e))) := fun r4 hC hR4 => by
    have hout : ∀ j, Sb F d (f_x F (ix e)) j → ¬ (j = ix e ∨ Sb F d (f_y F (ix e)) j) := fun j hj h => by
      rcases h with h | h
      · exact hne (h ▸ hj)
      · exact hD j hj h
    exact ⟨Lv_cong d _ _ (Ag.of hC hR4 (fun j hj => hD j hj) hout) hLx, (hC _ (hD _ (Tr_self hx))).2.1⟩
  obtain ⟨hFd, ⟨hv, n3, m3, r3, p4, hn3, hM3, hph3, hnm3, hk3, -, -, hFr3, hgv3, hL3, hb3⟩ | ⟨hv, n3, m3, r3, hn3, hfr3, hM3, hph3, -, -, -, -, hFr3, hb3⟩ | ⟨hv, n3, hn3, herr⟩⟩ := hA
  · dsimp only at hv; subst hv
    have hp : p_pairL F (p_all F M d) e (τ + 1) c1 = (1, c4) := by rw [hpe]; simp
    obtain ⟨hLx4, hrs⟩ := keep r3 hFd hFr3
    rw [hp]
    refine ⟨hM3.2.2.2.1, Or.inl ⟨rfl, n3, _, r3, px, p4, hn3, hM3, hph3, (hFd _ hney).1.trans hst, ?_, hgv3, hLx4, hL3, by omega⟩⟩
    rw [hrs]
    exact hm.2.1 r1 r3 _ hnm3 hk3 hmo
  · dsimp only at hv; subst hv
    have hp : p_pairL F (p_all F M d) e (τ + 1) c1 = p_pairL F (p_all F M d) e τ (s_st c4 e 1) := by rw [hpe]; simp
    obtain ⟨hLx4, -⟩ := keep r3 hFd hFr3
    have hst5 : c_st (s_st c4 e 1) (ix e) = 1 := pk_us
    have hI5 : Idl F d (f_x F (ix e)) (p_x1 F e (s_st c4 e 1)) (pu r3 e 1 t (f_x F (ix e))) px := by
      unfold p_x1; rw [if_neg (by rw [hst5]; decide)]
      exact id_live hne hLx4 ((fc_st (D := fun j => j = ix e) rfl).tr (fc_st (D := fun j => j = ix e) rfl))
    have ih := pair_X1 hS ht ⟨hx, hpx, hne, hsub⟩ ⟨hy, hpy, hney, hsuby⟩ hD hm (n := n) (p := p) (c := c) (r := r) τ (s_st c4 e 1) r3 r3 2 n3 _ px (mid_c hM3 (fc_st (Or.inl rfl)) rfl) (by omega) (by rw [hst5]; decide) (hm.2.2.2.2 _ _ _ _ hM3.2.1 (by decide) (Or.inr (Or.inl hph3))) (hm.2.2.2.1 r3 hph3) ⟨rfl, rfl, rfl, rfl⟩ hM3.2.1.1 FrR.rf hI5 (by omega)
    rw [hp]
    generalize p_pairL F (p_all F M d) e τ (s_st c4 e 1) = q at ih
    obtain ⟨hF9, ⟨h1, n9, m9, r9, px9, py9, h2, h3, h4, h5, h6, h7, h8, h9, hb9⟩ | ⟨h1, n9, m9, r9, h2, h3, h4, h5, hb9⟩ | ⟨h1, h2⟩⟩ := ih
    · exact ⟨hF9, Or.inl ⟨h1, n9, m9, r9, px9, py9, by omega, h3, h4, h5, h6, h7, h8, h9, by omega⟩⟩
    · exact ⟨hF9, Or.inr (Or.inl ⟨h1, n9, m9, r9, by omega, fun h => h.elim, h4, h5, by omega⟩)⟩
    · exact ⟨hF9, Or.inr (Or.inr ⟨h1, h2⟩)⟩
  · have hp : p_pairL F (p_all F M d) e (τ + 1) c1 = (v, c4) := by rw [hpe]; simp [neg0 hv]
    rw [hp]
    exact ⟨hM.2.2.2.1.tr (hFd.wk hsuby), Or.inr (Or.inr ⟨hv, fun c3 hg hF9 => herr c3 v hg rfl hF9 (by omega)⟩)⟩
