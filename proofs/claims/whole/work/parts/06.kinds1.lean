/-! Kind by kind: leaves and kinds of one part. -/
theorem zK_m (d : Nat) {a b : Nat} (h : a ≤ b) : zK d a ≤ zK d b := Nat.mul_le_mul_left _ h
theorem go_pop1 {T : zT} {e w : Int32} {r r0 : zR} {t : Nat} (hs : q_safe T (r, w)) (ht : t < 15) (htp : r_tp r = nI (t + 1)) (hsk : r_sk r t = e) (hq : q_step T e w r = (1, r0)) (h0 : r_tp r0 = nI (t + 1)) (he : r_er r0 = 0) : Go T 1 (r, w) (u_tp r0 (nI t), 1) := by
  have h := go_pop hs ht htp hsk hq (by decide) h0 he
  rw [if_pos rfl] at h
  exact h
theorem go_pop0 {T : zT} {e w : Int32} {r r0 : zR} {t : Nat} (hs : q_safe T (r, w)) (ht : t < 15) (htp : r_tp r = nI (t + 1)) (hsk : r_sk r t = e) (hq : q_step T e w r = (0, r0)) (h0 : r_tp r0 = nI (t + 1)) (he : r_er r0 = 0) : Go T 1 (r, w) (u_tp r0 (nI t), 2) := by
  have h := go_pop hs ht htp hsk hq (by decide) h0 he
  rw [if_neg (by decide)] at h
  exact h
/-- the numbers that hold throughout: the fuel, the turns of a loop -/
def Ok (F : zF) (T : zT) (M f : Nat) : Prop := f_f F = nI f ∧ t_f T = nI f ∧ f ≤ 2000 ∧ 3000 ≤ M
theorem sm_leaf {F : zF} {T : zT} {M f d t n p : Nat} {e v : Int32} {c : zC} {r : zR} (hO : Ok F T M f) (hT : Tr F T (d + 1) e) (hk : f_k F (ix e) = 0 ∨ f_k F (ix e) = 1) (ht : t + (d + 1) < 16) (hU : zUp F f t e c r n) (hI : Idl F (d + 1) e c r p) (hv : v = if f_k F (ix e) = 0 then f_n F (ix e) else g_va (c_g c) (ix (f_n F (ix e)))) : Out F T f (d + 1) t e c r p n (p_leaf F e v c) := by
  obtain ⟨hf1, hf2, hf3, -⟩ := hO
  have hs : q_safe T (r, 0) := safe_of hT (by omega) hU (fun h => by rcases hk with h1 | h1 <;> rw [h1] at h <;> simp at h) (fun h => by rcases hk with h1 | h1 <;> rw [h1] at h <;> simp at h)
  obtain ⟨hN, hg, ⟨hsp, hnf, w, hw, hwc⟩, her, htp, hsk⟩ := hU
  have htk : t_k T (ix e) = f_k F (ix e) := by
    rw [hT.2.2.1]; unfold t_kc; rw [if_pos (by rcases hk with h | h <;> rw [h] <;> decide)]
  have hnm : r_nm r (ix e) = f_n F (ix e) := hN _ (by rcases hk with h | h <;> rw [h] <;> decide)
  have hst : q_step T e 0 r = q_leaf T e r := by
    unfold q_step; simp only [htk]; rw [if_pos (by rcases hk with h | h <;> rw [h] <;> decide)]
  have hm := zK_m d (Nat.le_add_right n 1)
  rcases hI with ⟨h1, h2, rfl⟩ | hL
  · have hq : q_leaf T e r = q_paid T v (u_ph r e 1) := by
      unfold q_leaf; rw [if_neg (by rw [h2]; decide)]
      show q_paid T (if t_k T (ix e) = 0 then r_nm r (ix e) else g_va (r_g r) (ix (r_nm r (ix e)))) (u_ph r e 1) = _
      rw [htk, hnm, hg, ← hv]
    have hp : p_leaf F e v c = p_fuel F e v (s_st c e 5) := by unfold p_leaf; rw [if_pos h1]
    by_cases hn : n = f
    · have e1 : p_fuel F e v (s_st c e 5) = (-5, s_st c e 5) := by
        unfold p_fuel; rw [if_neg]; show ¬ g_sp (c_g c) < f_f F; rw [hf1, hsp, hn]; exact Int32.lt_irrefl
      have e2 : q_paid T v (u_ph r e 1) = (0, u_er (u_ph r e 1) (-5)) := by
        unfold q_paid; rw [if_pos]; show g_sp (r_g r) = t_f T; rw [hg, hsp, hf2, hn]
      rw [hp, e1]
      exact ⟨n, Nat.le_refl _, fc_st (Or.inl rfl), Or.inr (Or.inr ⟨(show (-5 : Int32) < 0 by decide), ⟨hsp, hnf, w, hw, hwc⟩, 0, r, 0, rfl, bad_of hs (by omega) htp hsk (hst.trans (hq.trans e2)) rfl hg, by omega⟩)⟩
    · have e1 : p_fuel F e v (s_st c e 5) = (1, s_rs (s_g (s_st c e 5) (h_sp (c_g c))) e v) := by
        unfold p_fuel
        rw [if_pos]
        · rfl
        · show g_sp (c_g c) < f_f F
          rw [hf1, hsp, nI_ltI (by omega) (by omega)]; omega
      have e2 : q_paid T v (u_ph r e 1) = (1, u_gv (u_g (u_ph r e 1) (h_sp (r_g r))) v) := by
        unfold q_paid
        rw [if_neg]
        · rfl
        · show ¬ g_sp (r_g r) = t_f T
          rw [hg, hsp, hf2, nI_eq (by omega) (by omega)]; exact hn
      rw [hp, e1]
      refine ⟨n + 1, by omega, ((fc_st (Or.inl rfl)).tr fc_g).tr (fc_rs (Or.inl rfl)), Or.inl ⟨rfl, by omega, 1, _, 4, go_pop1 hs (by omega) htp hsk (hst.trans (hq.trans e2)) htp her, ⟨hN, ?_, ⟨?_, by omega, w, hw, hwc⟩, her, rfl, fun _ _ => rfl⟩, ((fr_ph (Or.inl rfl)).tr fr_g).tr (fr_gv.tr fr_tp), ?_, ?_, ?_⟩⟩
      · show h_sp (r_g r) = h_sp (c_g c); rw [hg]
      · show g_sp (c_g c) + 1 = nI (n + 1); rw [hsp, nI_succ]
      · exact (pk_us (f := c_rs (s_g (s_st c e 5) (h_sp (c_g c))))).symm
      · rcases hk with h | h
        · exact (Lv_0 h).mpr ⟨pk_us, pk_us, rfl⟩
        · exact (Lv_1 h).mpr ⟨pk_us, pk_us, rfl⟩
      · rw [zK_s, zK_s]; omega
  · have hL' : c_st c (ix e) = 5 ∧ r_ph r (ix e) = 1 ∧ p = 4 := by
      rcases hk with h | h
      · exact (Lv_0 h).mp hL
      · exact (Lv_1 h).mp hL
    obtain ⟨h1, h2, rfl⟩ := hL'
    have hq : q_leaf T e r = (0, r) := by unfold q_leaf; rw [if_pos h2]
    have hp : p_leaf F e v c = (0, c) := by unfold p_leaf; rw [if_neg (by rw [h1]; decide)]
    rw [hp]
    exact ⟨n, Nat.le_refl _, FrC.rf, Or.inr (Or.inl ⟨rfl, fun h => absurd (h.symm.trans h1) (by decide), 1, _, go_pop0 hs (by omega) htp hsk (hst.trans hq) htp her, ⟨hN, hg, ⟨hsp, hnf, w, hw, hwc⟩, her, rfl, fun _ _ => rfl⟩, fr_tp, by omega⟩)⟩
theorem fr_pu {D : Nat → Prop} {r : zR} {e th x : Int32} {t : Nat} (h : D (ix e)) : FrR D r (pu r e th t x) := fun j hj => ⟨pk_un fun q => hj (q ▸ h), rfl, rfl, rfl, rfl⟩
theorem ne_of {F : zF} {T : zT} {d : Nat} {x e : Int32} (hx : Tr F T d x) (hne : ¬ Sb F d x (ix e)) : ix x ≠ ix e := fun q => hne (q ▸ Tr_self hx)
theorem id_fresh {F : zF} {T : zT} {d t : Nat} {e x th : Int32} {c1 : zC} {r : zR} (hx : Tr F T d x) (hne : ¬ Sb F d x (ix e)) (hc : c_st c1 (ix x) = 0) : Idl F d x c1 (pu (u_ph r x 0) e th t x) 0 :=
  have hxe : ix x ≠ ix e := fun q => hne (q ▸ Tr_self hx)
  Or.inl ⟨hc, (pk_un hxe).trans pk_us, rfl⟩
theorem id_live {F : zF} {d t p : Nat} {e x th : Int32} {c c1 : zC} {r : zR} (hne : ¬ Sb F d x (ix e)) (hL : Lv F d x c r p) (hC : FrC (fun j => j = ix e) c c1) : Idl F d x c1 (pu r e th t x) p :=
  Or.inr (Lv_cong d x p (Ag.of hC (fr_pu (D := fun j => j = ix e) rfl) (fun _ h q => hne (q ▸ h)) (fun _ h q => hne (q ▸ h))) hL)
theorem neg1 {v : Int32} (h : v < 0) : ¬ v = 1 := fun q => by rw [q] at h; exact absurd h (by decide)
theorem neg0 {v : Int32} (h : v < 0) : ¬ v = 0 := fun q => by rw [q] at h; exact absurd h (by decide)
/-- on the way through e: m turns are done, e is on top again with news w -/
def Mid (F : zF) (T : zT) (f d t : Nat) (e : Int32) (c : zC) (r : zR) (n : Nat) (c' : zC) (r' : zR) (w : Int32) (n' m : Nat) : Prop :=
  Go T m (r, 0) (r', w) ∧ zUp F f t e c' r' n' ∧ (∀ j, j < t → r_sk r' j = r_sk r j) ∧ FrC (Sb F (d + 1) e) c c' ∧ FrR (Sb F (d + 1) e) r r' ∧ n ≤ n'
theorem mid_0 {F : zF} {T : zT} {f d t n : Nat} {e : Int32} {c : zC} {r : zR} (hU : zUp F f t e c r n) : Mid F T f d t e c r n c r 0 n 0 := ⟨rfl, hU, fun _ _ => rfl, FrC.rf, FrR.rf, Nat.le_refl _⟩
theorem mid_c {F : zF} {T : zT} {f d t n n' m : Nat} {e w : Int32} {c c' c2 : zC} {r r' : zR} (h : Mid F T f d t e c r n c' r' w n' m) (hF : FrC (Sb F (d + 1) e) c' c2) (hg : c_g c2 = c_g c') : Mid F T f d t e c r n c2 r' w n' m := by
  obtain ⟨h1, ⟨k1, k2, k3, k4, k5, k6⟩, h3, h4, h5, h6⟩ := h
  exact ⟨h1, ⟨k1, k2.trans hg.symm, by rw [hg]; exact k3, k4, k5, k6⟩, h3, h4.tr hF, h5, h6⟩
/-- r0 is r but for rows of nodes -/
def Ro (r r0 : zR) : Prop := r_g r0 = r_g r ∧ r_er r0 = r_er r ∧ r_tp r0 = r_tp r ∧ r_sk r0 = r_sk r
/-- what asking the part x from the way through e comes to -/
def Asked (F : zF) (T : zT) (f d t : Nat) (e x th : Int32) (c : zC) (r : zR) (p n : Nat) (c1 : zC) (r1 r0 : zR) (n1 m p1 : Nat) (q : Int32 × zC) : Prop :=
  FrC (Sb F d x) c1 q.2 ∧
  ((q.1 = 1 ∧ ∃ n2 m2 r2 p2, n1 < n2 ∧ Mid F T f d t e c r n q.2 r2 1 n2 (m + 1 + m2) ∧ r_ph r2 (ix e) = th ∧ r_nm r2 (ix e) = r_nm r0 (ix e) ∧ r_kp r2 (3 * ix e) = r_kp r0 (3 * ix e) ∧ r_kp r2 (3 * ix e + 1) = r_kp r0 (3 * ix e + 1) ∧ r_kp r2 (3 * ix e + 2) = r_kp r0 (3 * ix e + 2) ∧
      FrR (fun j => j = ix e ∨ Sb F d x j) r1 r2 ∧ r_gv r2 = c_rs q.2 (ix x) ∧ Lv F d x q.2 r2 p2 ∧ m2 + p2 + zK d n1 ≤ p1 + zK d n2) ∨
   (q.1 = 0 ∧ ∃ n2 m2 r2, n1 ≤ n2 ∧ (c_st c1 (ix x) = 0 → n1 < n2) ∧ Mid F T f d t e c r n q.2 r2 2 n2 (m + 1 + m2) ∧ r_ph r2 (ix e) = th ∧ r_nm r2 (ix e) = r_nm r0 (ix e) ∧ r_kp r2 (3 * ix e) = r_kp r0 (3 * ix e) ∧ r_kp r2 (3 * ix e + 1) = r_kp r0 (3 * ix e + 1) ∧ r_kp r2 (3 * ix e + 2) = r_kp r0 (3 * ix e + 2) ∧
      FrR (fun j => j = ix e ∨ Sb F d x j) r1 r2 ∧ m2 + zK d n1 ≤ p1 + zK d n2) ∨
   (q.1 < 0 ∧ ∃ n2, n1 ≤ n2 ∧ ∀ c3 v, c_g c3 = c_g q.2 → v = q.1 → FrC (Sb F (d + 1) e) c c3 → m + p1 + zK d n + 20 * n ≤ p + zK d n1 + 20 * n1 + 3 → Out F T f (d + 1) t e c r p n (v, c3)))
theorem mid_ask {F : zF} {T : zT} {M f d t n n1 m p p1 : Nat} {e x w i th : Int32} {c c1 : zC} {r r1 : zR} (r0 : zR) (hS : zSim F T M f d) (ht : t + (d + 1) < 16) (hM : Mid F T f d t e c r n c1 r1 w n1 m) (hs : q_safe T (r1, w)) (hx : Tr F T d x) (hne : ¬ Sb F d x (ix e)) (hsub : ∀ j, Sb F d x j → Sb F (d + 1) e j)
    (hq : q_step T e w r1 = q_ask T e i th r0) (hpx : t_p T (ix (3 * e + i)) = x) (hR : Ro r1 r0) (hN : Nm F r0) (hF : FrR (fun j => j = ix e ∨ Sb F d x j) r1 r0) (hI : Idl F d x c1 (pu r0 e th t x) p1) : Asked F T f d t e x th c r p n c1 r1 r0 n1 m p1 (p_all F M d x c1) := by
  obtain ⟨h1, ⟨k1, k2, k3, k4, k5, k6⟩, h3, h4, h5, h6⟩ := hM
  obtain ⟨g1, g2, g3, g4⟩ := hR
  have hU0 : zUp F f t e c1 r0 n1 := ⟨hN, g1.trans k2, k3, g2.trans k4, g3.trans k5, (congrFun g4 t).trans k6⟩
  have hgo := go_push hs (by omega) k5 k6 hq hU0.2.2.2.2.1 hU0.2.2.2.1 hpx
  have hin : ∀ j, (j = ix e ∨ Sb F d x j) → Sb F (d + 1) e j := fun j h => by
    rcases h with h | h
    · exact Or.inl h
    · exact hsub j h
  obtain ⟨n2, hn, hFc, h⟩ := child hS hx hne hU0 ht rfl hI rfl
  generalize p_all F M d x c1 = q at hFc h ⊢
  refine ⟨hFc, ?_⟩
  have rows : ∀ r2 : zR, FrR (Sb F d x) (pu r0 e th t x) r2 → r_nm r2 (ix e) = r_nm r0 (ix e) ∧ r_kp r2 (3 * ix e) = r_kp r0 (3 * ix e) ∧ r_kp r2 (3 * ix e + 1) = r_kp r0 (3 * ix e + 1) ∧ r_kp r2 (3 * ix e + 2) = r_kp r0 (3 * ix e + 2) := fun r2 h => (h _ hne).2
  have fall : ∀ r2 : zR, FrR (Sb F d x) (pu r0 e th t x) r2 → FrR (fun j => j = ix e ∨ Sb F d x j) r1 r2 := fun r2 h => hF.tr ((fr_pu (Or.inl rfl)).tr (h.wk fun _ q => Or.inr q))
  rcases h with ⟨a1, a2, m2, r2, p2, b1, b2, b3, b4, b5, b6, b7, b8⟩ | ⟨a1, a2, m2, r2, b1, b2, b3, b4, b5, b8⟩ | ⟨a1, a2, m2, r2, w2, b1, b2, b3⟩
  · obtain ⟨e1, e2, e3, e4⟩ := rows r2 b5
    exact Or.inl ⟨a1, n2, m2, r2, p2, a2, ⟨Go_trans _ _ _ _ _ (Go_trans _ _ _ _ _ h1 hgo) b1, b2, fun j hj => (b4 j hj).trans ((congrFun g4 j).trans (h3 j hj)), h4.tr (hFc.wk hsub), h5.tr ((fall r2 b5).wk hin), by omega⟩, b3, e1, e2, e3, e4, fall r2 b5, b6, b7, b8⟩
  · obtain ⟨e1, e2, e3, e4⟩ := rows r2 b5
    exact Or.inr (Or.inl ⟨a1, n2, m2, r2, hn, a2, ⟨Go_trans _ _ _ _ _ (Go_trans _ _ _ _ _ h1 hgo) b1, b2, fun j hj => (b4 j hj).trans ((congrFun g4 j).trans (h3 j hj)), h4.tr (hFc.wk hsub), h5.tr ((fall r2 b5).wk hin), by omega⟩, b3, e1, e2, e3, e4, fall r2 b5, b8⟩)
  · refine Or.inr (Or.inr ⟨a1, n2, hn, fun c3 v hg hv hF3 hb => ?_⟩)
    subst hv
    refine ⟨n2, by omega, hF3, Or.inr (Or.inr ⟨a1, by rw [hg]; exact a2, m + 1 + m2, r2, w2, Go_trans _ _ _ _ _ (Go_trans _ _ _ _ _ h1 hgo) b1, by rw [hg]; exact b2, ?_⟩)⟩
    have := zK_m d hn
    rw [zK_s, zK_s]; omega
/-- the way ends with a result -/
theorem mid_one {F : zF} {T : zT} {f d t n n1 m p p' : Nat} {e w : Int32} {c c1 c2 : zC} {r r1 : zR} (r0 : zR) (ht : t + (d + 1) < 16) (hM : Mid F T f d t e c r n c1 r1 w n1 m) (hs : q_safe T (r1, w)) (hq : q_step T e w r1 = (1, r0)) (h0 : r_er r0 = r_er r1 ∧ r_tp r0 = r_tp r1 ∧ r_sk r0 = r_sk r1) (hN : Nm F r0) (hg : r_g r0 = c_g c2) (hG : Gk f (c_g c2) n1)
    (hF : FrR (Sb F (d + 1) e) r1 r0) (hC : FrC (Sb F (d + 1) e) c1 c2) (hv : r_gv r0 = c_rs c2 (ix e)) (hL : Lv F (d + 1) e c2 (u_tp r0 (nI t)) p') (hn : n < n1) (hb : m + 1 + p' + zK (d + 1) n ≤ p + zK (d + 1) n1) : Out F T f (d + 1) t e c r p n (1, c2) := by
  obtain ⟨h1, ⟨k1, k2, k3, k4, k5, k6⟩, h3, h4, h5, h6⟩ := hM
  obtain ⟨g2, g3, g4⟩ := h0
  exact ⟨n1, h6, h4.tr hC, Or.inl ⟨rfl, hn, m + 1, _, p', Go_trans _ _ _ _ _ h1 (go_pop1 hs (by omega) k5 k6 hq (g3.trans k5) (g2.trans k4)), ⟨hN, hg, hG, g2.trans k4, rfl, fun j hj => (congrFun g4 j).trans (h3 j hj)⟩, h5.tr (hF.tr fr_tp), hv, hL, hb⟩⟩
/-- the way ends: it fails -/
theorem mid_zero {F : zF} {T : zT} {f d t n n1 m p : Nat} {e w : Int32} {c c1 c2 : zC} {r r1 : zR} (r0 : zR) (ht : t + (d + 1) < 16) (hM : Mid F T f d t e c r n c1 r1 w n1 m) (hs : q_safe T (r1, w)) (hq : q_step T e w r1 = (0, r0)) (hR : Ro r1 r0) (hN : Nm F r0) (hF : FrR (Sb F (d + 1) e) r1 r0) (hC : FrC (Sb F (d + 1) e) c1 c2) (hg : c_g c2 = c_g c1)
    (hn : c_st c (ix e) = 0 → n < n1) (hb : m + 1 + zK (d + 1) n ≤ p + zK (d + 1) n1) : Out F T f (d + 1) t e c r p n (0, c2) := by
  obtain ⟨h1, ⟨k1, k2, k3, k4, k5, k6⟩, h3, h4, h5, h6⟩ := hM
  obtain ⟨g1, g2, g3, g4⟩ := hR
  exact ⟨n1, h6, h4.tr hC, Or.inr (Or.inl ⟨rfl, hn, m + 1, _, Go_trans _ _ _ _ _ h1 (go_pop0 hs (by omega) k5 k6 hq (g3.trans k5) (g2.trans k4)), ⟨hN, g1.trans (k2.trans hg.symm), by rw [hg]; exact k3, g2.trans k4, rfl, fun j hj => (congrFun g4 j).trans (h3 j hj)⟩, h5.tr (hF.tr fr_tp), hb⟩)⟩
/-- the way ends: an error of e's own -/
theorem mid_bad {F : zF} {T : zT} {f d t n n1 m p : Nat} {e w v : Int32} {c c1 c2 : zC} {r r1 : zR} {q : Int32 × zR} (ht : t + (d + 1) < 16) (hM : Mid F T f d t e c r n c1 r1 w n1 m) (hs : q_safe T (r1, w)) (hq : q_step T e w r1 = q) (he : r_er q.2 = v) (hv : v < 0) (hg : r_g q.2 = c_g c2) (hG : Gk f (c_g c2) n1) (hC : FrC (Sb F (d + 1) e) c1 c2)
    (hb : m + zK (d + 1) n ≤ p + zK (d + 1) n1 + 4 * (d + 1)) : Out F T f (d + 1) t e c r p n (v, c2) := by
  obtain ⟨h1, ⟨k1, k2, k3, k4, k5, k6⟩, h3, h4, h5, h6⟩ := hM
  exact ⟨n1, h6, h4.tr hC, Or.inr (Or.inr ⟨hv, hG, m, r1, w, h1, bad_of hs (by omega) k5 k6 hq he hg, hb⟩)⟩
