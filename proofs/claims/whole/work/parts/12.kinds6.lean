/-! TO. -/
def m_tr (e : Int32) (r : zR) : zR := u_nm r e (r_gv r)
def m_to (e : Int32) (r : zR) (v : Int32) : Prop := r_nm r (ix e) = v
theorem ix_321 {e : Int32} (h : vp_in e 60) : ix (3 * e + 2 - 1) = 3 * ix e + 1 := by
  obtain ⟨j, hj, rfl⟩ := vp_in_of h (by decide)
  have h3 : (3 : Int32) = nI 3 := rfl
  have h2 : (2 : Int32) = nI 2 := rfl
  rw [h3, h2, pk_mul, nI_add, show 3 * j + 2 = (3 * j + 1) + 1 by omega, nI_pred, ix_nI (by omega), ix_nI (by omega)]
theorem ix_331 {e : Int32} (h : vp_in e 60) : ix (3 * e + 3 - 1) = 3 * ix e + 2 := by
  obtain ⟨j, hj, rfl⟩ := vp_in_of h (by decide)
  have h3 : (3 : Int32) = nI 3 := rfl
  rw [h3, pk_mul, nI_add, show 3 * j + 3 = (3 * j + 2) + 1 by omega, nI_pred, ix_nI (by omega), ix_nI (by omega)]
theorem to_q {F : zF} {T : zT} {d : Nat} {e : Int32} (hT : Tr F T (d + 1) e) (hk : f_k F (ix e) = 18) (w : Int32) (r : zR) : q_step T e w r = q_to T e w r := by simp [q_step, hT.2.2.1, hk, t_kc]
theorem to_mem {F : zF} {T : zT} {f d t : Nat} {e : Int32} (hT : Tr F T (d + 1) e) (hk : f_k F (ix e) = 18) (ht : t + (d + 1) < 16) : Mem F T f t e (m_tr e) (m_to e) := by
  refine ⟨fun r => ⟨⟨rfl, rfl, rfl, rfl⟩, fun h j hj => ?_, fr_nm rfl, rfl, pk_us⟩, fun r r' v h1 _ h3 => h1.trans h3, fun r h => ?_, fun r h => ?_, fun c r n w hU hw hph => ?_⟩
  · have hne : j ≠ ix e := fun q => hj (by rw [q]; exact hk)
    exact (pk_un hne).trans (h j hj)
  · rw [to_q hT hk]; simp [q_to, h, m_tr]
  · rw [to_q hT hk]; simp [q_to, h]
  · exact safe_of hT (by omega) hU (fun h => by rw [hk] at h; simp at h) (fun _ _ => hph)
theorem to_q22 {F : zF} {T : zT} {d : Nat} {e : Int32} {r : zR} (hT : Tr F T (d + 1) e) (hk : f_k F (ix e) = 18) (h : r_ph r (ix e) = 3) : q_step T e 2 r = q_ask T e 1 2 r := by
  rw [to_q hT hk]
  unfold q_to
  dsimp only
  rw [if_neg (show ¬ (2 : Int32) = 0 by decide), if_pos (show (2 : Int32) = 2 from rfl), h, if_neg (show ¬ (3 : Int32) = 1 by decide)]
  rfl
theorem to_q12 {F : zF} {T : zT} {d : Nat} {e : Int32} {r : zR} (hT : Tr F T (d + 1) e) (hk : f_k F (ix e) = 18) (h : r_ph r (ix e) = 2) : q_step T e 1 r = q_first T e 2 3 (u_kp r (3 * e + 2 - 1) (r_gv r).toInt64) := by
  rw [to_q hT hk]
  unfold q_to
  dsimp only
  rw [if_neg (show ¬ (1 : Int32) = 0 by decide), if_neg (show ¬ (1 : Int32) = 2 by decide), h, if_neg (show ¬ (2 : Int32) = 1 by decide), if_pos (show (2 : Int32) = 2 from rfl)]
theorem to_q13 {F : zF} {T : zT} {d : Nat} {e : Int32} {r : zR} (hT : Tr F T (d + 1) e) (hk : f_k F (ix e) = 18) (h : r_ph r (ix e) = 3) : q_step T e 1 r = if r_gv r = 0 then (0, u_er (u_kp r (3 * e + 3 - 1) (r_gv r).toInt64) (-3)) else q_on T e (u_kp (u_kp r (3 * e + 3 - 1) (r_gv r).toInt64) (3 * e) (r_nm r (ix e)).toInt64) := by
  rw [to_q hT hk]
  unfold q_to
  dsimp only
  rw [if_neg (show ¬ (1 : Int32) = 0 by decide), if_neg (show ¬ (1 : Int32) = 2 by decide), h, if_neg (show ¬ (3 : Int32) = 1 by decide), if_neg (show ¬ (3 : Int32) = 2 by decide)]
  rfl
def TripledS (sl : Nat) (F : zF) (T : zT) (f d t : Nat) (e : Int32) (c : zC) (r : zR) (p n n1 m1 p1 b : Nat) (fr : Prop) (q : Int32 × zC) : Prop :=
  FrC (Sb F (d + 1) e) c q.2 ∧
  ((q.1 = 1 ∧ ∃ n2 m2 r2 px py pz, n1 < n2 ∧ Mid F T f d t e c r n q.2 r2 1 n2 m2 ∧ r_ph r2 (ix e) = 3 ∧ c_st q.2 (ix e) = 3 ∧ r_nm r2 (ix e) = c_rs q.2 (ix (f_x F (ix e))) ∧ r_kp r2 (3 * ix e + 1) = (c_rs q.2 (ix (f_y F (ix e)))).toInt64 ∧ r_gv r2 = c_rs q.2 (ix (f_z F (ix e))) ∧ Lv F d (f_x F (ix e)) q.2 r2 px ∧ Lv F d (f_y F (ix e)) q.2 r2 py ∧ Lv F d (f_z F (ix e)) q.2 r2 pz ∧ m2 + px + py + pz + sl + zK d n1 + 13 * n1 ≤ m1 + p1 + zK d n2 + 13 * n2) ∨
   (q.1 = 0 ∧ ∃ n2 m2 r2, n1 ≤ n2 ∧ (fr → n1 < n2) ∧ Mid F T f d t e c r n q.2 r2 2 n2 m2 ∧ r_ph r2 (ix e) = 1 ∧ m2 + zK d n1 + 13 * n1 ≤ m1 + p1 + zK d n2 + 13 * n2 + b) ∨
   (q.1 < 0 ∧ ∀ c3, c_g c3 = c_g q.2 → FrC (Sb F (d + 1) e) c c3 → Out F T f (d + 1) t e c r p n (q.1, c3)))
def Tripled (F : zF) (T : zT) (f d t : Nat) (e : Int32) (c : zC) (r : zR) (p n n1 m1 p1 b : Nat) (fr : Prop) (q : Int32 × zC) : Prop := TripledS 0 F T f d t e c r p n n1 m1 p1 b fr q
theorem tS_0 {F : zF} {T : zT} {f d t : Nat} {e : Int32} {c : zC} {r : zR} {p n n1 m1 p1 b : Nat} {fr : Prop} {q : Int32 × zC} (h : TripledS 1 F T f d t e c r p n n1 m1 p1 b fr q) : Tripled F T f d t e c r p n n1 m1 p1 b fr q := by
  obtain ⟨hF9, ⟨h1, n9, m9, r9, qx, qy, qz, h2, h3, h4, h5, h6, h7, h8, k1, k2, k3, hb9⟩ | ⟨h1, n9, m9, r9, h2, h3, h4, h5, hb9⟩ | ⟨h1, h2⟩⟩ := h
  · exact ⟨hF9, Or.inl ⟨h1, n9, m9, r9, qx, qy, qz, h2, h3, h4, h5, h6, h7, h8, k1, k2, k3, by omega⟩⟩
  · exact ⟨hF9, Or.inr (Or.inl ⟨h1, n9, m9, r9, h2, h3, h4, h5, hb9⟩)⟩
  · exact ⟨hF9, Or.inr (Or.inr ⟨h1, h2⟩)⟩
theorem to_parts {F : zF} {T : zT} {d : Nat} {e : Int32} (hT : Tr F T (d + 1) e) (hk : f_k F (ix e) = 18) : Prt F T d e 2 (f_z F (ix e)) ∧ (∀ j, Sb F d (f_x F (ix e)) j → ¬ Sb F d (f_z F (ix e)) j) ∧ ∀ j, Sb F d (f_y F (ix e)) j → ¬ Sb F d (f_z F (ix e)) j := by
  have a3 : 3 ≤ f_a F e := by simp [f_a, hk]
  obtain ⟨hz, hpz, hnez, hDx, hDy⟩ := hT.2.2.2.2.2.2 a3
  exact ⟨⟨hz, hpz, hnez, fun j h => Or.inr (Or.inr (Or.inr ⟨a3, h⟩))⟩, hDx, hDy⟩
/-- z's question, seen from x and y -/
theorem to_keep {F : zF} {T : zT} {d p : Nat} {e x z : Int32} {c c4 : zC} {r r4 : zR} (hx : Tr F T d x) (hne : ¬ Sb F d x (ix e)) (hD : ∀ j, Sb F d x j → ¬ Sb F d z j) (hC : FrC (fun j => j = ix e ∨ Sb F d z j) c c4) (hR : FrR (fun j => j = ix e ∨ Sb F d z j) r r4) (hL : Lv F d x c r p) : Lv F d x c4 r4 p ∧ c_rs c4 (ix x) = c_rs c (ix x) := by
  have hout : ∀ j, Sb F d x j → ¬ (j = ix e ∨ Sb F d z j) := fun j hj h => by
    rcases h with h | h
    · exact hne (h ▸ hj)
    · exact hD j hj h
  exact ⟨Lv_cong d _ _ (Ag.of hC hR hout hout) hL, (hC _ (hout _ (Tr_self hx))).2.1⟩
theorem tri_P1 {F : zF} {T : zT} {M f d t n p : Nat} {e : Int32} {c : zC} {r : zR} (hO : Ok F T M f) (hS : zSim F T M f d) (hT : Tr F T (d + 1) e) (hk : f_k F (ix e) = 18) (ht : t + (d + 1) < 16) :
    ∀ (τ : Nat) (c1 : zC) (n1 m1 p1 : Nat) (fr : Prop), Paired F T f d t e (m_to e) c r p n n1 m1 p1 fr (p_pairL F (p_all F M d) e M c1) → ¬ c_st c1 (ix e) = 3 → n1 ≤ f → f + 1 ≤ n1 + τ → m1 + p1 + zK d n + 20 * n ≤ p + zK d n1 + 20 * n1 + 2 →
      TripledS 1 F T f d t e c r p n n1 m1 p1 2 fr (p_tripleL F (p_all F M d) M e τ c1) := by
  have a2 : 2 ≤ f_a F e := by simp [f_a, hk]
  obtain ⟨hX, hY, hD⟩ := pr_parts hT a2
  obtain ⟨hZ, hDx, hDy⟩ := to_parts hT hk
  have hm := to_mem (f := f) hT hk ht
  have hze : ix (f_z F (ix e)) ≠ ix e := ne_of hZ.1 hZ.2.2.1
  intro τ
  induction τ with
  | zero => intro c1 n1 m1 p1 fr _ _ h1 h2; omega
  | succ τ ih =>
    intro c1 n1 m1 p1 fr hP hst hn1 hτ hE
    have hpe : p_tripleL F (p_all F M d) M e (τ + 1) c1 = (let q := p_pairL F (p_all F M d) e M c1; if q.1 = 1 then
        let q2 := p_all F M d (f_z F (ix e)) (s_st (s_st q.2 e 3) (f_z F (ix e)) 0)
        if q2.1 = 0 then p_tripleL F (p_all F M d) M e τ (s_st q2.2 e 2) else q2
      else q) := by
      show (if c_st c1 (ix e) = 3 then _ else _) = _
      rw [if_neg hst]
    generalize p_pairL F (p_all F M d) e M c1 = q at hP hpe
    obtain ⟨v, c2⟩ := q
    obtain ⟨hF9, ⟨hv, n2, m2, r2, px, py, hn, hM, hph, hst2, hmo, hgv, hLx, hLy, hb⟩ | ⟨hv, n2, m2, r2, hn, hfr, hM, hph, hb⟩ | ⟨hv, herr⟩⟩ := hP
    · dsimp only at hv; subst hv
      simp only [if_true] at hpe
      have hF3 : FrC (fun j => j = ix e ∨ Sb F d (f_z F (ix e)) j) c2 (s_st (s_st c2 e 3) (f_z F (ix e)) 0) := (fc_st (Or.inl rfl)).tr (fc_st (Or.inr (Tr_self hZ.1)))
      have hin : ∀ j, (j = ix e ∨ Sb F d (f_z F (ix e)) j) → Sb F (d + 1) e j := fun j h => by
        rcases h with h | h
        · exact Or.inl h
        · exact hZ.2.2.2 j h
      have hst3 : c_st (s_st (s_st c2 e 3) (f_z F (ix e)) 0) (ix e) = 3 := (pk_un (Ne.symm hze)).trans pk_us
      have hst0 : c_st (s_st (s_st c2 e 3) (f_z F (ix e)) 0) (ix (f_z F (ix e))) = 0 := pk_us
      have hkk : r_kp (u_ph (u_kp r2 (3 * e + 2 - 1) (r_gv r2).toInt64) (f_z F (ix e)) 0) (3 * ix e + 1) = (r_gv r2).toInt64 := by
        show vp_updL (r_kp r2) (ix (3 * e + 2 - 1)) (r_gv r2).toInt64 (3 * ix e + 1) = _
        rw [ix_321 hT.1]; exact pk_uLs
      have hB := mid_ask (p := p) (p1 := 0) (u_ph (u_kp r2 (3 * e + 2 - 1) (r_gv r2).toInt64) (f_z F (ix e)) 0) hS ht (mid_c hM (hF3.wk hin) rfl) (hm.2.2.2.2 _ _ _ 1 hM.2.1 (by decide) (Or.inr (Or.inl hph))) hZ.1 hZ.2.2.1 hZ.2.2.2 (by rw [to_q12 hT hk hph, q_first_eq hZ.2.1]) hZ.2.1 ⟨rfl, rfl, rfl, rfl⟩ hM.2.1.1 ((fr_kp (k := ix e) (b := 1) (Or.inl rfl) (by decide) (ix_321 hT.1)).tr (fr_ph (Or.inr (Tr_self hZ.1)))) (id_fresh hZ.1 hZ.2.2.1 hst0)
      generalize p_all F M d (f_z F (ix e)) (s_st (s_st c2 e 3) (f_z F (ix e)) 0) = q at hB hpe
      obtain ⟨v, c4⟩ := q
      obtain ⟨hFd, ⟨hv, n3, m3, r3, p4, hn3, hM3, hph3, hnm3, hk3, hk31, -, hFr3, hgv3, hL3, hb3⟩ | ⟨hv, n3, m3, r3, hn3, hfr3, hM3, hph3, hnm3, -, -, -, hFr3, hb3⟩ | ⟨hv, n3, hn3, herr⟩⟩ := hB
      · dsimp only at hv; subst hv
        have hp : p_tripleL F (p_all F M d) M e (τ + 1) c1 = (1, c4) := by rw [hpe]; simp
        have hC4 := hF3.tr (hFd.wk fun _ h => Or.inr h)
        obtain ⟨hLx4, hrx⟩ := to_keep hX.1 hX.2.2.1 hDx hC4 hFr3 hLx
        obtain ⟨hLy4, hry⟩ := to_keep hY.1 hY.2.2.1 hDy hC4 hFr3 hLy
        rw [hp]
        refine ⟨hM3.2.2.2.1, Or.inl ⟨rfl, n3, _, r3, px, py, p4, by omega, hM3, hph3, (hFd _ hZ.2.2.1).1.trans hst3, ?_, ?_, hgv3, hLx4, hLy4, hL3, by omega⟩⟩
        · rw [hrx, hnm3]; exact hmo
        · rw [hry, hk31, hkk, hgv]
      · dsimp only at hv; subst hv
        have hn4 := hfr3 hst0
        have hp : p_tripleL F (p_all F M d) M e (τ + 1) c1 = p_tripleL F (p_all F M d) M e τ (s_st c4 e 2) := by rw [hpe]; simp
        have hC4 := (hF3.tr (hFd.wk fun _ h => Or.inr h)).tr (fc_st (e := e) (v := 2) (Or.inl rfl))
        obtain ⟨hLx4, hrx⟩ := to_keep hX.1 hX.2.2.1 hDx hC4 hFr3 hLx
        obtain ⟨hLy4, hry⟩ := to_keep hY.1 hY.2.2.1 hDy hC4 hFr3 hLy
        have hst5 : c_st (s_st c4 e 2) (ix e) = 2 := pk_us
        obtain ⟨M', hM'⟩ : ∃ M', M = M' + 1 := ⟨M - 1, by have := hO.2.2.2; omega⟩
        have hfO := hO.2.2
        have hnf3 := hM3.2.1.2.2.1.2.1
        have hP2 := pair_Y hS ht hX hY hD hm M' (s_st c4 e 2) r3 2 n3 _ px py (mid_c hM3 (fc_st (Or.inl rfl)) rfl) (by omega) hst5 (hm.2.2.2.2 _ _ _ 2 hM3.2.1 (by decide) (Or.inr (Or.inr hph3))) (to_q22 hT hk hph3) hLx4 hLy4 (by rw [hrx]; exact hnm3.trans hmo) (p := p) (by omega)
        rw [← hM'] at hP2
        have h9 := ih (s_st c4 e 2) n3 _ (px + py) False hP2 (by rw [hst5]; decide) hnf3 (by omega) (by omega)
        rw [hp]
        generalize p_tripleL F (p_all F M d) M e τ (s_st c4 e 2) = q at h9
        obtain ⟨hF9, ⟨h1, n9, m9, r9, qx, qy, qz, h2, h3, h4, h5, h6, h7, h8, k1, k2, k3, hb9⟩ | ⟨h1, n9, m9, r9, h2, h3, h4, h5, hb9⟩ | ⟨h1, h2⟩⟩ := h9
        · exact ⟨hF9, Or.inl ⟨h1, n9, m9, r9, qx, qy, qz, by omega, h3, h4, h5, h6, h7, h8, k1, k2, k3, by omega⟩⟩
        · exact ⟨hF9, Or.inr (Or.inl ⟨h1, n9, m9, r9, by omega, fun _ => by omega, h4, h5, by omega⟩)⟩
        · exact ⟨hF9, Or.inr (Or.inr ⟨h1, h2⟩)⟩
      · have hp : p_tripleL F (p_all F M d) M e (τ + 1) c1 = (v, c4) := by rw [hpe]; simp [neg0 hv]
        rw [hp]
        exact ⟨(hM.2.2.2.1.tr (hF3.wk hin)).tr (hFd.wk hZ.2.2.2), Or.inr (Or.inr ⟨hv, fun c3 hg hF9 => herr c3 v hg rfl hF9 (by omega)⟩)⟩
    · dsimp only at hv; subst hv
      have hp : p_tripleL F (p_all F M d) M e (τ + 1) c1 = (0, c2) := by rw [hpe]; simp
      rw [hp]
      exact ⟨hF9, Or.inr (Or.inl ⟨rfl, n2, m2, r2, hn, hfr, hM, hph, by omega⟩)⟩
    · have hp : p_tripleL F (p_all F M d) M e (τ + 1) c1 = (v, c2) := by rw [hpe]; simp [neg1 hv]
      rw [hp]
      exact ⟨hF9, Or.inr (Or.inr ⟨hv, herr⟩)⟩
theorem tri_P {F : zF} {T : zT} {M f d t n p : Nat} {e : Int32} {c : zC} {r : zR} (hO : Ok F T M f) (hS : zSim F T M f d) (hT : Tr F T (d + 1) e) (hk : f_k F (ix e) = 18) (ht : t + (d + 1) < 16) :
    ∀ (τ : Nat) (c1 : zC) (n1 m1 p1 : Nat) (fr : Prop), Paired F T f d t e (m_to e) c r p n n1 m1 p1 fr (p_pairL F (p_all F M d) e M c1) → ¬ c_st c1 (ix e) = 3 → n1 ≤ f → f + 1 ≤ n1 + τ → m1 + p1 + zK d n + 20 * n ≤ p + zK d n1 + 20 * n1 + 2 →
      Tripled F T f d t e c r p n n1 m1 p1 2 fr (p_tripleL F (p_all F M d) M e τ c1) :=
  fun τ c1 n1 m1 p1 fr a1 a2 a3 a4 a5 => tS_0 (tri_P1 hO hS hT hk ht τ c1 n1 m1 p1 fr a1 a2 a3 a4 a5)
/-- z is asked next -/
theorem tri_Z {F : zF} {T : zT} {M f d t n p : Nat} {e : Int32} {c : zC} {r : zR} (hO : Ok F T M f) (hS : zSim F T M f d) (hT : Tr F T (d + 1) e) (hk : f_k F (ix e) = 18) (ht : t + (d + 1) < 16)
    (τ : Nat) (c1 : zC) (r1 r0 : zR) (w : Int32) (n1 m1 px py pz : Nat) (hM : Mid F T f d t e c r n c1 r1 w n1 m1) (hτ : f + 1 ≤ n1 + τ) (hst : c_st c1 (ix e) = 3) (hs : q_safe T (r1, w)) (hq : q_step T e w r1 = q_ask T e 2 3 r0) (hR : Ro r1 r0) (hN : Nm F r0) (hF : FrR (fun j => j = ix e) r1 r0) (hLx : Lv F d (f_x F (ix e)) c1 r1 px) (hLy : Lv F d (f_y F (ix e)) c1 r1 py) (hLz : Lv F d (f_z F (ix e)) c1 r1 pz)
    (hnm : r_nm r0 (ix e) = c_rs c1 (ix (f_x F (ix e)))) (hk1 : r_kp r0 (3 * ix e + 1) = (c_rs c1 (ix (f_y F (ix e)))).toInt64) (hE : m1 + px + py + pz + zK d n + 20 * n ≤ p + zK d n1 + 20 * n1) :
      Tripled F T f d t e c r p n n1 m1 (px + py + pz) 3 False (p_tripleL F (p_all F M d) M e (τ + 1) c1) := by
  have a2 : 2 ≤ f_a F e := by simp [f_a, hk]
  obtain ⟨hX, hY, hD⟩ := pr_parts hT a2
  obtain ⟨hZ, hDx, hDy⟩ := to_parts hT hk
  have hm := to_mem (f := f) hT hk ht
  have hIz : Idl F d (f_z F (ix e)) c1 (pu r0 e 3 t (f_z F (ix e))) pz := Or.inr (Lv_cong d _ _ (Ag.of (D := fun j => j = ix e) (E := fun j => j = ix e) FrC.rf (hF.tr (fr_pu (D := fun j => j = ix e) rfl)) (fun _ h q => hZ.2.2.1 (q ▸ h)) (fun _ h q => hZ.2.2.1 (q ▸ h))) hLz)
  have hA := mid_ask (p := p) r0 hS ht hM hs hZ.1 hZ.2.2.1 hZ.2.2.2 hq hZ.2.1 hR hN (hF.wk fun _ h => Or.inl h) hIz
  have hpe : p_tripleL F (p_all F M d) M e (τ + 1) c1 = (let q := p_all F M d (f_z F (ix e)) c1; if q.1 = 0 then p_tripleL F (p_all F M d) M e τ (s_st q.2 e 2) else q) := by
    show (if c_st c1 (ix e) = 3 then _ else _) = _
    rw [if_pos hst]
  generalize p_all F M d (f_z F (ix e)) c1 = q at hA hpe
  obtain ⟨v, c4⟩ := q
  obtain ⟨hFd, ⟨hv, n3, m3, r3, p4, hn3, hM3, hph3, hnm3, hk3, hk31, -, hFr3, hgv3, hL3, hb3⟩ | ⟨hv, n3, m3, r3, hn3, hfr3, hM3, hph3, hnm3, -, -, -, hFr3, hb3⟩ | ⟨hv, n3, hn3, herr⟩⟩ := hA
  · dsimp only at hv; subst hv
    have hp : p_tripleL F (p_all F M d) M e (τ + 1) c1 = (1, c4) := by rw [hpe]; simp
    have hC4 : FrC (fun j => j = ix e ∨ Sb F d (f_z F (ix e)) j) c1 c4 := hFd.wk fun _ h => Or.inr h
    obtain ⟨hLx4, hrx⟩ := to_keep hX.1 hX.2.2.1 hDx hC4 hFr3 hLx
    obtain ⟨hLy4, hry⟩ := to_keep hY.1 hY.2.2.1 hDy hC4 hFr3 hLy
    rw [hp]
    refine ⟨hM3.2.2.2.1, Or.inl ⟨rfl, n3, _, r3, px, py, p4, by omega, hM3, hph3, (hFd _ hZ.2.2.1).1.trans hst, ?_, ?_, hgv3, hLx4, hLy4, hL3, by omega⟩⟩
    · rw [hrx, hnm3]; exact hnm
    · rw [hry, hk31]; exact hk1
  · dsimp only at hv; subst hv
    have hp : p_tripleL F (p_all F M d) M e (τ + 1) c1 = p_tripleL F (p_all F M d) M e τ (s_st c4 e 2) := by rw [hpe]; simp
    have hC4 : FrC (fun j => j = ix e ∨ Sb F d (f_z F (ix e)) j) c1 (s_st c4 e 2) := (hFd.wk fun _ h => Or.inr h).tr (fc_st (Or.inl rfl))
    obtain ⟨hLx4, hrx⟩ := to_keep hX.1 hX.2.2.1 hDx hC4 hFr3 hLx
    obtain ⟨hLy4, hry⟩ := to_keep hY.1 hY.2.2.1 hDy hC4 hFr3 hLy
    have hst5 : c_st (s_st c4 e 2) (ix e) = 2 := pk_us
    obtain ⟨M', hM'⟩ : ∃ M', M = M' + 1 := ⟨M - 1, by have := hO.2.2.2; omega⟩
    have hfO := hO.2.2
    have hnf3 := hM3.2.1.2.2.1.2.1
    have hP2 := pair_Y hS ht hX hY hD hm M' (s_st c4 e 2) r3 2 n3 _ px py (mid_c hM3 (fc_st (Or.inl rfl)) rfl) (by omega) hst5 (hm.2.2.2.2 _ _ _ 2 hM3.2.1 (by decide) (Or.inr (Or.inr hph3))) (to_q22 hT hk hph3) hLx4 hLy4 (by rw [hrx]; exact hnm3.trans hnm) (p := p) (by omega)
    rw [← hM'] at hP2
    have h9 := tri_P1 hO hS hT hk ht τ (s_st c4 e 2) n3 _ (px + py) False hP2 (by rw [hst5]; decide) hnf3 (by omega) (by omega)
    rw [hp]
    generalize p_tripleL F (p_all F M d) M e τ (s_st c4 e 2) = q at h9
    obtain ⟨hF9, ⟨h1, n9, m9, r9, qx, qy, qz, h2, h3, h4, h5, h6, h7, h8, k1, k2, k3, hb9⟩ | ⟨h1, n9, m9, r9, h2, h3, h4, h5, hb9⟩ | ⟨h1, h2⟩⟩ := h9
    · exact ⟨hF9, Or.inl ⟨h1, n9, m9, r9, qx, qy, qz, by omega, h3, h4, h5, h6, h7, h8, k1, k2, k3, by omega⟩⟩
    · exact ⟨hF9, Or.inr (Or.inl ⟨h1, n9, m9, r9, by omega, fun h => h.elim, h4, h5, by omega⟩)⟩
    · exact ⟨hF9, Or.inr (Or.inr ⟨h1, h2⟩)⟩
  · have hp : p_tripleL F (p_all F M d) M e (τ + 1) c1 = (v, c4) := by rw [hpe]; simp [neg0 hv]
    rw [hp]
    exact ⟨hM.2.2.2.1.tr (hFd.wk hZ.2.2.2), Or.inr (Or.inr ⟨hv, fun c3 hg hF9 => herr c3 v hg rfl hF9 (by omega)⟩)⟩
/-- the next value of a TO, or none any more -/
theorem to_on {F : zF} {T : zT} {M f d t n p n2 m2 px py pz : Nat} {e w : Int32} {c c2 s1 : zC} {r r2 : zR} (r0 : zR) (hO : Ok F T M f) (hT : Tr F T (d + 1) e) (hk : f_k F (ix e) = 18) (ht : t + (d + 1) < 16) (hM : Mid F T f d t e c r n c2 r2 w n2 m2) (hs : q_safe T (r2, w)) (hq : q_step T e w r2 = q_on T e r0) (hR : Ro r2 r0) (hN : Nm F r0) (hF : FrR (fun j => j = ix e) r2 r0) (hC : FrC (fun j => j = ix e) c2 s1) (hg : c_g s1 = c_g c2) (hst : c_st s1 (ix e) = 4)
    (hnm : r_nm r0 (ix e) = c_rs s1 (ix (f_x F (ix e)))) (hk1 : r_kp r0 (3 * ix e + 1) = (c_rs s1 (ix (f_y F (ix e)))).toInt64) (hk2 : r_kp r0 (3 * ix e + 2) = (c_rs s1 (ix (f_z F (ix e)))).toInt64) (hk0 : r_kp r0 (3 * ix e) = c_ct s1 (ix e)) (hLx : Lv F d (f_x F (ix e)) c2 r2 px) (hLy : Lv F d (f_y F (ix e)) c2 r2 py) (hLz : Lv F d (f_z F (ix e)) c2 r2 pz) (hn : n ≤ n2)
    (hb : m2 + px + py + pz + zK d n + 20 * n ≤ p + zK d n2 + 20 * n2 + 4) :
    (p_upto F e s1 = true → Out F T f (d + 1) t e c r p n (p_fuel F e (c_ct s1 (ix e)).toInt32 s1)) ∧ (¬ p_upto F e s1 = true → q_step T e w r2 = q_ask T e 2 3 r0) := by
  have a2 : 2 ≤ f_a F e := by simp [f_a, hk]
  obtain ⟨hX, hY, hD⟩ := pr_parts hT a2
  obtain ⟨hZ, hDx, hDy⟩ := to_parts hT hk
  have hxe : ix (f_x F (ix e)) ≠ ix e := ne_of hX.1 hX.2.2.1
  have hye : ix (f_y F (ix e)) ≠ ix e := ne_of hY.1 hY.2.2.1
  have hze : ix (f_z F (ix e)) ≠ ix e := ne_of hZ.1 hZ.2.2.1
  have e0 : r_kp r0 (ix (3 * e)) = c_ct s1 (ix e) := by rw [ix_30 hT.1]; exact hk0
  have e1 : r_kp r0 (ix (3 * e + 1)) = (c_rs s1 (ix (f_y F (ix e)))).toInt64 := by rw [ix_31 hT.1]; exact hk1
  have e2 : r_kp r0 (ix (3 * e + 2)) = (c_rs s1 (ix (f_z F (ix e)))).toInt64 := by rw [ix_32 hT.1]; exact hk2
  have hon : q_on T e r0 = if p_upto F e s1 = true then q_paid T (c_ct s1 (ix e)).toInt32 (u_kp (u_ph r0 e 4) (3 * e) (c_ct s1 (ix e) + (c_rs s1 (ix (f_z F (ix e)))).toInt64)) else q_ask T e 2 3 r0 := by
    unfold q_on p_upto
    simp only [e0, e1, e2, i64_0]
    by_cases hp : 0 < c_rs s1 (ix (f_z F (ix e)))
    · simp only [if_pos hp, decide_eq_true_eq]
      by_cases hu : (c_rs s1 (ix (f_y F (ix e)))).toInt64 < c_ct s1 (ix e)
      · rw [if_pos hu, if_neg (fun q => q hu)]
      · rw [if_neg hu, if_pos hu]
    · simp only [if_neg hp, decide_eq_true_eq]
      by_cases hu : c_ct s1 (ix e) < (c_rs s1 (ix (f_y F (ix e)))).toInt64
      · rw [if_pos hu, if_neg (fun q => q hu)]
      · rw [if_neg hu, if_pos hu]
  refine ⟨fun hu => ?_, fun hu => by rw [hq, hon, if_neg hu]⟩
  rw [if_pos hu] at hon
  obtain ⟨hf1, hf2, hf3, -⟩ := hO
  have hUm := hM.2.1
  obtain ⟨hsp, hnf, w0, hw, hwc⟩ := hUm.2.2.1
  have hgr : r_g r0 = c_g s1 := hR.1.trans (hUm.2.1.trans hg.symm)
  have hCs : FrC (Sb F (d + 1) e) c2 s1 := hC.wk fun j h => Or.inl h
  by_cases hnf2 : n2 = f
  · have p1 : p_fuel F e (c_ct s1 (ix e)).toInt32 s1 = (-5, s1) := by
      unfold p_fuel; rw [if_neg]; rw [hf1, hg, hsp, hnf2]; exact Int32.lt_irrefl
    have q1 : q_paid T (c_ct s1 (ix e)).toInt32 (u_kp (u_ph r0 e 4) (3 * e) (c_ct s1 (ix e) + (c_rs s1 (ix (f_z F (ix e)))).toInt64)) = (0, u_er (u_kp (u_ph r0 e 4) (3 * e) (c_ct s1 (ix e) + (c_rs s1 (ix (f_z F (ix e)))).toInt64)) (-5)) := by
      unfold q_paid; rw [if_pos]; show g_sp (r_g r0) = t_f T; rw [hgr, hg, hsp, hf2, hnf2]
    rw [p1]
    refine mid_bad ht hM hs (hq.trans (hon.trans q1)) rfl (by decide) hgr (by rw [hg]; exact hUm.2.2.1) hCs ?_
    rw [zK_s, zK_s]; omega
  · have p1 : p_fuel F e (c_ct s1 (ix e)).toInt32 s1 = (1, s_rs (s_g s1 (h_sp (c_g s1))) e (c_ct s1 (ix e)).toInt32) := by
      unfold p_fuel
      rw [if_pos]
      · rfl
      · rw [hf1, hg, hsp, nI_ltI (by omega) (by omega)]; omega
    have q1 : q_paid T (c_ct s1 (ix e)).toInt32 (u_kp (u_ph r0 e 4) (3 * e) (c_ct s1 (ix e) + (c_rs s1 (ix (f_z F (ix e)))).toInt64)) = (1, u_gv (u_g (u_kp (u_ph r0 e 4) (3 * e) (c_ct s1 (ix e) + (c_rs s1 (ix (f_z F (ix e)))).toInt64)) (h_sp (r_g r0))) (c_ct s1 (ix e)).toInt32) := by
      unfold q_paid
      rw [if_neg]
      · rfl
      · show ¬ g_sp (r_g r0) = t_f T
        rw [hgr, hg, hsp, hf2, nI_eq (by omega) (by omega)]; exact hnf2
    have hgo := go_pop1 hs (by omega) hUm.2.2.2.2.1 hUm.2.2.2.2.2 (hq.trans (hon.trans q1)) (hR.2.2.1.trans hUm.2.2.2.2.1) (hR.2.1.trans hUm.2.2.2.1)
    have hFr : FrR (fun j => j = ix e) r2 (u_tp (u_gv (u_g (u_kp (u_ph r0 e 4) (3 * e) (c_ct s1 (ix e) + (c_rs s1 (ix (f_z F (ix e)))).toInt64)) (h_sp (r_g r0))) (c_ct s1 (ix e)).toInt32) (nI t)) := hF.tr ((fr_ph (D := fun j => j = ix e) rfl).tr ((fr_kp (D := fun j => j = ix e) (k := ix e) (b := 0) rfl (by decide) (ix_30 hT.1)).tr (fr_g.tr (fr_gv.tr fr_tp))))
    have hCr : FrC (fun j => j = ix e) c2 (s_rs (s_g s1 (h_sp (c_g s1))) e (c_ct s1 (ix e)).toInt32) := hC.tr (fc_g.tr (fc_rs (D := fun j => j = ix e) rfl))
    have hag : ∀ x : Int32, ¬ Sb F d x (ix e) → Ag (Sb F d x) c2 (s_rs (s_g s1 (h_sp (c_g s1))) e (c_ct s1 (ix e)).toInt32) r2 _ := fun x hx => Ag.of hCr hFr (fun _ h q => hx (q ▸ h)) (fun _ h q => hx (q ▸ h))
    rw [p1]
    have hm := zK_m d (Nat.le_add_right n2 1)
    refine ⟨n2 + 1, by omega, hM.2.2.2.1.tr (hCr.wk fun j h => Or.inl h), Or.inl ⟨rfl, by omega, m2 + 1, _, px + py + pz + 4, Go_trans _ _ _ _ _ hM.1 hgo, ⟨hN, ?_, ⟨?_, by omega, w0, hw, ?_⟩, hR.2.1.trans hUm.2.2.2.1, rfl, fun j hj => (congrFun hR.2.2.2 j).trans (hM.2.2.1 j hj)⟩, hM.2.2.2.2.1.tr (hFr.wk fun j h => Or.inl h), (pk_us (f := c_rs s1)).symm, (Lv_18 hk).mpr ⟨hst, pk_us, ?_, ?_, ?_, ?_, px, py, pz, Lv_cong d _ _ (hag _ hX.2.2.1) hLx, Lv_cong d _ _ (hag _ hY.2.2.1) hLy, Lv_cong d _ _ (hag _ hZ.2.2.1) hLz, rfl⟩, ?_⟩⟩
    · show h_sp (r_g r0) = h_sp (c_g s1); rw [hgr]
    · show g_sp (c_g s1) + 1 = nI (n2 + 1); rw [hg, hsp, nI_succ]
    · show g_wc (c_g s1) = nI w0; rw [hg]; exact hwc
    · show r_nm r0 (ix e) = upd (c_rs s1) (ix e) _ (ix (f_x F (ix e))); rw [pk_un hxe]; exact hnm
    · show vp_updL (r_kp r0) (ix (3 * e)) _ (3 * ix e + 1) = (upd (c_rs s1) (ix e) _ (ix (f_y F (ix e)))).toInt64
      rw [pk_un hye, ix_30 hT.1, pk_uLn (by omega)]; exact hk1
    · show vp_updL (r_kp r0) (ix (3 * e)) _ (3 * ix e + 2) = (upd (c_rs s1) (ix e) _ (ix (f_z F (ix e)))).toInt64
      rw [pk_un hze, ix_30 hT.1, pk_uLn (by omega)]; exact hk2
    · show vp_updL (r_kp r0) (ix (3 * e)) _ (3 * ix e) = c_ct s1 (ix e) + (upd (c_rs s1) (ix e) _ (ix (f_z F (ix e)))).toInt64
      rw [pk_un hze, ix_30 hT.1, pk_uLs]
    · rw [zK_s, zK_s]; omega
theorem to_L {F : zF} {T : zT} {M f d t n p : Nat} {e : Int32} {c : zC} {r : zR} (hO : Ok F T M f) (hS : zSim F T M f d) (hT : Tr F T (d + 1) e) (hk : f_k F (ix e) = 18) (ht : t + (d + 1) < 16) :
    ∀ (τ : Nat) (c1 : zC) (n1 m1 p1 b : Nat) (fr : Prop), Tripled F T f d t e c r p n n1 m1 p1 b fr (p_tripleL F (p_all F M d) M e M c1) → ¬ c_st c1 (ix e) = 4 → b ≤ 3 → n1 ≤ f → f + 1 ≤ n1 + τ → n ≤ n1 → (c_st c (ix e) = 0 → n < n1 ∨ fr) → m1 + p1 + zK d n + 16 * n ≤ p + zK d n1 + 16 * n1 → n < n1 ∨ fr ∨ m1 + p1 + 4 + zK d n + 16 * n ≤ p + zK d n1 + 16 * n1 →
      Out F T f (d + 1) t e c r p n (p_toL F (p_all F M d) M e τ c1) := by
  have a2 : 2 ≤ f_a F e := by simp [f_a, hk]
  obtain ⟨hX, hY, hD⟩ := pr_parts hT a2
  obtain ⟨hZ, hDx, hDy⟩ := to_parts hT hk
  have hm := to_mem (f := f) hT hk ht
  have hxe : ix (f_x F (ix e)) ≠ ix e := ne_of hX.1 hX.2.2.1
  intro τ
  induction τ with
  | zero => intro c1 n1 m1 p1 b fr _ _ _ h1 h2; omega
  | succ τ ih =>
    intro c1 n1 m1 p1 b fr hP hst hb3 hn1 hτ hn0 hfr1 hb1 hb2
    have hpe : p_toL F (p_all F M d) M e (τ + 1) c1 = (let q := p_tripleL F (p_all F M d) M e M c1; if q.1 = 1 then
        if c_rs q.2 (ix (f_z F (ix e))) = 0 then (-3, q.2) else
          let s1 := s_st (s_ct q.2 e (c_rs q.2 (ix (f_x F (ix e)))).toInt64) e 4
          if p_upto F e s1 = true then p_fuel F e (c_ct s1 (ix e)).toInt32 s1 else p_toL F (p_all F M d) M e τ (s_st s1 e 3)
      else q) := by
      show (if c_st c1 (ix e) = 4 then _ else _) = _
      rw [if_neg hst]
    generalize p_tripleL F (p_all F M d) M e M c1 = q at hP hpe
    obtain ⟨v, c2⟩ := q
    obtain ⟨hF9, ⟨hv, n2, m2, r2, px, py, pz, hn, hM, hph, hst2, hnm, hk1, hgv, hLx, hLy, hLz, hb⟩ | ⟨hv, n2, m2, r2, hn, hfr, hM, hph, hb⟩ | ⟨hv, herr⟩⟩ := hP
    · dsimp only at hv; subst hv
      simp only [if_true] at hpe
      have hs := hm.2.2.2.2 _ _ _ 1 hM.2.1 (by decide) (Or.inr (Or.inr hph))
      have hq1 := to_q13 hT hk hph
      by_cases hz0 : c_rs c2 (ix (f_z F (ix e))) = 0
      · rw [if_pos hz0] at hpe
        rw [if_pos (by rw [hgv]; exact hz0)] at hq1
        rw [hpe]
        refine mid_bad ht hM hs hq1 rfl (by decide) hM.2.1.2.1 hM.2.1.2.2.1 FrC.rf ?_
        rw [zK_s, zK_s]; omega
      · rw [if_neg hz0] at hpe
        rw [if_neg (by rw [hgv]; exact hz0)] at hq1
        generalize hs1 : s_st (s_ct c2 e (c_rs c2 (ix (f_x F (ix e)))).toInt64) e 4 = s1 at hpe
        have hC1 : FrC (fun j => j = ix e) c2 s1 := by rw [← hs1]; exact (fc_ct (D := fun j => j = ix e) rfl).tr (fc_st (D := fun j => j = ix e) rfl)
        have hg1 : c_g s1 = c_g c2 := by rw [← hs1]; rfl
        have hct : c_ct s1 (ix e) = (c_rs c2 (ix (f_x F (ix e)))).toInt64 := by rw [← hs1]; exact pk_uLs
        have hst4 : c_st s1 (ix e) = 4 := by rw [← hs1]; exact pk_us
        have hrs : c_rs s1 = c_rs c2 := by rw [← hs1]; rfl
        have hR0 : Ro r2 (u_kp (u_kp r2 (3 * e + 3 - 1) (r_gv r2).toInt64) (3 * e) (r_nm r2 (ix e)).toInt64) := ⟨rfl, rfl, rfl, rfl⟩
        have hFk : FrR (fun j => j = ix e) r2 (u_kp (u_kp r2 (3 * e + 3 - 1) (r_gv r2).toInt64) (3 * e) (r_nm r2 (ix e)).toInt64) := (fr_kp (D := fun j => j = ix e) (k := ix e) (b := 2) rfl (by decide) (ix_331 hT.1)).tr (fr_kp (D := fun j => j = ix e) (k := ix e) (b := 0) rfl (by decide) (ix_30 hT.1))
        have k1 : r_kp (u_kp (u_kp r2 (3 * e + 3 - 1) (r_gv r2).toInt64) (3 * e) (r_nm r2 (ix e)).toInt64) (3 * ix e + 1) = (c_rs s1 (ix (f_y F (ix e)))).toInt64 := by
          show vp_updL (vp_updL (r_kp r2) (ix (3 * e + 3 - 1)) _) (ix (3 * e)) _ (3 * ix e + 1) = _
          rw [ix_30 hT.1, ix_331 hT.1, pk_uLn (by omega), pk_uLn (by omega), hrs]; exact hk1
        have k2 : r_kp (u_kp (u_kp r2 (3 * e + 3 - 1) (r_gv r2).toInt64) (3 * e) (r_nm r2 (ix e)).toInt64) (3 * ix e + 2) = (c_rs s1 (ix (f_z F (ix e)))).toInt64 := by
          show vp_updL (vp_updL (r_kp r2) (ix (3 * e + 3 - 1)) _) (ix (3 * e)) _ (3 * ix e + 2) = _
          rw [ix_30 hT.1, ix_331 hT.1, pk_uLn (by omega), pk_uLs, hrs, hgv]
        have k0 : r_kp (u_kp (u_kp r2 (3 * e + 3 - 1) (r_gv r2).toInt64) (3 * e) (r_nm r2 (ix e)).toInt64) (3 * ix e) = c_ct s1 (ix e) := by
          show vp_updL (vp_updL (r_kp r2) (ix (3 * e + 3 - 1)) _) (ix (3 * e)) _ (3 * ix e) = _
          rw [ix_30 hT.1, pk_uLs, hct, hnm]
        obtain ⟨on1, on2⟩ := to_on (p := p) _ hO hT hk ht hM hs hq1 hR0 hM.2.1.1 hFk hC1 hg1 hst4 (by rw [hrs]; exact hnm) k1 k2 k0 hLx hLy hLz (by omega) (by omega)
        by_cases hu : p_upto F e s1 = true
        · rw [hpe, if_pos hu]
          exact on1 hu
        · rw [hpe, if_neg hu]
          have hst5 : c_st (s_st s1 e 3) (ix e) = 3 := pk_us
          have hC5 : FrC (fun j => j = ix e) c2 (s_st s1 e 3) := hC1.tr (fc_st (D := fun j => j = ix e) rfl)
          have hag : ∀ x : Int32, ¬ Sb F d x (ix e) → Ag (Sb F d x) c2 (s_st s1 e 3) r2 r2 := fun x hx => Ag.of (E := fun _ => False) hC5 FrR.rf (fun _ h q => hx (q ▸ h)) (fun _ _ q => q)
          obtain ⟨M', hM'⟩ : ∃ M', M = M' + 1 := ⟨M - 1, by have := hO.2.2.2; omega⟩
          have hfO := hO.2.2
          have hnf2 := hM.2.1.2.2.1.2.1
          have h9 := tri_Z hO hS hT hk ht M' (s_st s1 e 3) r2 _ 1 n2 m2 px py pz (mid_c hM (hC5.wk fun j h => Or.inl h) hg1) (by omega) hst5 hs (on2 hu) hR0 hM.2.1.1 hFk (Lv_cong d _ _ (hag _ hX.2.2.1) hLx) (Lv_cong d _ _ (hag _ hY.2.2.1) hLy) (Lv_cong d _ _ (hag _ hZ.2.2.1) hLz) (by show r_nm r2 (ix e) = c_rs s1 _; rw [hrs]; exact hnm) k1 (p := p) (by omega)
          rw [← hM'] at h9
          exact ih (s_st s1 e 3) n2 m2 (px + py + pz) 3 False h9 (by rw [hst5]; decide) (by omega) hnf2 (by omega) (by omega) (fun _ => Or.inl (by omega)) (by omega) (Or.inl (by omega))
    · dsimp only at hv; subst hv
      have hp : p_toL F (p_all F M d) M e (τ + 1) c1 = (0, c2) := by rw [hpe]; simp
      have hq2 : q_step T e 2 r2 = (0, r2) := by rw [to_q hT hk]; simp [q_to, hph]
      rw [hp]
      refine mid_zero _ ht hM (hm.2.2.2.2 _ _ _ 2 hM.2.1 (by decide) (Or.inl hph)) hq2 ⟨rfl, rfl, rfl, rfl⟩ hM.2.1.1 FrR.rf FrC.rf rfl (fun h => ?_) ?_
      · rcases hfr1 h with h | h
        · omega
        · have := hfr h; omega
      · rw [zK_s, zK_s]
        rcases hb2 with h | h | h
        · omega
        · have := hfr h; omega
        · omega
    · have hp : p_toL F (p_all F M d) M e (τ + 1) c1 = (v, c2) := by rw [hpe]; simp [neg1 hv]
      rw [hp]
      exact herr c2 rfl hF9
theorem sm_to {F : zF} {T : zT} {M f d t n p : Nat} {e : Int32} {c : zC} {r : zR} (hO : Ok F T M f) (hS : zSim F T M f d) (hT : Tr F T (d + 1) e) (hk : f_k F (ix e) = 18) (ht : t + (d + 1) < 16) (hU : zUp F f t e c r n) (hI : Idl F (d + 1) e c r p) : Out F T f (d + 1) t e c r p n (p_toL F (p_all F M d) M e M c) := by
  have a2 : 2 ≤ f_a F e := by simp [f_a, hk]
  obtain ⟨hX, hY, hD⟩ := pr_parts hT a2
  obtain ⟨hZ, hDx, hDy⟩ := to_parts hT hk
  have hm := to_mem (f := f) hT hk ht
  have hxe : ix (f_x F (ix e)) ≠ ix e := ne_of hX.1 hX.2.2.1
  have hs : q_safe T (r, 0) := safe_of hT (by omega) hU (fun h => by rw [hk] at h; simp at h) (fun _ h => absurd rfl h)
  have hfO := hO.2.2
  have hnf := hU.2.2.1.2.1
  have hq0 : q_step T e 0 r = if r_ph r (ix e) = 0 then q_first T e 0 1 r else q_on T e r := by rw [to_q hT hk]; simp [q_to]
  rcases hI with ⟨h1, h2, rfl⟩ | hL
  · have hP := pair_X hS ht hX hY hD hm M c r (u_ph r (f_x F (ix e)) 0) 0 n 0 0 (mid_0 hU) (by omega) (by rw [h1]; decide) hs (by rw [hq0, if_pos h2, q_first_eq hX.2.1]) ⟨rfl, rfl, rfl, rfl⟩ hU.1 (fr_ph (Or.inr (Tr_self hX.1))) (id_fresh hX.1 hX.2.2.1 (x1_f hxe h1)) (p := 0) (by omega)
    have h9 := tri_P hO hS hT hk ht M c n 0 0 _ hP (by rw [h1]; decide) hnf (by omega) (by omega)
    exact to_L hO hS hT hk ht M c n 0 0 2 _ h9 (by rw [h1]; decide) (by omega) hnf (by omega) (Nat.le_refl _) (fun h => Or.inr h) (by omega) (Or.inr (Or.inl h1))
  · obtain ⟨h1, h2, h3, h4, h5, h6, px, py, pz, hLx, hLy, hLz, rfl⟩ := (Lv_18 hk).mp hL
    rw [if_neg (by rw [h2]; decide)] at hq0
    obtain ⟨M', hM'⟩ : ∃ M', M = M' + 1 := ⟨M - 1, by omega⟩
    generalize hs1 : s_ct c e (c_ct c (ix e) + (c_rs c (ix (f_z F (ix e)))).toInt64) = s1
    have hC1 : FrC (fun j => j = ix e) c s1 := by rw [← hs1]; exact fc_ct rfl
    have hg1 : c_g s1 = c_g c := by rw [← hs1]; rfl
    have hct : c_ct s1 (ix e) = c_ct c (ix e) + (c_rs c (ix (f_z F (ix e)))).toInt64 := by rw [← hs1]; exact pk_uLs
    have hst4 : c_st s1 (ix e) = 4 := by rw [← hs1]; exact h1
    have hrs : c_rs s1 = c_rs c := by rw [← hs1]; rfl
    obtain ⟨on1, on2⟩ := to_on (p := px + py + pz + 4) r hO hT hk ht (mid_0 (T := T) hU) hs hq0 ⟨rfl, rfl, rfl, rfl⟩ hU.1 FrR.rf hC1 hg1 hst4 (by rw [hrs]; exact h3) (by rw [hrs]; exact h4) (by rw [hrs]; exact h5) (by rw [hct]; exact h6) hLx hLy hLz (Nat.le_refl _) (by omega)
    have hgoal : p_toL F (p_all F M d) M e M c = p_toL F (p_all F M d) M e (M' + 1) c := by rw [← hM']
    rw [hgoal, show p_toL F (p_all F M d) M e (M' + 1) c = if p_upto F e s1 = true then p_fuel F e (c_ct s1 (ix e)).toInt32 s1 else p_toL F (p_all F M d) M e M' (s_st s1 e 3) by
      show (if c_st c (ix e) = 4 then _ else _) = _
      rw [if_pos h1, hs1]]
    by_cases hu : p_upto F e s1 = true
    · rw [if_pos hu]; exact on1 hu
    · rw [if_neg hu]
      have hst5 : c_st (s_st s1 e 3) (ix e) = 3 := pk_us
      have hC5 : FrC (fun j => j = ix e) c (s_st s1 e 3) := hC1.tr (fc_st (D := fun j => j = ix e) rfl)
      have hag : ∀ x : Int32, ¬ Sb F d x (ix e) → Ag (Sb F d x) c (s_st s1 e 3) r r := fun x hx => Ag.of (E := fun _ => False) hC5 FrR.rf (fun _ h q => hx (q ▸ h)) (fun _ _ q => q)
      have h9 := tri_Z hO hS hT hk ht M' (s_st s1 e 3) r r 0 n 0 px py pz (mid_c (mid_0 (T := T) (d := d) hU) (hC5.wk fun j h => Or.inl h) hg1) (by omega) hst5 hs (on2 hu) ⟨rfl, rfl, rfl, rfl⟩ hU.1 FrR.rf (Lv_cong d _ _ (hag _ hX.2.2.1) hLx) (Lv_cong d _ _ (hag _ hY.2.2.1) hLy) (Lv_cong d _ _ (hag _ hZ.2.2.1) hLz) (by show r_nm r (ix e) = c_rs s1 _; rw [hrs]; exact h3) (by show r_kp r _ = (c_rs s1 _).toInt64; rw [hrs]; exact h4) (p := px + py + pz + 4) (by omega)
      rw [← hM'] at h9
      exact to_L hO hS hT hk ht M' (s_st s1 e 3) n 0 (px + py + pz) 3 False h9 (by rw [hst5]; decide) (by omega) hnf (by omega) (Nat.le_refl _) (fun h => absurd (h.symm.trans h1) (by decide)) (by omega) (Or.inr (Or.inr (by omega)))
/-- one question of the recursion is a row of turns of the machine -/
theorem sim_all {F : zF} {T : zT} {M f : Nat} (hO : Ok F T M f) : ∀ d : Nat, zSim F T M f d
  | 0 => fun t e c r p n hT => hT.elim
  | d + 1 => by
    intro t e c r p n hT ht hU hI
    have hS := sim_all hO d
    obtain ⟨k, hk, hke⟩ := hT.2.1
    have hall : p_all F M (d + 1) e c = p_ask F (p_all F M d) M e c := rfl
    rw [hall]
    have hk' : k = 0 ∨ k = 1 ∨ k = 2 ∨ k = 3 ∨ k = 4 ∨ k = 5 ∨ k = 6 ∨ k = 7 ∨ k = 8 ∨ k = 9 ∨ k = 10 ∨ k = 11 ∨ k = 12 ∨ k = 13 ∨ k = 14 ∨ k = 15 ∨ k = 16 ∨ k = 17 ∨ k = 18 ∨ k = 19 := by omega
    rcases hk' with rfl | rfl | rfl | rfl | rfl | rfl | rfl | rfl | rfl | rfl | rfl | rfl | rfl | rfl | rfl | rfl | rfl | rfl | rfl | rfl
    · have h : f_k F (ix e) = 0 := hke
      rw [show p_ask F (p_all F M d) M e c = p_leaf F e (f_n F (ix e)) c by simp [p_ask, h]]
      exact sm_leaf hO hT (Or.inl h) ht hU hI (by rw [if_pos h])
    · have h : f_k F (ix e) = 1 := hke
      rw [show p_ask F (p_all F M d) M e c = p_leaf F e (g_va (c_g c) (ix (f_n F (ix e)))) c by simp [p_ask, h]]
      exact sm_leaf hO hT (Or.inr h) ht hU hI (by rw [if_neg (by rw [h]; decide)])
    · have h : f_k F (ix e) = 2 := hke
      rw [show p_ask F (p_all F M d) M e c = p_assign F (p_all F M d) e c by simp [p_ask, h]]
      exact sm_assign hS hT h ht hU hI
    · have h : f_k F (ix e) = 3 := hke
      rw [show p_ask F (p_all F M d) M e c = p_write F (p_all F M d) e c by simp [p_ask, h]]
      exact sm_write hS hT h ht hU hI
    · have h : f_k F (ix e) = 4 := hke
      rw [show p_ask F (p_all F M d) M e c = p_not F (p_all F M d) e c by simp [p_ask, h]]
      exact sm_not hS hT h ht hU hI
    · have h : f_k F (ix e) = 5 := hke
      rw [show p_ask F (p_all F M d) M e c = p_again F (p_all F M d) e c by simp [p_ask, h]]
      exact sm_again hS hT h ht hU hI
    · have h : f_k F (ix e) = 6 := hke
      rw [show p_ask F (p_all F M d) M e c = p_either F (p_all F M d) e c by simp [p_ask, h]]
      exact sm_either hS hT h ht hU hI
    · have h : f_k F (ix e) = 7 := hke
      rw [show p_ask F (p_all F M d) M e c = p_up e (f_y F (ix e)) (p_pairL F (p_all F M d) e M c) by simp [p_ask, h]]
      exact sm_and hO hS hT h ht hU hI
    · have h : f_k F (ix e) = 8 := hke
      rw [show p_ask F (p_all F M d) M e c = p_arith F (p_all F M d) M e c by simp [p_ask, h]]
      exact sm_arith hO hS hT (Or.inl h) ht hU hI
    · have h : f_k F (ix e) = 9 := hke
      rw [show p_ask F (p_all F M d) M e c = p_arith F (p_all F M d) M e c by simp [p_ask, h]]
      exact sm_arith hO hS hT (Or.inr (Or.inl h)) ht hU hI
    · have h : f_k F (ix e) = 10 := hke
      rw [show p_ask F (p_all F M d) M e c = p_arith F (p_all F M d) M e c by simp [p_ask, h]]
      exact sm_arith hO hS hT (Or.inr (Or.inr h)) ht hU hI
    · have h : f_k F (ix e) = 11 := hke
      rw [show p_ask F (p_all F M d) M e c = p_compL F (p_all F M d) M e M c by simp [p_ask, h]]
      exact sm_comp hO hS hT (Or.inl h) ht hU hI
    · have h : f_k F (ix e) = 12 := hke
      rw [show p_ask F (p_all F M d) M e c = p_compL F (p_all F M d) M e M c by simp [p_ask, h]]
      exact sm_comp hO hS hT (Or.inr (Or.inl h)) ht hU hI
    · have h : f_k F (ix e) = 13 := hke
      rw [show p_ask F (p_all F M d) M e c = p_compL F (p_all F M d) M e M c by simp [p_ask, h]]
      exact sm_comp hO hS hT (Or.inr (Or.inr h)) ht hU hI
    · have h : f_k F (ix e) = 14 := hke
      rw [show p_ask F (p_all F M d) M e c = p_limitL F (p_all F M d) e M c by simp [p_ask, h]]
      exact sm_limit hO hS hT h ht hU hI
    · have h : f_k F (ix e) = 15 := hke
      rw [show p_ask F (p_all F M d) M e c = p_everyL F (p_all F M d) e M c by simp [p_ask, h]]
      exact sm_every hO hS hT (Or.inl h) ht hU hI
    · have h : f_k F (ix e) = 16 := hke
      rw [show p_ask F (p_all F M d) M e c = p_everyL F (p_all F M d) e M c by simp [p_ask, h]]
      exact sm_every hO hS hT (Or.inr h) ht hU hI
    · have h : f_k F (ix e) = 17 := hke
      rw [show p_ask F (p_all F M d) M e c = p_then F (p_all F M d) e c by simp [p_ask, h]]
      exact sm_then hS hT h ht hU hI
    · have h : f_k F (ix e) = 18 := hke
      rw [show p_ask F (p_all F M d) M e c = p_toL F (p_all F M d) M e M c by simp [p_ask, h]]
      exact sm_to hO hS hT h ht hU hI
    · have h : f_k F (ix e) = 19 := hke
      rw [show p_ask F (p_all F M d) M e c = p_if F (p_all F M d) e c by simp [p_ask, h]]
      exact sm_if hS hT h ht hU hI
