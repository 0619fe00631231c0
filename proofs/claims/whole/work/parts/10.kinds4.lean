/-! Kinds over pairs: AND, PLUS, MINUS, TIMES, LESS, EQUAL, OTHER. -/
def m_pr (e : Int32) (r : zR) : zR := u_kp r (3 * e) (r_gv r).toInt64
def m_po (e : Int32) (r : zR) (v : Int32) : Prop := r_kp r (3 * ix e) = v.toInt64
def K7 (k : Int32) : Prop := k = 7 ∨ k = 8 ∨ k = 9 ∨ k = 10 ∨ k = 11 ∨ k = 12 ∨ k = 13
theorem pr_mem {F : zF} {T : zT} {f d t : Nat} {e : Int32} (hT : Tr F T (d + 1) e) (hk : K7 (f_k F (ix e))) (ht : t + (d + 1) < 16) : Mem F T f t e (m_pr e) (m_po e) := by
  refine ⟨fun r => ⟨⟨rfl, rfl, rfl, rfl⟩, fun h => h, fr_kp (k := ix e) (b := 0) rfl (by decide) (ix_30 hT.1), rfl, ?_⟩, fun r r' v _ h2 h3 => h2.trans h3, fun r h => ?_, fun r h => ?_, fun c r n w hU hw _ => ?_⟩
  · show vp_updL (r_kp r) (ix (3 * e)) (r_gv r).toInt64 (3 * ix e) = _
    rw [ix_30 hT.1]; exact pk_uLs
  · rcases hk with k | k | k | k | k | k | k <;> simp [q_step, q_pair, hT.2.2.1, k, t_kc, h, m_pr]
  · rcases hk with k | k | k | k | k | k | k <;> simp [q_step, q_pair, hT.2.2.1, k, t_kc, h]
  · refine safe_of hT (by omega) hU (fun h => ?_) (fun h => ?_) <;> rcases hk with k | k | k | k | k | k | k <;> rw [k] at h <;> simp at h
theorem pr_lv {F : zF} {d : Nat} {e : Int32} {c : zC} {r : zR} {p : Nat} (hk : K7 (f_k F (ix e))) : Lv F (d + 1) e c r p ↔ (c_st c (ix e) = 2 ∧ r_ph r (ix e) = 2 ∧ r_kp r (3 * ix e) = (c_rs c (ix (f_x F (ix e)))).toInt64 ∧ ∃ p1 p2, Lv F d (f_x F (ix e)) c r p1 ∧ Lv F d (f_y F (ix e)) c r p2 ∧ p = p1 + p2 + 4) := by
  rcases hk with k | k | k | k | k | k | k
  · exact Lv_7 k
  · exact Lv_8 k
  · exact Lv_9 k
  · exact Lv_10 k
  · exact Lv_11 k
  · exact Lv_12 k
  · exact Lv_13 k
theorem pr_parts {F : zF} {T : zT} {d : Nat} {e : Int32} (hT : Tr F T (d + 1) e) (a2 : 2 ≤ f_a F e) : Prt F T d e 0 (f_x F (ix e)) ∧ Prt F T d e 1 (f_y F (ix e)) ∧ ∀ j, Sb F d (f_x F (ix e)) j → ¬ Sb F d (f_y F (ix e)) j := by
  have a1 : 1 ≤ f_a F e := by omega
  obtain ⟨hx, hpx, hne⟩ := hT.2.2.2.2.1 a1
  obtain ⟨hy, hpy, hney, hD⟩ := hT.2.2.2.2.2.1 a2
  exact ⟨⟨hx, hpx, hne, fun j h => Or.inr (Or.inl ⟨a1, h⟩)⟩, ⟨hy, hpy, hney, fun j h => Or.inr (Or.inr (Or.inl ⟨a2, h⟩))⟩, hD⟩
theorem k7_a {F : zF} {e : Int32} (hk : K7 (f_k F (ix e))) : 2 ≤ f_a F e := by rcases hk with k | k | k | k | k | k | k <;> simp [f_a, k]
/-- the first run of the loop when e is asked -/
theorem pr_start {F : zF} {T : zT} {M f d t n p : Nat} {e : Int32} {c : zC} {r : zR} (hO : Ok F T M f) (hS : zSim F T M f d) (hT : Tr F T (d + 1) e) (hk : K7 (f_k F (ix e))) (ht : t + (d + 1) < 16) (hU : zUp F f t e c r n) (hI : Idl F (d + 1) e c r p) :
    ∃ p1 p2, p = p1 + p2 ∧ (c_st c (ix e) = 0 ∧ p2 = 0 ∨ ¬ c_st c (ix e) = 0 ∧ p2 = 4) ∧ Paired F T f d t e (m_po e) c r p n n 0 p1 (c_st c (ix e) = 0) (p_pairL F (p_all F M d) e M c) := by
  obtain ⟨hX, hY, hD⟩ := pr_parts hT (k7_a hk)
  have hm := pr_mem (f := f) hT hk ht
  obtain ⟨-, -, hf, hMM⟩ := hO
  have hs : q_safe T (r, 0) := safe_of hT (by omega) hU (fun h => by rcases hk with k | k | k | k | k | k | k <;> rw [k] at h <;> simp at h) (fun h => by rcases hk with k | k | k | k | k | k | k <;> rw [k] at h <;> simp at h)
  have hq0 : q_step T e 0 r = if r_ph r (ix e) = 0 then q_first T e 0 1 r else q_ask T e 1 2 r := by
    rcases hk with k | k | k | k | k | k | k <;> simp [q_step, q_pair, hT.2.2.1, k, t_kc]
  rcases hI with ⟨h1, h2, rfl⟩ | hL
  · refine ⟨0, 0, rfl, Or.inl ⟨h1, rfl⟩, ?_⟩
    have hxe : ix (f_x F (ix e)) ≠ ix e := ne_of hX.1 hX.2.2.1
    exact pair_X hS ht hX hY hD hm M c r (u_ph r (f_x F (ix e)) 0) 0 n 0 0 (mid_0 hU) (by omega) (by rw [h1]; decide) hs (by rw [hq0, if_pos h2, q_first_eq hX.2.1]) ⟨rfl, rfl, rfl, rfl⟩ hU.1 (fr_ph (Or.inr (Tr_self hX.1))) (id_fresh hX.1 hX.2.2.1 (x1_f hxe h1)) (by omega)
  · obtain ⟨h1, h2, h3, px, py, hLx, hLy, rfl⟩ := (pr_lv hk).mp hL
    have h10 : ¬ c_st c (ix e) = 0 := by rw [h1]; decide
    refine ⟨px + py, 4, by omega, Or.inr ⟨h10, rfl⟩, ?_⟩
    obtain ⟨M', rfl⟩ : ∃ M', M = M' + 1 := ⟨M - 1, by omega⟩
    obtain ⟨hF9, ⟨g1, g2⟩ | ⟨g1, n2, m2, r2, g2, -, g3⟩ | g⟩ := pair_Y hS ht hX hY hD hm M' c r 0 n 0 px py (mid_0 hU) (by omega) h1 hs (by rw [hq0, h2]; rfl) hLx hLy h3 (p := px + py + 4) (by omega)
    · exact ⟨hF9, Or.inl ⟨g1, g2⟩⟩
    · exact ⟨hF9, Or.inr (Or.inl ⟨g1, n2, m2, r2, g2, fun h => absurd h h10, g3⟩)⟩
    · exact ⟨hF9, Or.inr (Or.inr g)⟩
/-- x failed: all fails -/
theorem pr_zero {F : zF} {T : zT} {f d t n p n2 m2 : Nat} {e : Int32} {c c2 : zC} {r r2 : zR} (hT : Tr F T (d + 1) e) (hk : K7 (f_k F (ix e))) (ht : t + (d + 1) < 16) (hM : Mid F T f d t e c r n c2 r2 2 n2 m2) (hph : r_ph r2 (ix e) = 1) (hn : c_st c (ix e) = 0 → n < n2) (hb : m2 + 1 + zK d n + 20 * n ≤ p + zK d n2 + 20 * n2) : Out F T f (d + 1) t e c r p n (0, c2) := by
  have hs := (pr_mem (f := f) hT hk ht).2.2.2.2 _ _ _ 2 hM.2.1 (by decide) (Or.inl hph)
  have hq : q_step T e 2 r2 = (0, r2) := by rcases hk with k | k | k | k | k | k | k <;> simp [q_step, q_pair, hT.2.2.1, k, t_kc, hph]
  refine mid_zero _ ht hM hs hq ⟨rfl, rfl, rfl, rfl⟩ hM.2.1.1 FrR.rf FrC.rf rfl hn ?_
  rw [zK_s, zK_s]; omega
/-- a pair gave a result v -/
theorem pr_one {F : zF} {T : zT} {f d t n p n2 m2 px py : Nat} {e v : Int32} {c c2 : zC} {r r2 : zR} (r0 : zR) (hT : Tr F T (d + 1) e) (hk : K7 (f_k F (ix e))) (ht : t + (d + 1) < 16) (hM : Mid F T f d t e c r n c2 r2 1 n2 m2) (hq : q_step T e 1 r2 = (1, r0)) (h0 : r0 = r2 ∧ r_gv r2 = v ∨ r0 = u_gv r2 v) (hph : r_ph r2 (ix e) = 2) (hst : c_st c2 (ix e) = 2) (hmo : m_po e r2 (c_rs c2 (ix (f_x F (ix e))))) (hLx : Lv F d (f_x F (ix e)) c2 r2 px) (hLy : Lv F d (f_y F (ix e)) c2 r2 py) (hn : n < n2)
    (hb : m2 + px + py + 5 + zK d n + 20 * n ≤ p + zK d n2 + 20 * n2) : Out F T f (d + 1) t e c r p n (1, s_rs c2 e v) := by
  obtain ⟨hX, hY, hD⟩ := pr_parts hT (k7_a hk)
  have hs := (pr_mem (f := f) hT hk ht).2.2.2.2 _ _ _ 1 hM.2.1 (by decide) (Or.inr (Or.inl hph))
  have hxe : ix (f_x F (ix e)) ≠ ix e := ne_of hX.1 hX.2.2.1
  have hr : FrR (fun _ => False) r2 r0 ∧ Ro r2 r0 ∧ r_gv r0 = v := by
    rcases h0 with ⟨rfl, h⟩ | rfl
    · exact ⟨FrR.rf, ⟨rfl, rfl, rfl, rfl⟩, h⟩
    · exact ⟨fr_gv, ⟨rfl, rfl, rfl, rfl⟩, rfl⟩
  obtain ⟨hr1, hr2, hr3⟩ := hr
  have hag : ∀ x : Int32, ¬ Sb F d x (ix e) → Ag (Sb F d x) c2 (s_rs c2 e v) r2 (u_tp r0 (nI t)) := fun x hx => Ag.of (D := fun j => j = ix e) (E := fun _ => False) (fc_rs (D := fun j => j = ix e) rfl) (hr1.tr fr_tp) (fun _ h q => hx (q ▸ h)) (fun _ _ q => q)
  have hN : Nm F r0 := fun j hj => ((hr1 j (fun q => q)).2.1).trans (hM.2.1.1 j hj)
  refine mid_one r0 ht hM hs hq ⟨hr2.2.1, hr2.2.2.1, hr2.2.2.2⟩ hN (hr2.1.trans hM.2.1.2.1) hM.2.1.2.2.1 (hr1.wk fun _ h => h.elim) (fc_rs (Or.inl rfl)) (hr3.trans (pk_us (f := c_rs c2)).symm) ((pr_lv hk).mpr ⟨hst, ((hr1 _ (fun q => q)).1).trans hph, ?_, px, py, Lv_cong d _ _ (hag _ hX.2.2.1) hLx, Lv_cong d _ _ (hag _ hY.2.2.1) hLy, rfl⟩) hn ?_
  · show r_kp r0 (3 * ix e) = (upd (c_rs c2) (ix e) v (ix (f_x F (ix e)))).toInt64
    rw [pk_un hxe, (hr1 _ (fun q => q)).2.2.1]
    exact hmo
  · rw [zK_s, zK_s]; omega
theorem sm_and {F : zF} {T : zT} {M f d t n p : Nat} {e : Int32} {c : zC} {r : zR} (hO : Ok F T M f) (hS : zSim F T M f d) (hT : Tr F T (d + 1) e) (hk : f_k F (ix e) = 7) (ht : t + (d + 1) < 16) (hU : zUp F f t e c r n) (hI : Idl F (d + 1) e c r p) : Out F T f (d + 1) t e c r p n (p_up e (f_y F (ix e)) (p_pairL F (p_all F M d) e M c)) := by
  have hk7 : K7 (f_k F (ix e)) := Or.inl hk
  obtain ⟨p1, p2, rfl, hp2, hP⟩ := pr_start hO hS hT hk7 ht hU hI
  generalize p_pairL F (p_all F M d) e M c = q at hP
  obtain ⟨v, c2⟩ := q
  obtain ⟨hF9, ⟨hv, n2, m2, r2, px, py, hn, hM, hph, hst, hmo, hgv, hLx, hLy, hb⟩ | ⟨hv, n2, m2, r2, hn, hfr, hM, hph, hb⟩ | ⟨hv, herr⟩⟩ := hP
  · dsimp only at hv; subst hv
    have hp : p_up e (f_y F (ix e)) ((1 : Int32), c2) = (1, s_rs c2 e (c_rs c2 (ix (f_y F (ix e))))) := by simp [p_up, p_give]
    rw [hp]
    exact pr_one r2 hT hk7 ht hM (by simp [q_step, q_pair, hT.2.2.1, hk, t_kc, hph]) (Or.inl ⟨rfl, hgv⟩) hph hst hmo hLx hLy hn (by omega)
  · dsimp only at hv; subst hv
    have hp : p_up e (f_y F (ix e)) ((0 : Int32), c2) = (0, c2) := by simp [p_up]
    rw [hp]
    refine pr_zero hT hk7 ht hM hph hfr ?_
    rcases hp2 with ⟨h0, h2⟩ | ⟨h0, h2⟩
    · have := hfr h0; omega
    · omega
  · have hp : p_up e (f_y F (ix e)) (v, c2) = (v, c2) := by simp [p_up, neg1 hv]
    rw [hp]
    exact herr c2 rfl hF9
theorem sm_arith {F : zF} {T : zT} {M f d t n p : Nat} {e : Int32} {c : zC} {r : zR} (hO : Ok F T M f) (hS : zSim F T M f d) (hT : Tr F T (d + 1) e) (hk : f_k F (ix e) = 8 ∨ f_k F (ix e) = 9 ∨ f_k F (ix e) = 10) (ht : t + (d + 1) < 16) (hU : zUp F f t e c r n) (hI : Idl F (d + 1) e c r p) : Out F T f (d + 1) t e c r p n (p_arith F (p_all F M d) M e c) := by
  have hk7 : K7 (f_k F (ix e)) := by
    rcases hk with k | k | k
    · exact Or.inr (Or.inl k)
    · exact Or.inr (Or.inr (Or.inl k))
    · exact Or.inr (Or.inr (Or.inr (Or.inl k)))
  obtain ⟨p1, p2, rfl, hp2, hP⟩ := pr_start hO hS hT hk7 ht hU hI
  have hpe : p_arith F (p_all F M d) M e c = (let q := p_pairL F (p_all F M d) e M c; if q.1 = 1 then
      let v := p_calc (f_k F (ix e)) (c_rs q.2 (ix (f_x F (ix e)))).toInt64 (c_rs q.2 (ix (f_y F (ix e)))).toInt64
      if v = v.toInt32.toInt64 then p_give e v.toInt32 q.2 else (-4, q.2) else q) := rfl
  generalize p_pairL F (p_all F M d) e M c = q at hP hpe
  obtain ⟨v, c2⟩ := q
  obtain ⟨hF9, ⟨hv, n2, m2, r2, px, py, hn, hM, hph, hst, hmo, hgv, hLx, hLy, hb⟩ | ⟨hv, n2, m2, r2, hn, hfr, hM, hph, hb⟩ | ⟨hv, herr⟩⟩ := hP
  · dsimp only at hv; subst hv
    generalize hz : p_calc (f_k F (ix e)) (c_rs c2 (ix (f_x F (ix e)))).toInt64 (c_rs c2 (ix (f_y F (ix e)))).toInt64 = z at hpe
    have hq1 : q_step T e 1 r2 = if z = z.toInt32.toInt64 then (1, u_gv r2 z.toInt32) else (0, u_er r2 (-4)) := by
      have hmo' : r_kp r2 (ix (3 * e)) = (c_rs c2 (ix (f_x F (ix e)))).toInt64 := by rw [ix_30 hT.1]; exact hmo
      rw [← hz]
      rcases hk with k | k | k <;> simp [q_step, q_pair, hT.2.2.1, k, t_kc, hph, hmo', hgv, p_calc, q_give]
    by_cases hfit : z = z.toInt32.toInt64
    · have hp : p_arith F (p_all F M d) M e c = (1, s_rs c2 e z.toInt32) := by
        rw [hpe]; simp only [if_true, hz]; rw [if_pos hfit]; rfl
      rw [if_pos hfit] at hq1
      rw [hp]
      exact pr_one _ hT hk7 ht hM hq1 (Or.inr rfl) hph hst hmo hLx hLy hn (by omega)
    · have hp : p_arith F (p_all F M d) M e c = (-4, c2) := by
        rw [hpe]; simp only [if_true, hz]; rw [if_neg hfit]
      rw [if_neg hfit] at hq1
      rw [hp]
      refine mid_bad ht hM ((pr_mem (f := f) hT hk7 ht).2.2.2.2 _ _ _ 1 hM.2.1 (by decide) (Or.inr (Or.inl hph))) hq1 rfl (by decide) hM.2.1.2.1 hM.2.1.2.2.1 FrC.rf ?_
      rw [zK_s, zK_s]; omega
  · dsimp only at hv; subst hv
    have hp : p_arith F (p_all F M d) M e c = (0, c2) := by rw [hpe]; simp
    rw [hp]
    refine pr_zero hT hk7 ht hM hph hfr ?_
    rcases hp2 with ⟨h0, h2⟩ | ⟨h0, h2⟩
    · have := hfr h0; omega
    · omega
  · have hp : p_arith F (p_all F M d) M e c = (v, c2) := by rw [hpe]; simp [neg1 hv]
    rw [hp]
    exact herr c2 rfl hF9
theorem i64_lt (a b : Int32) : a.toInt64 < b.toInt64 ↔ a < b := by
  rw [Int64.lt_iff_toInt_lt, Int32.lt_iff_toInt_lt, Int32.toInt_toInt64, Int32.toInt_toInt64]
theorem i64_eq (a b : Int32) : a.toInt64 = b.toInt64 ↔ a = b := by
  rw [← Int64.toInt_inj, ← Int32.toInt_inj, Int32.toInt_toInt64, Int32.toInt_toInt64]
theorem i64_0 (a : Int32) : (0 : Int64) < a.toInt64 ↔ 0 < a := i64_lt 0 a
/-- from a run of the loop on: the comparison holds, or the next run -/
theorem cmp_L {F : zF} {T : zT} {M f d t n p : Nat} {e : Int32} {c : zC} {r : zR} (hO : Ok F T M f) (hS : zSim F T M f d) (hT : Tr F T (d + 1) e) (hk : f_k F (ix e) = 11 ∨ f_k F (ix e) = 12 ∨ f_k F (ix e) = 13) (ht : t + (d + 1) < 16) :
    ∀ (τ : Nat) (c1 : zC) (n1 m1 p1 : Nat) (fr : Prop), Paired F T f d t e (m_po e) c r p n n1 m1 p1 fr (p_pairL F (p_all F M d) e M c1) → f ≤ n1 + τ → n ≤ n1 → (c_st c (ix e) = 0 → n < n1 ∨ fr) → m1 + p1 + zK d n + 13 * n ≤ p + zK d n1 + 13 * n1 → n < n1 ∨ fr ∨ m1 + p1 + 4 + zK d n + 13 * n ≤ p + zK d n1 + 13 * n1 →
      Out F T f (d + 1) t e c r p n (p_compL F (p_all F M d) M e (τ + 1) c1) := by
  have hk7 : K7 (f_k F (ix e)) := by
    rcases hk with k | k | k
    · exact Or.inr (Or.inr (Or.inr (Or.inr (Or.inl k))))
    · exact Or.inr (Or.inr (Or.inr (Or.inr (Or.inr (Or.inl k)))))
    · exact Or.inr (Or.inr (Or.inr (Or.inr (Or.inr (Or.inr k)))))
  obtain ⟨hX, hY, hD⟩ := pr_parts hT (k7_a hk7)
  have hm := pr_mem (f := f) hT hk7 ht
  intro τ
  induction τ with
  | zero =>
    intro c1 n1 m1 p1 fr hP hτ hn1 hfr1 hb1 hb2
    have hpe : p_compL F (p_all F M d) M e (0 + 1) c1 = (let q := p_pairL F (p_all F M d) e M c1; if q.1 = 1 then
        if p_holds (f_k F (ix e)) (c_rs q.2 (ix (f_x F (ix e)))) (c_rs q.2 (ix (f_y F (ix e)))) = true then p_give e (c_rs q.2 (ix (f_y F (ix e)))) q.2 else p_compL F (p_all F M d) M e 0 q.2 else q) := rfl
    generalize p_pairL F (p_all F M d) e M c1 = q at hP hpe
    obtain ⟨v, c2⟩ := q
    obtain ⟨hF9, ⟨hv, n2, m2, r2, px, py, hn, hM, hph, hst, hmo, hgv, hLx, hLy, hb⟩ | ⟨hv, n2, m2, r2, hn, hfr, hM, hph, hb⟩ | ⟨hv, herr⟩⟩ := hP
    · have := hM.2.1.2.2.1.2.1
      omega
    · dsimp only at hv; subst hv
      have hp : p_compL F (p_all F M d) M e (0 + 1) c1 = (0, c2) := by rw [hpe]; simp
      rw [hp]
      refine pr_zero hT hk7 ht hM hph (fun h => ?_) ?_
      · rcases hfr1 h with h | h
        · omega
        · have := hfr h; omega
      · rcases hb2 with h | h | h
        · omega
        · have := hfr h; omega
        · omega
    · have hp : p_compL F (p_all F M d) M e (0 + 1) c1 = (v, c2) := by rw [hpe]; simp [neg1 hv]
      rw [hp]
      exact herr c2 rfl hF9
  | succ τ ih =>
    intro c1 n1 m1 p1 fr hP hτ hn1 hfr1 hb1 hb2
    have hpe : p_compL F (p_all F M d) M e (τ + 1 + 1) c1 = (let q := p_pairL F (p_all F M d) e M c1; if q.1 = 1 then
        if p_holds (f_k F (ix e)) (c_rs q.2 (ix (f_x F (ix e)))) (c_rs q.2 (ix (f_y F (ix e)))) = true then p_give e (c_rs q.2 (ix (f_y F (ix e)))) q.2 else p_compL F (p_all F M d) M e (τ + 1) q.2 else q) := rfl
    generalize p_pairL F (p_all F M d) e M c1 = q at hP hpe
    obtain ⟨v, c2⟩ := q
    obtain ⟨hF9, ⟨hv, n2, m2, r2, px, py, hn, hM, hph, hst, hmo, hgv, hLx, hLy, hb⟩ | ⟨hv, n2, m2, r2, hn, hfr, hM, hph, hb⟩ | ⟨hv, herr⟩⟩ := hP
    · dsimp only at hv; subst hv
      simp only [if_true] at hpe
      have hq1 : q_step T e 1 r2 = if p_holds (f_k F (ix e)) (c_rs c2 (ix (f_x F (ix e)))) (c_rs c2 (ix (f_y F (ix e)))) = true then (1, r2) else q_ask T e 1 2 r2 := by
        have hmo' : r_kp r2 (ix (3 * e)) = (c_rs c2 (ix (f_x F (ix e)))).toInt64 := by rw [ix_30 hT.1]; exact hmo
        rcases hk with k | k | k <;> simp [q_step, q_pair, hT.2.2.1, k, t_kc, hph, hmo', hgv, p_holds, i64_lt, i64_eq]
      by_cases hh : p_holds (f_k F (ix e)) (c_rs c2 (ix (f_x F (ix e)))) (c_rs c2 (ix (f_y F (ix e)))) = true
      · rw [if_pos hh] at hq1
        have hp : p_compL F (p_all F M d) M e (τ + 1 + 1) c1 = (1, s_rs c2 e (c_rs c2 (ix (f_y F (ix e))))) := by rw [hpe, if_pos hh]; rfl
        rw [hp]
        exact pr_one r2 hT hk7 ht hM hq1 (Or.inl ⟨rfl, hgv⟩) hph hst hmo hLx hLy (by omega) (by omega)
      · rw [if_neg hh] at hq1
        have hp : p_compL F (p_all F M d) M e (τ + 1 + 1) c1 = p_compL F (p_all F M d) M e (τ + 1) c2 := by rw [hpe, if_neg hh]
        rw [hp]
        obtain ⟨M', rfl⟩ : ∃ M', M = M' + 1 := ⟨M - 1, by have := hO.2.2.2; omega⟩
        have hfO := hO.2.2
        have hY2 := pair_Y hS ht hX hY hD hm M' c2 r2 1 n2 m2 px py hM (by omega) hst (hm.2.2.2.2 _ _ _ 1 hM.2.1 (by decide) (Or.inr (Or.inl hph))) hq1 hLx hLy hmo (p := p) (by omega)
        exact ih c2 n2 m2 (px + py) False hY2 (by omega) (by omega) (fun _ => Or.inl (by omega)) (by omega) (Or.inl (by omega))
    · dsimp only at hv; subst hv
      have hp : p_compL F (p_all F M d) M e (τ + 1 + 1) c1 = (0, c2) := by rw [hpe]; simp
      rw [hp]
      refine pr_zero hT hk7 ht hM hph (fun h => ?_) ?_
      · rcases hfr1 h with h | h
        · omega
        · have := hfr h; omega
      · rcases hb2 with h | h | h
        · omega
        · have := hfr h; omega
        · omega
    · have hp : p_compL F (p_all F M d) M e (τ + 1 + 1) c1 = (v, c2) := by rw [hpe]; simp [neg1 hv]
      rw [hp]
      exact herr c2 rfl hF9
theorem sm_comp {F : zF} {T : zT} {M f d t n p : Nat} {e : Int32} {c : zC} {r : zR} (hO : Ok F T M f) (hS : zSim F T M f d) (hT : Tr F T (d + 1) e) (hk : f_k F (ix e) = 11 ∨ f_k F (ix e) = 12 ∨ f_k F (ix e) = 13) (ht : t + (d + 1) < 16) (hU : zUp F f t e c r n) (hI : Idl F (d + 1) e c r p) : Out F T f (d + 1) t e c r p n (p_compL F (p_all F M d) M e M c) := by
  have hk7 : K7 (f_k F (ix e)) := by
    rcases hk with k | k | k
    · exact Or.inr (Or.inr (Or.inr (Or.inr (Or.inl k))))
    · exact Or.inr (Or.inr (Or.inr (Or.inr (Or.inr (Or.inl k)))))
    · exact Or.inr (Or.inr (Or.inr (Or.inr (Or.inr (Or.inr k)))))
  obtain ⟨p1, p2, rfl, hp2, hP⟩ := pr_start hO hS hT hk7 ht hU hI
  have hM := hO.2.2
  have h := cmp_L hO hS hT hk ht (M - 1) c n 0 p1 _ hP (by omega) (Nat.le_refl _) (fun h => Or.inr h) (by omega) (by
    rcases hp2 with ⟨h0, h2⟩ | ⟨h0, h2⟩
    · exact Or.inr (Or.inl h0)
    · exact Or.inr (Or.inr (by omega)))
  rw [show M - 1 + 1 = M by omega] at h
  exact h
