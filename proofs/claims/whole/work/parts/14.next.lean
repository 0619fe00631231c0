/-! What `next` of the other side comes to. -/
/-- a row of calls that each want a result: stopped at n or at the first that gave none -/
def Sk {S : Type} (sq : Nat → S) (an : Nat → Int32) (n r : Int32) (u : S) : Prop := ∃ j : Nat, r = nI j ∧ (∀ i, i < j → an i = 1 ∧ nI i < n) ∧ (¬ nI j < n ∧ u = sq j ∨ nI j < n ∧ ¬ an j = 1 ∧ u = sq (j + 1))
theorem with_100 {n : Int32} (h : p_with n 1 100 = true) : ¬ nI 100 < n := fun q => by
  unfold p_with at h
  by_cases h0 : n < 1
  · rw [if_pos h0] at h; exact absurd h (by decide)
  rw [if_neg h0, if_pos (show (100 : Int32) < n from q)] at h
  exact absurd h (by decide)
def r_0 (Y : zY) : zR := u_tp (u_sk (u_er (y_r Y) 0) 0 (y_b Y)) 1
def NxtE (Y : zY) (r : zR) (w v : Int32) (U : zY) : Prop :=
  (r_tp r = 0 ∧ (w = 2 ∧ v = 0 ∧ U = Y_e (Y_r Y r) 0 ∨ ¬ w = 2 ∧ v = 1 ∧ U = Y_l (Y_r Y r) (r_gv r))) ∨
  (q_safe (y_T Y) (r, w) ∧ ¬ v = 0 ∧ r_er (q_step (y_T Y) (r_sk r (ix (r_tp r - 1))) w r).2 = v ∧ U = Y_e (Y_r Y (q_step (y_T Y) (r_sk r (ix (r_tp r - 1))) w r).2) v)
def NxtY (Y : zY) (v : Int32) (U : zY) : Prop :=
  (y_b Y < 0 ∧ v = -1 ∧ U = Y) ∨ (¬ y_b Y < 0 ∧ ¬ y_e Y = 2 ∧ v = y_e Y ∧ U = Y) ∨
  (¬ y_b Y < 0 ∧ y_e Y = 2 ∧ ∃ (m : Nat) (r : zR) (w : Int32), m < 8000000 ∧ Go (y_T Y) m (r_0 Y, 0) (r, w) ∧ NxtE Y r w v U)
section NX
variable {Y U : zY} {v w : Int32} {r : zR}
theorem nx_a (h : NxtY Y v U) (c : y_b Y < 0) : -1 = v ∧ Y = U := by
  rcases h with ⟨_, h1, h2⟩ | ⟨h1, _⟩ | ⟨h1, _⟩
  · exact ⟨h1.symm, h2.symm⟩
  · exact absurd c h1
  · exact absurd c h1
theorem nx_b (h : NxtY Y v U) (c : ¬ y_b Y < 0) (c2 : ¬ y_e Y = 2) : y_e Y = v ∧ Y = U := by
  rcases h with ⟨h1, _⟩ | ⟨_, _, h1, h2⟩ | ⟨_, h1, _⟩
  · exact absurd h1 c
  · exact ⟨h1.symm, h2.symm⟩
  · exact absurd h1 c2
theorem nx_c (h : NxtY Y v U) (c : ¬ y_b Y < 0) (c2 : y_e Y = 2) : ∃ (m : Nat) (r : zR) (w : Int32), m < 8000000 ∧ Go (y_T Y) m (r_0 Y, 0) (r, w) ∧ NxtE Y r w v U := by
  rcases h with ⟨h1, _⟩ | ⟨_, h1, _⟩ | ⟨_, _, h⟩
  · exact absurd h1 c
  · exact absurd c2 h1
  · exact h
theorem go_end (h : NxtE Y r w v U) : r_tp r = 0 ∨ q_safe (y_T Y) (r, w) := by
  rcases h with ⟨h, _⟩ | ⟨h, _⟩
  · exact Or.inl h
  · exact Or.inr h
theorem tp_pr {t : Nat} (h : t < 15) (e : r_tp r = nI (t + 1)) : vp_in (r_tp r - 1) 16 := by
  rw [e, nI_pred]; exact vp_in_nI (by omega) (by decide)
theorem tp_pos {t : Nat} (h : t < 15) (e : r_tp r = nI (t + 1)) : 0 < r_tp r := by
  rw [e]; exact nI_lt (a := 0) (by omega) (by omega)
theorem tp_no (h : NxtE Y r w v U) (h0 : r_tp r = 0) : w = 2 ∧ v = 0 ∧ U = Y_e (Y_r Y r) 0 ∨ ¬ w = 2 ∧ v = 1 ∧ U = Y_l (Y_r Y r) (r_gv r) := by
  rcases h with ⟨_, h⟩ | ⟨⟨t, ht, htp, _⟩, _⟩
  · exact h
  · exfalso
    have := tp_pos (r := r) ht htp
    rw [h0] at this
    exact absurd this (by decide)
theorem nx_2 (h : NxtE Y r w v U) (h0 : r_tp r = 0) (c : w = 2) : 0 = v ∧ Y_e (Y_r Y r) 0 = U := by
  rcases tp_no h h0 with ⟨_, h1, h2⟩ | ⟨h1, _⟩
  · exact ⟨h1.symm, h2.symm⟩
  · exact absurd c h1
theorem nx_1 (h : NxtE Y r w v U) (h0 : r_tp r = 0) (c : ¬ w = 2) : 1 = v ∧ Y_l (Y_r Y r) (r_gv r) = U := by
  rcases tp_no h h0 with ⟨h1, _⟩ | ⟨_, h1, h2⟩
  · exact absurd h1 c
  · exact ⟨h1.symm, h2.symm⟩
theorem nx_st (h : NxtE Y r w v U) (hp : 0 < r_tp r) : ¬ v = 0 ∧ r_er (q_step (y_T Y) (r_sk r (ix (r_tp r - 1))) w r).2 = v ∧ U = Y_e (Y_r Y (q_step (y_T Y) (r_sk r (ix (r_tp r - 1))) w r).2) v := by
  rcases h with ⟨h, _⟩ | ⟨_, h⟩
  · rw [h] at hp; exact absurd hp (by decide)
  · exact h
theorem nx_er {a : Int32} {u : zR} (h : NxtE Y r w v U) (hp : 0 < r_tp r) (hq : q_step (y_T Y) (r_sk r (ix (r_tp r - 1))) w r = (a, u)) (c : r_er u = 0) : False := by
  obtain ⟨h1, h2, _⟩ := nx_st h hp
  rw [hq] at h2
  exact h1 (h2.symm.trans c)
theorem nx_bad {a : Int32} {u : zR} (h : NxtE Y r w v U) (hp : 0 < r_tp r) (hq : q_step (y_T Y) (r_sk r (ix (r_tp r - 1))) w r = (a, u)) : r_er u = v ∧ Y_e (Y_r Y u) (r_er u) = U := by
  obtain ⟨h1, h2, h3⟩ := nx_st h hp
  rw [hq] at h2 h3
  have h2 : r_er u = v := h2
  exact ⟨h2, by rw [h2]; exact h3.symm⟩
theorem rn_lt {n : Nat} (h : n < 10000000) : nI n < 10000000 := nI_lt h (by decide)
theorem qt_eq {T : zT} {a : Int32} {u : zR} (hq : q_step T (r_sk r (ix (r_tp r - 1))) w r = (a, u)) : q_turn T (r, w) = if a = 2 then (u, 0) else (u_tp u (r_tp u - 1), if a = 1 then 1 else 2) := by
  unfold q_turn; simp only [hq]
theorem qt_er {T : zT} {a : Int32} {u : zR} (hq : q_step T (r_sk r (ix (r_tp r - 1))) w r = (a, u)) (h : r_er (q_turn T (r, w)).1 = 0) : r_er u = 0 := by
  rw [qt_eq hq] at h
  by_cases h2 : a = 2
  · rw [if_pos h2] at h; exact h
  · rw [if_neg h2] at h; exact h
theorem qt_2 {T : zT} {a : Int32} {u : zR} {m : Nat} {z : zR × Int32} (hq : q_step T (r_sk r (ix (r_tp r - 1))) w r = (a, u)) (h : Go T m (q_turn T (r, w)) z) (c : a = 2) : Go T m (u, 0) z := by
  rw [qt_eq hq, if_pos c] at h; exact h
theorem qt_1 {T : zT} {a : Int32} {u : zR} {m : Nat} {z : zR × Int32} (hq : q_step T (r_sk r (ix (r_tp r - 1))) w r = (a, u)) (h : Go T m (q_turn T (r, w)) z) (c : ¬ a = 2) (c1 : a = 1) : Go T m (u_tp u (r_tp u - 1), 1) z := by
  rw [qt_eq hq, if_neg c, if_pos c1] at h; exact h
theorem qt_0 {T : zT} {a : Int32} {u : zR} {m : Nat} {z : zR × Int32} (hq : q_step T (r_sk r (ix (r_tp r - 1))) w r = (a, u)) (h : Go T m (q_turn T (r, w)) z) (c : ¬ a = 2) (c1 : ¬ a = 1) : Go T m (u_tp u (r_tp u - 1), 2) z := by
  rw [qt_eq hq, if_neg c, if_neg c1] at h; exact h
end NX
