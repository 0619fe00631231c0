/-! One question to the recursion is a row of steps of the machine. -/
def q_ok (T : zT) (e w : Int32) (s : zR) : Prop :=
  (∃ n : Nat, n ≤ 32 ∧ g_wc (r_g s) = nI n) ∧ (t_k T (ix e) < 10 → ¬ t_k T (ix e) = 0 → vp_in (r_nm s (ix e)) 8) ∧ (t_k T (ix e) - 10 = 0 → vp_in (r_nm s (ix e)) 8) ∧
  (¬ t_k T (ix e) < 10 → vp_in (t_p T (ix (3 * e + 0))) 60) ∧ (¬ t_k T (ix e) < 20 → vp_in (t_p T (ix (3 * e + 1))) 60) ∧ (¬ t_k T (ix e) < 40 → vp_in (t_p T (ix (3 * e + 2))) 60) ∧
  (t_k T (ix e) - 20 = 0 → w = 0 → r_ph s (ix e) = 0 ∨ r_ph s (ix e) = 1 ∨ r_ph s (ix e) = 2 ∨ r_ph s (ix e) = 3) ∧
  (¬ t_k T (ix e) < 40 → ¬ t_k T (ix e) = 40 → w = 0 → r_ph s (ix e) = 0 ∨ r_ph s (ix e) = 1 ∨ r_ph s (ix e) = 2 ∨ r_ph s (ix e) = 3) ∧
  (t_k T (ix e) = 40 → ¬ w = 0 → r_ph s (ix e) = 1 ∨ r_ph s (ix e) = 2 ∨ r_ph s (ix e) = 3)
def q_safe (T : zT) (a : zR × Int32) : Prop := ∃ t : Nat, t < 15 ∧ r_tp a.1 = nI (t + 1) ∧ vp_in (r_sk a.1 t) 60 ∧ q_ok T (r_sk a.1 t) a.2 a.1
def Go (T : zT) : Nat → zR × Int32 → zR × Int32 → Prop
  | 0, a, b => a = b
  | m + 1, a, b => q_safe T a ∧ r_er (q_turn T a).1 = 0 ∧ Go T m (q_turn T a) b
theorem Go_trans {T : zT} : ∀ (m n : Nat) (a b c : zR × Int32), Go T m a b → Go T n b c → Go T (m + n) a c
  | 0, n, a, b, c, h, g => by rw [Nat.zero_add]; cases h; exact g
  | m + 1, n, a, b, c, h, g => by
    rw [Nat.succ_add]
    exact ⟨h.1, h.2.1, Go_trans m n _ b c h.2.2 g⟩
/-- the step that ends in an error: its number, and what stays -/
def Bad (T : zT) (a : zR × Int32) (v : Int32) (g : zG) : Prop :=
  q_safe T a ∧ r_er (q_step T (r_sk a.1 (ix (r_tp a.1 - 1))) a.2 a.1).2 = v ∧ r_g (q_step T (r_sk a.1 (ix (r_tp a.1 - 1))) a.2 a.1).2 = g
def Nm (F : zF) (r : zR) : Prop := ∀ j, ¬ f_k F j = 18 → r_nm r j = f_n F j
def Gk (f : Nat) (g : zG) (n : Nat) : Prop := g_sp g = nI n ∧ n ≤ f ∧ ∃ w : Nat, w ≤ 32 ∧ g_wc g = nI w
/-- e is on top, at place t, and both sides have one world -/
def zUp (F : zF) (f t : Nat) (e : Int32) (c : zC) (r : zR) (n : Nat) : Prop :=
  Nm F r ∧ r_g r = c_g c ∧ Gk f (c_g c) n ∧ r_er r = 0 ∧ r_tp r = nI (t + 1) ∧ r_sk r t = e
/-- the same when it has gone -/
def Dn (F : zF) (f t : Nat) (c : zC) (r r0 : zR) (n : Nat) : Prop :=
  Nm F r ∧ r_g r = c_g c ∧ Gk f (c_g c) n ∧ r_er r = 0 ∧ r_tp r = nI t ∧ ∀ j, j < t → r_sk r j = r_sk r0 j
def zK (d n : Nat) : Nat := 20 * d * n
theorem zK_s (d n : Nat) : zK (d + 1) n = zK d n + 20 * n := by unfold zK; rw [Nat.mul_add, Nat.add_mul]
def Idl (F : zF) (d : Nat) (e : Int32) (c : zC) (r : zR) (p : Nat) : Prop := (c_st c (ix e) = 0 ∧ r_ph r (ix e) = 0 ∧ p = 0) ∨ Lv F d e c r p
/-- what a question to e comes to -/
def Out (F : zF) (T : zT) (f d t : Nat) (e : Int32) (c : zC) (r : zR) (p n : Nat) (q : Int32 × zC) : Prop :=
  ∃ n', n ≤ n' ∧ FrC (Sb F d e) c q.2 ∧
    ((q.1 = 1 ∧ n < n' ∧ ∃ m r' p', Go T m (r, 0) (r', 1) ∧ Dn F f t q.2 r' r n' ∧ FrR (Sb F d e) r r' ∧ r_gv r' = c_rs q.2 (ix e) ∧ Lv F d e q.2 r' p' ∧ m + p' + zK d n ≤ p + zK d n') ∨
     (q.1 = 0 ∧ (c_st c (ix e) = 0 → n < n') ∧ ∃ m r', Go T m (r, 0) (r', 2) ∧ Dn F f t q.2 r' r n' ∧ FrR (Sb F d e) r r' ∧ m + zK d n ≤ p + zK d n') ∨
     (q.1 < 0 ∧ Gk f (c_g q.2) n' ∧ ∃ m r' w, Go T m (r, 0) (r', w) ∧ Bad T (r', w) q.1 (c_g q.2) ∧ m + zK d n ≤ p + zK d n' + 4 * d))
def zSim (F : zF) (T : zT) (M f d : Nat) : Prop := ∀ (t : Nat) (e : Int32) (c : zC) (r : zR) (p n : Nat), Tr F T d e → t + d < 16 → zUp F f t e c r n → Idl F d e c r p → Out F T f d t e c r p n (p_all F M d e c)
/-- a part is laid on the stack -/
def pu (r : zR) (e th : Int32) (t : Nat) (x : Int32) : zR := (upd r.1 (ix e) th, r.2.1, r.2.2.1, r.2.2.2.1, r.2.2.2.2.1, r.2.2.2.2.2.1, upd r.2.2.2.2.2.2.1 (t + 1) x, nI (t + 2))
theorem ix_pr {t : Nat} (h : t < 15) : ix (nI (t + 1) - 1) = t := by rw [nI_pred, ix_nI (by omega)]
theorem q_ask_eq {T : zT} {e i th : Int32} {r : zR} {t : Nat} (h : r_tp r = nI (t + 1)) (ht : t < 15) : q_ask T e i th r = (2, pu r e th t (t_p T (ix (3 * e + i)))) := by
  have h1 : r.2.2.2.2.2.2.2 = nI (t + 1) := h
  have h2 : ix (nI (t + 1)) = t + 1 := ix_nI (by omega)
  have h3 : nI (t + 1) + 1 = nI (t + 2) := (nI_succ (t + 1)).symm
  simp only [q_ask, pu, u_ph, u_sk, u_tp, r_tp, h1, h2, h3]
theorem q_first_eq {T : zT} {e i th x : Int32} {r : zR} (hx : t_p T (ix (3 * e + i)) = x) : q_first T e i th r = q_ask T e i th (u_ph r x 0) := by
  unfold q_first; rw [hx]
theorem go_push {T : zT} {e w i th x : Int32} {r r0 : zR} {t : Nat} (hs : q_safe T (r, w)) (ht : t < 15) (htp : r_tp r = nI (t + 1)) (hsk : r_sk r t = e) (hq : q_step T e w r = q_ask T e i th r0) (h0 : r_tp r0 = nI (t + 1)) (he : r_er r0 = 0) (hx : t_p T (ix (3 * e + i)) = x) : Go T 1 (r, w) (pu r0 e th t x, 0) := by
  have h1 : q_turn T (r, w) = (pu r0 e th t x, 0) := by
    simp only [q_turn]
    rw [htp, ix_pr ht, hsk, hq, q_ask_eq h0 ht, hx]
    rfl
  exact ⟨hs, by rw [h1]; exact he, by rw [h1]; rfl⟩
theorem go_pop {T : zT} {e w v : Int32} {r r0 : zR} {t : Nat} (hs : q_safe T (r, w)) (ht : t < 15) (htp : r_tp r = nI (t + 1)) (hsk : r_sk r t = e) (hq : q_step T e w r = (v, r0)) (hv : ¬ v = 2) (h0 : r_tp r0 = nI (t + 1)) (he : r_er r0 = 0) : Go T 1 (r, w) (u_tp r0 (nI t), if v = 1 then 1 else 2) := by
  have h1 : q_turn T (r, w) = (u_tp r0 (nI t), if v = 1 then 1 else 2) := by
    simp only [q_turn]
    rw [htp, ix_pr ht, hsk, hq]
    simp only [if_neg hv, h0, nI_pred]
  exact ⟨hs, by rw [h1]; exact he, by rw [h1]; rfl⟩
theorem bad_of {T : zT} {e w v : Int32} {r : zR} {g : zG} {t : Nat} {q : Int32 × zR} (hs : q_safe T (r, w)) (ht : t < 15) (htp : r_tp r = nI (t + 1)) (hsk : r_sk r t = e) (hq : q_step T e w r = q) (he : r_er q.2 = v) (hg : r_g q.2 = g) : Bad T (r, w) v g := by
  refine ⟨hs, ?_, ?_⟩ <;> dsimp only <;> rw [htp, ix_pr ht, hsk, hq]
  · exact he
  · exact hg
/-- a node whose kind is known has its parts in place -/
theorem safe_of {F : zF} {T : zT} {f d t n : Nat} {e w : Int32} {c : zC} {r : zR} (hT : Tr F T (d + 1) e) (ht : t < 15) (hU : zUp F f t e c r n)
    (h1 : f_k F (ix e) = 6 ∨ f_k F (ix e) = 19 → w = 0 → r_ph r (ix e) = 0 ∨ r_ph r (ix e) = 1 ∨ r_ph r (ix e) = 2 ∨ r_ph r (ix e) = 3)
    (h2 : f_k F (ix e) = 18 → ¬ w = 0 → r_ph r (ix e) = 1 ∨ r_ph r (ix e) = 2 ∨ r_ph r (ix e) = 3) : q_safe T (r, w) := by
  obtain ⟨hN, hg, ⟨-, -, hw⟩, -, htp, hsk⟩ := hU
  obtain ⟨hv, ⟨k, hk, hke⟩, htk, hnm, ha1, ha2, ha3⟩ := hT
  refine ⟨t, ht, htp, by rw [hsk]; exact hv, ?_⟩
  rw [hsk]
  have hk' : k = 0 ∨ k = 1 ∨ k = 2 ∨ k = 3 ∨ k = 4 ∨ k = 5 ∨ k = 6 ∨ k = 7 ∨ k = 8 ∨ k = 9 ∨ k = 10 ∨ k = 11 ∨ k = 12 ∨ k = 13 ∨ k = 14 ∨ k = 15 ∨ k = 16 ∨ k = 17 ∨ k = 18 ∨ k = 19 := by omega
  have x1 : 1 ≤ f_a F e → vp_in (t_p T (ix (3 * e + 0))) 60 := fun h => by rw [(ha1 h).2.1]; exact Tr_in (ha1 h).1
  have x2 : 2 ≤ f_a F e → vp_in (t_p T (ix (3 * e + 1))) 60 := fun h => by rw [(ha2 h).2.1]; exact Tr_in (ha2 h).1
  have x3 : 3 ≤ f_a F e → vp_in (t_p T (ix (3 * e + 2))) 60 := fun h => by rw [(ha3 h).2.1]; exact Tr_in (ha3 h).1
  have hn : ¬ f_k F (ix e) = 18 → r_nm r (ix e) = f_n F (ix e) := hN (ix e)
  refine ⟨by rw [hg]; exact hw, ?_, ?_, ?_, ?_, ?_, ?_, ?_, ?_⟩ <;> rw [htk] <;> rcases hk' with rfl | rfl | rfl | rfl | rfl | rfl | rfl | rfl | rfl | rfl | rfl | rfl | rfl | rfl | rfl | rfl | rfl | rfl | rfl | rfl <;> simp [hke, nI, t_kc, f_a] at * <;> simp_all
/-- a part is asked: what is seen from above -/
theorem child {F : zF} {T : zT} {M f d t n p : Nat} {e x th : Int32} {c c1 : zC} {r0 : zR} (hS : zSim F T M f d) (hx : Tr F T d x) (hne : ¬ Sb F d x (ix e)) (hU : zUp F f t e c r0 n) (ht : t + (d + 1) < 16) (hg : c_g c1 = c_g c) (hI : Idl F d x c1 (pu r0 e th t x) p) {q : Int32 × zC} (hq : p_all F M d x c1 = q) :
    ∃ n', n ≤ n' ∧ FrC (Sb F d x) c1 q.2 ∧
    ((q.1 = 1 ∧ n < n' ∧ ∃ m r' p', Go T m (pu r0 e th t x, 0) (r', 1) ∧ zUp F f t e q.2 r' n' ∧ r_ph r' (ix e) = th ∧ (∀ j, j < t → r_sk r' j = r_sk r0 j) ∧ FrR (Sb F d x) (pu r0 e th t x) r' ∧ r_gv r' = c_rs q.2 (ix x) ∧ Lv F d x q.2 r' p' ∧ m + p' + zK d n ≤ p + zK d n') ∨
     (q.1 = 0 ∧ (c_st c1 (ix x) = 0 → n < n') ∧ ∃ m r', Go T m (pu r0 e th t x, 0) (r', 2) ∧ zUp F f t e q.2 r' n' ∧ r_ph r' (ix e) = th ∧ (∀ j, j < t → r_sk r' j = r_sk r0 j) ∧ FrR (Sb F d x) (pu r0 e th t x) r' ∧ m + zK d n ≤ p + zK d n') ∨
     (q.1 < 0 ∧ Gk f (c_g q.2) n' ∧ ∃ m r' w, Go T m (pu r0 e th t x, 0) (r', w) ∧ Bad T (r', w) q.1 (c_g q.2) ∧ m + zK d n ≤ p + zK d n' + 4 * d)) := by
  obtain ⟨hN, hgr, hG, her, htp, hsk⟩ := hU
  have hU1 : zUp F f (t + 1) x c1 (pu r0 e th t x) n := ⟨hN, by rw [hg]; exact hgr, by rw [hg]; exact hG, her, rfl, pk_us⟩
  obtain ⟨n', hn, hF, h⟩ := hS (t + 1) x c1 (pu r0 e th t x) p n hx (by omega) hU1 hI
  rw [hq] at hF h
  have low : ∀ r' : zR, (∀ j, j < t + 1 → r_sk r' j = r_sk (pu r0 e th t x) j) → r_sk r' t = e ∧ ∀ j, j < t → r_sk r' j = r_sk r0 j := fun r' h => ⟨(h t (by omega)).trans ((pk_un (by omega)).trans hsk), fun j hj => (h j (by omega)).trans (pk_un (by omega))⟩
  have ph : ∀ r' : zR, FrR (Sb F d x) (pu r0 e th t x) r' → r_ph r' (ix e) = th := fun r' h => (h _ hne).1.trans pk_us
  refine ⟨n', hn, hF, ?_⟩
  rcases h with ⟨h1, h2, m, r', p', hGo, ⟨k1, k2, k3, k4, k5, k6⟩, hR, hv, hL, hb⟩ | ⟨h1, h2, m, r', hGo, ⟨k1, k2, k3, k4, k5, k6⟩, hR, hb⟩ | h
  · exact Or.inl ⟨h1, h2, m, r', p', hGo, ⟨k1, k2, k3, k4, k5, (low r' k6).1⟩, ph r' hR, (low r' k6).2, hR, hv, hL, hb⟩
  · exact Or.inr (Or.inl ⟨h1, h2, m, r', hGo, ⟨k1, k2, k3, k4, k5, (low r' k6).1⟩, ph r' hR, (low r' k6).2, hR, hb⟩)
  · exact Or.inr (Or.inr h)
