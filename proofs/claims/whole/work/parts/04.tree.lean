/-! Trees of parts, what two live nodes have to do with each other, steps in a row. -/
theorem ix_nI {n : Nat} (h : n < 2 ^ 31) : ix (nI n) = n := nI_clamp h
theorem ix_lt {e : Int32} {n : Nat} (h : vp_in e n) : ix e < n := Nat.not_le.mp fun q => h (Or.inr q)
theorem ix_3 {e : Int32} (h : vp_in e 60) (i : Nat) (hi : i < 3) : ix (3 * e + nI i) = 3 * ix e + i := by
  obtain ⟨j, hj, rfl⟩ := vp_in_of h (by decide)
  have h3 : (3 : Int32) = nI 3 := rfl
  rw [h3, pk_mul, nI_add, ix_nI (by omega), ix_nI (by omega)]
theorem ix_30 {e : Int32} (h : vp_in e 60) : ix (3 * e) = 3 * ix e := by
  obtain ⟨j, hj, rfl⟩ := vp_in_of h (by decide)
  have h3 : (3 : Int32) = nI 3 := rfl
  rw [h3, pk_mul, ix_nI (by omega), ix_nI (by omega)]
theorem ix_31 {e : Int32} (h : vp_in e 60) : ix (3 * e + 1) = 3 * ix e + 1 := ix_3 h 1 (by decide)
theorem ix_32 {e : Int32} (h : vp_in e 60) : ix (3 * e + 2) = 3 * ix e + 2 := ix_3 h 2 (by decide)
def f_a (F : zF) (e : Int32) : Nat := if f_k F (ix e) < 2 then 0 else if f_k F (ix e) < 6 then 1 else if f_k F (ix e) < 18 then 2 else 3
def t_kc (k : Int32) : Int32 := if k < 2 then k else if k < 6 then k + 8 else if k < 18 then k + 14 else k + 22
/-- the numbers of the parts, parts of parts .. of e, e among them -/
def Sb (F : zF) : Nat → Int32 → Nat → Prop
  | 0, _, _ => False
  | d + 1, e, j => j = ix e ∨ (1 ≤ f_a F e ∧ Sb F d (f_x F (ix e)) j) ∨ (2 ≤ f_a F e ∧ Sb F d (f_y F (ix e)) j) ∨ (3 ≤ f_a F e ∧ Sb F d (f_z F (ix e)) j)
def Tr (F : zF) (T : zT) : Nat → Int32 → Prop
  | 0, _ => False
  | d + 1, e => vp_in e 60 ∧ (∃ k : Nat, k < 20 ∧ f_k F (ix e) = nI k) ∧ t_k T (ix e) = t_kc (f_k F (ix e)) ∧ (f_k F (ix e) = 1 ∨ f_k F (ix e) = 2 → vp_in (f_n F (ix e)) 8) ∧
    (1 ≤ f_a F e → Tr F T d (f_x F (ix e)) ∧ t_p T (ix (3 * e + 0)) = f_x F (ix e) ∧ ¬ Sb F d (f_x F (ix e)) (ix e)) ∧
    (2 ≤ f_a F e → Tr F T d (f_y F (ix e)) ∧ t_p T (ix (3 * e + 1)) = f_y F (ix e) ∧ ¬ Sb F d (f_y F (ix e)) (ix e) ∧ ∀ j, Sb F d (f_x F (ix e)) j → ¬ Sb F d (f_y F (ix e)) j) ∧
    (3 ≤ f_a F e → Tr F T d (f_z F (ix e)) ∧ t_p T (ix (3 * e + 2)) = f_z F (ix e) ∧ ¬ Sb F d (f_z F (ix e)) (ix e) ∧ (∀ j, Sb F d (f_x F (ix e)) j → ¬ Sb F d (f_z F (ix e)) j) ∧ ∀ j, Sb F d (f_y F (ix e)) j → ¬ Sb F d (f_z F (ix e)) j)
theorem Tr_self {F : zF} {T : zT} {d : Nat} {e : Int32} (h : Tr F T d e) : Sb F d e (ix e) := by
  cases d with
  | zero => exact h.elim
  | succ d => exact Or.inl rfl
theorem Tr_in {F : zF} {T : zT} {d : Nat} {e : Int32} (h : Tr F T d e) : vp_in e 60 := by
  cases d with
  | zero => exact h.elim
  | succ d => exact h.1
/-- a node that has given a result since it was started, on both sides; p: the steps that are laid by for it -/
def Lv (F : zF) : Nat → Int32 → zC → zR → Nat → Prop
  | 0, _, _, _, _ => False
  | d + 1, e, c, r, p =>
    if f_k F (ix e) < 2 then c_st c (ix e) = 5 ∧ r_ph r (ix e) = 1 ∧ p = 4
    else if f_k F (ix e) < 6 then
      if f_k F (ix e) < 4 then c_st c (ix e) = 1 ∧ r_ph r (ix e) = 1 ∧ ∃ p1, Lv F d (f_x F (ix e)) c r p1 ∧ p = p1 + 4
      else if f_k F (ix e) = 4 then c_st c (ix e) = 5 ∧ r_ph r (ix e) = 2 ∧ p = 4
      else c_st c (ix e) = 1 ∧ r_ph r (ix e) = 1 ∧ r_kp r (3 * ix e) = 1 ∧ ∃ p1, Lv F d (f_x F (ix e)) c r p1 ∧ p = p1 + 4
    else if f_k F (ix e) < 18 then
      if f_k F (ix e) = 6 then (c_st c (ix e) = 1 ∧ r_ph r (ix e) = 1 ∧ ∃ p1, Lv F d (f_x F (ix e)) c r p1 ∧ p = p1 + 4) ∨ (c_st c (ix e) = 2 ∧ r_ph r (ix e) = 2 ∧ ∃ p1, Lv F d (f_y F (ix e)) c r p1 ∧ p = p1 + 4)
      else if f_k F (ix e) < 14 then c_st c (ix e) = 2 ∧ r_ph r (ix e) = 2 ∧ r_kp r (3 * ix e) = (c_rs c (ix (f_x F (ix e)))).toInt64 ∧ ∃ p1 p2, Lv F d (f_x F (ix e)) c r p1 ∧ Lv F d (f_y F (ix e)) c r p2 ∧ p = p1 + p2 + 4
      else if f_k F (ix e) = 14 then c_st c (ix e) = 1 ∧ r_ph r (ix e) = 2 ∧ r_kp r (3 * ix e) = c_ct c (ix e) ∧ ∃ p1 p2, Lv F d (f_x F (ix e)) c r p1 ∧ Lv F d (f_y F (ix e)) c r p2 ∧ p = p1 + p2 + 4
      else if f_k F (ix e) < 17 then False
      else c_st c (ix e) = 2 ∧ r_ph r (ix e) = 2 ∧ ∃ p1, Lv F d (f_y F (ix e)) c r p1 ∧ p = p1 + 4
    else if f_k F (ix e) = 18 then c_st c (ix e) = 4 ∧ r_ph r (ix e) = 4 ∧ r_nm r (ix e) = c_rs c (ix (f_x F (ix e))) ∧ r_kp r (3 * ix e + 1) = (c_rs c (ix (f_y F (ix e)))).toInt64 ∧ r_kp r (3 * ix e + 2) = (c_rs c (ix (f_z F (ix e)))).toInt64 ∧ r_kp r (3 * ix e) = c_ct c (ix e) + (c_rs c (ix (f_z F (ix e)))).toInt64 ∧ ∃ p1 p2 p3, Lv F d (f_x F (ix e)) c r p1 ∧ Lv F d (f_y F (ix e)) c r p2 ∧ Lv F d (f_z F (ix e)) c r p3 ∧ p = p1 + p2 + p3 + 4
    else (c_st c (ix e) = 2 ∧ r_ph r (ix e) = 2 ∧ ∃ p1, Lv F d (f_y F (ix e)) c r p1 ∧ p = p1 + 4) ∨ (c_st c (ix e) = 3 ∧ r_ph r (ix e) = 3 ∧ ∃ p1, Lv F d (f_z F (ix e)) c r p1 ∧ p = p1 + 4)
theorem Lv_self {F : zF} {d : Nat} {e : Int32} {c : zC} {r : zR} {p : Nat} (h : Lv F d e c r p) : Sb F d e (ix e) := by
  cases d with
  | zero => exact h.elim
  | succ d => exact Or.inl rfl
/-- the rows of a set of nodes are alike -/
def Ag (D : Nat → Prop) (c c' : zC) (r r' : zR) : Prop := ∀ j, D j → c_st c' j = c_st c j ∧ c_rs c' j = c_rs c j ∧ c_ct c' j = c_ct c j ∧ r_ph r' j = r_ph r j ∧ r_nm r' j = r_nm r j ∧ r_kp r' (3 * j) = r_kp r (3 * j) ∧ r_kp r' (3 * j + 1) = r_kp r (3 * j + 1) ∧ r_kp r' (3 * j + 2) = r_kp r (3 * j + 2)
theorem f_a1 {F : zF} {e : Int32} (h : ¬ f_k F (ix e) < 2) : 1 ≤ f_a F e := by
  unfold f_a; rw [if_neg h]; split
  · exact Nat.le_refl _
  · split <;> decide
theorem f_a2 {F : zF} {e : Int32} (h : ¬ f_k F (ix e) < 2) (h1 : ¬ f_k F (ix e) < 6) : 2 ≤ f_a F e := by
  unfold f_a; rw [if_neg h, if_neg h1]; split <;> decide
theorem f_a3 {F : zF} {e : Int32} (h : ¬ f_k F (ix e) < 2) (h1 : ¬ f_k F (ix e) < 6) (h2 : ¬ f_k F (ix e) < 18) : 3 ≤ f_a F e := by
  unfold f_a; rw [if_neg h, if_neg h1, if_neg h2]; decide
theorem Lv_cong {F : zF} {c c' : zC} {r r' : zR} : ∀ (d : Nat) (e : Int32) (p : Nat), Ag (Sb F d e) c c' r r' → Lv F d e c r p → Lv F d e c' r' p
  | 0, _, _, _, h => h
  | d + 1, e, p, hA, h => by
    obtain ⟨e1, e2, e3, e4, e5, e6, e7, e8⟩ := hA (ix e) (Or.inl rfl)
    have hx : 1 ≤ f_a F e → Ag (Sb F d (f_x F (ix e))) c c' r r' := fun a j hj => hA j (Or.inr (Or.inl ⟨a, hj⟩))
    have hy : 2 ≤ f_a F e → Ag (Sb F d (f_y F (ix e))) c c' r r' := fun a j hj => hA j (Or.inr (Or.inr (Or.inl ⟨a, hj⟩)))
    have hz : 3 ≤ f_a F e → Ag (Sb F d (f_z F (ix e))) c c' r r' := fun a j hj => hA j (Or.inr (Or.inr (Or.inr ⟨a, hj⟩)))
    simp only [Lv] at h ⊢
    simp only [e1, e3, e4, e5, e6, e7, e8]
    by_cases k1 : f_k F (ix e) < 2
    · simp only [if_pos k1] at h ⊢; exact h
    have a1 := f_a1 k1
    simp only [if_neg k1] at h ⊢
    by_cases k2 : f_k F (ix e) < 6
    · simp only [if_pos k2] at h ⊢
      by_cases k3 : f_k F (ix e) < 4
      · simp only [if_pos k3] at h ⊢
        obtain ⟨h1, h2, p1, h3, h4⟩ := h
        exact ⟨h1, h2, p1, Lv_cong d _ _ (hx a1) h3, h4⟩
      simp only [if_neg k3] at h ⊢
      by_cases k4 : f_k F (ix e) = 4
      · simp only [if_pos k4] at h ⊢; exact h
      simp only [if_neg k4] at h ⊢
      obtain ⟨h1, h2, h5, p1, h3, h4⟩ := h
      exact ⟨h1, h2, h5, p1, Lv_cong d _ _ (hx a1) h3, h4⟩
    have a2 := f_a2 k1 k2
    simp only [if_neg k2] at h ⊢
    by_cases k5 : f_k F (ix e) < 18
    · simp only [if_pos k5] at h ⊢
      by_cases k6 : f_k F (ix e) = 6
      · simp only [if_pos k6] at h ⊢
        rcases h with ⟨h1, h2, p1, h3, h4⟩ | ⟨h1, h2, p1, h3, h4⟩
        · exact Or.inl ⟨h1, h2, p1, Lv_cong d _ _ (hx a1) h3, h4⟩
        · exact Or.inr ⟨h1, h2, p1, Lv_cong d _ _ (hy a2) h3, h4⟩
      simp only [if_neg k6] at h ⊢
      by_cases k7 : f_k F (ix e) < 14
      · simp only [if_pos k7] at h ⊢
        obtain ⟨h1, h2, h5, p1, p2, h3, h3', h4⟩ := h
        exact ⟨h1, h2, by rw [(hx a1 _ (Lv_self h3)).2.1]; exact h5, p1, p2, Lv_cong d _ _ (hx a1) h3, Lv_cong d _ _ (hy a2) h3', h4⟩
      simp only [if_neg k7] at h ⊢
      by_cases k8 : f_k F (ix e) = 14
      · simp only [if_pos k8] at h ⊢
        obtain ⟨h1, h2, h5, p1, p2, h3, h3', h4⟩ := h
        exact ⟨h1, h2, h5, p1, p2, Lv_cong d _ _ (hx a1) h3, Lv_cong d _ _ (hy a2) h3', h4⟩
      simp only [if_neg k8] at h ⊢
      by_cases k9 : f_k F (ix e) < 17
      · simp only [if_pos k9] at h
      simp only [if_neg k9] at h ⊢
      obtain ⟨h1, h2, p1, h3, h4⟩ := h
      exact ⟨h1, h2, p1, Lv_cong d _ _ (hy a2) h3, h4⟩
    have a3 := f_a3 k1 k2 k5
    simp only [if_neg k5] at h ⊢
    by_cases k6 : f_k F (ix e) = 18
    · simp only [if_pos k6] at h ⊢
      obtain ⟨h1, h2, h5, h6, h7, h8, p1, p2, p3, g1, g2, g3, h4⟩ := h
      have x1 := (hx a1 _ (Lv_self g1)).2.1
      have x2 := (hy a2 _ (Lv_self g2)).2.1
      have x3 := (hz a3 _ (Lv_self g3)).2.1
      refine ⟨h1, h2, ?_, ?_, ?_, ?_, p1, p2, p3, Lv_cong d _ _ (hx a1) g1, Lv_cong d _ _ (hy a2) g2, Lv_cong d _ _ (hz a3) g3, h4⟩
      · rw [x1]; exact h5
      · rw [x2]; exact h6
      · rw [x3]; exact h7
      · rw [x3]; exact h8
    simp only [if_neg k6] at h ⊢
    rcases h with ⟨h1, h2, p1, h3, h4⟩ | ⟨h1, h2, p1, h3, h4⟩
    · exact Or.inl ⟨h1, h2, p1, Lv_cong d _ _ (hy a2) h3, h4⟩
    · exact Or.inr ⟨h1, h2, p1, Lv_cong d _ _ (hz a3) h3, h4⟩
-- a node of known kind
theorem Lv_0 {F : zF} {d : Nat} {e : Int32} {c : zC} {r : zR} {p : Nat} (h : f_k F (ix e) = 0) : Lv F (d + 1) e c r p ↔ (c_st c (ix e) = 5 ∧ r_ph r (ix e) = 1 ∧ p = 4) := by simp [Lv, h]
theorem Lv_1 {F : zF} {d : Nat} {e : Int32} {c : zC} {r : zR} {p : Nat} (h : f_k F (ix e) = 1) : Lv F (d + 1) e c r p ↔ (c_st c (ix e) = 5 ∧ r_ph r (ix e) = 1 ∧ p = 4) := by simp [Lv, h]
theorem Lv_2 {F : zF} {d : Nat} {e : Int32} {c : zC} {r : zR} {p : Nat} (h : f_k F (ix e) = 2) : Lv F (d + 1) e c r p ↔ (c_st c (ix e) = 1 ∧ r_ph r (ix e) = 1 ∧ ∃ p1, Lv F d (f_x F (ix e)) c r p1 ∧ p = p1 + 4) := by simp [Lv, h]
theorem Lv_3 {F : zF} {d : Nat} {e : Int32} {c : zC} {r : zR} {p : Nat} (h : f_k F (ix e) = 3) : Lv F (d + 1) e c r p ↔ (c_st c (ix e) = 1 ∧ r_ph r (ix e) = 1 ∧ ∃ p1, Lv F d (f_x F (ix e)) c r p1 ∧ p = p1 + 4) := by simp [Lv, h]
theorem Lv_4 {F : zF} {d : Nat} {e : Int32} {c : zC} {r : zR} {p : Nat} (h : f_k F (ix e) = 4) : Lv F (d + 1) e c r p ↔ (c_st c (ix e) = 5 ∧ r_ph r (ix e) = 2 ∧ p = 4) := by simp [Lv, h]
theorem Lv_5 {F : zF} {d : Nat} {e : Int32} {c : zC} {r : zR} {p : Nat} (h : f_k F (ix e) = 5) : Lv F (d + 1) e c r p ↔ (c_st c (ix e) = 1 ∧ r_ph r (ix e) = 1 ∧ r_kp r (3 * ix e) = 1 ∧ ∃ p1, Lv F d (f_x F (ix e)) c r p1 ∧ p = p1 + 4) := by simp [Lv, h]
theorem Lv_6 {F : zF} {d : Nat} {e : Int32} {c : zC} {r : zR} {p : Nat} (h : f_k F (ix e) = 6) : Lv F (d + 1) e c r p ↔ ((c_st c (ix e) = 1 ∧ r_ph r (ix e) = 1 ∧ ∃ p1, Lv F d (f_x F (ix e)) c r p1 ∧ p = p1 + 4) ∨ (c_st c (ix e) = 2 ∧ r_ph r (ix e) = 2 ∧ ∃ p1, Lv F d (f_y F (ix e)) c r p1 ∧ p = p1 + 4)) := by simp [Lv, h]
theorem Lv_7 {F : zF} {d : Nat} {e : Int32} {c : zC} {r : zR} {p : Nat} (h : f_k F (ix e) = 7) : Lv F (d + 1) e c r p ↔ (c_st c (ix e) = 2 ∧ r_ph r (ix e) = 2 ∧ r_kp r (3 * ix e) = (c_rs c (ix (f_x F (ix e)))).toInt64 ∧ ∃ p1 p2, Lv F d (f_x F (ix e)) c r p1 ∧ Lv F d (f_y F (ix e)) c r p2 ∧ p = p1 + p2 + 4) := by simp [Lv, h]
theorem Lv_8 {F : zF} {d : Nat} {e : Int32} {c : zC} {r : zR} {p : Nat} (h : f_k F (ix e) = 8) : Lv F (d + 1) e c r p ↔ (c_st c (ix e) = 2 ∧ r_ph r (ix e) = 2 ∧ r_kp r (3 * ix e) = (c_rs c (ix (f_x F (ix e)))).toInt64 ∧ ∃ p1 p2, Lv F d (f_x F (ix e)) c r p1 ∧ Lv F d (f_y F (ix e)) c r p2 ∧ p = p1 + p2 + 4) := by simp [Lv, h]
theorem Lv_9 {F : zF} {d : Nat} {e : Int32} {c : zC} {r : zR} {p : Nat} (h : f_k F (ix e) = 9) : Lv F (d + 1) e c r p ↔ (c_st c (ix e) = 2 ∧ r_ph r (ix e) = 2 ∧ r_kp r (3 * ix e) = (c_rs c (ix (f_x F (ix e)))).toInt64 ∧ ∃ p1 p2, Lv F d (f_x F (ix e)) c r p1 ∧ Lv F d (f_y F (ix e)) c r p2 ∧ p = p1 + p2 + 4) := by simp [Lv, h]
theorem Lv_10 {F : zF} {d : Nat} {e : Int32} {c : zC} {r : zR} {p : Nat} (h : f_k F (ix e) = 10) : Lv F (d + 1) e c r p ↔ (c_st c (ix e) = 2 ∧ r_ph r (ix e) = 2 ∧ r_kp r (3 * ix e) = (c_rs c (ix (f_x F (ix e)))).toInt64 ∧ ∃ p1 p2, Lv F d (f_x F (ix e)) c r p1 ∧ Lv F d (f_y F (ix e)) c r p2 ∧ p = p1 + p2 + 4) := by simp [Lv, h]
theorem Lv_11 {F : zF} {d : Nat} {e : Int32} {c : zC} {r : zR} {p : Nat} (h : f_k F (ix e) = 11) : Lv F (d + 1) e c r p ↔ (c_st c (ix e) = 2 ∧ r_ph r (ix e) = 2 ∧ r_kp r (3 * ix e) = (c_rs c (ix (f_x F (ix e)))).toInt64 ∧ ∃ p1 p2, Lv F d (f_x F (ix e)) c r p1 ∧ Lv F d (f_y F (ix e)) c r p2 ∧ p = p1 + p2 + 4) := by simp [Lv, h]
theorem Lv_12 {F : zF} {d : Nat} {e : Int32} {c : zC} {r : zR} {p : Nat} (h : f_k F (ix e) = 12) : Lv F (d + 1) e c r p ↔ (c_st c (ix e) = 2 ∧ r_ph r (ix e) = 2 ∧ r_kp r (3 * ix e) = (c_rs c (ix (f_x F (ix e)))).toInt64 ∧ ∃ p1 p2, Lv F d (f_x F (ix e)) c r p1 ∧ Lv F d (f_y F (ix e)) c r p2 ∧ p = p1 + p2 + 4) := by simp [Lv, h]
theorem Lv_13 {F : zF} {d : Nat} {e : Int32} {c : zC} {r : zR} {p : Nat} (h : f_k F (ix e) = 13) : Lv F (d + 1) e c r p ↔ (c_st c (ix e) = 2 ∧ r_ph r (ix e) = 2 ∧ r_kp r (3 * ix e) = (c_rs c (ix (f_x F (ix e)))).toInt64 ∧ ∃ p1 p2, Lv F d (f_x F (ix e)) c r p1 ∧ Lv F d (f_y F (ix e)) c r p2 ∧ p = p1 + p2 + 4) := by simp [Lv, h]
theorem Lv_14 {F : zF} {d : Nat} {e : Int32} {c : zC} {r : zR} {p : Nat} (h : f_k F (ix e) = 14) : Lv F (d + 1) e c r p ↔ (c_st c (ix e) = 1 ∧ r_ph r (ix e) = 2 ∧ r_kp r (3 * ix e) = c_ct c (ix e) ∧ ∃ p1 p2, Lv F d (f_x F (ix e)) c r p1 ∧ Lv F d (f_y F (ix e)) c r p2 ∧ p = p1 + p2 + 4) := by simp [Lv, h]
theorem Lv_15 {F : zF} {d : Nat} {e : Int32} {c : zC} {r : zR} {p : Nat} (h : f_k F (ix e) = 15) : Lv F (d + 1) e c r p ↔ (False) := by simp [Lv, h]
theorem Lv_16 {F : zF} {d : Nat} {e : Int32} {c : zC} {r : zR} {p : Nat} (h : f_k F (ix e) = 16) : Lv F (d + 1) e c r p ↔ (False) := by simp [Lv, h]
theorem Lv_17 {F : zF} {d : Nat} {e : Int32} {c : zC} {r : zR} {p : Nat} (h : f_k F (ix e) = 17) : Lv F (d + 1) e c r p ↔ (c_st c (ix e) = 2 ∧ r_ph r (ix e) = 2 ∧ ∃ p1, Lv F d (f_y F (ix e)) c r p1 ∧ p = p1 + 4) := by simp [Lv, h]
theorem Lv_18 {F : zF} {d : Nat} {e : Int32} {c : zC} {r : zR} {p : Nat} (h : f_k F (ix e) = 18) : Lv F (d + 1) e c r p ↔ (c_st c (ix e) = 4 ∧ r_ph r (ix e) = 4 ∧ r_nm r (ix e) = c_rs c (ix (f_x F (ix e))) ∧ r_kp r (3 * ix e + 1) = (c_rs c (ix (f_y F (ix e)))).toInt64 ∧ r_kp r (3 * ix e + 2) = (c_rs c (ix (f_z F (ix e)))).toInt64 ∧ r_kp r (3 * ix e) = c_ct c (ix e) + (c_rs c (ix (f_z F (ix e)))).toInt64 ∧ ∃ p1 p2 p3, Lv F d (f_x F (ix e)) c r p1 ∧ Lv F d (f_y F (ix e)) c r p2 ∧ Lv F d (f_z F (ix e)) c r p3 ∧ p = p1 + p2 + p3 + 4) := by simp [Lv, h]
theorem Lv_19 {F : zF} {d : Nat} {e : Int32} {c : zC} {r : zR} {p : Nat} (h : f_k F (ix e) = 19) : Lv F (d + 1) e c r p ↔ ((c_st c (ix e) = 2 ∧ r_ph r (ix e) = 2 ∧ ∃ p1, Lv F d (f_y F (ix e)) c r p1 ∧ p = p1 + 4) ∨ (c_st c (ix e) = 3 ∧ r_ph r (ix e) = 3 ∧ ∃ p1, Lv F d (f_z F (ix e)) c r p1 ∧ p = p1 + 4)) := by simp [Lv, h]
-- frames
def FrC (D : Nat → Prop) (c c' : zC) : Prop := ∀ j, ¬ D j → c_st c' j = c_st c j ∧ c_rs c' j = c_rs c j ∧ c_ct c' j = c_ct c j
def FrR (D : Nat → Prop) (r r' : zR) : Prop := ∀ j, ¬ D j → r_ph r' j = r_ph r j ∧ r_nm r' j = r_nm r j ∧ r_kp r' (3 * j) = r_kp r (3 * j) ∧ r_kp r' (3 * j + 1) = r_kp r (3 * j + 1) ∧ r_kp r' (3 * j + 2) = r_kp r (3 * j + 2)
theorem FrC.rf {D : Nat → Prop} {c : zC} : FrC D c c := fun _ _ => ⟨rfl, rfl, rfl⟩
theorem FrR.rf {D : Nat → Prop} {r : zR} : FrR D r r := fun _ _ => ⟨rfl, rfl, rfl, rfl, rfl⟩
theorem FrC.tr {D : Nat → Prop} {a b c : zC} (h : FrC D a b) (g : FrC D b c) : FrC D a c := fun j hj => ⟨(g j hj).1.trans (h j hj).1, (g j hj).2.1.trans (h j hj).2.1, (g j hj).2.2.trans (h j hj).2.2⟩
theorem FrR.tr {D : Nat → Prop} {a b c : zR} (h : FrR D a b) (g : FrR D b c) : FrR D a c := fun j hj => ⟨(g j hj).1.trans (h j hj).1, (g j hj).2.1.trans (h j hj).2.1, (g j hj).2.2.1.trans (h j hj).2.2.1, (g j hj).2.2.2.1.trans (h j hj).2.2.2.1, (g j hj).2.2.2.2.trans (h j hj).2.2.2.2⟩
theorem FrC.wk {D E : Nat → Prop} {a b : zC} (h : FrC D a b) (s : ∀ j, D j → E j) : FrC E a b := fun j hj => h j fun q => hj (s j q)
theorem FrR.wk {D E : Nat → Prop} {a b : zR} (h : FrR D a b) (s : ∀ j, D j → E j) : FrR E a b := fun j hj => h j fun q => hj (s j q)
theorem Ag.of {S D E : Nat → Prop} {c c' : zC} {r r' : zR} (hC : FrC D c c') (hR : FrR E r r') (h : ∀ j, S j → ¬ D j) (h2 : ∀ j, S j → ¬ E j) : Ag S c c' r r' := fun j hj => ⟨(hC j (h j hj)).1, (hC j (h j hj)).2.1, (hC j (h j hj)).2.2, (hR j (h2 j hj)).1, (hR j (h2 j hj)).2.1, (hR j (h2 j hj)).2.2.1, (hR j (h2 j hj)).2.2.2.1, (hR j (h2 j hj)).2.2.2.2⟩
theorem Ag.tr {S : Nat → Prop} {c c1 c2 : zC} {r r1 r2 : zR} (h : Ag S c c1 r r1) (g : Ag S c1 c2 r1 r2) : Ag S c c2 r r2 := fun j hj => by
  obtain ⟨h1, h2, h3, h4, h5, h6, h7, h8⟩ := h j hj
  obtain ⟨g1, g2, g3, g4, g5, g6, g7, g8⟩ := g j hj
  exact ⟨g1.trans h1, g2.trans h2, g3.trans h3, g4.trans h4, g5.trans h5, g6.trans h6, g7.trans h7, g8.trans h8⟩
theorem fc_st {D : Nat → Prop} {c : zC} {e v : Int32} (h : D (ix e)) : FrC D c (s_st c e v) := fun j hj => ⟨pk_un fun q => hj (q ▸ h), rfl, rfl⟩
theorem fc_rs {D : Nat → Prop} {c : zC} {e v : Int32} (h : D (ix e)) : FrC D c (s_rs c e v) := fun j hj => ⟨rfl, pk_un fun q => hj (q ▸ h), rfl⟩
theorem fc_ct {D : Nat → Prop} {c : zC} {e : Int32} {v : Int64} (h : D (ix e)) : FrC D c (s_ct c e v) := fun j hj => ⟨rfl, rfl, pk_uLn fun q => hj (q ▸ h)⟩
theorem fc_g {D : Nat → Prop} {c : zC} {g : zG} : FrC D c (s_g c g) := fun _ _ => ⟨rfl, rfl, rfl⟩
theorem fr_ph {D : Nat → Prop} {r : zR} {e v : Int32} (h : D (ix e)) : FrR D r (u_ph r e v) := fun j hj => ⟨pk_un fun q => hj (q ▸ h), rfl, rfl, rfl, rfl⟩
theorem fr_nm {D : Nat → Prop} {r : zR} {e v : Int32} (h : D (ix e)) : FrR D r (u_nm r e v) := fun j hj => ⟨rfl, pk_un fun q => hj (q ▸ h), rfl, rfl, rfl⟩
theorem fr_kp {D : Nat → Prop} {r : zR} {i : Int32} {k b : Nat} {v : Int64} (h : D k) (hb : b < 3) (hi : ix i = 3 * k + b) : FrR D r (u_kp r i v) := fun j hj => by
  have hjk : j ≠ k := fun q => hj (q ▸ h)
  exact ⟨rfl, rfl, pk_uLn (by omega), pk_uLn (by omega), pk_uLn (by omega)⟩
theorem fr_g {D : Nat → Prop} {r : zR} {g : zG} : FrR D r (u_g r g) := fun _ _ => ⟨rfl, rfl, rfl, rfl, rfl⟩
theorem fr_gv {D : Nat → Prop} {r : zR} {v : Int32} : FrR D r (u_gv r v) := fun _ _ => ⟨rfl, rfl, rfl, rfl, rfl⟩
theorem fr_tp {D : Nat → Prop} {r : zR} {v : Int32} : FrR D r (u_tp r v) := fun _ _ => ⟨rfl, rfl, rfl, rfl, rfl⟩
