/-! Both forests: how trees stay when a node is added. -/
theorem Sb_s {F : zF} : ∀ (d : Nat) (e : Int32) (j : Nat), Sb F d e j → Sb F (d + 1) e j
  | 0, _, _, h => h.elim
  | d + 1, e, j, h => by
    rcases h with h | ⟨a, h⟩ | ⟨a, h⟩ | ⟨a, h⟩
    · exact Or.inl h
    · exact Or.inr (Or.inl ⟨a, Sb_s d _ _ h⟩)
    · exact Or.inr (Or.inr (Or.inl ⟨a, Sb_s d _ _ h⟩))
    · exact Or.inr (Or.inr (Or.inr ⟨a, Sb_s d _ _ h⟩))
theorem Sb_m {F : zF} {d d' : Nat} (h : d ≤ d') {e : Int32} {j : Nat} (hs : Sb F d e j) : Sb F d' e j := by
  induction h with
  | refl => exact hs
  | step _ ih => exact Sb_s _ _ _ ih
theorem Sb_b {F : zF} {T : zT} : ∀ (d : Nat) (e : Int32) (j : Nat), Tr F T d e → Sb F (d + 1) e j → Sb F d e j
  | 0, _, _, h, _ => h.elim
  | d + 1, e, j, hT, h => by
    rcases h with h | ⟨a, h⟩ | ⟨a, h⟩ | ⟨a, h⟩
    · exact Or.inl h
    · exact Or.inr (Or.inl ⟨a, Sb_b d _ _ (hT.2.2.2.2.1 a).1 h⟩)
    · exact Or.inr (Or.inr (Or.inl ⟨a, Sb_b d _ _ (hT.2.2.2.2.2.1 a).1 h⟩))
    · exact Or.inr (Or.inr (Or.inr ⟨a, Sb_b d _ _ (hT.2.2.2.2.2.2 a).1 h⟩))
theorem Tr_s {F : zF} {T : zT} : ∀ (d : Nat) (e : Int32), Tr F T d e → Tr F T (d + 1) e
  | 0, _, h => h.elim
  | d + 1, e, h => by
    obtain ⟨h1, h2, h3, h4, h5, h6, h7⟩ := h
    refine ⟨h1, h2, h3, h4, fun a => ?_, fun a => ?_, fun a => ?_⟩
    · obtain ⟨g1, g2, g3⟩ := h5 a
      exact ⟨Tr_s d _ g1, g2, fun q => g3 (Sb_b d _ _ g1 q)⟩
    · obtain ⟨g1, g2, g3, g4⟩ := h6 a
      obtain ⟨k1, -, -⟩ := h5 (by omega)
      exact ⟨Tr_s d _ g1, g2, fun q => g3 (Sb_b d _ _ g1 q), fun j q q' => g4 j (Sb_b d _ _ k1 q) (Sb_b d _ _ g1 q')⟩
    · obtain ⟨g1, g2, g3, g4, g5⟩ := h7 a
      obtain ⟨k1, -, -⟩ := h5 (by omega)
      obtain ⟨l1, -, -, -⟩ := h6 (by omega)
      exact ⟨Tr_s d _ g1, g2, fun q => g3 (Sb_b d _ _ g1 q), fun j q q' => g4 j (Sb_b d _ _ k1 q) (Sb_b d _ _ g1 q'), fun j q q' => g5 j (Sb_b d _ _ l1 q) (Sb_b d _ _ g1 q')⟩
theorem Tr_m {F : zF} {T : zT} {d d' : Nat} (h : d ≤ d') {e : Int32} (hs : Tr F T d e) : Tr F T d' e := by
  induction h with
  | refl => exact hs
  | step _ ih => exact Tr_s _ _ ih
theorem Sb_dn {F : zF} {T : zT} {d k : Nat} {e : Int32} {j : Nat} (hT : Tr F T d e) (h : Sb F (d + k) e j) : Sb F d e j := by
  induction k with
  | zero => exact h
  | succ k ih => exact ih (Sb_b (d + k) e j (Tr_m (Nat.le_add_right d k) hT) h)
/-- the tables are alike at the nodes D -/
def AgF (D : Nat → Prop) (F F' : zF) (T T' : zT) : Prop := ∀ j, D j → f_k F' j = f_k F j ∧ f_n F' j = f_n F j ∧ f_x F' j = f_x F j ∧ f_y F' j = f_y F j ∧ f_z F' j = f_z F j ∧ t_k T' j = t_k T j ∧ t_p T' (3 * j) = t_p T (3 * j) ∧ t_p T' (3 * j + 1) = t_p T (3 * j + 1) ∧ t_p T' (3 * j + 2) = t_p T (3 * j + 2)
theorem AgF.wk {D E : Nat → Prop} {F F' : zF} {T T' : zT} (h : AgF D F F' T T') (s : ∀ j, E j → D j) : AgF E F F' T T' := fun j hj => h j (s j hj)
theorem Sb_cong {F F' : zF} {T T' : zT} : ∀ (d : Nat) (e : Int32) (j : Nat), AgF (Sb F d e) F F' T T' → (Sb F' d e j ↔ Sb F d e j)
  | 0, _, _, _ => Iff.rfl
  | d + 1, e, j, hA => by
    obtain ⟨e1, e2, e3, e4, e5, -, -, -, -⟩ := hA (ix e) (Or.inl rfl)
    have fa : f_a F' e = f_a F e := by unfold f_a; rw [e1]
    have hx : 1 ≤ f_a F e → (Sb F' d (f_x F (ix e)) j ↔ Sb F d (f_x F (ix e)) j) := fun a => Sb_cong d _ _ (hA.wk fun q hq => Or.inr (Or.inl ⟨a, hq⟩))
    have hy : 2 ≤ f_a F e → (Sb F' d (f_y F (ix e)) j ↔ Sb F d (f_y F (ix e)) j) := fun a => Sb_cong d _ _ (hA.wk fun q hq => Or.inr (Or.inr (Or.inl ⟨a, hq⟩)))
    have hz : 3 ≤ f_a F e → (Sb F' d (f_z F (ix e)) j ↔ Sb F d (f_z F (ix e)) j) := fun a => Sb_cong d _ _ (hA.wk fun q hq => Or.inr (Or.inr (Or.inr ⟨a, hq⟩)))
    show (j = ix e ∨ (1 ≤ f_a F' e ∧ Sb F' d (f_x F' (ix e)) j) ∨ (2 ≤ f_a F' e ∧ Sb F' d (f_y F' (ix e)) j) ∨ (3 ≤ f_a F' e ∧ Sb F' d (f_z F' (ix e)) j)) ↔ (j = ix e ∨ (1 ≤ f_a F e ∧ Sb F d (f_x F (ix e)) j) ∨ (2 ≤ f_a F e ∧ Sb F d (f_y F (ix e)) j) ∨ (3 ≤ f_a F e ∧ Sb F d (f_z F (ix e)) j))
    rw [fa, e3, e4, e5]
    exact or_congr Iff.rfl (or_congr (and_congr_right hx) (or_congr (and_congr_right hy) (and_congr_right hz)))
theorem Tr_cong {F F' : zF} {T T' : zT} : ∀ (d : Nat) (e : Int32), AgF (Sb F d e) F F' T T' → Tr F T d e → Tr F' T' d e
  | 0, _, _, h => h
  | d + 1, e, hA, h => by
    obtain ⟨e1, e2, e3, e4, e5, e6, e7, e8, e9⟩ := hA (ix e) (Or.inl rfl)
    have fa : f_a F' e = f_a F e := by unfold f_a; rw [e1]
    have hx : 1 ≤ f_a F e → AgF (Sb F d (f_x F (ix e))) F F' T T' := fun a => hA.wk fun q hq => Or.inr (Or.inl ⟨a, hq⟩)
    have hy : 2 ≤ f_a F e → AgF (Sb F d (f_y F (ix e))) F F' T T' := fun a => hA.wk fun q hq => Or.inr (Or.inr (Or.inl ⟨a, hq⟩))
    have hz : 3 ≤ f_a F e → AgF (Sb F d (f_z F (ix e))) F F' T T' := fun a => hA.wk fun q hq => Or.inr (Or.inr (Or.inr ⟨a, hq⟩))
    obtain ⟨h1, h2, h3, h4, h5, h6, h7⟩ := h
    have i0 : ix (3 * e + 0) = 3 * ix e := ix_3 h1 0 (by decide)
    refine ⟨h1, by rw [e1]; exact h2, by rw [e6, e1]; exact h3, by rw [e1, e2]; exact h4, fun a => ?_, fun a => ?_, fun a => ?_⟩
    · rw [fa] at a
      obtain ⟨g1, g2, g3⟩ := h5 a
      rw [e3]
      exact ⟨Tr_cong d _ (hx a) g1, by rw [i0, e7]; rw [i0] at g2; exact g2, fun q => g3 ((Sb_cong d _ _ (hx a)).mp q)⟩
    · rw [fa] at a
      obtain ⟨g1, g2, g3, g4⟩ := h6 a
      have a1 : 1 ≤ f_a F e := by omega
      rw [e3, e4]
      exact ⟨Tr_cong d _ (hy a) g1, by rw [ix_31 h1, e8]; rw [ix_31 h1] at g2; exact g2, fun q => g3 ((Sb_cong d _ _ (hy a)).mp q), fun j q q' => g4 j ((Sb_cong d _ _ (hx a1)).mp q) ((Sb_cong d _ _ (hy a)).mp q')⟩
    · rw [fa] at a
      obtain ⟨g1, g2, g3, g4, g5⟩ := h7 a
      have a1 : 1 ≤ f_a F e := by omega
      have a2 : 2 ≤ f_a F e := by omega
      rw [e3, e4, e5]
      exact ⟨Tr_cong d _ (hz a) g1, by rw [ix_32 h1, e9]; rw [ix_32 h1] at g2; exact g2, fun q => g3 ((Sb_cong d _ _ (hz a)).mp q), fun j q q' => g4 j ((Sb_cong d _ _ (hx a1)).mp q) ((Sb_cong d _ _ (hz a)).mp q'), fun j q q' => g5 j ((Sb_cong d _ _ (hy a2)).mp q) ((Sb_cong d _ _ (hz a)).mp q')⟩
theorem Lv_congF {F F' : zF} {T T' : zT} {c : zC} {r : zR} : ∀ (d : Nat) (e : Int32) (p : Nat), AgF (Sb F d e) F F' T T' → Lv F d e c r p → Lv F' d e c r p
  | 0, _, _, _, h => h
  | d + 1, e, p, hA, h => by
    obtain ⟨e1, e2, e3, e4, e5, -, -, -, -⟩ := hA (ix e) (Or.inl rfl)
    have hx : 1 ≤ f_a F e → AgF (Sb F d (f_x F (ix e))) F F' T T' := fun a => hA.wk fun q hq => Or.inr (Or.inl ⟨a, hq⟩)
    have hy : 2 ≤ f_a F e → AgF (Sb F d (f_y F (ix e))) F F' T T' := fun a => hA.wk fun q hq => Or.inr (Or.inr (Or.inl ⟨a, hq⟩))
    have hz : 3 ≤ f_a F e → AgF (Sb F d (f_z F (ix e))) F F' T T' := fun a => hA.wk fun q hq => Or.inr (Or.inr (Or.inr ⟨a, hq⟩))
    simp only [Lv] at h ⊢
    simp only [e1, e3, e4, e5]
    by_cases k1 : f_k F (ix e) < 2
    · simp only [if_pos k1] at h ⊢; exact h
    have a1 := f_a1 k1
    simp only [if_neg k1] at h ⊢
    by_cases k2 : f_k F (ix e) < 6
    · simp only [if_pos k2] at h ⊢
      by_cases k3 : f_k F (ix e) < 4
      · simp only [if_pos k3] at h ⊢
        obtain ⟨h1, h2, p1, h3, h4⟩ := h
        exact ⟨h1, h2, p1, Lv_congF d _ _ (hx a1) h3, h4⟩
      simp only [if_neg k3] at h ⊢
      by_cases k4 : f_k F (ix e) = 4
      · simp only [if_pos k4] at h ⊢; exact h
      simp only [if_neg k4] at h ⊢
      obtain ⟨h1, h2, h5, p1, h3, h4⟩ := h
      exact ⟨h1, h2, h5, p1, Lv_congF d _ _ (hx a1) h3, h4⟩
    have a2 := f_a2 k1 k2
    simp only [if_neg k2] at h ⊢
    by_cases k5 : f_k F (ix e) < 18
    · simp only [if_pos k5] at h ⊢
      by_cases k6 : f_k F (ix e) = 6
      · simp only [if_pos k6] at h ⊢
        rcases h with ⟨h1, h2, p1, h3, h4⟩ | ⟨h1, h2, p1, h3, h4⟩
        · exact Or.inl ⟨h1, h2, p1, Lv_congF d _ _ (hx a1) h3, h4⟩
        · exact Or.inr ⟨h1, h2, p1, Lv_congF d _ _ (hy a2) h3, h4⟩
      simp only [if_neg k6] at h ⊢
      by_cases k7 : f_k F (ix e) < 14
      · simp only [if_pos k7] at h ⊢
        obtain ⟨h1, h2, h5, p1, p2, h3, h3', h4⟩ := h
        exact ⟨h1, h2, h5, p1, p2, Lv_congF d _ _ (hx a1) h3, Lv_congF d _ _ (hy a2) h3', h4⟩
      simp only [if_neg k7] at h ⊢
      by_cases k8 : f_k F (ix e) = 14
      · simp only [if_pos k8] at h ⊢
        obtain ⟨h1, h2, h5, p1, p2, h3, h3', h4⟩ := h
        exact ⟨h1, h2, h5, p1, p2, Lv_congF d _ _ (hx a1) h3, Lv_congF d _ _ (hy a2) h3', h4⟩
      simp only [if_neg k8] at h ⊢
      by_cases k9 : f_k F (ix e) < 17
      · simp only [if_pos k9] at h
      simp only [if_neg k9] at h ⊢
      obtain ⟨h1, h2, p1, h3, h4⟩ := h
      exact ⟨h1, h2, p1, Lv_congF d _ _ (hy a2) h3, h4⟩
    have a3 := f_a3 k1 k2 k5
    simp only [if_neg k5] at h ⊢
    by_cases k6 : f_k F (ix e) = 18
    · simp only [if_pos k6] at h ⊢
      obtain ⟨h1, h2, h5, h6, h7, h8, p1, p2, p3, g1, g2, g3, h4⟩ := h
      exact ⟨h1, h2, h5, h6, h7, h8, p1, p2, p3, Lv_congF d _ _ (hx a1) g1, Lv_congF d _ _ (hy a2) g2, Lv_congF d _ _ (hz a3) g3, h4⟩
    simp only [if_neg k6] at h ⊢
    rcases h with ⟨h1, h2, p1, h3, h4⟩ | ⟨h1, h2, p1, h3, h4⟩
    · exact Or.inl ⟨h1, h2, p1, Lv_congF d _ _ (hy a2) h3, h4⟩
    · exact Or.inr ⟨h1, h2, p1, Lv_congF d _ _ (hz a3) h3, h4⟩
/-- what is made so far, on both sides: dp, yd the depths; fr, yu: free, used -/
def Fo (F : zF) (T : zT) (n : Nat) (dp fr yd yu : Nat → Int32) : Prop :=
  (∀ i, i < n → (∃ d : Nat, 1 ≤ d ∧ d ≤ 12 ∧ dp i = nI d ∧ yd i = nI d ∧ Tr F T d (nI i)) ∧ (∀ j, Sb F 12 (nI i) j → j ≤ i) ∧ (fr i = 1 ∧ yu i = 0 ∨ fr i = 0 ∧ yu i = 1)) ∧
  ∀ i i', i < n → i' < n → i ≠ i' → fr i = 1 → fr i' = 1 → ∀ j, Sb F 12 (nI i) j → ¬ Sb F 12 (nI i') j
theorem fo_add {F F' : zF} {T T' : zT} {n : Nat} {dp fr yd yu dp' fr' yd' yu' : Nat → Int32} (h : Fo F T n dp fr yd yu) (hA : AgF (fun j => j < n) F F' T T') (hdp : ∀ i, i < n → dp' i = dp i ∧ yd' i = yd i)
    (hfr : ∀ i, i < n → fr' i = 1 ∧ yu' i = 0 ∨ fr' i = 0 ∧ yu' i = 1) (hfs : ∀ i, i < n → fr' i = 1 → fr i = 1) (hnew : ∃ d : Nat, 1 ≤ d ∧ d ≤ 12 ∧ dp' n = nI d ∧ yd' n = nI d ∧ Tr F' T' d (nI n)) (hSn : ∀ j, Sb F' 12 (nI n) j → j ≤ n) (hfn : fr' n = 1 ∧ yu' n = 0)
    (hdis : ∀ i, i < n → fr' i = 1 → ∀ q, Sb F' 12 (nI n) q → ¬ Sb F 12 (nI i) q) : Fo F' T' (n + 1) dp' fr' yd' yu' := by
  obtain ⟨h1, h2⟩ := h
  have hS : ∀ i, i < n → AgF (Sb F 12 (nI i)) F F' T T' := fun i hi => hA.wk fun j hj => Nat.lt_of_le_of_lt ((h1 i hi).2.1 j hj) hi
  have hc : ∀ i, i < n → ∀ j, Sb F' 12 (nI i) j ↔ Sb F 12 (nI i) j := fun i hi j => Sb_cong 12 _ _ (hS i hi)
  refine ⟨fun i hi => ?_, fun i i' hi hi' hne hf hf' j hj hj' => ?_⟩
  · by_cases hin : i = n
    · subst hin
      exact ⟨hnew, hSn, Or.inl hfn⟩
    have hi : i < n := by omega
    obtain ⟨⟨d, d1, d2, d3, d4, d5⟩, g2, -⟩ := h1 i hi
    exact ⟨⟨d, d1, d2, (hdp i hi).1.trans d3, (hdp i hi).2.trans d4, Tr_cong d _ ((hS i hi).wk fun j hj => Sb_m d2 hj) d5⟩, fun j hj => g2 j ((hc i hi j).mp hj), hfr i hi⟩
  · by_cases hin : i = n
    · subst hin
      have hi' : i' < i := by omega
      exact hdis i' hi' hf' j hj ((hc i' hi' j).mp hj')
    have hi : i < n := by omega
    by_cases hin' : i' = n
    · subst hin'
      exact hdis i hi hf j hj' ((hc i hi j).mp hj)
    have hi' : i' < n := by omega
    exact h2 i i' hi hi' hne (hfs i hi hf) (hfs i' hi' hf') j ((hc i hi j).mp hj) ((hc i' hi' j).mp hj')
/-- a part of the new node: it was free, and not deeper than d -/
def Prp (n d : Nat) (fr dp : Nat → Int32) (x tx : Int32) : Prop := ∃ i, i < n ∧ x = nI i ∧ tx = x ∧ fr i = 1 ∧ ∃ k : Nat, k ≤ d ∧ dp i = nI k
theorem tr_new {F F' : zF} {T T' : zT} {n d : Nat} {dp fr yd yu : Nat → Int32} (h : Fo F T n dp fr yd yu) (hA : AgF (fun j => j < n) F F' T T') (hn : n < 60) (hd : d ≤ 11) (hk : ∃ k : Nat, k < 20 ∧ f_k F' n = nI k) (htk : t_k T' n = t_kc (f_k F' n)) (hnm : f_k F' n = 1 ∨ f_k F' n = 2 → vp_in (f_n F' n) 8)
    (hx : 1 ≤ f_a F' (nI n) → Prp n d fr dp (f_x F' n) (t_p T' (3 * n))) (hy : 2 ≤ f_a F' (nI n) → Prp n d fr dp (f_y F' n) (t_p T' (3 * n + 1)) ∧ f_x F' n ≠ f_y F' n)
    (hz : 3 ≤ f_a F' (nI n) → Prp n d fr dp (f_z F' n) (t_p T' (3 * n + 2)) ∧ f_x F' n ≠ f_z F' n ∧ f_y F' n ≠ f_z F' n) :
    Tr F' T' (d + 1) (nI n) ∧ ∀ q, Sb F' 12 (nI n) q → q = n ∨ ∃ i, i < n ∧ fr i = 1 ∧ Sb F 12 (nI i) q ∧ (1 ≤ f_a F' (nI n) ∧ nI i = f_x F' n ∨ 2 ≤ f_a F' (nI n) ∧ nI i = f_y F' n ∨ 3 ≤ f_a F' (nI n) ∧ nI i = f_z F' n) := by
  obtain ⟨h1, h2⟩ := h
  have hin : ix (nI n) = n := ix_nI (by omega)
  have hv : vp_in (nI n) 60 := vp_in_nI hn (by decide)
  have i0 : ix (3 * nI n + 0) = 3 * n := (ix_3 hv 0 (by decide)).trans (by rw [hin]; rfl)
  have i1 : ix (3 * nI n + 1) = 3 * n + 1 := (ix_31 hv).trans (by rw [hin])
  have i2 : ix (3 * nI n + 2) = 3 * n + 2 := (ix_32 hv).trans (by rw [hin])
  have hS : ∀ i, i < n → AgF (Sb F 12 (nI i)) F F' T T' := fun i hi => hA.wk fun j hj => Nat.lt_of_le_of_lt ((h1 i hi).2.1 j hj) hi
  have hc : ∀ i, i < n → ∀ j, Sb F' 12 (nI i) j ↔ Sb F 12 (nI i) j := fun i hi j => Sb_cong 12 _ _ (hS i hi)
  -- a part as a tree of the new tables
  have pt : ∀ x tx : Int32, Prp n d fr dp x tx → ∃ i, i < n ∧ x = nI i ∧ tx = x ∧ fr i = 1 ∧ Tr F' T' d x ∧ ∀ j, Sb F' d x j → Sb F 12 (nI i) j := by
    rintro x tx ⟨i, hi, rfl, htx, hf, k, hk, hdk⟩
    obtain ⟨⟨d', d1, d2, d3, d4, d5⟩, -, -⟩ := h1 i hi
    have hdd : d' = k := (nI_eq (by omega) (by omega)).mp (d3.symm.trans hdk)
    subst hdd
    have ht : Tr F' T' d' (nI i) := Tr_cong d' _ ((hS i hi).wk fun j hj => Sb_m d2 hj) d5
    exact ⟨i, hi, rfl, htx, hf, Tr_m hk ht, fun j hj => (hc i hi j).mp (Sb_m (by omega) hj)⟩
  have lo : ∀ i, i < n → ∀ j, Sb F 12 (nI i) j → j ≠ n := fun i hi j hj q => by have := (h1 i hi).2.1 j hj; omega
  have dj : ∀ i i', i < n → i' < n → nI i ≠ nI i' → fr i = 1 → fr i' = 1 → ∀ j, Sb F 12 (nI i) j → ¬ Sb F 12 (nI i') j := fun i i' hi hi' hne => h2 i i' hi hi' (fun q => hne (by rw [q]))
  have hT : Tr F' T' (d + 1) (nI n) := by
    refine ⟨hv, by rw [hin]; exact hk, by rw [hin]; exact htk, by rw [hin]; exact hnm, fun a => ?_, fun a => ?_, fun a => ?_⟩
    · obtain ⟨i, hi, e, et, hf, t, s⟩ := pt _ _ (hx a)
      rw [hin, i0]
      exact ⟨t, et, fun q => lo i hi _ (s _ q) rfl⟩
    · obtain ⟨i, hi, e, et, hf, t, s⟩ := pt _ _ (hx (by omega))
      obtain ⟨i', hi', e', et', hf', t', s'⟩ := pt _ _ (hy a).1
      rw [hin, i1]
      refine ⟨t', et', fun q => lo i' hi' _ (s' _ q) rfl, fun j q q' => dj i i' hi hi' (by rw [← e, ← e']; exact (hy a).2) hf hf' j (s j q) (s' j q')⟩
    · obtain ⟨i, hi, e, et, hf, t, s⟩ := pt _ _ (hx (by omega))
      obtain ⟨i', hi', e', et', hf', t', s'⟩ := pt _ _ (hy (by omega)).1
      obtain ⟨i3, hi3, e3, et3, hf3, t3, s3⟩ := pt _ _ (hz a).1
      rw [hin, i2]
      refine ⟨t3, et3, fun q => lo i3 hi3 _ (s3 _ q) rfl, fun j q q' => dj i i3 hi hi3 (by rw [← e, ← e3]; exact (hz a).2.1) hf hf3 j (s j q) (s3 j q'), fun j q q' => dj i' i3 hi' hi3 (by rw [← e', ← e3]; exact (hz a).2.2) hf' hf3 j (s' j q) (s3 j q')⟩
  refine ⟨hT, fun q hq => ?_⟩
  have hq1 : Sb F' (d + 1) (nI n) q := by
    have : Sb F' (d + 1 + (11 - d)) (nI n) q := by rw [show d + 1 + (11 - d) = 12 by omega]; exact hq
    exact Sb_dn hT this
  rcases hq1 with hq1 | ⟨a, hq1⟩ | ⟨a, hq1⟩ | ⟨a, hq1⟩
  · exact Or.inl (hq1.trans hin)
  · obtain ⟨i, hi, e, et, hf, t, s⟩ := pt _ _ (hx a)
    rw [hin] at hq1
    exact Or.inr ⟨i, hi, hf, s _ hq1, Or.inl ⟨a, e.symm⟩⟩
  · obtain ⟨i, hi, e, et, hf, t, s⟩ := pt _ _ (hy a).1
    rw [hin] at hq1
    exact Or.inr ⟨i, hi, hf, s _ hq1, Or.inr (Or.inl ⟨a, e.symm⟩)⟩
  · obtain ⟨i, hi, e, et, hf, t, s⟩ := pt _ _ (hz a).1
    rw [hin] at hq1
    exact Or.inr ⟨i, hi, hf, s _ hq1, Or.inr (Or.inr ⟨a, e.symm⟩)⟩
/-- tables, depths and marks behind a node that was added -/
theorem fo_new {F F' : zF} {T T' : zT} {n d : Nat} {dp fr yd yu dp' fr' yd' yu' : Nat → Int32} (h : Fo F T n dp fr yd yu) (hA : AgF (fun j => j < n) F F' T T') (hn : n < 60) (hd : d ≤ 11) (hk : ∃ k : Nat, k < 20 ∧ f_k F' n = nI k) (htk : t_k T' n = t_kc (f_k F' n)) (hnm : f_k F' n = 1 ∨ f_k F' n = 2 → vp_in (f_n F' n) 8)
    (hx : 1 ≤ f_a F' (nI n) → Prp n d fr dp (f_x F' n) (t_p T' (3 * n))) (hy : 2 ≤ f_a F' (nI n) → Prp n d fr dp (f_y F' n) (t_p T' (3 * n + 1)) ∧ f_x F' n ≠ f_y F' n)
    (hz : 3 ≤ f_a F' (nI n) → Prp n d fr dp (f_z F' n) (t_p T' (3 * n + 2)) ∧ f_x F' n ≠ f_z F' n ∧ f_y F' n ≠ f_z F' n)
    (hdp : ∀ i, i < n → dp' i = dp i ∧ yd' i = yd i) (hdn : dp' n = nI (d + 1) ∧ yd' n = nI (d + 1)) (hfn : fr' n = 1 ∧ yu' n = 0)
    (hfr : ∀ i, i < n → (fr' i = fr i ∧ yu' i = yu i) ∨ (fr' i = 0 ∧ yu' i = 1)) (hpx : 1 ≤ f_a F' (nI n) → fr' (ix (f_x F' n)) = 0) (hpy : 2 ≤ f_a F' (nI n) → fr' (ix (f_y F' n)) = 0) (hpz : 3 ≤ f_a F' (nI n) → fr' (ix (f_z F' n)) = 0) : Fo F' T' (n + 1) dp' fr' yd' yu' := by
  obtain ⟨hT, hq⟩ := tr_new h hA hn hd hk htk hnm hx hy hz
  have h1 := h.1
  have h2 := h.2
  refine fo_add h hA hdp (fun i hi => ?_) (fun i hi hf => ?_) ⟨d + 1, by omega, by omega, hdn.1, hdn.2, hT⟩ (fun j hj => ?_) hfn (fun i hi hf q hq' hs => ?_)
  · rcases hfr i hi with ⟨a, b⟩ | ⟨a, b⟩
    · rw [a, b]; exact (h1 i hi).2.2
    · exact Or.inr ⟨a, b⟩
  · rcases hfr i hi with ⟨a, b⟩ | ⟨a, b⟩
    · rw [← a]; exact hf
    · rw [a] at hf; exact absurd hf (by decide)
  · rcases hq j hj with h | ⟨i, hi, -, hs, -⟩
    · omega
    · have := (h1 i hi).2.1 j hs; omega
  · rcases hq q hq' with h9 | ⟨i', hi', hf', hs', hp⟩
    · have := (h1 i hi).2.1 q hs; omega
    · have hne : i' ≠ i := by
        rintro rfl
        have hz0 : fr' i' = 0 := by
          have e9 : ix (nI i') = i' := ix_nI (by omega)
          rcases hp with ⟨a, e⟩ | ⟨a, e⟩ | ⟨a, e⟩
          · rw [← e9, e]; exact hpx a
          · rw [← e9, e]; exact hpy a
          · rw [← e9, e]; exact hpz a
        rw [hz0] at hf; exact absurd hf (by decide)
      have hfi : fr i = 1 := by
        rcases hfr i hi with ⟨a, b⟩ | ⟨a, b⟩
        · rw [← a]; exact hf
        · rw [a] at hf; exact absurd hf (by decide)
      exact h2 i' i hi' hi hne hf' hfi q hs' hs
