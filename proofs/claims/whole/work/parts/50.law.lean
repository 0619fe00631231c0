/-! THE CLAIM OUT OF ONE WALK OF THE LAW'S BODY. Your part is whole_start (and what it stands on); all else here is the same for every law, but numbers. -/
def R_law : String := "GoalSearchLaw"
def lw_P (b : Addr) (xs : List Int32) (args : Array Value) (s : State) : Prop := args = #[.ref b] ∧ s.IntsAt b xs ∧ xs.length ≤ 2560 ∧ (Jvm.Cond.and given_1 narrow_1).before args s = true
def lw_Q (_ : Array Value) (s : State) (o : Outcome) (t : State) : Prop := o = .returned (some (.int 1)) ∧ Framed s o t [] 600000 7302250
def lw_Z (below : List Frame) (a : Array Value) (s : State) : State → Prop := fun t => ∃ o, t.status = .running ∧ Ended t below o ∧ lw_Q a s o t
/-- the law's own end, with 1 on the stack, nothing written that was there before, its room as the claim has it -/
theorem lw_ret {p : Program} {l : Launch} {e : Env} {s : State} {m : MethodId} {below : List Frame} {meth : Method} {c : Code} {b : Nat} (hx : p.tables.exec = Jvm.exec) (hb : c.code = code) (hr : meth.sig.returnType = ret) (hlocks : meth.locks = false) {pc : Nat} {H : Heap} {ls : Array Slot} (hdg : decode code pc = .ok (.ireturn, 1)) : W p l e room_1 s m #[Value.ref b] below meth c H [] 600000 7302250 (lw_Z below #[Value.ref b] s) (F0 m pc ls [.int 1]) := by
  intro T hT X
  obtain ⟨fs, hret, hrun, hended, hW, hframe⟩ := X.leave (v := some (.int 1)) (hlocks := hlocks) (fun h => by rw [hr] at h; cases h)
  have hmeth' : T.vm.method? m = some meth := X.method'
  refine ⟨T.setFrames fs, ?_, .returned (some (.int 1)), hrun, hended, rfl, ⟨_, rfl⟩, hW, hframe⟩
  jvm_step X.here [X.here.top, hx, hb, hdg, hmeth', hr, ret, narrow_b1]
  (try refine ⟨rfl, ?_⟩); (try refine ⟨rfl, ?_⟩)
  first | (intro acts; rw [hret _ acts rfl rfl rfl]) | rw [hret _ _ rfl rfl rfl]
  exact Steps.refl _
/-- what holds at the law's entry: the machine, the code, the tables' words (any of lw_tbl by 'hts w (by decide +kernel)'), the script of L ints xs at the cell b, what the Statement gives of the start (any of its parts by flat_of_before) -/
def lw_At (p : Program) (s : State) (m : MethodId) (meth : Method) (c : Code) (b L : Nat) (xs : Nat → Int32) : Prop :=
  p.tables.exec = Jvm.exec ∧ c.code = code ∧ meth.sig.returnType = ret ∧ c.maxLocals = 4 ∧ s.vm.findClass R_law = some m.cls ∧ (∀ w ∈ lw_tbl, w.before #[Value.ref b] s = true) ∧ va_X b L xs s s.heap ∧ b < s.heap.size ∧ meth.locks = false ∧ (Jvm.Cond.and given_1 narrow_1).before #[Value.ref b] s = true
/-! Calls of the law: one object's world, the other kept. -/
theorem ap_keep {D : va_G} {V w0 : va_W} {H H1 : Heap} (hPV : va_P D vwCl V H) (hap : ∀ (i j : Nat) (p q : Nat × va_E), w0[i]? = some p → V[j]? = some q → p.1 ≠ q.1) (hk : ∀ q : Nat, q < H.size → ¬ va_A w0 H.size q → H1[q]? = H[q]?) : va_P D vwCl V H1 := by
  refine hPV.kept fun k q hq => hk q.1 ((hPV k q hq).lt) ?_
  rintro (⟨i, e, h⟩ | h)
  · exact hap i k _ _ h hq rfl
  · have := (hPV k q hq).lt
    omega
section LW
variable {S : Type} {p : Program} {l : Launch} {e : Env} {R : Room} {s : State} {m : MethodId} {args : Array Value} {below : List Frame} {meth : Method} {c : Code} {H : Heap} {locs : List Loc} {cells slots : Nat} {Q : State → Prop} {cc : ByteArray} {pc : Nat} {ls : Array Slot} {dC : Nat → ClassId} {dI : Nat → Nat → Nat} {tys : List (ClassId × FieldType)} {w : S → va_W} {A : Nat → Prop} {V : va_W}
variable {st0 : List Value} {own C : String} {idx nL maxL ci q0 q : Nat} {y : MethodName} {b : ByteArray} {ret : Option FieldType} {rm : Room} {As rest : List Value} {s0 : S} {fs : List Value} {cn : vw_C}
theorem law_i {post : Int32 → S → Prop} (hM : MetI l y (Cond.code y b maxL ret :: lw_g) rm dC dI tys w (.ref q :: As) s0 post) (h1 : Cond.methodLink own idx y ∈ lw_g) (h2 : Cond.instanceMethod y ∈ lw_g) (h3 : Cond.selects C y y ∈ lw_g) (h4 : Cond.initialized C ∈ lw_g) (hc : Cond.code y b maxL ret ∈ lw_g)
    (hd : y.cls = C ∧ y.cls ≠ "java/lang/invoke/MethodHandle" ∧ y.cls ≠ "java/lang/invoke/VarHandle" ∧ (parseMethodDescriptor y.desc).map (fun d => d.parameters.length) = some As.length) (hcl : vwCl[ci]? = some cn) (hcn : cn.1 = C) (he : (w s0)[q0]? = some (q, .inr (ci, fs))) (hrc : rm.cells = 0) (hrs : rm.slots = 0) (hR : rm.frames + 1 ≤ R.frames ∧ 8 + (maxL + 11) + rm.locals ≤ R.locals) (hst : (rest.map fun v => v.category).sum ≤ 8) (hstk : st0 = As.reverse ++ .ref q :: rest) (hcs : cells ≤ R.cells ∧ slots ≤ R.slots)
    (hx : p.tables.exec = Jvm.exec) (hb : c.code = cc) (hml : c.maxLocals = nL) (hown : s.vm.findClass own = some m.cls) (ht : ∀ w ∈ lw_g, w.before args s = true) (hls : ls.size = nL) (hP : va_P (dC, dI) vwCl (w s0) H) (hPV : va_P (dC, dI) vwCl V H) (hap : ∀ (i j : Nat) (p q : Nat × va_E), (w s0)[i]? = some p → V[j]? = some q → p.1 ≠ q.1) (hK : va_K (dC, dI) vwCl tys s) (hD : va_D A (w s0)) (hS : va_S A s.heap H locs) (hA : ∀ q, s.heap.size ≤ q → A q) (hN : zN s) (hdg : decode cc pc = .ok (.invokevirtual idx, 3))
    (kk : ∀ (r : Int32) (u : S) (H1 : Heap) (locs1 : List Loc), post r u → va_P (dC, dI) vwCl (w u) H1 → va_P (dC, dI) vwCl V H1 → va_D A (w u) → va_S A s.heap H1 locs1 → W p l e R s m args below meth c H1 locs1 cells slots Q (F0 m (pc + 3) ls (.int r :: rest))) : W p l e R s m args below meth c H locs cells slots Q (F0 m pc ls st0) := by
  have hF := z_free hD hS hA
  refine va_calli (va_runV (As := As) (rest := rest) ⟨hx, hb, hml, hown, ht⟩ (hM H.size) (cwV (C := C) As.length ht (good_V h1 h2 h3 h4 hc) rfl hrc hrs hd hR) ⟨z_blind, by rw [← hcn]; exact va_recv hK hP hcl he, z_pre hP hK hD hN⟩ rfl rfl hls hstk (lv_room hst) hdg hcs) hS (fun q _ h => hF q h) hF (fun r u t H1 locs ht' hvm hpost hB hz hk hS1 => ?_)
  obtain ⟨hP1, hK1, hD1⟩ := hB
  rw [ht'] at hP1
  exact kk r u H1 locs hpost hP1 (ap_keep hPV hap hk) (hD1.weaken (fun _ q _ h => hF q.1 h)) hS1
theorem law_j {post : Int64 → S → Prop} (hM : MetJ l y (Cond.code y b maxL ret :: lw_g) rm dC dI tys w (.ref q :: As) s0 post) (h1 : Cond.methodLink own idx y ∈ lw_g) (h2 : Cond.instanceMethod y ∈ lw_g) (h3 : Cond.selects C y y ∈ lw_g) (h4 : Cond.initialized C ∈ lw_g) (hc : Cond.code y b maxL ret ∈ lw_g)
    (hd : y.cls = C ∧ y.cls ≠ "java/lang/invoke/MethodHandle" ∧ y.cls ≠ "java/lang/invoke/VarHandle" ∧ (parseMethodDescriptor y.desc).map (fun d => d.parameters.length) = some As.length) (hcl : vwCl[ci]? = some cn) (hcn : cn.1 = C) (he : (w s0)[q0]? = some (q, .inr (ci, fs))) (hrc : rm.cells = 0) (hrs : rm.slots = 0) (hR : rm.frames + 1 ≤ R.frames ∧ 8 + (maxL + 11) + rm.locals ≤ R.locals) (hst : (rest.map fun v => v.category).sum ≤ 8) (hstk : st0 = As.reverse ++ .ref q :: rest) (hcs : cells ≤ R.cells ∧ slots ≤ R.slots)
    (hx : p.tables.exec = Jvm.exec) (hb : c.code = cc) (hml : c.maxLocals = nL) (hown : s.vm.findClass own = some m.cls) (ht : ∀ w ∈ lw_g, w.before args s = true) (hls : ls.size = nL) (hP : va_P (dC, dI) vwCl (w s0) H) (hPV : va_P (dC, dI) vwCl V H) (hap : ∀ (i j : Nat) (p q : Nat × va_E), (w s0)[i]? = some p → V[j]? = some q → p.1 ≠ q.1) (hK : va_K (dC, dI) vwCl tys s) (hD : va_D A (w s0)) (hS : va_S A s.heap H locs) (hA : ∀ q, s.heap.size ≤ q → A q) (hN : zN s) (hdg : decode cc pc = .ok (.invokevirtual idx, 3))
    (kk : ∀ (r : Int64) (u : S) (H1 : Heap) (locs1 : List Loc), post r u → va_P (dC, dI) vwCl (w u) H1 → va_P (dC, dI) vwCl V H1 → va_D A (w u) → va_S A s.heap H1 locs1 → W p l e R s m args below meth c H1 locs1 cells slots Q (F0 m (pc + 3) ls (.long r :: rest))) : W p l e R s m args below meth c H locs cells slots Q (F0 m pc ls st0) := by
  have hF := z_free hD hS hA
  refine va_calll (va_runV (As := As) (rest := rest) ⟨hx, hb, hml, hown, ht⟩ (hM H.size) (cwV (C := C) As.length ht (good_V h1 h2 h3 h4 hc) rfl hrc hrs hd hR) ⟨z_blind, by rw [← hcn]; exact va_recv hK hP hcl he, z_pre hP hK hD hN⟩ rfl rfl hls hstk (lv_room hst) hdg hcs) hS (fun q _ h => hF q h) hF (fun r u t H1 locs ht' hvm hpost hB hz hk hS1 => ?_)
  obtain ⟨hP1, hK1, hD1⟩ := hB
  rw [ht'] at hP1
  exact kk r u H1 locs hpost hP1 (ap_keep hPV hap hk) (hD1.weaken (fun _ q _ h => hF q.1 h)) hS1
end LW
/-- the two worlds are apart, whatever is in them -/
def Apt (a b : Nat → Nat) : Prop := ∀ i j, i < 15 → j < 11 → a i ≠ b j
theorem wX_ad {a : Nat → Nat} {k : Nat → ClassId} {X : zX} {i : Nat} {p : Nat × va_E} (h : (wX a k X)[i]? = some p) : i < 15 ∧ p.1 = a i := by
  have hi : i < 15 := (List.getElem?_eq_some_iff.mp h).1
  refine ⟨hi, ?_⟩
  have hi' : i = 0 ∨ i = 1 ∨ i = 2 ∨ i = 3 ∨ i = 4 ∨ i = 5 ∨ i = 6 ∨ i = 7 ∨ i = 8 ∨ i = 9 ∨ i = 10 ∨ i = 11 ∨ i = 12 ∨ i = 13 ∨ i = 14 := by omega
  rcases hi' with rfl | rfl | rfl | rfl | rfl | rfl | rfl | rfl | rfl | rfl | rfl | rfl | rfl | rfl | rfl <;> cases h <;> rfl
theorem wY_ad {b : Nat → Nat} {h : Nat → ClassId} {Y : zY} {i : Nat} {p : Nat × va_E} (hp : (wY b h Y)[i]? = some p) : i < 11 ∧ p.1 = b i := by
  have hi : i < 11 := (List.getElem?_eq_some_iff.mp hp).1
  refine ⟨hi, ?_⟩
  have hi' : i = 0 ∨ i = 1 ∨ i = 2 ∨ i = 3 ∨ i = 4 ∨ i = 5 ∨ i = 6 ∨ i = 7 ∨ i = 8 ∨ i = 9 ∨ i = 10 := by omega
  rcases hi' with rfl | rfl | rfl | rfl | rfl | rfl | rfl | rfl | rfl | rfl | rfl <;> cases hp <;> rfl
theorem apt_XY {a b : Nat → Nat} {k h : Nat → ClassId} {X : zX} {Y : zY} (hA : Apt a b) : ∀ (i j : Nat) (p q : Nat × va_E), (wX a k X)[i]? = some p → (wY b h Y)[j]? = some q → p.1 ≠ q.1 := fun i j p q h1 h2 => by
  obtain ⟨hi, e1⟩ := wX_ad h1
  obtain ⟨hj, e2⟩ := wY_ad h2
  rw [e1, e2]; exact hA i j hi hj
theorem apt_YX {a b : Nat → Nat} {k h : Nat → ClassId} {X : zX} {Y : zY} (hA : Apt a b) : ∀ (i j : Nat) (p q : Nat × va_E), (wY b h Y)[i]? = some p → (wX a k X)[j]? = some q → p.1 ≠ q.1 := fun i j p q h1 h2 => (apt_XY hA j i q p h2 h1).symm
theorem law_le {L i : Nat} (hL : L ≤ 2560) (hi : i ≤ 3000) : nI L - 5 < nI i ↔ L < i + 5 := by
  rw [Int32.lt_iff_toInt_lt, show (5 : Int32) = nI 5 from rfl, pk_sub_toInt (by omega) (by decide), nI_toInt (by omega)]
  omega
