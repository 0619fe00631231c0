/-! Pure pictures of both sides, in the raw numbers of the bytecode: Int32, Int64, rows as functions of Nat. -/
abbrev ix (i : Int32) : Nat := i.toNatClampNeg
/-- shared by both sides: variables, written values, how many, the cost -/
abbrev zG : Type := (Nat → Int32) × (Nat → Int32) × Int32 × Int32
/-- the search: stage, result, counter, shared -/
abbrev zC : Type := (Nat → Int32) × (Nat → Int32) × (Nat → Int64) × zG
/-- the forest as a search sees it: kind, number, three parts, the fuel -/
abbrev zF : Type := (Nat → Int32) × (Nat → Int32) × (Nat → Int32) × (Nat → Int32) × (Nat → Int32) × Int32
def f_k (F : zF) : Nat → Int32 := F.1
def f_n (F : zF) : Nat → Int32 := F.2.1
def f_x (F : zF) : Nat → Int32 := F.2.2.1
def f_y (F : zF) : Nat → Int32 := F.2.2.2.1
def f_z (F : zF) : Nat → Int32 := F.2.2.2.2.1
def f_f (F : zF) : Int32 := F.2.2.2.2.2
def c_st (s : zC) : Nat → Int32 := s.1
def c_rs (s : zC) : Nat → Int32 := s.2.1
def c_ct (s : zC) : Nat → Int64 := s.2.2.1
def c_g (s : zC) : zG := s.2.2.2
def g_va (g : zG) : Nat → Int32 := g.1
def g_wr (g : zG) : Nat → Int32 := g.2.1
def g_wc (g : zG) : Int32 := g.2.2.1
def g_sp (g : zG) : Int32 := g.2.2.2
def s_st (s : zC) (e v : Int32) : zC := (upd s.1 (ix e) v, s.2)
def s_rs (s : zC) (e v : Int32) : zC := (s.1, upd s.2.1 (ix e) v, s.2.2)
def s_ct (s : zC) (e : Int32) (v : Int64) : zC := (s.1, s.2.1, vp_updL s.2.2.1 (ix e) v, s.2.2.2)
def s_g (s : zC) (g : zG) : zC := (s.1, s.2.1, s.2.2.1, g)
def h_va (g : zG) (k v : Int32) : zG := (upd g.1 (ix k) v, g.2)
def h_wr (g : zG) (v : Int32) : zG := (g.1, upd g.2.1 (ix g.2.2.1) v, g.2.2.1 + 1, g.2.2.2)
def h_w0 (g : zG) (i v : Int32) : zG := (g.1, upd g.2.1 (ix i) v, g.2.2)
def h_w1 (g : zG) : zG := (g.1, g.2.1, g.2.2.1 + 1, g.2.2.2)
def h_sp (g : zG) : zG := (g.1, g.2.1, g.2.2.1, g.2.2.2 + 1)
-- one method a function; A is the question to a part
def p_give (e v : Int32) (s : zC) : Int32 × zC := (1, s_rs s e v)
def p_fuel (F : zF) (e v : Int32) (s : zC) : Int32 × zC := if g_sp (c_g s) < f_f F then p_give e v (s_g s (h_sp (c_g s))) else (-5, s)
def p_up (e x : Int32) (q : Int32 × zC) : Int32 × zC := if q.1 = 1 then p_give e (c_rs q.2 (ix x)) q.2 else q
def p_leaf (F : zF) (e v : Int32) (s : zC) : Int32 × zC := if c_st s (ix e) = 0 then p_fuel F e v (s_st s e 5) else (0, s)
def p_try (A : Int32 → zC → Int32 × zC) (x : Int32) (s : zC) : Int32 × zC := A x (s_st s x 0)
def p_x (F : zF) (A : Int32 → zC → Int32 × zC) (e : Int32) (s : zC) : Int32 × zC :=
  A (f_x F (ix e)) (s_st (if c_st s (ix e) = 0 then s_st s (f_x F (ix e)) 0 else s) e 1)
def p_assign (F : zF) (A : Int32 → zC → Int32 × zC) (e : Int32) (s : zC) : Int32 × zC :=
  let q := p_up e (f_x F (ix e)) (p_x F A e s)
  if q.1 = 1 then (q.1, s_g q.2 (h_va (c_g q.2) (f_n F (ix e)) (c_rs q.2 (ix e)))) else q
def p_write (F : zF) (A : Int32 → zC → Int32 × zC) (e : Int32) (s : zC) : Int32 × zC :=
  let q := p_up e (f_x F (ix e)) (p_x F A e s)
  if q.1 = 1 then if g_wc (c_g q.2) < 32 then (1, s_g q.2 (h_wr (c_g q.2) (c_rs q.2 (ix e)))) else (-6, q.2) else q
def p_not (F : zF) (A : Int32 → zC → Int32 × zC) (e : Int32) (s : zC) : Int32 × zC :=
  if c_st s (ix e) = 0 then
    let q := p_try A (f_x F (ix e)) (s_st s e 5)
    if q.1 = 1 then (0, q.2) else if q.1 = 0 then p_give e 0 q.2 else q
  else (0, s)
def p_again (F : zF) (A : Int32 → zC → Int32 × zC) (e : Int32) (s : zC) : Int32 × zC :=
  let q := p_x F A e s
  p_up e (f_x F (ix e)) (if q.1 = 0 then if c_st s (ix e) = 0 then q else p_try A (f_x F (ix e)) q.2 else q)
def p_either (F : zF) (A : Int32 → zC → Int32 × zC) (e : Int32) (s : zC) : Int32 × zC :=
  if c_st s (ix e) = 2 then p_up e (f_y F (ix e)) (A (f_y F (ix e)) s) else
    let q := p_x F A e s
    if q.1 = 0 then p_up e (f_y F (ix e)) (A (f_y F (ix e)) (s_st (s_st q.2 e 2) (f_y F (ix e)) 0)) else p_up e (f_x F (ix e)) q
/-- the loop of askPair, t turns left -/
def p_pairL (F : zF) (A : Int32 → zC → Int32 × zC) (e : Int32) : Nat → zC → Int32 × zC
  | 0, s => (0, s)
  | t + 1, s =>
    if c_st s (ix e) = 2 then
      let q := A (f_y F (ix e)) s
      if q.1 = 0 then p_pairL F A e t (s_st q.2 e 1) else q
    else
      let q := p_x F A e s
      if q.1 = 1 then
        let q2 := A (f_y F (ix e)) (s_st (s_st q.2 e 2) (f_y F (ix e)) 0)
        if q2.1 = 0 then p_pairL F A e t (s_st q2.2 e 1) else q2
      else q
def p_calc (k : Int32) (r s : Int64) : Int64 := if k = 8 then r + s else if k = 9 then r - s else r * s
def p_arith (F : zF) (A : Int32 → zC → Int32 × zC) (T : Nat) (e : Int32) (s : zC) : Int32 × zC :=
  let q := p_pairL F A e T s
  if q.1 = 1 then
    let v := p_calc (f_k F (ix e)) (c_rs q.2 (ix (f_x F (ix e)))).toInt64 (c_rs q.2 (ix (f_y F (ix e)))).toInt64
    if v = v.toInt32.toInt64 then p_give e v.toInt32 q.2 else (-4, q.2)
  else q
def p_holds (k r s : Int32) : Bool := if k = 11 then decide (r < s) else decide ((k = 12) = (r = s))
def p_compL (F : zF) (A : Int32 → zC → Int32 × zC) (T : Nat) (e : Int32) : Nat → zC → Int32 × zC
  | 0, s => (0, s)
  | t + 1, s =>
    let q := p_pairL F A e T s
    if q.1 = 1 then
      if p_holds (f_k F (ix e)) (c_rs q.2 (ix (f_x F (ix e)))) (c_rs q.2 (ix (f_y F (ix e)))) = true then p_give e (c_rs q.2 (ix (f_y F (ix e)))) q.2
      else p_compL F A T e t q.2
    else q
def p_bound (F : zF) (A : Int32 → zC → Int32 × zC) (e : Int32) (s : zC) : Int32 × zC :=
  let q := A (f_y F (ix e)) (if c_st s (ix e) = 0 then s_st s (f_y F (ix e)) 0 else s)
  (q.1, s_ct q.2 e (c_rs q.2 (ix (f_y F (ix e)))).toInt64)
def p_limitL (F : zF) (A : Int32 → zC → Int32 × zC) (e : Int32) : Nat → zC → Int32 × zC
  | 0, s => (0, s)
  | t + 1, s =>
    let go := fun s1 : zC =>
      if 0 < c_ct s1 (ix e) then
        let q := A (f_x F (ix e)) (s_ct s1 e (c_ct s1 (ix e) - 1))
        if q.1 = 0 then p_limitL F A e t (s_st q.2 e 2) else p_up e (f_x F (ix e)) q
      else p_limitL F A e t (s_st s1 e 2)
    if c_st s (ix e) = 1 then go s else
      let q := p_bound F A e s
      if q.1 = 1 then go (s_st (s_st q.2 e 1) (f_x F (ix e)) 0) else q
def p_everyL (F : zF) (A : Int32 → zC → Int32 × zC) (e : Int32) : Nat → zC → Int32 × zC
  | 0, s => (0, s)
  | t + 1, s =>
    let q := if f_k F (ix e) = 16 then p_try A (f_x F (ix e)) s else p_x F A e s
    if q.1 = 1 then
      let q2 := p_try A (f_y F (ix e)) q.2
      if q2.1 < 0 then q2 else p_everyL F A e t q2.2
    else q
def p_then (F : zF) (A : Int32 → zC → Int32 × zC) (e : Int32) (s : zC) : Int32 × zC :=
  if c_st s (ix e) = 0 then
    let q := p_try A (f_x F (ix e)) s
    if q.1 < 0 then q else p_up e (f_y F (ix e)) (A (f_y F (ix e)) (s_st (s_st q.2 e 2) (f_y F (ix e)) 0))
  else p_up e (f_y F (ix e)) (A (f_y F (ix e)) s)
def p_branch (F : zF) (e : Int32) (s : zC) : Int32 := if c_st s (ix e) = 2 then f_y F (ix e) else f_z F (ix e)
def p_if (F : zF) (A : Int32 → zC → Int32 × zC) (e : Int32) (s : zC) : Int32 × zC :=
  let go := fun s1 : zC => p_up e (p_branch F e s1) (A (p_branch F e s1) s1)
  if c_st s (ix e) = 0 then
    let q := p_try A (f_x F (ix e)) s
    if q.1 < 0 then q else
      let s1 := s_st q.2 e (if q.1 = 1 then 2 else 3)
      go (s_st s1 (p_branch F e s1) 0)
  else go s
def p_tripleL (F : zF) (A : Int32 → zC → Int32 × zC) (T : Nat) (e : Int32) : Nat → zC → Int32 × zC
  | 0, s => (0, s)
  | t + 1, s =>
    if c_st s (ix e) = 3 then
      let q := A (f_z F (ix e)) s
      if q.1 = 0 then p_tripleL F A T e t (s_st q.2 e 2) else q
    else
      let q := p_pairL F A e T s
      if q.1 = 1 then
        let q2 := A (f_z F (ix e)) (s_st (s_st q.2 e 3) (f_z F (ix e)) 0)
        if q2.1 = 0 then p_tripleL F A T e t (s_st q2.2 e 2) else q2
      else q
def p_upto (F : zF) (e : Int32) (s : zC) : Bool :=
  if 0 < c_rs s (ix (f_z F (ix e))) then decide (¬ (c_rs s (ix (f_y F (ix e)))).toInt64 < c_ct s (ix e)) else decide (¬ c_ct s (ix e) < (c_rs s (ix (f_y F (ix e)))).toInt64)
def p_toL (F : zF) (A : Int32 → zC → Int32 × zC) (T : Nat) (e : Int32) : Nat → zC → Int32 × zC
  | 0, s => (0, s)
  | t + 1, s =>
    let go := fun s1 : zC => if p_upto F e s1 = true then p_fuel F e (c_ct s1 (ix e)).toInt32 s1 else p_toL F A T e t (s_st s1 e 3)
    if c_st s (ix e) = 4 then go (s_ct s e (c_ct s (ix e) + (c_rs s (ix (f_z F (ix e)))).toInt64)) else
      let q := p_tripleL F A T e T s
      if q.1 = 1 then
        if c_rs q.2 (ix (f_z F (ix e))) = 0 then (-3, q.2)
        else go (s_st (s_ct q.2 e (c_rs q.2 (ix (f_x F (ix e)))).toInt64) e 4)
      else q
/-- what `ask` answers, over the answers A of its parts -/
def p_ask (F : zF) (A : Int32 → zC → Int32 × zC) (T : Nat) (e : Int32) (s : zC) : Int32 × zC :=
  let k := f_k F (ix e)
  if k = 0 then p_leaf F e (f_n F (ix e)) s
  else if k = 1 then p_leaf F e (g_va (c_g s) (ix (f_n F (ix e)))) s
  else if k = 2 then p_assign F A e s
  else if k = 3 then p_write F A e s
  else if k = 4 then p_not F A e s
  else if k = 5 then p_again F A e s
  else if k = 6 then p_either F A e s
  else if k = 7 then p_up e (f_y F (ix e)) (p_pairL F A e T s)
  else if k = 8 ∨ k = 9 ∨ k = 10 then p_arith F A T e s
  else if k = 11 ∨ k = 12 ∨ k = 13 then p_compL F A T e T s
  else if k = 14 then p_limitL F A e T s
  else if k = 15 ∨ k = 16 then p_everyL F A e T s
  else if k = 17 then p_then F A e s
  else if k = 18 then p_toL F A T e T s
  else if k = 19 then p_if F A e s
  else (0, s)
/-- the whole question, the depth counted down -/
def p_all (F : zF) (T : Nat) : Nat → Int32 → zC → Int32 × zC
  | 0, _, s => (0, s)
  | d + 1, e, s => p_ask F (p_all F T d) T e s
