/-! The other side, step by step. -/
/-- phase, kept, number, shared, given, error, stack, top -/
abbrev zR : Type := (Nat → Int32) × (Nat → Int64) × (Nat → Int32) × zG × Int32 × Int32 × (Nat → Int32) × Int32
/-- kind, part, fuel -/
abbrev zT : Type := (Nat → Int32) × (Nat → Int32) × Int32
def t_k (T : zT) : Nat → Int32 := T.1
def t_p (T : zT) : Nat → Int32 := T.2.1
def t_f (T : zT) : Int32 := T.2.2
def r_ph (s : zR) : Nat → Int32 := s.1
def r_kp (s : zR) : Nat → Int64 := s.2.1
def r_nm (s : zR) : Nat → Int32 := s.2.2.1
def r_g (s : zR) : zG := s.2.2.2.1
def r_gv (s : zR) : Int32 := s.2.2.2.2.1
def r_er (s : zR) : Int32 := s.2.2.2.2.2.1
def r_sk (s : zR) : Nat → Int32 := s.2.2.2.2.2.2.1
def r_tp (s : zR) : Int32 := s.2.2.2.2.2.2.2
def u_ph (s : zR) (e v : Int32) : zR := (upd s.1 (ix e) v, s.2)
def u_kp (s : zR) (i : Int32) (v : Int64) : zR := (s.1, vp_updL s.2.1 (ix i) v, s.2.2)
def u_nm (s : zR) (e v : Int32) : zR := (s.1, s.2.1, upd s.2.2.1 (ix e) v, s.2.2.2)
def u_g (s : zR) (g : zG) : zR := (s.1, s.2.1, s.2.2.1, g, s.2.2.2.2)
def u_gv (s : zR) (v : Int32) : zR := (s.1, s.2.1, s.2.2.1, s.2.2.2.1, v, s.2.2.2.2.2)
def u_er (s : zR) (v : Int32) : zR := (s.1, s.2.1, s.2.2.1, s.2.2.2.1, s.2.2.2.2.1, v, s.2.2.2.2.2.2)
def u_sk (s : zR) (i v : Int32) : zR := (s.1, s.2.1, s.2.2.1, s.2.2.2.1, s.2.2.2.2.1, s.2.2.2.2.2.1, upd s.2.2.2.2.2.2.1 (ix i) v, s.2.2.2.2.2.2.2)
def u_tp (s : zR) (v : Int32) : zR := (s.1, s.2.1, s.2.2.1, s.2.2.2.1, s.2.2.2.2.1, s.2.2.2.2.2.1, s.2.2.2.2.2.2.1, v)
def q_give (v : Int32) (s : zR) : Int32 × zR := (1, u_gv s v)
def q_paid (T : zT) (v : Int32) (s : zR) : Int32 × zR := if g_sp (r_g s) = t_f T then (0, u_er s (-5)) else q_give v (u_g s (h_sp (r_g s)))
def q_ask (T : zT) (e i th : Int32) (s : zR) : Int32 × zR :=
  let s1 := u_ph s e th
  let s2 := u_sk s1 (r_tp s1) (t_p T (ix (3 * e + i)))
  (2, u_tp s2 (r_tp s2 + 1))
def q_first (T : zT) (e i th : Int32) (s : zR) : Int32 × zR := q_ask T e i th (u_ph s (t_p T (ix (3 * e + i))) 0)
def q_leaf (T : zT) (e : Int32) (s : zR) : Int32 × zR :=
  if r_ph s (ix e) = 1 then (0, s) else
    let s1 := u_ph s e 1
    q_paid T (if t_k T (ix e) = 0 then r_nm s1 (ix e) else g_va (r_g s1) (ix (r_nm s1 (ix e)))) s1
def q_unary (T : zT) (e w : Int32) (s : zR) : Int32 × zR :=
  let k := t_k T (ix e) - 10
  if k = 2 then
    if r_ph s (ix e) = 2 then (0, s) else
    if w = 0 then q_first T e 0 1 s else
      let s1 := u_ph s e 2
      if w = 1 then (0, s1) else q_give 0 s1
  else if w = 0 then
    if r_ph s (ix e) = 1 then q_ask T e 0 1 s else q_first T e 0 1 (u_kp s (3 * e) 0)
  else if w = 2 then
    if k = 3 then if r_kp s (ix (3 * e)) = 0 then (0, s) else q_first T e 0 1 (u_kp s (3 * e) 0) else (0, s)
  else
    let s1 := u_kp s (3 * e) 1
    let s2 := if k = 0 then u_g s1 (h_va (r_g s1) (r_nm s1 (ix e)) (r_gv s1)) else s1
    if k = 1 then if g_wc (r_g s2) = 32 then (0, u_er s2 (-6)) else (1, u_g s2 (h_wr (r_g s2) (r_gv s2))) else (1, s2)
def q_pair (T : zT) (e w : Int32) (s : zR) : Int32 × zR :=
  if w = 0 then if r_ph s (ix e) = 0 then q_first T e 0 1 s else q_ask T e 1 2 s
  else if r_ph s (ix e) = 1 then
    if w = 2 then (0, s) else q_first T e 1 2 (u_kp s (3 * e) (r_gv s).toInt64)
  else if w = 2 then q_ask T e 0 1 s
  else
    let k := t_k T (ix e) - 20
    let r := r_kp s (ix (3 * e))
    let v := (r_gv s).toInt64
    if 5 ≤ k then
      if (if k = 5 then decide (r < v) else if k = 6 then decide (r = v) else decide (¬ r = v)) = true then (1, s) else q_ask T e 1 2 s
    else if k = 1 then (1, s) else
      let z := if k = 2 then r + v else if k = 3 then r - v else r * v
      if z = z.toInt32.toInt64 then q_give z.toInt32 s else (0, u_er s (-4))
def q_limit (T : zT) (e w : Int32) (s : zR) : Int32 × zR :=
  if w = 0 then
    if r_ph s (ix e) = 0 then q_first T e 1 1 s
    else if 0 < r_kp s (ix (3 * e)) then q_ask T e 0 2 s else q_ask T e 1 1 s
  else if r_ph s (ix e) = 2 then
    if w = 2 then q_ask T e 1 1 s else (1, u_kp s (3 * e) (r_kp s (ix (3 * e)) - 1))
  else if w = 2 then (0, s)
  else
    let s1 := u_kp s (3 * e) (r_gv s).toInt64
    if 0 < r_gv s1 then q_first T e 0 2 s1 else q_ask T e 1 1 s1
def q_binary (T : zT) (e w : Int32) (s : zR) : Int32 × zR :=
  let k := t_k T (ix e) - 20
  let p := r_ph s (ix e)
  if k = 0 then
    if w = 0 then if p = 0 then q_first T e 0 1 s else q_ask T e (p - 1) p s
    else if w = 1 then (1, s) else if p = 1 then q_first T e 1 2 s else (0, s)
  else if k = 8 then q_limit T e w s
  else if k = 9 then
    if w = 0 then q_first T e 0 1 s else if p = 2 then q_ask T e 0 1 s else if w = 1 then q_first T e 1 2 s else (0, s)
  else if k = 10 then
    if w = 0 then q_first T e 0 1 s else if p = 2 then q_first T e 0 1 s else if w = 1 then q_first T e 1 2 s else (0, s)
  else if w = 0 then if p = 0 then q_first T e 0 1 s else q_ask T e 1 2 s
  else if p = 1 then q_first T e 1 2 s
  else if w = 1 then (1, s) else (0, s)
def q_on (T : zT) (e : Int32) (s : zR) : Int32 × zR :=
  let v := r_kp s (ix (3 * e))
  let c := r_kp s (ix (3 * e + 2))
  let b := r_kp s (ix (3 * e + 1))
  if (if 0 < c then decide (b < v) else decide (v < b)) = true then q_ask T e 2 3 s
  else q_paid T v.toInt32 (u_kp (u_ph s e 4) (3 * e) (v + c))
def q_to (T : zT) (e w : Int32) (s : zR) : Int32 × zR :=
  let p := r_ph s (ix e)
  if w = 0 then if p = 0 then q_first T e 0 1 s else q_on T e s
  else if w = 2 then if p = 1 then (0, s) else q_ask T e (p - 2) (p - 1) s
  else if p = 1 then q_first T e 1 2 (u_nm s e (r_gv s))
  else
    let s1 := u_kp s (3 * e + p - 1) (r_gv s).toInt64
    if p = 2 then q_first T e 2 3 s1
    else if r_gv s1 = 0 then (0, u_er s1 (-3))
    else q_on T e (u_kp s1 (3 * e) (r_nm s1 (ix e)).toInt64)
def q_if (T : zT) (e w : Int32) (s : zR) : Int32 × zR :=
  let p := r_ph s (ix e)
  if w = 0 then if p = 0 then q_first T e 0 1 s else q_ask T e (p - 1) p s
  else if p = 1 then if w = 1 then q_first T e 1 2 s else q_first T e 2 3 s
  else if w = 1 then (1, s) else (0, s)
def q_step (T : zT) (e w : Int32) (s : zR) : Int32 × zR :=
  let k := t_k T (ix e)
  if k < 10 then q_leaf T e s
  else if k < 20 then q_unary T e w s
  else if 21 ≤ k ∧ k ≤ 27 then q_pair T e w s
  else if k < 40 then q_binary T e w s
  else if k = 40 then q_to T e w s else q_if T e w s
/-- one turn of next's loop that met no error: the state and the news -/
def q_turn (T : zT) (a : zR × Int32) : zR × Int32 :=
  let q := q_step T (r_sk a.1 (ix (r_tp a.1 - 1))) a.2 a.1
  if q.1 = 2 then (q.2, 0) else (u_tp q.2 (r_tp q.2 - 1), if q.1 = 1 then 1 else 2)
