/-! ===== the reference's kitchen, as functions of its row of numbers ===== -/
def b01 (b : Bool) : Int32 := if b = true then 1 else 0
def btI (x k : Int32) : Bool := decide ((x >>> (k &&& 31)) &&& 1 = 1)
theorem btI_t {x k : Int32} (h : (x >>> (k &&& 31)) &&& 1 = 1) : btI x k = true := decide_eq_true h
theorem btI_f {x k : Int32} (h : ¬ (x >>> (k &&& 31)) &&& 1 = 1) : btI x k = false := decide_eq_false h
/-- the least note that the pan p hears, of the first singers -/
def lsB (st nt : Nat → Int32) (p : Nat) : Nat → Int32
  | 0 => -1000000
  | s + 1 => if btI (st (31 + p)) (nI s) = true ∧ nt s < 7 then (if lsB st nt p s < 0 ∨ nt s < lsB st nt p s then nt s else lsB st nt p s) else lsB st nt p s
/-- whether all of them are of its mode -/
def rtB (st nt : Nat → Int32) (p : Nat) : Nat → Bool
  | 0 => true
  | s + 1 => if btI (st (31 + p)) (nI s) = true ∧ nt s < 7 then (rtB st nt p s && btI (st (21 + p)) (nt s)) else rtB st nt p s
def rqB (kind ahead l : Int32) (r : Bool) : Bool := if kind = 3 then r && (decide (0 ≤ ahead) && (decide (l = ahead + 2) || decide (l = ahead - 2))) else r
def thkB (kind less thick l : Int32) (r : Bool) : Int32 :=
  if kind = 5 then (if l < 0 then thick + 1 else 0)
  else if ¬ kind = 4 ∧ 0 ≤ l then (if r = true then thick + 1 else if kind = 2 ∨ thick < less then 0 else thick - less) else thick
def setP3 (st : Nat → Int32) (p : Nat) (t l : Int32) : Nat → Int32 := upd (upd (upd st (36 + p) t) (41 + p) (if st (26 + p) ≤ t then 1 else 0)) (46 + p) (if st (26 + p) ≤ t then -1000000 else l)
def hearB (st nt : Nat → Int32) (V p : Nat) : Nat → Int32 := setP3 st p (thkB (st (16 + p)) (st 0) (st (36 + p)) (lsB st nt p V) (rqB (st (16 + p)) (st (46 + p)) (lsB st nt p V) (rtB st nt p V))) (lsB st nt p V)
def panB (st nt : Nat → Int32) (V p : Nat) : Nat → Int32 := if st (41 + p) = 1 then upd st (46 + p) (-1000000) else hearB st nt V p
def pansB (st nt : Nat → Int32) (V : Nat) : Nat → Nat → Int32
  | 0 => st
  | k + 1 => panB (pansB st nt V k) nt V k
def runB (st nt : Nat → Int32) (s : Nat) : Nat → Int32 := upd st (13 + s) (if nt s < 7 then st (13 + s) + 1 else 0)
def runsB (st nt : Nat → Int32) : Nat → Nat → Int32
  | 0 => st
  | k + 1 => runB (runsB st nt k) nt k
def barB (st : Nat → Int32) : Nat → Int32 := upd st 3 (st 3 + 1)
def oneB (st nt : Nat → Int32) (V P : Nat) : Nat → Int32 := barB (runsB (pansB st nt V P) nt V)
def setB (st : Nat → Int32) : Nat → Int32
  | 0 => 0
  | k + 1 => setB st k ||| (st (41 + k) <<< (nI k &&& 31))
theorem upd_s (f : Nat → Int32) (k : Nat) (x : Int32) : upd f k x k = x := if_pos rfl
theorem upd_n (f : Nat → Int32) {k j : Nat} (x : Int32) (h : j ≠ k) : upd f k x j = f j := if_neg h
theorem setP3_lo {st : Nat → Int32} {p : Nat} {t l : Int32} {i : Nat} (h : i < 36) : setP3 st p t l i = st i := by
  unfold setP3
  rw [upd_n _ _ (by omega), upd_n _ _ (by omega), upd_n _ _ (by omega)]
theorem panB_lo {st nt : Nat → Int32} {V p i : Nat} (h : i < 36) : panB st nt V p i = st i := by
  unfold panB
  by_cases c : st (41 + p) = 1
  · rw [if_pos c, upd_n _ _ (by omega)]
  · rw [if_neg c]
    exact setP3_lo h
theorem pansB_lo {st nt : Nat → Int32} {V i : Nat} (h : i < 36) : ∀ k, pansB st nt V k i = st i
  | 0 => rfl
  | k + 1 => (panB_lo h).trans (pansB_lo h k)
theorem runsB_lo {st nt : Nat → Int32} {i : Nat} (h : i < 13 ∨ 16 ≤ i) : ∀ k, k ≤ 3 → runsB st nt k i = st i
  | 0, _ => rfl
  | k + 1, hk => by
    show upd _ _ _ _ = _
    rw [upd_n _ _ (by omega)]
    exact runsB_lo h k (by omega)
def noteA (acts st : Nat → Int32) (n : Nat) : Nat → Int32 := if n = 24 then va_cpy st (va_cpy acts acts 51 0 1173) 0 1173 51 else va_cpy st acts 0 (51 * n) 51
def noteN (n : Nat) : Nat := if n = 24 then 24 else n + 1
