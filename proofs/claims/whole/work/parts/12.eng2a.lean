
/-- what a unit changes: values, last writers, writer bits, numbers, the channel -/
abbrev vT5 : Type := (Nat → Nat) × (Nat → Nat) × (Nat → Nat) × (Nat → Nat) × (Nat → Nat)
def eW (G : vG) (a own mark : Nat → Nat) (h : Nat) (t : vT5) : List va_W := [eO a t.2.2.2.1, iA G (a 1) 96 t.1, iA G (a 2) 96 own, iA G (a 3) 96 mark, iA G (a 4) 96 t.2.1, eC G a, cX (a (6 + h)) t.2.2.2.2, iA G (a 9) 96 t.2.2.1]
def wS (mark : Nat → Nat) (h c : Nat) (s : Nat → Nat) : Nat → Nat := va_up (if mark c = 1 then (if s 4 = 4294967287 then va_up (va_up s 2 (s 2 + 1)) 4 (100 * h + c) else va_up s 2 (s 2 + 1)) else s) 3 (s 3 + 1)
/-- a cell is written -/
def wrC (mark : Nat → Nat) (h c v : Nat) (t : vT5) : vT5 := (va_up t.1 c v, va_up t.2.1 c h, va_up t.2.2.1 c (t.2.2.1 c ||| 2 ^ h), wS mark h c t.2.2.2.1, va_up t.2.2.2.2 4 (t.2.2.2.2 4 + 1))
def forn (own : Nat → Nat) (h c : Nat) : Nat := if own c = 0 ∨ own c = h + 1 then 0 else 1
def forb (own : Nat → Nat) (h kind sr tg : Nat) : Nat := if kind = 5 then (if sr = tg then 0 else if forn own h sr = 1 then 1 else forn own h tg) else forn own h tg
theorem forn_01 (own : Nat → Nat) (h c : Nat) : forn own h c = 0 ∨ forn own h c = 1 := by unfold forn; split <;> simp
theorem forb_01 (own : Nat → Nat) (h kind sr tg : Nat) : forb own h kind sr tg = 0 ∨ forb own h kind sr tg = 1 := by
  unfold forb
  split
  · split
    · exact Or.inl rfl
    · split
      · exact Or.inr rfl
      · exact forn_01 _ _ _
  · exact forn_01 _ _ _
/-- the unit's write -/
def wuC (mark : Nat → Nat) (h sr tg : Nat) (t : vT5) : vT5 :=
  if t.2.2.2.2 7 = 3 then wrC mark h tg (t.2.2.2.2 8) t
  else if t.2.2.2.2 7 = 4 then wrC mark h tg ((t.1 tg + t.2.2.2.2 8) % 100) t
  else if t.2.2.2.2 7 = 1 ∨ t.2.2.2.2 7 = 2 then wrC mark h tg (t.1 sr) t
  else if sr = tg then t else wrC mark h tg (t.1 sr) (wrC mark h sr (t.1 tg) t)
def chC (val q : Nat → Nat) : Nat → Nat := if 96 ≤ q 8 then qFail 3 q else qGo (if val (q 8) = q 9 then q 12 else q 5 + 6) q
def dI (q : Nat → Nat) : Nat := if q 7 = 2 then q 10 - 1 - q 6 else q 6
def dTg (q : Nat → Nat) : Nat := q 9 + (if q 7 = 3 ∨ q 7 = 4 then dI q * q 11 else dI q)
def dSr (q : Nat → Nat) : Nat := if q 7 = 3 ∨ q 7 = 4 then dTg q else q 8 + dI q
def sQ (f : (Nat → Nat) → Nat → Nat) (t : vT5) : vT5 := (t.1, t.2.1, t.2.2.1, t.2.2.2.1, f t.2.2.2.2)
def qNext (q : Nat → Nat) : Nat → Nat := if q 6 + 1 < q 10 then va_up q 6 (q 6 + 1) else qGo (q 12) (va_up q 6 (q 6 + 1))
/-- a unit of an order of the kinds 1 to 5 -/
def unC (own mark : Nat → Nat) (h : Nat) (t : vT5) : vT5 :=
  if 96 ≤ dSr t.2.2.2.2 ∨ 96 ≤ dTg t.2.2.2.2 then sQ (qFail 3) t
  else if forb own h (t.2.2.2.2 7) (dSr t.2.2.2.2) (dTg t.2.2.2.2) = 1 then sQ (qFail 4) t
  else sQ qNext (wuC mark h (dSr t.2.2.2.2) (dTg t.2.2.2.2) t)
def duC (own mark : Nat → Nat) (h : Nat) (t : vT5) : vT5 := if t.2.2.2.2 7 = 6 then sQ (chC t.1) t else unC own mark h t

