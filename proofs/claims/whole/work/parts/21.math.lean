/-! THE MATHEMATICS that both sides are tied to. A town: people, rule's length, length of the other tune, feuds told; rows 0 kind, 1 birthday, 2 order, 3 rule (the model's codes), 4 other, 5 house told, 6 base told, 7 and 8 feuds told, 9: 0 key told.
A life: signs, feuds; rows 0 signs, 1 whose, 2 year of each, 3: 0 year, 1 key, 2 away, 3 dead, 4 married; 4 house, 5 base, 6 and 7 feuds. -/
abbrev TD : Type := Nat × Nat × Nat × Nat × G2
abbrev LfS : Type := Nat × Nat × G2
abbrev t_n (T : TD) : Nat := T.1
abbrev t_rn (T : TD) : Nat := T.2.1
abbrev t_on (T : TD) : Nat := T.2.2.1
abbrev t_fn (T : TD) : Nat := T.2.2.2.1
abbrev t_g (T : TD) : G2 := T.2.2.2.2
abbrev l_n (S : LfS) : Nat := S.1
abbrev l_fn (S : LfS) : Nat := S.2.1
abbrev l_g (S : LfS) : G2 := S.2.2
def byM (v : Int32) : Int32 := if rmI v 12 < 0 then rmI v 12 + 12 else rmI v 12
/-- the latest note that is no rest; -1 without -/
def lasC (f : Nat → Int32) : Nat → Int32
  | 0 => -1
  | n + 1 => if f n = 12 then lasC f n else f n
def sunM (S : LfS) (p : Nat) : Nat := cntN (fun i => l_g S 1 i == nI p) (l_n S)
def lowB (T : TD) (sp : Int32) (p : Nat) : Bool := (t_g T 0 p == 3) != (sp == nI p)
def lasM (S : LfS) : Int32 := if lasC (l_g S 0) (l_n S) = -1 then l_g S 3 1 else lasC (l_g S 0) (l_n S)
def askM (T : TD) (S : LfS) (p : Nat) (j : Nat) : Int32 :=
  if j = 0 then l_g S 3 0 else if j = 1 then l_g S 5 p else if j = 2 then lasM S else if j = 3 then l_g S 3 1 else if j = 4 then l_g S 4 p else if j = 5 then t_g T 0 p else nI (sunM S p)
def rknM (x a b : Int32) : Int32 :=
  if x = -20 then a + b else if x = -21 then a - b else if x = -22 then a * b else if x = -23 then (if b = 0 then 0 else a / b) else if x = -24 then (if a < b then 1 else 0) else if x = -25 then (if a = b then 1 else 0)
  else if x = -26 then (if ¬ a = 0 ∧ ¬ b = 0 then 1 else 0) else (if ¬ a = 0 ∨ ¬ b = 0 then 1 else 0)
/-- one part of the rule on the stack (the top first) -/
def stM (ask : Nat → Int32) (x : Int32) (s : List Int32) : List Int32 :=
  if -20 < x then (if 0 ≤ x then x else ask (-1 - x).toNatClampNeg) :: s
  else if x = -28 then (match s with | [] => [] | y :: r => (if y = 0 then 1 else 0) :: r)
  else (match s with | y :: z :: r => rknM x z y :: r | s => s)
def evM (ask : Nat → Int32) (c : Nat → Int32) : Nat → List Int32
  | 0 => []
  | k + 1 => stM ask (c k) (evM ask c k)
def vaM (T : TD) (S : LfS) (p : Nat) : Int32 := if t_g T 0 p = 2 then l_g S 5 p else if t_rn T = 0 then l_g S 5 p + l_g S 3 1 else botS (evM (askM T S p) (t_g T 3) (t_rn T))
def nsM (T : TD) (sp : Int32) (S : LfS) (p : Nat) : Int32 :=
  if !(btI (l_g S 3 2) (nI p) == 0) then 12 else if foeB (l_g S 0) (l_g S 1) (l_g S 6) (l_g S 7) (l_n S) (l_fn S) (nI p) then rmI (l_g S 0 (l_n S - 1) + 6) 12
  else ntI (byM (vaM T S p)) (t_g T 0 p) (lowB T sp p)
def addM (S : LfS) (p : Nat) (x : Int32) : LfS := (l_n S + 1, l_fn S, up2 (up2 (up2 (l_g S) 0 (l_n S) x) 1 (l_n S) (nI p)) 2 (l_n S) (l_g S 3 0))
/-- who has the i-th birthday -/
def ordM (T : TD) (i : Nat) : Nat := (t_g T 2 i).toNatClampNeg
def stpM (T : TD) (sp : Int32) (S : LfS) (i : Nat) : LfS := if l_n S < 400 ∧ btI (l_g S 3 3) (nI (ordM T i)) = 0 then addM S (ordM T i) (nsM T sp S (ordM T i)) else S
def runM (T : TD) (sp : Int32) (S : LfS) : Nat → LfS
  | 0 => S
  | i + 1 => stpM T sp (runM T sp S i) i
def yrM (T : TD) (sp : Int32) (S : LfS) : LfS := ((runM T sp S (t_n T)).1, (runM T sp S (t_n T)).2.1, up2 (runM T sp S (t_n T)).2.2 3 0 ((runM T sp S (t_n T)).2.2 3 0 + 1))
def yrsM (T : TD) (sp : Int32) (S : LfS) : Nat → LfS
  | 0 => S
  | k + 1 => yrM T sp (yrsM T sp S k)
/-- the class's code of a part, as the model has it -/
def trC (x : Int32) : Int32 :=
  if 0 ≤ x then x else if x = -110 then -4 else if x = -111 then -1 else if x = -112 then -2 else if x = -113 then -3 else if x = -114 then -5 else if x = -115 then -6 else if x = -116 then -7
  else if x = -43 then -20 else if x = -45 then -21 else if x = -42 then -22 else if x = -47 then -23 else if x = -60 then -24 else if x = -61 then -25 else if x = -108 then -26 else if x = -107 then -27 else -28
def okC (x : Int32) : Prop := 0 ≤ x ∨ x = -110 ∨ x = -111 ∨ x = -112 ∨ x = -113 ∨ x = -114 ∨ x = -115 ∨ x = -116 ∨ x = -43 ∨ x = -45 ∨ x = -42 ∨ x = -47 ∨ x = -60 ∨ x = -61 ∨ x = -108 ∨ x = -107 ∨ x = -109
/-- the class's life at a is S -/
def RLf (g : G2) (a : Nat) (T : TD) (sp : Int32) (S : LfS) : Prop :=
  g a 3 = nI (l_n S) ∧ l_n S ≤ 400 ∧ (∀ i, i < l_n S → g (a + 1) i = l_g S 0 i) ∧ (∀ i, i < l_n S → g (a + 2) i = l_g S 1 i) ∧ (∀ i, i < l_n S → g (a + 3) i = l_g S 2 i) ∧
  (∀ j, j < 5 → g a (4 + j) = l_g S 3 j) ∧ (∀ p, p < t_n T → g (a + 4) p = l_g S 4 p) ∧ (∀ p, p < t_n T → g (a + 5) p = l_g S 5 p) ∧
  g (a + 7) 2 = nI (l_fn S) ∧ l_fn S ≤ 6 ∧ (∀ i, i < l_fn S → g (a + 8) i = l_g S 6 i) ∧ (∀ i, i < l_fn S → g (a + 9) i = l_g S 7 i) ∧
  g a 10 = lasC (l_g S 0) (l_n S) ∧ (∀ p, p < t_n T → g (a + 6) p = nI (sunM S p)) ∧ (∀ p, p < t_n T → (!(btI (g a 9) (nI p) == 0)) = lowB T sp p)
/-- the class's town at t is T -/
def RTn (g : G2) (t : Nat) (T : TD) : Prop :=
  g t 0 = nI (t_n T) ∧ t_n T ≤ 8 ∧ (∀ p, p < t_n T → g (t + 1) p = t_g T 0 p) ∧ (∀ p, p < t_n T → g (t + 3) p = t_g T 1 p) ∧ (∀ p, p < t_n T → g (t + 4) p = t_g T 6 p) ∧ (∀ p, p < t_n T → g (t + 5) p = t_g T 2 p) ∧
  g t 9 = nI (t_on T) ∧ t_on T ≤ 24 ∧ (∀ i, i < t_on T → g (t + 9) i = t_g T 4 i) ∧
  g (t + 10) 1 = nI (t_rn T) ∧ t_rn T ≤ 600 ∧ (∀ i, i < t_rn T → okC (g (t + 11) i) ∧ trC (g (t + 11) i) = t_g T 3 i) ∧
  (∀ i, i < t_n T → ∃ p, p < t_n T ∧ t_g T 2 i = nI p)
