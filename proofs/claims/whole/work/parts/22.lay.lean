/-! ===== THE ROW and the layout, as whole numbers: out of the reference's rows of the program (p) ===== -/
def pg (M : fr_M) : fr_M := fun k i => if ((76 ≤ k ∧ k ≤ 84) ∨ k = 86) ∨ (k = 75 ∧ (i = 4 ∨ i = 13 ∨ i = 14)) then M k i else 0
def cN (p : fr_M) : Nat := (p 75 4).toNat
def pr (p : fr_M) (w : Nat) (b : Int) : Bool := if w = 0 then !(p 75 13 == 1 && p 81 b == 1) else p 81 b == 1
def inn (p : fr_M) (w r : Nat) : Nat → List Int
  | 0 => []
  | m + 1 => inn p w r m ++ (if pr p w (p 78 (9 * (r : Int) + (m : Int))) then [p 78 (9 * (r : Int) + (m : Int))] else [])
def out (p : fr_M) (w : Nat) : Nat → List Int
  | 0 => []
  | r + 1 => out p w r ++ inn p w r (p 76 (r : Int)).toNat
def rowL (p : fr_M) : List Int := out p 0 6 ++ (if p 75 13 = 1 then out p 1 6 else [])
def ln (p : fr_M) (k : Nat) : Int := (rowL p)[k]?.getD 0
def ix (p : fr_M) (b : Int) : Nat := (rowL p).idxOf b
/-- NEXT, or -1 -/
def nx (p : fr_M) (b : Int) : Int := if ix p b + 1 < cN p then ln p (ix p b + 1) else -1
def w0 (p : fr_M) (b : Int) : Int := p 84 (4 * b)
def w1 (p : fr_M) (b : Int) : Int := p 84 (4 * b + 1)
def gs (p : fr_M) (b : Int) : Prop := p 82 b = 2 ∨ p 82 b = 5 ∨ p 82 b = 6
def tu (p : fr_M) (b : Int) : Int := if p 82 b = 3 ∧ w1 p b ≠ nx p b ∧ w0 p b = nx p b then 1 else 0
/-- to where a TEST JUMP goes, or -1; to where a JUMP goes, or -1 -/
def tg0 (p : fr_M) (b : Int) : Int := if p 82 b = 3 then (if tu p b = 1 then w1 p b else w0 p b) else -1
def tg1 (p : fr_M) (b : Int) : Int := if p 82 b = 2 ∨ p 82 b = 5 ∨ p 82 b = 6 then (if w0 p b = nx p b then -1 else w0 p b) else if p 82 b = 3 then (if tu p b = 1 ∨ w1 p b = nx p b then -1 else w1 p b) else -1
def tg (p : fr_M) (s : Int) : Int := if s % 2 = 0 then tg0 p (s / 2) else tg1 p (s / 2)
/-- where all lies, lg saying which slots are LONG -/
def s0 (p : fr_M) (lg : Int → Int) (b : Int) : Int := if tg0 p b = -1 then 0 else if lg (2 * b) = 1 then 6 else 2
def s1 (p : fr_M) (lg : Int → Int) (b : Int) : Int := if tg1 p b = -1 then 0 else if lg (2 * b + 1) = 1 then 5 else 2
def c5 (p : fr_M) (b : Int) : Int := if p 82 b = 5 then 5 else 0
def ed (p : fr_M) (lg : Int → Int) (b x : Int) : Int := if p 82 b ≤ 1 then x + 1 else if p 82 b = 4 then (x + 5) / 4 * 4 + 4 * p 83 b else x + c5 p b + s0 p lg b + s1 p lg b
def al (p : fr_M) (x : Int) : Int := (x + p 75 14 - 1) / p 75 14 * p 75 14
def pos (p : fr_M) (lg : Int → Int) : Nat → Int
  | 0 => 0
  | k + 1 => ed p lg (ln p k) (al p (pos p lg k) + p 80 (ln p k))
def ad (p : fr_M) (lg : Int → Int) (b : Int) : Int := al p (pos p lg (ix p b))
def ea (p : fr_M) (lg : Int → Int) (b : Int) : Int := ad p lg b + p 80 b
def be (p : fr_M) (lg : Int → Int) (b : Int) : Int := ed p lg b (ea p lg b)
def jb0 (p : fr_M) (lg : Int → Int) (b : Int) : Int := ea p lg b + c5 p b + s0 p lg b
def jb1 (p : fr_M) (lg : Int → Int) (b : Int) : Int := ea p lg b + c5 p b + s0 p lg b + s1 p lg b
def jb (p : fr_M) (lg : Int → Int) (s : Int) : Int := if s % 2 = 0 then jb0 p lg (s / 2) else jb1 p lg (s / 2)
abbrev grow (p : fr_M) (lg : Int → Int) (s : Int) : Prop := tg p s ≠ -1 ∧ lg s = 0 ∧ ¬ (-128 ≤ ad p lg (tg p s) - jb p lg s ∧ ad p lg (tg p s) - jb p lg s ≤ 127)
def lgT (p : fr_M) : Nat → Int → Int
  | 0 => fun _ => 0
  | t + 1 => fun s => if (0 ≤ s ∧ s < 2 * p 75 4) ∧ grow p (lgT p t) s then 1 else lgT p t s
def tnT (p : fr_M) : Nat → Int → Int
  | 0 => fun _ => 0
  | t + 1 => fun s => if (0 ≤ s ∧ s < 2 * p 75 4) ∧ grow p (lgT p t) s then (t : Int) + 1 else tnT p t s
def dn (p : fr_M) (t : Nat) : Prop := ∀ s, 0 ≤ s → s < 2 * p 75 4 → ¬ grow p (lgT p t) s
def gp (p : fr_M) (lg : Int → Int) : Nat → Int
  | 0 => 0
  | k + 1 => gp p lg k + (al p (pos p lg k) - pos p lg k)
def gd (p : fr_M) : Nat → Int
  | 0 => 0
  | k + 1 => gd p k + (if p 82 (ln p k) = 6 then 1 else 0)
def lt_ (p : fr_M) (T : Nat) (b : Int) : Int := max (tnT p T (2 * b)) (tnT p T (2 * b + 1))
/-- the class's cells of the layout -/
def LayP (p : fr_M) (T : Nat) (N : fr_M) : Prop := (dn p T ∧ ∀ t, t < T → ¬ dn p t) ∧ (N 29 13 = (T : Int) ∧ N 29 14 = gp p (lgT p T) (cN p) ∧ N 29 15 = pos p (lgT p T) (cN p) ∧ N 29 16 = pos p (lgT p T) (cN p) + 8 * gd p (cN p)) ∧ (∀ k : Nat, (k : Int) < p 75 4 → N 30 (k : Int) = ln p k) ∧ (∀ b, 0 ≤ b → b < p 75 4 → N 31 b = nx p b ∧ N 32 b = ad p (lgT p T) b ∧ N 33 b = be p (lgT p T) b ∧ N 37 b = tu p b ∧ N 38 b = lt_ p T b) ∧ (∀ s, 0 ≤ s → s < 2 * p 75 4 → N 34 s = tg p s ∧ N 36 s = lgT p T s ∧ (tg p s ≠ -1 → N 35 s = jb p (lgT p T) s))
/-- bytes -/
def byo (v k : Int) : Int := if k = 0 then v % 256 else if k = 1 then v / 256 % 256 else if k = 2 then v / 65536 % 256 else v / 16777216 % 256
def sg (x : Int) : Int := if x < 128 then x else x - 256
def eb (p : fr_M) (lg : Int → Int) (b j : Int) : Int := if p 82 b = 0 then 195 else if p 82 b = 1 then 204 else if p 82 b = 4 then (if j = 0 then 255 else if j = 1 then 36 else if j < be p lg b - 4 * p 83 b - ea p lg b then 0 else byo (ad p lg (p 84 (4 * b + (j - (be p lg b - 4 * p 83 b - ea p lg b)) / 4))) ((j - (be p lg b - 4 * p 83 b - ea p lg b)) % 4)) else if p 82 b = 5 ∧ j < 5 then (if j = 0 then 232 else byo (ad p lg (p 77 (9 * p 86 b)) - ea p lg b - 5) (j - 1)) else if tg0 p b ≠ -1 ∧ ea p lg b + j < jb0 p lg b then (if lg (2 * b) = 1 then (if j = 0 then 15 else if j = 1 then 128 + tu p b else byo (ad p lg (tg0 p b) - jb0 p lg b) (j - 2)) else (if j = 0 then 112 + tu p b else byo (ad p lg (tg0 p b) - jb0 p lg b) (j - 1))) else (if ea p lg b + j = jb0 p lg b then (if lg (2 * b + 1) = 1 then 233 else 235) else byo (ad p lg (tg1 p b) - jb1 p lg b) (ea p lg b + j - jb0 p lg b - 1))
def PicP (p : fr_M) (lg : Int → Int) (N : fr_M) : Prop := (∀ k : Nat, (k : Int) < p 75 4 → ∀ j, pos p lg k ≤ j → j < al p (pos p lg k) → N 40 j = -112) ∧ (∀ b, 0 ≤ b → b < p 75 4 → ∀ j, ad p lg b ≤ j → j < ea p lg b → N 40 j = b) ∧ (∀ b, 0 ≤ b → b < p 75 4 → ∀ j, 0 ≤ j → j < be p lg b - ea p lg b → N 40 (ea p lg b + j) = sg (eb p lg b j)) ∧ (∀ k : Nat, (k : Int) < p 75 4 → p 82 (ln p k) = 6 → ∀ j, 0 ≤ j → j < 8 → N 40 (pos p lg (cN p) + 8 * gd p k + j) = sg (if j < 4 then byo (ad p lg (ln p k)) j else byo (ad p lg (w1 p (ln p k))) (j - 4))) ∧ (∀ k : Nat, (k : Int) < p 75 4 → N 41 (ln p k) = if p 82 (ln p k) = 6 then pos p lg (cN p) + 8 * gd p k else -1)
