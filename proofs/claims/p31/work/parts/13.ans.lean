/-! ANSWERS: what each call answers, and the state behind it -/
/-- the state: THE TEXT (n, tx), the house, the course, how many are kept, and which -/
def WF (n : Nat) (tx : Nat → Int) (hs : HS) (C : CS) (kn : Nat) (K : Nat → CS) : Prop := n ≤ 400 ∧ (∀ i, -128 ≤ tx i ∧ tx i ≤ 127) ∧ HB hs ∧ 0 < zS hs ∧ 0 < zA hs ∧ RB hs C ∧ TB hs C ∧ kn ≤ 2 ∧ ∀ j, 1 ≤ j → j ≤ kn → RB hs (K j) ∧ TB hs (K j)
abbrev isS (hs : HS) (s : Int) : Prop := 0 ≤ s ∧ s < (zS hs : Int)
abbrev isA (hs : HS) (a : Int) : Prop := 0 ≤ a ∧ a < (zA hs : Int)
def bt (v : Int) (b : Nat) : Int := (v / 2 ^ (8 * b)).bmod 256
def txW (tx : Nat → Int) (n k : Nat) (v : Int) : Nat → Int := fun i => if n ≤ i ∧ i < n + k then bt v (n + k - 1 - i) else tx i
theorem bt_R (v : Int) (b : Nat) : -128 ≤ bt v b ∧ bt v b ≤ 127 := by
  have h1 := Int.bmod_lt (x := v / 2 ^ (8 * b)) (m := 256) (by decide)
  have h2 := Int.le_bmod (x := v / 2 ^ (8 * b)) (m := 256) (by decide)
  unfold bt; omega
theorem bt_u {v : Int} {b : Nat} (hb : b < 8) : ((v % 18446744073709551616) / (2 : Int) ^ (8 * b)).bmod 256 = bt v b := by
  unfold bt
  have h : ((v % 18446744073709551616) / (2 : Int) ^ (8 * b)) % 256 = (v / 2 ^ (8 * b)) % 256 := by
    rcases (show b = 0 ∨ b = 1 ∨ b = 2 ∨ b = 3 ∨ b = 4 ∨ b = 5 ∨ b = 6 ∨ b = 7 by omega) with rfl | rfl | rfl | rfl | rfl | rfl | rfl | rfl <;> simp <;> omega
  rw [← Int.emod_bmod, ← Int.emod_bmod (v / 2 ^ (8 * b))]
  exact congrArg (fun x => Int.bmod x 256) h
/-- does -/
def aDoes (hs : HS) (s a m w : Int) : Int := if (0 ≤ s ∧ s < (zS hs : Int)) ∧ (0 ≤ a ∧ a < (zA hs : Int)) ∧ (0 ≤ m ∧ m ≤ 3) ∧ 0 ≤ w ∧ w ≤ 2 then (if w = 0 then (fe hs s.toNat a.toNat m.toNat : Int) else if w = 1 then (pl hs s.toNat a.toNat m.toNat : Int) else (dO hs s.toNat a.toNat m.toNat : Int)) else -1
def aLeft (hs : HS) (C : CS) (s : Int) : Int := if s = -1 then (sumN (lf hs C) (zS hs) : Int) else if 0 ≤ s ∧ s < (zS hs : Int) then (lf hs C s.toNat : Int) else -1
def aShare (hs : HS) (C : CS) (s : Int) : Int := if 0 ≤ s ∧ s < (zS hs : Int) then (if sumN (lf hs C) (zS hs) = 0 then -4 else ((100000 * lf hs C s.toNat / sumN (lf hs C) (zS hs) : Nat) : Int)) else -1
def aBent (hs : HS) (C : CS) (w : Int) : Int := if w = 0 then ((1000 * sumN (fun s => hs 0 s * hs 1 s) (zS hs) / zN hs : Nat) : Int) else if w = 1 then (if sumN (lf hs C) (zS hs) = 0 then -4 else ((1000 * sumN (fun s => lf hs C s * hs 1 s) (zS hs) / sumN (lf hs C) (zS hs) : Nat) : Int)) else -1
def aOdds (hs : HS) (C : CS) (c : Int) : Int := if 0 ≤ c ∧ c ≤ 12 then (od hs C c.toNat : Int) else -1
def fA (a b : Nat) : Int := ((a / Nat.gcd a b : Nat) : Int)
def fB (a b : Nat) : Int := ((b / Nat.gcd a b : Nat) : Int)
/-- a part of a fraction, -4 where there is none -/
def aFr (a b : Nat) (p : Int) : Int := if b = 0 then -4 else if p = 0 then fA a b else fB a b
def aFelt (hs : HS) (a m p : Int) : Int := if (0 ≤ a ∧ a < (zA hs : Int)) ∧ (0 ≤ m ∧ m ≤ 3) ∧ 0 ≤ p ∧ p ≤ 1 then aFr (sumN (fun s => hs 0 s * 10 * fe hs s a.toNat m.toNat) (zS hs)) (sumN (fun s => hs 0 s * dO hs s a.toNat m.toNat) (zS hs)) p else -1
def aWords (hs : HS) (a : Int) : Int := if 0 ≤ a ∧ a < (zA hs : Int) then (sumZ (fun s => (hs 0 s : Int) * gn hs s a.toNat) (zS hs)).tdiv 100 + 1000 else -1
def aHarm (hs : HS) (a w : Int) : Int := if (0 ≤ a ∧ a < (zA hs : Int)) ∧ 0 ≤ w ∧ w ≤ 1 then (if w = 0 then gn hs (am (fun s => gn hs s a.toNat) (zS hs)) a.toNat + 100 else (am (fun s => gn hs s a.toNat) (zS hs) : Int)) else -1
def aPeople (hs : HS) (p : Int) : Int := if 0 ≤ p ∧ p ≤ 1 then aFr (btw hs (-4)) (blw hs (-4)) p else -1
def aTells (hs : HS) : Int := if zA hs < 2 then -4 else (teF hs (zA hs) : Int)
def eaS (hs : HS) (s a : Nat) : Nat := hs 12 0 * fe hs s a 0 / 20
def suG (hs : HS) : Nat := hs 12 0 * hs 13 0 / 10
def aRelief (hs : HS) (s a w : Int) : Int := if (0 ≤ s ∧ s < (zS hs : Int)) ∧ (0 ≤ a ∧ a < (zA hs : Int)) ∧ 0 ≤ w ∧ w ≤ 1 then (if w = 0 then (eaS hs s.toNat a.toNat : Int) else (suG hs : Int)) else -1
def wtF (hs : HS) (a q : Nat) : Nat → Nat
  | 0 => 0
  | n + 1 => if suG hs + q ≤ eaS hs n a then wtF hs a q n ||| 2 ^ n else wtF hs a q n
def aWorth (hs : HS) (a q : Int) : Int := if (0 ≤ a ∧ a < (zA hs : Int)) ∧ 0 ≤ q ∧ q ≤ 99 then (wtF hs a.toNat q.toNat (zS hs) : Int) else -1
def wiP (hs : HS) (C : CS) : Nat := hs 11 0 * prodN (wiT hs C) (C 3 0)
def woP (hs : HS) (C : CS) : Nat := (10 - hs 11 0) * prodN (woT hs C) (C 3 0)
def aMan (hs : HS) (C : CS) (p : Int) : Int := if 0 ≤ p ∧ p ≤ 1 then aFr (wiP hs C) (wiP hs C + woP hs C) p else -1
def thE (hs : HS) (C : CS) (z : Nat) : Nat → Nat := (NS hs C z (C 0 0)).1
def pyE (hs : HS) (C : CS) (z : Nat) : Nat → Nat := (NS hs C z (C 0 0)).2
def aNight (hs : HS) (C : CS) (z w : Int) : Int := if (0 ≤ z ∧ z ≤ 9999) ∧ 0 ≤ w ∧ w ≤ 2 then (if w = 0 then (sumN (thE hs C z.toNat) (zN hs) : Int) else if w = 1 then (sumN (pyE hs C z.toNat) (zN hs) : Int) else sxN hs C z.toNat (C 0 0)) else -1
def aOne (hs : HS) (C : CS) (z i : Int) : Int := if (0 ≤ z ∧ z ≤ 9999) ∧ 0 ≤ i then ntN (thE hs C z.toNat) i.toNat (zN hs) else -1
def nsF (hs : HS) (C : CS) (z : Nat) (c : Int) : Nat → Nat
  | 0 => 0
  | n + 1 => if (sumN (thE hs C ((z + n) % 10000)) (zN hs) : Int) = c then nsF hs C z c n + 1 else nsF hs C z c n
def aNights (hs : HS) (C : CS) (z c : Int) : Int := if (0 ≤ z ∧ z ≤ 9999) ∧ 0 ≤ c ∧ c ≤ 120 then (nsF hs C z.toNat c 10 : Int) else -1
def aBest (hs : HS) (n m c i : Int) : Int := if (1 ≤ n ∧ n ≤ 3) ∧ (0 ≤ m ∧ m ≤ 90) ∧ (0 ≤ c ∧ c ≤ 12) ∧ -1 ≤ i ∧ i ≤ n - 1 then (if (bsF hs n.toNat m.toNat c.toNat ((2 * zA hs) ^ n.toNat)).1 = -4 ∨ i = -1 then (bsF hs n.toNat m.toNat c.toNat ((2 * zA hs) ^ n.toNat)).1 else (dgB (2 * zA hs) n.toNat (bsF hs n.toNat m.toNat c.toNat ((2 * zA hs) ^ n.toNat)).2 i.toNat : Int)) else -1
def aCount (n : Nat) (hs : HS) (C : CS) (kn : Nat) (w : Int) : Int := if w = 0 then (zS hs : Int) else if w = 1 then (zA hs : Int) else if w = 2 then (zN hs : Int) else if w = 3 then (C 0 0 : Int) else if w = 4 then (n : Int) else if w = 5 then (C 3 0 : Int) else if w = 6 then (kn : Int) else -1
