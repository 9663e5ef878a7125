/-! how the system and the reference stand to each other -/
abbrev AH : Type := (Nat → Nat → Nat) × (Nat → Nat)
/-- UPSIDE: 0 none, i + 1 -/
def upv (k : Nat) : Int32 := if k = 0 then -4 else nI (k - 1)
/-- a Hall's cells hold a -/
def HV (g : GS) (a : AH) : Prop := (∀ j, j < a.2 5 → g.1 0 j = nI (a.1 0 j)) ∧ (∀ j, j < a.2 5 → g.1 1 j = nI (a.1 1 j)) ∧ (∀ j, j < 12 → g.1 2 j = nI (a.1 2 j)) ∧ (∀ j, j < a.2 12 → g.1 3 j = nI (a.1 3 j)) ∧ (∀ j, j < a.2 12 → g.1 4 j = nI (a.1 4 j)) ∧ g.2 5 = nI (a.2 5) ∧ g.2 6 = nI (a.2 6) ∧ g.2 7 = nI (a.2 7) ∧ g.2 8 = nI (a.2 8) ∧ g.2 9 = nI (a.2 9) ∧ g.2 10 = upv (a.2 10) ∧ g.2 11 = nI (a.2 11) ∧ g.2 12 = nI (a.2 12)
/-- a page of the reference, from place p on, holds a -/
def PV (f : Nat → Int32) (p : Nat) (a : AH) : Prop := (∀ j, j < a.2 5 → f (p + j) = nI (a.1 0 j)) ∧ (∀ j, j < a.2 5 → f (p + 6 + j) = nI (a.1 1 j)) ∧ (∀ j, j < 12 → f (p + 19 + j) = nI (a.1 2 j)) ∧ (∀ j, j < a.2 12 → f (p + 31 + j) = nI (a.1 3 j)) ∧ (∀ j, j < a.2 12 → f (p + 35 + j) = nI (a.1 4 j)) ∧ f (p + 12) = nI (a.2 5) ∧ f (p + 13) = nI (a.2 6) - 12 ∧ f (p + 14) = nI (a.2 7) ∧ f (p + 15) = nI (a.2 8) ∧ f (p + 16) = nI (a.2 9) - 2 ∧ f (p + 17) = nI (a.2 10) ∧ f (p + 18) = nI (a.2 11) ∧ f (p + 39) = nI (a.2 12)
/-- the bounds of the document -/
def HI (a : AH) : Prop := a.2 5 ≤ 6 ∧ 1 ≤ a.2 6 ∧ a.2 6 ≤ 12 ∧ a.2 7 ≤ 5 ∧ a.2 8 ≤ 11 ∧ a.2 9 ≤ 11 ∧ a.2 10 ≤ 12 ∧ a.2 11 ≤ 2000 ∧ a.2 12 ≤ 4 ∧ (∀ j, j < a.2 5 → a.1 0 j < 4 ∧ a.1 1 j ≤ 9) ∧ (∀ j, j < 12 → a.1 2 j ≤ 99) ∧ ∀ j, j < a.2 12 → 1 ≤ a.1 3 j ∧ a.1 3 j ≤ 9 ∧ 1 ≤ a.1 4 j ∧ a.1 4 j ≤ 9
/-- a Hall and a page hold the same, within bounds -/
def HP (g : GS) (f : Nat → Int32) (p : Nat) : Prop := ∃ a : AH, HV g a ∧ PV f p a ∧ HI a ∧ a.2 11 ≤ 999
def RelI (F : FS) (M : GS) (k : Nat) : Prop := ∃ v : Nat, v ≤ 1 ∧ F.2.1 k = nI v ∧ M.1 19 k = nI v ∧ (v = 1 → HP (F.1 (2 + k)) (M.1 0) (40 * (k + 1)))
def RelT (F : FS) (M : GS) : Prop := ∃ n : Nat, n ≤ 160 ∧ (F.1 4).2 2 = nI n ∧ M.2 4 = nI n ∧ ∀ j, j < n → ∃ c : Nat, c < 128 ∧ (F.1 4).1 1 j = nI c ∧ M.1 3 j = nI c
def RelS (F : FS) (M : GS) : Prop := ∃ n : Nat, n ≤ 6 ∧ (F.1 6).2 2 = nI n ∧ M.2 17 = nI n ∧ ∀ j, j < n → ∃ i v : Nat, i < 12 ∧ v < 100 ∧ (F.1 6).1 0 j = nI i ∧ (F.1 6).1 1 j = nI v ∧ M.1 16 (2 * j) = nI i ∧ M.1 16 (2 * j + 1) = nI v
def RelR (F : FS) (M : GS) (k : Nat) : Prop := (F.1 (8 + k)).2 1 = M.1 20 k ∧ (M.1 20 k = -4 ∨ ∃ t : Nat, t ≤ 2 ∧ M.1 20 k = nI t) ∧ ∃ n : Nat, n ≤ 40 ∧ (F.1 (8 + k)).2 2 = nI n ∧ M.1 21 k = nI n ∧ ∀ j, j < n → (F.1 (8 + k)).1 0 j = M.1 22 (40 * k + j)
def Rel (F : FS) (M : GS) : Prop := HP (F.1 0) (M.1 0) 0 ∧ (∀ k, k < 2 → RelI F M k) ∧ RelT F M ∧ (F.1 4).2 3 = M.2 5 ∧ RelS F M ∧ (∀ k, k < 4 → RelR F M k) ∧ F.2.1 2 = M.2 23 ∧ M.1 12 = lf CUTS 9 ∧ M.1 13 = lf LETS 43
abbrev wA (ca : Nat → ClassId) (x : Nat) (ad : Nat → Nat → Nat) (mm : Nat → Nat) (F : FS) (M : GS) : List va_W := [cF x (ad 0 0) (ad 1 0) (ad 2 0) (ad 7 0) (ad 9 0) (ad 10 0) (ad 11 0) (ad 12 0) (F.2.1 2), cH ca (ad 0) (F.1 0), cH ca (ad 1) (F.1 1), cAI ca (ad 2 0) (va_up (va_up (fun _ => none) 0 (some (ad 3 0))) 1 (some (ad 5 0))), cIm (ad 4 0) (ad 3 0) (F.2.1 0), cH ca (ad 4) (F.1 2), cIm (ad 6 0) (ad 5 0) (F.2.1 1), cH ca (ad 6) (F.1 3), cR ca (ad 8 0) (ad 7) (F.1 4), cH ca (ad 8) (F.1 5), cM ca (ad 9) (F.1 6), cP ca (ad 10) (F.1 7), cL ca (ad 11) F.2.2, cAR ca (ad 12 0) (va_up (va_up (va_up (va_up (fun _ => none) 0 (some (ad 13 0))) 1 (some (ad 14 0))) 2 (some (ad 15 0))) 3 (some (ad 16 0))), cW ca (ad 13) (F.1 8), cW ca (ad 14) (F.1 9), cW ca (ad 15) (F.1 10), cW ca (ad 16) (F.1 11), cO ca mm M]
